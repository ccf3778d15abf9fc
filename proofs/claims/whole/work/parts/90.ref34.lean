/-! The reference: addRoad road mend undo redo takesInDeed comes send image back act -/
theorem fit0 {v : Int32} : me_fits 0 v = true ↔ 0 ≤ v ∧ v ≤ 9 := by
  have e1 : me_lo 0 = 0 := by decide
  have e2 : me_hi 0 = 9 := by decide
  unfold me_fits
  rw [e1, e2, decide_eq_true_eq]
  exact ⟨fun h => h.2.2, fun h => ⟨by decide, by decide, h.1, h.2⟩⟩
theorem fit1 {v : Int32} : me_fits 1 v = true ↔ 0 ≤ v ∧ v ≤ 9 := by
  have e1 : me_lo 1 = 0 := by decide
  have e2 : me_hi 1 = 9 := by decide
  unfold me_fits
  rw [e1, e2, decide_eq_true_eq]
  exact ⟨fun h => h.2.2, fun h => ⟨by decide, by decide, h.1, h.2⟩⟩
theorem fit2 {v : Int32} : me_fits 2 v = true ↔ -99 ≤ v ∧ v ≤ 99 := by
  have e1 : me_lo 2 = -99 := by decide
  have e2 : me_hi 2 = 99 := by decide
  unfold me_fits
  rw [e1, e2, decide_eq_true_eq]
  exact ⟨fun h => h.2.2, fun h => ⟨by decide, by decide, h.1, h.2⟩⟩
theorem put_at (f : Nat → Int32) (n : Nat) (x y z : Int32) (j : Nat) : cr_put f n x y z j = if j = 18 + n then 0 else if j = 12 + n then z else if j = 6 + n then y else if j = n then x else f j := by
  unfold cr_put
  rw [up_at, up_at, up_at, up_at]
theorem mxD.put {w : gx_W} {f : Nat → Int32} {n : Nat} (h : mxD w f n) (hn : n < 6) (x y z : Int32) : mxD (s_i (s_a (s_a (s_a (s_a w 58 (va_up (w_a w 58) n x)) 59 (va_up (w_a w 59) n y)) 60 (va_up (w_a w 60) n z)) 61 (va_up (w_a w 61) n 0)) 57 1 (nI (n + 1))) (cr_put f n x y z) (n + 1) := by
  obtain ⟨⟨h1, h2, h3, h4, h5, h6⟩, h7⟩ := h
  refine ⟨⟨by rw [wi_si, if_pos ⟨rfl, rfl⟩], by omega, fun j hj => ?_, fun j hj => ?_, fun j hj => ?_, fun j hj => ?_⟩, fun j hj => ?_⟩
  · show va_up (w_a w 58) n x j = _
    rw [put_at, if_neg (by omega), if_neg (by omega), if_neg (by omega), up_at]
    by_cases e : j = n
    · rw [if_pos e, if_pos e]
    · rw [if_neg e, if_neg e]; exact h3 j (by omega)
  · show va_up (w_a w 59) n y j = _
    rw [put_at, if_neg (by omega), if_neg (by omega), up_at]
    by_cases e : j = n
    · rw [if_pos e, if_pos (by omega)]
    · rw [if_neg e, if_neg (by omega), if_neg (by omega)]; exact h4 j (by omega)
  · show va_up (w_a w 60) n z j = _
    rw [put_at, if_neg (by omega), up_at]
    by_cases e : j = n
    · rw [if_pos e, if_pos (by omega)]
    · rw [if_neg e, if_neg (by omega), if_neg (by omega), if_neg (by omega)]; exact h5 j (by omega)
  · show w_a w 62 j = _
    rw [put_at, if_neg (by omega), if_neg (by omega), if_neg (by omega), if_neg (by omega)]; exact h6 j hj
  · show va_up (w_a w 61) n 0 j = _
    rw [put_at, up_at]
    by_cases e : j = n
    · rw [if_pos e, if_pos (by omega)]
    · rw [if_neg e, if_neg (by omega), if_neg (by omega), if_neg (by omega), if_neg (by omega)]; exact h7 j (by omega)
theorem c_X10_addRoad {d : Nat} {w : gx_W} {f : Nat → Int32} {n : Nat} {x y z : Int32} {k : Int32 → gx_W → Prop} (hd : 0 ≤ d) (h : moO w) (hx : mxD w f n) (hn : n < 6) (kk : ∀ w', same [58, 59, 60, 61] [(57, 1)] w w' → mxD w' (cr_put f n x y z) (n + 1) → k (nI n) w') : gx_C 0 0 d mX10_addRoad [.ref 57, .int x, .int y, .int z] w (Qi k) := by
  refine gx_C_of' (L := [.ref 57, .int x, .int y, .int z]) (by decide +kernel) rfl (Nat.le_of_ble_eq_true rfl) ?_
  refine g_aload_n dX10_addRoad_0 rfl ?_
  refine g_getr dX10_addRoad_1 fl_X10_9 h.1 (moR_58 h) ?_
  refine g_aload_n dX10_addRoad_4 rfl ?_
  refine g_geti dX10_addRoad_5 fl_X10_121 h.1 ?_
  rw [hx.1.1]
  refine g_iload_n dX10_addRoad_8 rfl ?_
  refine g_iast dX10_addRoad_9 (moA_58 h) (vp_in_nI (by omega) (by decide)) ?_
  rw [nI_n (show n < 2 ^ 31 by omega)]
  refine g_aload_n dX10_addRoad_10 rfl ?_
  refine g_getr dX10_addRoad_11 fl_X10_15 h.1 (moR_59 h) ?_
  refine g_aload_n dX10_addRoad_14 rfl ?_
  refine g_geti dX10_addRoad_15 fl_X10_121 h.1 ?_
  rw [wi_sa, hx.1.1]
  refine g_iload_n dX10_addRoad_18 rfl ?_
  refine g_iast dX10_addRoad_19 (moA_59 h) (vp_in_nI (by omega) (by decide)) ?_
  rw [nI_n (show n < 2 ^ 31 by omega)]
  refine g_aload_n dX10_addRoad_20 rfl ?_
  refine g_getr dX10_addRoad_21 fl_X10_18 h.1 (moR_60 h) ?_
  refine g_aload_n dX10_addRoad_24 rfl ?_
  refine g_geti dX10_addRoad_25 fl_X10_121 h.1 ?_
  rw [wi_sa, wi_sa, hx.1.1]
  refine g_iload_n dX10_addRoad_28 rfl ?_
  refine g_iast dX10_addRoad_29 (moA_60 h) (vp_in_nI (by omega) (by decide)) ?_
  rw [nI_n (show n < 2 ^ 31 by omega)]
  refine g_aload_n dX10_addRoad_30 rfl ?_
  refine g_getr dX10_addRoad_31 fl_X10_21 h.1 (moR_61 h) ?_
  refine g_aload_n dX10_addRoad_34 rfl ?_
  refine g_geti dX10_addRoad_35 fl_X10_121 h.1 ?_
  rw [wi_sa, wi_sa, wi_sa, hx.1.1]
  refine g_iconst (v := 0) dX10_addRoad_38 rfl ?_
  refine g_iast dX10_addRoad_39 (moA_61 h) (vp_in_nI (by omega) (by decide)) ?_
  rw [nI_n (show n < 2 ^ 31 by omega)]
  refine g_aload_n dX10_addRoad_40 rfl ?_
  refine g_dup dX10_addRoad_41 rfl ?_
  refine g_geti dX10_addRoad_42 fl_X10_121 h.1 ?_
  rw [wi_sa, wi_sa, wi_sa, wi_sa, hx.1.1]
  refine g_iconst (v := 1) dX10_addRoad_45 rfl ?_
  refine g_iadd dX10_addRoad_46 ?_
  rw [nI_1]
  refine g_puti dX10_addRoad_47 fl_X10_121 ft_10_1 h.1 ?_
  refine g_aload_n dX10_addRoad_50 rfl ?_
  refine g_geti dX10_addRoad_51 fl_X10_121 h.1 ?_
  rw [wi_si, if_pos ⟨rfl, rfl⟩]
  refine g_iconst (v := 1) dX10_addRoad_54 rfl ?_
  refine g_isub dX10_addRoad_55 ?_
  rw [nI_pred]
  refine g_iret dX10_addRoad_56 rfl ⟨_, rfl, ?_⟩
  exact kk _ (((((same.rf.sa (by simp)).sa (by simp)).sa (by simp)).sa (by simp)).si (by simp)) (hx.put hn x y z)
theorem c_X10_road {d : Nat} {w : gx_W} {f : Nat → Int32} {n : Nat} {x y : Int32} {k : Int32 → gx_W → Prop} (hd : 1 ≤ d) (h : moO w) (hx : mxD w f n) (k1 : ¬ (me_fits 0 x = true ∧ me_fits 2 y = true) → k (-1) w) (k2 : me_fits 0 x = true → me_fits 2 y = true → n = 6 → k (-3) w) (k3 : me_fits 0 x = true → me_fits 2 y = true → n < 6 → ∀ w', same [58, 59, 60, 61] [(57, 1)] w w' → mxD w' (cr_put f n x 1 y) (n + 1) → k (nI n) w') : gx_C 0 0 d mX10_road [.ref 57, .int x, .int y] w (Qi k) := by
  refine gx_C_of' (L := [.ref 57, .int x, .int y]) (by decide +kernel) rfl (Nat.le_of_ble_eq_true rfl) ?_
  refine g_iload_n dX10_road_0 rfl ?_
  refine g_iconst (v := 0) dX10_road_1 rfl ?_
  refine g_bipush (v := 9) dX10_road_2 rfl ?_
  refine g_cS3i dX10_road_4 ml_X10_124 mi_X10_in ms_X10_in (Nat.le_of_ble_eq_true rfl) rfl (by omega) ?_
  refine c_X10_in (by omega) (fun a1 a2 => ?_) (fun na => ?_)
  · refine g_if_eq (tgt := 21) dX10_road_7 (by decide) (fun q => absurd q (by decide)) (fun _ => ?_)
    refine g_iload_n dX10_road_10 rfl ?_
    refine g_bipush (v := -99) dX10_road_11 rfl ?_
    refine g_bipush (v := 99) dX10_road_13 rfl ?_
    refine g_cS3i dX10_road_15 ml_X10_124 mi_X10_in ms_X10_in (Nat.le_of_ble_eq_true rfl) rfl (by omega) ?_
    refine c_X10_in (by omega) (fun b1 b2 => ?_) (fun nb => ?_)
    · refine g_if_ne (tgt := 23) dX10_road_18 (by decide) (fun _ => ?_) (fun q => absurd q (by decide))
      refine g_aload_n dX10_road_23 rfl ?_
      refine g_geti dX10_road_24 fl_X10_121 h.1 ?_
      have hn6 := hx.1.2.1
      rw [hx.1.1]
      refine g_bipush (v := 6) dX10_road_27 rfl ?_
      refine g_icmp_ne (tgt := 37) dX10_road_29 (by decide) (fun zc29 => ?_) (fun zc29 => ?_)
      · have hn5 : n < 6 := by rcases Nat.lt_or_ge n 6 with q | q; exact q; exact absurd (show nI n = 6 by rw [show n = 6 by omega]; rfl) zc29
        refine g_aload_n dX10_road_37 rfl ?_
        refine g_iload_n dX10_road_38 rfl ?_
        refine g_iconst (v := 1) dX10_road_39 rfl ?_
        refine g_iload_n dX10_road_40 rfl ?_
        refine g_cV3i dX10_road_41 ml_X10_132 mi_X10_addRoad mv_X10_addRoad h.1 ⟨_, rfl, rfl⟩ (Nat.le_of_ble_eq_true rfl) rfl (by omega) ?_
        refine c_X10_addRoad (by omega) h hx hn5 (fun w1 hs1 hx1 => ?_)
        refine g_iret dX10_road_44 rfl ⟨_, rfl, ?_⟩
        exact k3 (fit0.mpr ⟨a1, a2⟩) (fit2.mpr ⟨b1, b2⟩) hn5 w1 hs1 hx1
      · refine g_bipush (v := -3) dX10_road_32 rfl ?_
        refine g_goto (tgt := 44) dX10_road_34 (by decide) ?_
        refine g_iret dX10_road_44 rfl ⟨_, rfl, ?_⟩
        exact k2 (fit0.mpr ⟨a1, a2⟩) (fit2.mpr ⟨b1, b2⟩) (pI_inj (a := n) (b := 6) (by omega) (by decide) zc29)
    · refine g_if_ne (tgt := 23) dX10_road_18 (by decide) (fun q => absurd q (by decide)) (fun _ => ?_)
      refine g_iconst (v := -1) dX10_road_21 rfl ?_
      refine g_iret dX10_road_22 rfl ⟨_, rfl, ?_⟩
      exact k1 (fun q => nb (fit2.mp q.2))
  · refine g_if_eq (tgt := 21) dX10_road_7 (by decide) (fun _ => ?_) (fun q => absurd q (by decide))
    refine g_iconst (v := -1) dX10_road_21 rfl ?_
    refine g_iret dX10_road_22 rfl ⟨_, rfl, ?_⟩
    exact k1 (fun q => na (fit0.mp q.1))
theorem chOK_q {n p : Nat} {x y : Int32} (h : chOK n x y p) : ∃ q, y = nI q ∧ q < 8 := by
  rcases h with ⟨q, m, h1, h2, h3, h4, h5⟩ | ⟨q, h1, h2, h3, h4, h5⟩
  · exact ⟨q, h1, by omega⟩
  · exact ⟨q, h1, h4⟩
theorem c_X10_mend {d : Nat} {w : gx_W} {f : Nat → Int32} {n : Nat} {D : Nat} {x y v : Int32} {k : Int32 → gx_W → Prop} (hd : 3 ≤ d) (h : moO w) (hx : mxD w f n) (hD : w_i w 57 7 = nI D) (hD4 : D ≤ 40) (k1 : (∀ p, ¬ chOK n x y p) → k (-2000000000) w) (k2 : ∀ p, chOK n x y p → me_fits y v = false → k (-2000000000) w) (k3 : ∀ p, chOK n x y p → me_fits y v = true → f p = v → k (f p) w) (k4 : ∀ p, chOK n x y p → me_fits y v = true → ¬ f p = v → ∀ w', cgM w w' D y x (f p) v → mxD w' (va_up f p v) n → k (f p) w') : gx_C 0 0 d mX10_mend [.ref 57, .int x, .int y, .int v] w (Qi k) := by
  refine gx_C_of' (L := [.ref 57, .int x, .int y, .int v]) (by decide +kernel) rfl (Nat.le_of_ble_eq_true rfl) ?_
  refine g_aload_n dX10_mend_0 rfl ?_
  refine g_iload_n dX10_mend_1 rfl ?_
  refine g_iload_n dX10_mend_2 rfl ?_
  refine g_cV2i dX10_mend_3 ml_X10_155 mi_X10_isOne mv_X10_isOne h.1 ⟨_, rfl, rfl⟩ (Nat.le_of_ble_eq_true rfl) rfl (by omega) ?_
  refine c_X10_isOne (by omega) h hx.1.1 hx.1.2.1 (fun p hp => ?_) (fun np => ?_)
  · refine g_if_eq (tgt := 27) dX10_mend_6 (by decide) (fun q => absurd q (by decide)) (fun _ => ?_)
    obtain ⟨q, ey, hq⟩ := chOK_q hp
    refine g_iload_n dX10_mend_9 rfl ?_
    refine g_iload_n dX10_mend_10 rfl ?_
    refine g_cS2i dX10_mend_11 ml_X10_159 mi_X10_mayHave ms_X10_mayHave (Nat.le_of_ble_eq_true rfl) rfl (by omega) ?_
    refine c_X10_mayHave (by omega) ey hq (fun hf => ?_) (fun hf => ?_)
    · refine g_if_eq (tgt := 27) dX10_mend_14 (by decide) (fun q => absurd q (by decide)) (fun _ => ?_)
      refine g_aload_n dX10_mend_17 rfl ?_
      refine g_iload_n dX10_mend_18 rfl ?_
      refine g_iload_n dX10_mend_19 rfl ?_
      refine g_iload_n dX10_mend_20 rfl ?_
      refine g_cV3i dX10_mend_21 ml_X10_162 mi_X10_changes mv_X10_changes h.1 ⟨_, rfl, rfl⟩ (Nat.le_of_ble_eq_true rfl) rfl (by omega) ?_
      refine c_X10_changes (by omega) h hx hp hD hD4 (fun ee => ?_) (fun ee w1 hg hx1 => ?_)
      · refine g_goto (tgt := 29) dX10_mend_24 (by decide) ?_
        refine g_iret dX10_mend_29 rfl ⟨_, rfl, ?_⟩
        exact k3 p hp hf ee
      · refine g_goto (tgt := 29) dX10_mend_24 (by decide) ?_
        refine g_iret dX10_mend_29 rfl ⟨_, rfl, ?_⟩
        exact k4 p hp hf ee w1 hg hx1
    · refine g_if_eq (tgt := 27) dX10_mend_14 (by decide) (fun _ => ?_) (fun q => absurd q (by decide))
      refine g_ldc dX10_mend_27 ct_X10_165 ?_
      refine g_iret dX10_mend_29 rfl ⟨_, rfl, ?_⟩
      exact k2 p hp hf
  · refine g_if_eq (tgt := 27) dX10_mend_6 (by decide) (fun _ => ?_) (fun q => absurd q (by decide))
    refine g_ldc dX10_mend_27 ct_X10_165 ?_
    refine g_iret dX10_mend_29 rfl ⟨_, rfl, ?_⟩
    exact k1 np
theorem c_X10_undo {d : Nat} {w : gx_W} {f : Nat → Int32} {n : Nat} {D U : Nat} {k : Int32 → gx_W → Prop} (hd : 1 ≤ d) (h : moO w) (hx : mxD w f n) (hD : w_i w 57 7 = nI D) (hD4 : D ≤ 40) (hU : w_i w 57 8 = nI U) (hp : ∀ E, D = E + 1 → ∃ p, chOK n (w_a w 64 E) (w_a w 63 E) p) (k0 : D = 0 → k (-5) w) (kk : ∀ E p, D = E + 1 → chOK n (w_a w 64 E) (w_a w 63 E) p → ∀ w', same [58, 59, 60, 61, 62] [(57, 7), (57, 8)] w w' → w_i w' 57 7 = nI E → w_i w' 57 8 = nI (U + 1) → mxD w' (va_up f p (w_a w 65 E)) n → k (nI E) w') : gx_C 0 0 d mX10_undo [.ref 57] w (Qi k) := by
  refine gx_C_of' (L := [.ref 57]) (by decide +kernel) rfl (Nat.le_of_ble_eq_true rfl) ?_
  refine g_aload_n dX10_undo_0 rfl ?_
  refine g_geti dX10_undo_1 fl_X10_148 h.1 ?_
  rw [hD]
  refine g_if_ne (tgt := 10) dX10_undo_4 (by decide) (fun zc4 => ?_) (fun zc4 => ?_)
  · obtain ⟨E, eE⟩ : ∃ E, D = E + 1 := ⟨D - 1, by
      have : D ≠ 0 := fun e => zc4 (by rw [e]; rfl)
      omega⟩
    obtain ⟨p, hpp⟩ := hp E eE
    subst eE
    refine g_aload_n dX10_undo_10 rfl ?_
    refine g_dup dX10_undo_11 rfl ?_
    refine g_geti dX10_undo_12 fl_X10_148 h.1 ?_
    rw [hD]
    refine g_iconst (v := 1) dX10_undo_15 rfl ?_
    refine g_isub dX10_undo_16 ?_
    rw [nI_pred]
    refine g_puti dX10_undo_17 fl_X10_148 ft_10_7 h.1 ?_
    refine g_aload_n dX10_undo_20 rfl ?_
    refine g_dup dX10_undo_21 rfl ?_
    refine g_geti dX10_undo_22 fl_X10_145 h.1 ?_
    rw [wi_si, if_neg (by decide), hU]
    refine g_iconst (v := 1) dX10_undo_25 rfl ?_
    refine g_iadd dX10_undo_26 ?_
    rw [nI_1]
    refine g_puti dX10_undo_27 fl_X10_145 ft_10_8 h.1 ?_
    refine g_aload_n dX10_undo_30 rfl ?_
    refine g_aload_n dX10_undo_31 rfl ?_
    refine g_getr dX10_undo_32 fl_X10_27 h.1 (moR_63 h) ?_
    refine g_aload_n dX10_undo_35 rfl ?_
    refine g_geti dX10_undo_36 fl_X10_148 h.1 ?_
    rw [wi_si, if_neg (by decide), wi_si, if_pos ⟨rfl, rfl⟩]
    refine g_iald dX10_undo_39 (moA_63 h) (vp_in_nI (by omega) (by decide)) ?_
    rw [nI_n (show E < 2 ^ 31 by omega)]
    refine g_aload_n dX10_undo_40 rfl ?_
    refine g_getr dX10_undo_41 fl_X10_30 h.1 (moR_64 h) ?_
    refine g_aload_n dX10_undo_44 rfl ?_
    refine g_geti dX10_undo_45 fl_X10_148 h.1 ?_
    rw [wi_si, if_neg (by decide), wi_si, if_pos ⟨rfl, rfl⟩]
    refine g_iald dX10_undo_48 (moA_64 h) (vp_in_nI (by omega) (by decide)) ?_
    rw [nI_n (show E < 2 ^ 31 by omega)]
    refine g_aload_n dX10_undo_49 rfl ?_
    refine g_getr dX10_undo_50 fl_X10_33 h.1 (moR_65 h) ?_
    refine g_aload_n dX10_undo_53 rfl ?_
    refine g_geti dX10_undo_54 fl_X10_148 h.1 ?_
    rw [wi_si, if_neg (by decide), wi_si, if_pos ⟨rfl, rfl⟩]
    refine g_iald dX10_undo_57 (moA_65 h) (vp_in_nI (by omega) (by decide)) ?_
    rw [nI_n (show E < 2 ^ 31 by omega)]
    have sA : same [58, 59, 60, 61, 62] [(57, 7), (57, 8)] w (s_i (s_i w 57 7 (nI E)) 57 8 (nI (U + 1))) := (same.rf.si (by simp)).si (by simp)
    have hxA : mxD (s_i (s_i w 57 7 (nI E)) 57 8 (nI (U + 1))) f n := hx
    refine g_cV3v dX10_undo_58 ml_X10_151 mi_X10_lays mv_X10_lays h.1 ⟨_, rfl, rfl⟩ (Nat.le_of_ble_eq_true rfl) rfl (by omega) ?_
    refine c_X10_lays (by omega) (h.same sA) hxA hpp (fun w1 hs2 hx1 => ?_)
    have hs1 : same [58, 59, 60, 61, 62] [(57, 7), (57, 8)] w w1 := sA.tr (hs2.wk (fun _ q => q) (by simp))
    refine g_aload_n dX10_undo_61 rfl ?_
    refine g_geti dX10_undo_62 fl_X10_148 (h.same hs1).1 ?_
    rw [hs2.2.1 57 7 (by simp), wi_si, if_neg (by decide), wi_si, if_pos ⟨rfl, rfl⟩]
    refine g_iret dX10_undo_65 rfl ⟨_, rfl, ?_⟩
    exact kk E p rfl hpp w1 hs1 (by rw [hs2.2.1 57 7 (by simp), wi_si, if_neg (by decide), wi_si, if_pos ⟨rfl, rfl⟩]) (by rw [hs2.2.1 57 8 (by simp), wi_si, if_pos ⟨rfl, rfl⟩]) hx1
  · refine g_bipush (v := -5) dX10_undo_7 rfl ?_
    refine g_iret dX10_undo_9 rfl ⟨_, rfl, ?_⟩
    exact k0 (pI_inj (b := 0) (by omega) (by decide) zc4)
theorem c_X10_redo {d : Nat} {w : gx_W} {f : Nat → Int32} {n : Nat} {D U : Nat} {k : Int32 → gx_W → Prop} (hd : 1 ≤ d) (h : moO w) (hx : mxD w f n) (hD : w_i w 57 7 = nI D) (hU : w_i w 57 8 = nI U) (hDU : D + U ≤ 40) (hp : 0 < U → ∃ p, chOK n (w_a w 64 D) (w_a w 63 D) p) (k0 : U = 0 → k (-5) w) (kk : ∀ V p, U = V + 1 → chOK n (w_a w 64 D) (w_a w 63 D) p → ∀ w', same [58, 59, 60, 61, 62] [(57, 7), (57, 8)] w w' → w_i w' 57 7 = nI (D + 1) → w_i w' 57 8 = nI V → mxD w' (va_up f p (w_a w 66 D)) n → k (nI V) w') : gx_C 0 0 d mX10_redo [.ref 57] w (Qi k) := by
  refine gx_C_of' (L := [.ref 57]) (by decide +kernel) rfl (Nat.le_of_ble_eq_true rfl) ?_
  refine g_aload_n dX10_redo_0 rfl ?_
  refine g_geti dX10_redo_1 fl_X10_145 h.1 ?_
  rw [hU]
  refine g_if_ne (tgt := 10) dX10_redo_4 (by decide) (fun zc4 => ?_) (fun zc4 => ?_)
  · obtain ⟨V, eV⟩ : ∃ V, U = V + 1 := ⟨U - 1, by
      have : U ≠ 0 := fun e => zc4 (by rw [e]; rfl)
      omega⟩
    obtain ⟨p, hpp⟩ := hp (by omega)
    subst eV
    refine g_aload_n dX10_redo_10 rfl ?_
    refine g_aload_n dX10_redo_11 rfl ?_
    refine g_getr dX10_redo_12 fl_X10_27 h.1 (moR_63 h) ?_
    refine g_aload_n dX10_redo_15 rfl ?_
    refine g_geti dX10_redo_16 fl_X10_148 h.1 ?_
    rw [hD]
    refine g_iald dX10_redo_19 (moA_63 h) (vp_in_nI (by omega) (by decide)) ?_
    rw [nI_n (show D < 2 ^ 31 by omega)]
    refine g_aload_n dX10_redo_20 rfl ?_
    refine g_getr dX10_redo_21 fl_X10_30 h.1 (moR_64 h) ?_
    refine g_aload_n dX10_redo_24 rfl ?_
    refine g_geti dX10_redo_25 fl_X10_148 h.1 ?_
    rw [hD]
    refine g_iald dX10_redo_28 (moA_64 h) (vp_in_nI (by omega) (by decide)) ?_
    rw [nI_n (show D < 2 ^ 31 by omega)]
    refine g_aload_n dX10_redo_29 rfl ?_
    refine g_getr dX10_redo_30 fl_X10_36 h.1 (moR_66 h) ?_
    refine g_aload_n dX10_redo_33 rfl ?_
    refine g_geti dX10_redo_34 fl_X10_148 h.1 ?_
    rw [hD]
    refine g_iald dX10_redo_37 (moA_66 h) (vp_in_nI (by omega) (by decide)) ?_
    rw [nI_n (show D < 2 ^ 31 by omega)]
    refine g_cV3v dX10_redo_38 ml_X10_151 mi_X10_lays mv_X10_lays h.1 ⟨_, rfl, rfl⟩ (Nat.le_of_ble_eq_true rfl) rfl (by omega) ?_
    refine c_X10_lays (by omega) h hx hpp (fun w1 hs2 hx1 => ?_)
    refine g_aload_n dX10_redo_41 rfl ?_
    refine g_dup dX10_redo_42 rfl ?_
    refine g_geti dX10_redo_43 fl_X10_148 (h.same hs2).1 ?_
    rw [hs2.2.1 57 7 (by simp), hD]
    refine g_iconst (v := 1) dX10_redo_46 rfl ?_
    refine g_iadd dX10_redo_47 ?_
    rw [nI_1]
    refine g_puti dX10_redo_48 fl_X10_148 ft_10_7 (h.same hs2).1 ?_
    refine g_aload_n dX10_redo_51 rfl ?_
    refine g_dup dX10_redo_52 rfl ?_
    refine g_geti dX10_redo_53 fl_X10_145 (h.same hs2).1 ?_
    rw [wi_si, if_neg (by decide), hs2.2.1 57 8 (by simp), hU]
    refine g_iconst (v := 1) dX10_redo_56 rfl ?_
    refine g_isub dX10_redo_57 ?_
    rw [nI_pred]
    refine g_puti dX10_redo_58 fl_X10_145 ft_10_8 (h.same hs2).1 ?_
    refine g_aload_n dX10_redo_61 rfl ?_
    refine g_geti dX10_redo_62 fl_X10_145 (h.same hs2).1 ?_
    rw [wi_si, if_pos ⟨rfl, rfl⟩]
    refine g_iret dX10_redo_65 rfl ⟨_, rfl, ?_⟩
    exact kk V p rfl hpp _ (((hs2.wk (fun _ q => q) (by simp)).si (by simp)).si (by simp)) (by rw [wi_si, if_neg (by decide), wi_si, if_pos ⟨rfl, rfl⟩]) (by rw [wi_si, if_pos ⟨rfl, rfl⟩]) hx1
  · refine g_bipush (v := -5) dX10_redo_7 rfl ?_
    refine g_iret dX10_redo_9 rfl ⟨_, rfl, ?_⟩
    exact k0 (pI_inj (b := 0) (by omega) (by decide) zc4)
def wvF (a b : Nat → Int32) (i : Nat) : Nat → Int32 := fun j => if j < i then b j else a j
theorem wvF_0 (a b : Nat → Int32) : wvF a b 0 = a := by
  funext j
  exact if_neg (Nat.not_lt_zero _)
theorem wvF_s (a b : Nat → Int32) (i : Nat) : va_up (wvF a b i) i (b i) = wvF a b (i + 1) := by
  funext j
  rw [up_at]
  unfold wvF
  by_cases e : j = i
  · rw [if_pos e, if_pos (by omega), e]
  · rw [if_neg e]
    by_cases q : j < i
    · rw [if_pos q, if_pos (by omega)]
    · rw [if_neg q, if_neg (by omega)]
theorem l_X10_deed {d n t : Nat} {w : gx_W} {x : Int32} {k : gx_W → Prop} (h : moO w) (hn : w_i w 57 1 = nI n) (hn6 : n ≤ 6) (kk : gx_G 0 0 d mX10_takesInDeed (Qv k) 37 [.ref 57, .int x, .int (nI n)] [] (s_a w 61 (wvF (w_a w 61) (w_a w 75) n))) : ∀ z i : Nat, i + z = n → gx_G 0 0 d mX10_takesInDeed (Qv k) 11 [.ref 57, .int x, .int (nI i)] [] (s_a w 61 (wvF (w_a w 61) (w_a w 75) i)) := by
  intro z
  induction z with
  | zero =>
    intro i hi
    have e : i = n := by omega
    subst e
    refine g_iload_n dX10_takesInDeed_11 rfl ?_
    refine g_aload_n dX10_takesInDeed_12 rfl ?_
    refine g_geti dX10_takesInDeed_13 fl_X10_121 h.1 ?_
    rw [show w_i (s_a w 61 (wvF (w_a w 61) (w_a w 75) i)) 57 1 = nI i from hn]
    refine g_icmp_ge (tgt := 37) dX10_takesInDeed_16 (by decide) (fun zc16 => ?_) (fun zc16 => ?_)
    · exact kk
    · exact absurd (Int32.le_refl _) zc16
  | succ z ih =>
    intro i hi
    have ihs := ih (i + 1) (by omega)
    refine g_iload_n dX10_takesInDeed_11 rfl ?_
    refine g_aload_n dX10_takesInDeed_12 rfl ?_
    refine g_geti dX10_takesInDeed_13 fl_X10_121 h.1 ?_
    rw [show w_i (s_a w 61 (wvF (w_a w 61) (w_a w 75) i)) 57 1 = nI n from hn]
    refine g_icmp_ge (tgt := 37) dX10_takesInDeed_16 (by decide) (fun zc16 => ?_) (fun zc16 => ?_)
    · exact absurd zc16 (nI_ge (by omega) (by omega))
    · refine g_aload_n dX10_takesInDeed_19 rfl ?_
      refine g_getr dX10_takesInDeed_20 fl_X10_21 h.1 (moR_61 h) ?_
      refine g_iload_n dX10_takesInDeed_23 rfl ?_
      refine g_aload_n dX10_takesInDeed_24 rfl ?_
      refine g_getr dX10_takesInDeed_25 fl_X10_65 h.1 (moR_75 h) ?_
      refine g_iload_n dX10_takesInDeed_28 rfl ?_
      refine g_iald dX10_takesInDeed_29 (moA_75 h) (vp_in_nI (by omega) (by decide)) ?_
      rw [nI_n (show i < 2 ^ 31 by omega)]
      refine g_iast dX10_takesInDeed_30 (moA_61 h) (vp_in_nI (by omega) (by decide)) ?_
      rw [nI_n (show i < 2 ^ 31 by omega), wa_sat, show w_a (s_a w 61 (wvF (w_a w 61) (w_a w 75) i)) 75 = w_a w 75 from rfl, wvF_s, s_a_a]
      refine g_iinc dX10_takesInDeed_31 rfl rfl ?_
      refine g_goto (tgt := 11) dX10_takesInDeed_34 (by decide) ?_
      rw [nI_1']
      exact ihs
theorem c_X10_takesInDeed {d : Nat} {w : gx_W} {f : Nat → Int32} {n N : Nat} {sg va : Nat → Int32} {t : Nat} {k : gx_W → Prop} (hd : 1 ≤ d) (h : moO w) (hx : mxD w f n) (hl : lwM w N sg va) (hb : bnd f n) (ht : t < n) (kk : ∀ w', same [61, 75, 82] [(57, 37)] w w' → mxD w' (cr_set f n t) n → w_a w' 82 = (va_up (w_a w 82) 3 (w_a w 82 3 + f (12 + t))) → w_i w' 57 37 = nI t → k w') : gx_C 0 0 d mX10_takesInDeed [.ref 57, .int (nI t)] w (Qv k) := by
  refine gx_C_of' (L := [.ref 57, .int (nI t), .retAddr 0]) (by decide +kernel) rfl (Nat.le_of_ble_eq_true rfl) ?_
  refine g_aload_n dX10_takesInDeed_0 rfl ?_
  refine g_cV0v dX10_takesInDeed_1 ml_X10_259 mi_X10_layNow mv_X10_layNow h.1 ⟨_, rfl, rfl⟩ (Nat.le_of_ble_eq_true rfl) rfl (by omega) ?_
  refine c_X10_layNow (by omega) h hx hl hb (fun w1 hs1 h1 => ?_)
  refine g_aload_n dX10_takesInDeed_4 rfl ?_
  refine g_iload_n dX10_takesInDeed_5 rfl ?_
  refine g_cV1v dX10_takesInDeed_6 ml_X10_252 mi_X10_takesNow mv_X10_takesNow h1.1.1 ⟨_, rfl, rfl⟩ (Nat.le_of_ble_eq_true rfl) rfl (by omega) ?_
  refine c_X10_takesNow (by omega) h1 ht (fun w2 hs2 h2 => ?_)
  refine g_iconst (v := 0) dX10_takesInDeed_9 rfl ?_
  refine g_istore_n dX10_takesInDeed_10 (Nat.le_of_ble_eq_true rfl) rfl ?_
  have hn6 := hx.1.2.1
  have K := l_X10_deed (d := d) (t := t) (w := w2) (x := nI t) (k := k) h2.1 h2.2.1.1.1 hn6 ?_ n 0 (Nat.zero_add _)
  · rw [wvF_0, s_a_self] at K
    exact K
  have hs12 : same [61, 75, 82] [(57, 37)] w w2 := (hs1.wk (by simp) (by simp)).tr (hs2.wk (by simp) (by simp))
  have hs3 : same [61, 75, 82] [(57, 37)] w (s_a w2 61 (wvF (w_a w2 61) (w_a w2 75) n)) := hs12.sa (by simp)
  have e82 : w_a (s_a w2 61 (wvF (w_a w2 61) (w_a w2 75) n)) 82 = w_a w 82 := by
    rw [wa_sa, if_neg (by decide), (hs2.2.2.2.1 82 (by simp)).1, (hs1.2.2.2.1 82 (by simp)).1]
  have e60 : w_a w 60 t = f (12 + t) := hx.1.2.2.2.2.1 t ht
  refine g_aload_n dX10_takesInDeed_37 rfl ?_
  refine g_getr dX10_takesInDeed_38 fl_X10_86 h2.1.1 (moR_82 h2.1) ?_
  refine g_iconst (v := 3) dX10_takesInDeed_41 rfl ?_
  refine g_dup2 dX10_takesInDeed_42 rfl rfl ?_
  refine g_iald dX10_takesInDeed_43 (moA_82 h2.1) (vp_in_nI (n := 3) (by decide) (by decide)) ?_
  rw [e82]
  refine g_aload_n dX10_takesInDeed_44 rfl ?_
  refine g_getr dX10_takesInDeed_45 fl_X10_18 h2.1.1 (moR_60 h2.1) ?_
  refine g_iload_n dX10_takesInDeed_48 rfl ?_
  refine g_iald dX10_takesInDeed_49 (moA_60 h2.1) (vp_in_nI (by omega) (by decide)) ?_
  rw [nI_n (show t < 2 ^ 31 by omega), show w_a (s_a w2 61 (wvF (w_a w2 61) (w_a w2 75) n)) 60 t = f (12 + t) from by
    rw [wa_sa, if_neg (by decide), (hs2.2.2.2.1 60 (by simp)).1, (hs1.2.2.2.1 60 (by simp)).1, e60]]
  refine g_iadd dX10_takesInDeed_50 ?_
  refine g_iast dX10_takesInDeed_51 (moA_82 h2.1) (vp_in_nI (n := 3) (by decide) (by decide)) ?_
  rw [e82]
  refine g_aload_n dX10_takesInDeed_52 rfl ?_
  refine g_iload_n dX10_takesInDeed_53 rfl ?_
  refine g_puti dX10_takesInDeed_54 fl_X10_89 ft_10_37 h2.1.1 ?_
  refine g_vret dX10_takesInDeed_57 rfl ⟨rfl, ?_⟩
  refine kk _ ((hs3.sa (by simp)).si (by simp)) ⟨?_, fun j hj => ?_⟩ ?_ ?_
  · exact h2.2.1.1
  · show wvF (w_a w2 61) (w_a w2 75) n j = _
    unfold wvF
    rw [if_pos hj]
    exact h2.2.1.2 j hj
  · rw [wa_si, wa_sat]
    rfl
  · rw [wi_si, if_pos ⟨rfl, rfl⟩]
theorem cr_runs_set {f : Nat → Int32} {n t c : Nat} (hn : n ≤ 6) : cr_runs (cr_set f n t) n c = cr_runs f n c := by
  unfold cr_runs
  have e1 : cr_set f n t 24 = f 24 := if_neg (by omega)
  have e2 : cr_set f n t 25 = f 25 := if_neg (by omega)
  rw [e1, e2]
def ldC (a : Nat → Int32) (v : Int32) (b : Bool) : Nat → Int32 := if b = true then va_up (va_up (va_up a 3 (a 3 + v)) 0 (a 0 + 1)) 1 (a 1 + 1) else va_up (va_up a 3 (a 3 + v)) 0 (a 0 + 1)
theorem c_X10_comes {d : Nat} {w : gx_W} {f : Nat → Int32} {n N : Nat} {sg va : Nat → Int32} {x : Int32} {k : Int32 → gx_W → Prop} (hd : 6 ≤ d) (h : moO w) (hx : mxD w f n) (hl : lwM w N sg va) (hb : bnd f n) (k1 : (∀ c, c < 100 → x ≠ nI c) → k (-1) w) (k0 : ∀ c, x = nI c → c < 100 → n = 0 → k (-5) w) (kk : ∀ c t, x = nI c → c < 100 → t < n → cr_has N sg va f n c = nI t → ∀ w', same [61, 73, 74, 75, 82] [(57, 37)] w w' → mxD w' (cr_set f n t) n → w_a w' 82 = ldC (w_a w 82) (f (12 + t)) (cr_runs f n c) → w_i w' 57 37 = nI t → k (nI t) w') : gx_C 0 0 d mX10_comes [.ref 57, .int x] w (Qi k) := by
  refine gx_C_of' (L := [.ref 57, .int x, .retAddr 0]) (by decide +kernel) rfl (Nat.le_of_ble_eq_true rfl) ?_
  refine g_iload_n dX10_comes_0 rfl ?_
  refine g_cS1i dX10_comes_1 ml_X10_256 mi_X10_isComer ms_X10_isComer (Nat.le_of_ble_eq_true rfl) rfl (by omega) ?_
  refine c_X10_isComer (by omega) (fun c ec hc => ?_) (fun nx => ?_)
  · refine g_if_ne (tgt := 9) dX10_comes_4 (by decide) (fun _ => ?_) (fun q => absurd q (by decide))
    subst ec
    have hn6 := hx.1.2.1
    refine g_aload_n dX10_comes_9 rfl ?_
    refine g_geti dX10_comes_10 fl_X10_121 h.1 ?_
    rw [hx.1.1]
    refine g_if_ne (tgt := 19) dX10_comes_13 (by decide) (fun zc13 => ?_) (fun zc13 => ?_)
    · have h0 : 0 < n := by
        rcases Nat.eq_zero_or_pos n with e | e
        · subst e; exact absurd rfl zc13
        · exact e
      refine g_aload_n dX10_comes_19 rfl ?_
      refine g_cV0v dX10_comes_20 ml_X10_259 mi_X10_layNow mv_X10_layNow h.1 ⟨_, rfl, rfl⟩ (Nat.le_of_ble_eq_true rfl) rfl (by omega) ?_
      refine c_X10_layNow (by omega) h hx hl hb (fun w1 hs1 h1 => ?_)
      refine g_aload_n dX10_comes_23 rfl ?_
      refine g_iload_n dX10_comes_24 rfl ?_
      refine g_cV1i dX10_comes_25 ml_X10_249 mi_X10_hasNow mv_X10_hasNow h1.1.1 ⟨_, rfl, rfl⟩ (Nat.le_of_ble_eq_true rfl) rfl (by omega) ?_
      refine c_X10_hasNow (by omega) h1 hc (fun w2 hs2 => ?_)
      obtain ⟨t, ht, et⟩ := cr_has_pos (N := N) (sg := sg) (va := va) (f := f) (c := c) hn6 h0
      rw [et]
      have h2 := h1.same hs2 (by simp) (by simp)
      have hx2 : mxD w2 f n := ⟨h2.2.1.1, fun j hj => by rw [(hs2.2.2.2.1 61 (by simp)).1, (hs1.2.2.2.1 61 (by simp)).1]; exact hx.2 j hj⟩
      have e2 : w_a w2 82 = w_a w 82 := by rw [(hs2.2.2.2.1 82 (by simp)).1, (hs1.2.2.2.1 82 (by simp)).1]
      refine g_istore_n dX10_comes_28 (Nat.le_of_ble_eq_true rfl) rfl ?_
      refine g_aload_n dX10_comes_29 rfl ?_
      refine g_iload_n dX10_comes_30 rfl ?_
      refine g_cV1v dX10_comes_31 ml_X10_321 mi_X10_takesInDeed mv_X10_takesInDeed h2.1.1 ⟨_, rfl, rfl⟩ (Nat.le_of_ble_eq_true rfl) rfl (by omega) ?_
      refine c_X10_takesInDeed (by omega) h2.1 hx2 h2.2.2.1 hb ht (fun w3 hs3 hx3 e82 e37 => ?_)
      have h3 := h2.1.same hs3
      rw [e2] at e82
      have s3 : same [61, 73, 74, 75, 82] [(57, 37)] w w3 := ((hs1.wk (by simp) (by simp)).tr (hs2.wk (by simp) (by simp))).tr (hs3.wk (by simp) (by simp))
      refine g_aload_n dX10_comes_34 rfl ?_
      refine g_getr dX10_comes_35 fl_X10_86 h3.1 (moR_82 h3) ?_
      refine g_iconst (v := 0) dX10_comes_38 rfl ?_
      refine g_dup2 dX10_comes_39 rfl rfl ?_
      refine g_iald dX10_comes_40 (moA_82 h3) (vp_in_nI (n := 0) (by decide) (by decide)) ?_
      rw [show (0 : Int32).toNatClampNeg = 0 from rfl, e82]
      refine g_iconst (v := 1) dX10_comes_41 rfl ?_
      refine g_iadd dX10_comes_42 ?_
      refine g_iast dX10_comes_43 (moA_82 h3) (vp_in_nI (n := 0) (by decide) (by decide)) ?_
      rw [show (0 : Int32).toNatClampNeg = 0 from rfl, show va_up (w_a w 82) 3 (w_a w 82 3 + f (12 + t)) 0 = w_a w 82 0 from va_up_row (by decide)]
      refine g_aload_n dX10_comes_44 rfl ?_
      refine g_iload_n dX10_comes_45 rfl ?_
      refine g_cV1i dX10_comes_46 ml_X10_243 mi_X10_runsBy mv_X10_runsBy h3.1 ⟨_, rfl, rfl⟩ (Nat.le_of_ble_eq_true rfl) rfl (by omega) ?_
      refine c_X10_runsBy (by omega) h3 hx3.1 hc (fun hr => ?_) (fun hr => ?_)
      · refine g_if_eq (tgt := 62) dX10_comes_49 (by decide) (fun q => absurd q (by decide)) (fun _ => ?_)
        rw [cr_runs_set hn6] at hr
        refine g_aload_n dX10_comes_52 rfl ?_
        refine g_getr dX10_comes_53 fl_X10_86 h3.1 (moR_82 h3) ?_
        refine g_iconst (v := 1) dX10_comes_56 rfl ?_
        refine g_dup2 dX10_comes_57 rfl rfl ?_
        refine g_iald dX10_comes_58 (moA_82 h3) (vp_in_nI (n := 1) (by decide) (by decide)) ?_
        rw [show (1 : Int32).toNatClampNeg = 1 from rfl, wa_sat]
        refine g_iconst (v := 1) dX10_comes_59 rfl ?_
        refine g_iadd dX10_comes_60 ?_
        refine g_iast dX10_comes_61 (moA_82 h3) (vp_in_nI (n := 1) (by decide) (by decide)) ?_
        rw [show (1 : Int32).toNatClampNeg = 1 from rfl, s_a_a, wa_sat]
        refine g_iload_n dX10_comes_62 rfl ?_
        refine g_iret dX10_comes_63 rfl ⟨_, rfl, ?_⟩
        refine kk c t rfl hc ht et _ (s3.sa (by simp)) hx3 ?_ e37
        rw [wa_sat, hr, e82]
        show _ = va_up (va_up (va_up (w_a w 82) 3 (w_a w 82 3 + f (12 + t))) 0 (w_a w 82 0 + 1)) 1 (w_a w 82 1 + 1)
        rw [show (va_up (va_up (w_a w 82) 3 (w_a w 82 3 + f (12 + t))) 0 (w_a w 82 0 + 1)) 1 = w_a w 82 1 from (va_up_row (by decide)).trans (va_up_row (by decide))]
      · refine g_if_eq (tgt := 62) dX10_comes_49 (by decide) (fun _ => ?_) (fun q => absurd q (by decide))
        rw [cr_runs_set hn6] at hr
        refine g_iload_n dX10_comes_62 rfl ?_
        refine g_iret dX10_comes_63 rfl ⟨_, rfl, ?_⟩
        refine kk c t rfl hc ht et _ (s3.sa (by simp)) hx3 ?_ e37
        rw [wa_sat, hr, e82]
        rfl
    · refine g_bipush (v := -5) dX10_comes_16 rfl ?_
      refine g_iret dX10_comes_18 rfl ⟨_, rfl, ?_⟩
      exact k0 c rfl hc (pI_inj (b := 0) (by omega) (by decide) zc13)
  · refine g_if_ne (tgt := 9) dX10_comes_4 (by decide) (fun q => absurd q (by decide)) (fun _ => ?_)
    refine g_iconst (v := -1) dX10_comes_7 rfl ?_
    refine g_iret dX10_comes_8 rfl ⟨_, rfl, ?_⟩
    exact k1 nx
theorem c_X10_send {d : Nat} {w : gx_W} {f : Nat → Int32} {n N : Nat} {sg va : Nat → Int32} {x : Int32} {k : Int32 → gx_W → Prop} (hd : 3 ≤ d) (h : moO w) (hx : mxD w f n) (hl : lwM w N sg va) (hb : bnd f n) (k1 : (∀ m, m < n → x ≠ nI m) → k (-1) w) (kk : ∀ t, x = nI t → t < n → ∀ w', same [61, 75, 82] [(57, 37)] w w' → mxD w' (cr_set f n t) n → w_a w' 82 = va_up (va_up (w_a w 82) 3 (w_a w 82 3 + f (12 + t))) 2 (w_a w 82 2 + 1) → w_i w' 57 37 = nI t → k (f (18 + t)) w') : gx_C 0 0 d mX10_send [.ref 57, .int x] w (Qi k) := by
  refine gx_C_of' (L := [.ref 57, .int x, .retAddr 0]) (by decide +kernel) rfl (Nat.le_of_ble_eq_true rfl) ?_
  refine g_aload_n dX10_send_0 rfl ?_
  refine g_iload_n dX10_send_1 rfl ?_
  refine g_cV1i dX10_send_2 ml_X10_128 mi_X10_isRoad mv_X10_isRoad h.1 ⟨_, rfl, rfl⟩ (Nat.le_of_ble_eq_true rfl) rfl (by omega) ?_
  refine c_X10_isRoad (by omega) h hx.1.1 hx.1.2.1 (fun t et ht => ?_) (fun nx => ?_)
  · refine g_if_ne (tgt := 10) dX10_send_5 (by decide) (fun _ => ?_) (fun q => absurd q (by decide))
    subst et
    have hn6 := hx.1.2.1
    refine g_aload_n dX10_send_10 rfl ?_
    refine g_getr dX10_send_11 fl_X10_21 h.1 (moR_61 h) ?_
    refine g_iload_n dX10_send_14 rfl ?_
    refine g_iald dX10_send_15 (moA_61 h) (vp_in_nI (by omega) (by decide)) ?_
    rw [nI_n (show t < 2 ^ 31 by omega), hx.2 t ht]
    refine g_istore_n dX10_send_16 (Nat.le_of_ble_eq_true rfl) rfl ?_
    refine g_aload_n dX10_send_17 rfl ?_
    refine g_iload_n dX10_send_18 rfl ?_
    refine g_cV1v dX10_send_19 ml_X10_321 mi_X10_takesInDeed mv_X10_takesInDeed h.1 ⟨_, rfl, rfl⟩ (Nat.le_of_ble_eq_true rfl) rfl (by omega) ?_
    refine c_X10_takesInDeed (by omega) h hx hl hb ht (fun w3 hs3 hx3 e82 e37 => ?_)
    have h3 := h.same hs3
    refine g_aload_n dX10_send_22 rfl ?_
    refine g_getr dX10_send_23 fl_X10_86 h3.1 (moR_82 h3) ?_
    refine g_iconst (v := 2) dX10_send_26 rfl ?_
    refine g_dup2 dX10_send_27 rfl rfl ?_
    refine g_iald dX10_send_28 (moA_82 h3) (vp_in_nI (n := 2) (by decide) (by decide)) ?_
    rw [show (2 : Int32).toNatClampNeg = 2 from rfl, e82]
    refine g_iconst (v := 1) dX10_send_29 rfl ?_
    refine g_iadd dX10_send_30 ?_
    refine g_iast dX10_send_31 (moA_82 h3) (vp_in_nI (n := 2) (by decide) (by decide)) ?_
    rw [show (2 : Int32).toNatClampNeg = 2 from rfl, show va_up (w_a w 82) 3 (w_a w 82 3 + f (12 + t)) 2 = w_a w 82 2 from va_up_row (by decide)]
    refine g_iload_n dX10_send_32 rfl ?_
    refine g_iret dX10_send_33 rfl ⟨_, rfl, ?_⟩
    exact kk t rfl ht _ (hs3.sa (by simp)) hx3 (by rw [wa_sat, e82]) e37
  · refine g_if_ne (tgt := 10) dX10_send_5 (by decide) (fun q => absurd q (by decide)) (fun _ => ?_)
    refine g_iconst (v := -1) dX10_send_8 rfl ?_
    refine g_iret dX10_send_9 rfl ⟨_, rfl, ?_⟩
    exact k1 nx
theorem l_X10_image1 {d n : Nat} {w : gx_W} {k : Int32 → gx_W → Prop} (h : moO w) (hn : w_i w 57 1 = nI n) (hn6 : n ≤ 6) (kk : gx_G 0 0 d mX10_image (Qi k) 49 [.ref 57, .int (nI n)] [] (s_a w 83 (wvF (w_a w 83) (w_a w 61) n))) : ∀ z i : Nat, i + z = n → gx_G 0 0 d mX10_image (Qi k) 23 [.ref 57, .int (nI i)] [] (s_a w 83 (wvF (w_a w 83) (w_a w 61) i)) := by
  intro z
  induction z with
  | zero =>
    intro i hi
    have e : i = n := by omega
    subst e
    refine g_iload_n dX10_image_23 rfl ?_
    refine g_aload_n dX10_image_24 rfl ?_
    refine g_geti dX10_image_25 fl_X10_121 h.1 ?_
    rw [show w_i (s_a w 83 (wvF (w_a w 83) (w_a w 61) i)) 57 1 = nI i from hn]
    refine g_icmp_ge (tgt := 49) dX10_image_28 (by decide) (fun zc28 => ?_) (fun zc28 => ?_)
    · exact kk
    · exact absurd (Int32.le_refl _) zc28
  | succ z ih =>
    intro i hi
    have ihs := ih (i + 1) (by omega)
    refine g_iload_n dX10_image_23 rfl ?_
    refine g_aload_n dX10_image_24 rfl ?_
    refine g_geti dX10_image_25 fl_X10_121 h.1 ?_
    rw [show w_i (s_a w 83 (wvF (w_a w 83) (w_a w 61) i)) 57 1 = nI n from hn]
    refine g_icmp_ge (tgt := 49) dX10_image_28 (by decide) (fun zc28 => ?_) (fun zc28 => ?_)
    · exact absurd zc28 (nI_ge (by omega) (by omega))
    · refine g_aload_n dX10_image_31 rfl ?_
      refine g_getr dX10_image_32 fl_X10_93 h.1 (moR_83 h) ?_
      refine g_iload_n dX10_image_35 rfl ?_
      refine g_aload_n dX10_image_36 rfl ?_
      refine g_getr dX10_image_37 fl_X10_21 h.1 (moR_61 h) ?_
      refine g_iload_n dX10_image_40 rfl ?_
      refine g_iald dX10_image_41 (moA_61 h) (vp_in_nI (by omega) (by decide)) ?_
      rw [nI_n (show i < 2 ^ 31 by omega)]
      refine g_iast dX10_image_42 (moA_83 h) (vp_in_nI (by omega) (by decide)) ?_
      rw [nI_n (show i < 2 ^ 31 by omega), wa_sat, show w_a (s_a w 83 (wvF (w_a w 83) (w_a w 61) i)) 61 = w_a w 61 from rfl, wvF_s, s_a_a]
      refine g_iinc dX10_image_43 rfl rfl ?_
      refine g_goto (tgt := 23) dX10_image_46 (by decide) ?_
      rw [nI_1']
      exact ihs
theorem l_X10_image2 {d n : Nat} {w : gx_W} {k : Int32 → gx_W → Prop} (h : moO w) (hn6 : n ≤ 4) (hn4 : n = 4) (kk : gx_G 0 0 d mX10_image (Qi k) 74 [.ref 57, .int (nI n)] [] (s_a w 84 (wvF (w_a w 84) (w_a w 82) n))) : ∀ z i : Nat, i + z = n → gx_G 0 0 d mX10_image (Qi k) 51 [.ref 57, .int (nI i)] [] (s_a w 84 (wvF (w_a w 84) (w_a w 82) i)) := by
  intro z
  induction z with
  | zero =>
    intro i hi
    have e : i = n := by omega
    subst e
    refine g_iload_n dX10_image_51 rfl ?_
    refine g_iconst (v := 4) dX10_image_52 rfl ?_
    refine g_icmp_ge (tgt := 74) dX10_image_53 (by decide) (fun zc53 => ?_) (fun zc53 => ?_)
    · exact kk
    · exact absurd (show (4 : Int32) ≤ nI i from by rw [hn4]; decide) zc53
  | succ z ih =>
    intro i hi
    have ihs := ih (i + 1) (by omega)
    refine g_iload_n dX10_image_51 rfl ?_
    refine g_iconst (v := 4) dX10_image_52 rfl ?_
    refine g_icmp_ge (tgt := 74) dX10_image_53 (by decide) (fun zc53 => ?_) (fun zc53 => ?_)
    · exact absurd (show nI 4 ≤ nI i from zc53) (nI_ge (by omega) (by omega))
    · refine g_aload_n dX10_image_56 rfl ?_
      refine g_getr dX10_image_57 fl_X10_96 h.1 (moR_84 h) ?_
      refine g_iload_n dX10_image_60 rfl ?_
      refine g_aload_n dX10_image_61 rfl ?_
      refine g_getr dX10_image_62 fl_X10_86 h.1 (moR_82 h) ?_
      refine g_iload_n dX10_image_65 rfl ?_
      refine g_iald dX10_image_66 (moA_82 h) (vp_in_nI (by omega) (by decide)) ?_
      rw [nI_n (show i < 2 ^ 31 by omega)]
      refine g_iast dX10_image_67 (moA_84 h) (vp_in_nI (by omega) (by decide)) ?_
      rw [nI_n (show i < 2 ^ 31 by omega), wa_sat, show w_a (s_a w 84 (wvF (w_a w 84) (w_a w 82) i)) 82 = w_a w 82 from rfl, wvF_s, s_a_a]
      refine g_iinc dX10_image_68 rfl rfl ?_
      refine g_goto (tgt := 51) dX10_image_71 (by decide) ?_
      rw [nI_1']
      exact ihs
theorem l_X10_back1 {d n : Nat} {w : gx_W} {k : Int32 → gx_W → Prop} (h : moO w) (hn : w_i w 57 39 = nI n) (hn6 : n ≤ 6) (kk : gx_G 0 0 d mX10_back (Qi k) 46 [.ref 57, .int (nI n)] [] (s_a w 61 (wvF (w_a w 61) (w_a w 83) n))) : ∀ z i : Nat, i + z = n → gx_G 0 0 d mX10_back (Qi k) 20 [.ref 57, .int (nI i)] [] (s_a w 61 (wvF (w_a w 61) (w_a w 83) i)) := by
  intro z
  induction z with
  | zero =>
    intro i hi
    have e : i = n := by omega
    subst e
    refine g_iload_n dX10_back_20 rfl ?_
    refine g_aload_n dX10_back_21 rfl ?_
    refine g_geti dX10_back_22 fl_X10_327 h.1 ?_
    rw [show w_i (s_a w 61 (wvF (w_a w 61) (w_a w 83) i)) 57 39 = nI i from hn]
    refine g_icmp_ge (tgt := 46) dX10_back_25 (by decide) (fun zc25 => ?_) (fun zc25 => ?_)
    · exact kk
    · exact absurd (Int32.le_refl _) zc25
  | succ z ih =>
    intro i hi
    have ihs := ih (i + 1) (by omega)
    refine g_iload_n dX10_back_20 rfl ?_
    refine g_aload_n dX10_back_21 rfl ?_
    refine g_geti dX10_back_22 fl_X10_327 h.1 ?_
    rw [show w_i (s_a w 61 (wvF (w_a w 61) (w_a w 83) i)) 57 39 = nI n from hn]
    refine g_icmp_ge (tgt := 46) dX10_back_25 (by decide) (fun zc25 => ?_) (fun zc25 => ?_)
    · exact absurd zc25 (nI_ge (by omega) (by omega))
    · refine g_aload_n dX10_back_28 rfl ?_
      refine g_getr dX10_back_29 fl_X10_21 h.1 (moR_61 h) ?_
      refine g_iload_n dX10_back_32 rfl ?_
      refine g_aload_n dX10_back_33 rfl ?_
      refine g_getr dX10_back_34 fl_X10_93 h.1 (moR_83 h) ?_
      refine g_iload_n dX10_back_37 rfl ?_
      refine g_iald dX10_back_38 (moA_83 h) (vp_in_nI (by omega) (by decide)) ?_
      rw [nI_n (show i < 2 ^ 31 by omega)]
      refine g_iast dX10_back_39 (moA_61 h) (vp_in_nI (by omega) (by decide)) ?_
      rw [nI_n (show i < 2 ^ 31 by omega), wa_sat, show w_a (s_a w 61 (wvF (w_a w 61) (w_a w 83) i)) 83 = w_a w 83 from rfl, wvF_s, s_a_a]
      refine g_iinc dX10_back_40 rfl rfl ?_
      refine g_goto (tgt := 20) dX10_back_43 (by decide) ?_
      rw [nI_1']
      exact ihs
theorem l_X10_back2 {d n : Nat} {w : gx_W} {k : Int32 → gx_W → Prop} (h : moO w) (hn6 : n ≤ 4) (hn4 : n = 4) (kk : gx_G 0 0 d mX10_back (Qi k) 71 [.ref 57, .int (nI n)] [] (s_a w 82 (wvF (w_a w 82) (w_a w 84) n))) : ∀ z i : Nat, i + z = n → gx_G 0 0 d mX10_back (Qi k) 48 [.ref 57, .int (nI i)] [] (s_a w 82 (wvF (w_a w 82) (w_a w 84) i)) := by
  intro z
  induction z with
  | zero =>
    intro i hi
    have e : i = n := by omega
    subst e
    refine g_iload_n dX10_back_48 rfl ?_
    refine g_iconst (v := 4) dX10_back_49 rfl ?_
    refine g_icmp_ge (tgt := 71) dX10_back_50 (by decide) (fun zc50 => ?_) (fun zc50 => ?_)
    · exact kk
    · exact absurd (show (4 : Int32) ≤ nI i from by rw [hn4]; decide) zc50
  | succ z ih =>
    intro i hi
    have ihs := ih (i + 1) (by omega)
    refine g_iload_n dX10_back_48 rfl ?_
    refine g_iconst (v := 4) dX10_back_49 rfl ?_
    refine g_icmp_ge (tgt := 71) dX10_back_50 (by decide) (fun zc50 => ?_) (fun zc50 => ?_)
    · exact absurd (show nI 4 ≤ nI i from zc50) (nI_ge (by omega) (by omega))
    · refine g_aload_n dX10_back_53 rfl ?_
      refine g_getr dX10_back_54 fl_X10_86 h.1 (moR_82 h) ?_
      refine g_iload_n dX10_back_57 rfl ?_
      refine g_aload_n dX10_back_58 rfl ?_
      refine g_getr dX10_back_59 fl_X10_96 h.1 (moR_84 h) ?_
      refine g_iload_n dX10_back_62 rfl ?_
      refine g_iald dX10_back_63 (moA_84 h) (vp_in_nI (by omega) (by decide)) ?_
      rw [nI_n (show i < 2 ^ 31 by omega)]
      refine g_iast dX10_back_64 (moA_82 h) (vp_in_nI (by omega) (by decide)) ?_
      rw [nI_n (show i < 2 ^ 31 by omega), wa_sat, show w_a (s_a w 82 (wvF (w_a w 82) (w_a w 84) i)) 84 = w_a w 84 from rfl, wvF_s, s_a_a]
      refine g_iinc dX10_back_65 rfl rfl ?_
      refine g_goto (tgt := 48) dX10_back_68 (by decide) ?_
      rw [nI_1']
      exact ihs
theorem c_X10_image {d : Nat} {w : gx_W} {f : Nat → Int32} {n : Nat} {k : Int32 → gx_W → Prop} (hd : 0 ≤ d) (h : moO w) (hx : mxD w f n) (kk : ∀ w', same [83, 84] [(57, 38), (57, 39), (57, 40)] w w' → w_i w' 57 38 = 1 → w_i w' 57 39 = nI n → w_i w' 57 40 = w_i w 57 37 → (∀ j, j < n → w_a w' 83 j = f (18 + j)) → (∀ j, j < 4 → w_a w' 84 j = w_a w 82 j) → k (w_a w 82 0) w') : gx_C 0 0 d mX10_image [.ref 57] w (Qi k) := by
  refine gx_C_of' (L := [.ref 57, .retAddr 0]) (by decide +kernel) rfl (Nat.le_of_ble_eq_true rfl) ?_
  refine g_aload_n dX10_image_0 rfl ?_
  refine g_iconst (v := 1) dX10_image_1 rfl ?_
  refine g_putz dX10_image_2 fl_X10_324 ft_10_38 (by decide) h.1 ?_
  refine g_aload_n dX10_image_5 rfl ?_
  refine g_aload_n dX10_image_6 rfl ?_
  refine g_geti dX10_image_7 fl_X10_121 h.1 ?_
  rw [show w_i (s_i w 57 38 1) 57 1 = nI n from hx.1.1]
  refine g_puti dX10_image_10 fl_X10_327 ft_10_39 h.1 ?_
  refine g_aload_n dX10_image_13 rfl ?_
  refine g_aload_n dX10_image_14 rfl ?_
  refine g_geti dX10_image_15 fl_X10_89 h.1 ?_
  rw [show w_i (s_i (s_i w 57 38 1) 57 39 (nI n)) 57 37 = w_i w 57 37 from rfl]
  refine g_puti dX10_image_18 fl_X10_330 ft_10_40 h.1 ?_
  refine g_iconst (v := 0) dX10_image_21 rfl ?_
  refine g_istore_n dX10_image_22 (Nat.le_of_ble_eq_true rfl) rfl ?_
  have hn6 := hx.1.2.1
  have hI : moO (s_i (s_i (s_i w 57 38 1) 57 39 (nI n)) 57 40 (w_i w 57 37)) := h
  have K := l_X10_image1 (d := d) (w := (s_i (s_i (s_i w 57 38 1) 57 39 (nI n)) 57 40 (w_i w 57 37))) (k := k) hI hx.1.1 hn6 ?_ n 0 (Nat.zero_add _)
  · rw [wvF_0, s_a_self] at K
    exact K
  refine g_iconst (v := 0) dX10_image_49 rfl ?_
  refine g_istore_n dX10_image_50 (Nat.le_of_ble_eq_true rfl) rfl ?_
  have K := l_X10_image2 (d := d) (w := s_a (s_i (s_i (s_i w 57 38 1) 57 39 (nI n)) 57 40 (w_i w 57 37)) 83 (wvF (w_a w 83) (w_a w 61) n)) (k := k) hI (Nat.le_refl _) rfl ?_ 4 0 rfl
  · rw [wvF_0, s_a_self] at K
    exact K
  refine g_aload_n dX10_image_74 rfl ?_
  refine g_getr dX10_image_75 fl_X10_86 h.1 (moR_82 h) ?_
  refine g_iconst (v := 0) dX10_image_78 rfl ?_
  refine g_iald dX10_image_79 (moA_82 h) (vp_in_nI (n := 0) (by decide) (by decide)) ?_
  refine g_iret dX10_image_80 rfl ⟨_, rfl, ?_⟩
  refine kk _ (((((same.rf.si (by simp)).si (by simp)).si (by simp)).sa (by simp)).sa (by simp)) ?_ ?_ ?_ (fun j hj => ?_) (fun j hj => ?_)
  · rfl
  · rfl
  · rfl
  · show wvF (w_a w 83) (w_a w 61) n j = _
    unfold wvF
    rw [if_pos hj]
    exact hx.2 j hj
  · show wvF (w_a w 84) (w_a w 82) 4 j = _
    unfold wvF
    rw [if_pos hj]
theorem c_X10_back {d : Nat} {w : gx_W} {m : Nat} {k : Int32 → gx_W → Prop} (hd : 0 ≤ d) (h : moO w) (hm : w_i w 57 39 = nI m) (hm6 : m ≤ 6) (k0 : w_i w 57 38 = 0 → k (-5) w) (kk : ¬ w_i w 57 38 = 0 → ∀ w', same [61, 82] [(57, 37)] w w' → w_i w' 57 37 = w_i w 57 40 → (∀ j, j < m → w_a w' 61 j = w_a w 83 j) → (∀ j, m ≤ j → w_a w' 61 j = w_a w 61 j) → (∀ j, j < 4 → w_a w' 82 j = w_a w 84 j) → k (w_a w 84 0) w') : gx_C 0 0 d mX10_back [.ref 57] w (Qi k) := by
  refine gx_C_of' (L := [.ref 57, .retAddr 0]) (by decide +kernel) rfl (Nat.le_of_ble_eq_true rfl) ?_
  refine g_aload_n dX10_back_0 rfl ?_
  refine g_geti dX10_back_1 fl_X10_324 h.1 ?_
  refine g_if_ne (tgt := 10) dX10_back_4 (by decide) (fun zc4 => ?_) (fun zc4 => ?_)
  · refine g_aload_n dX10_back_10 rfl ?_
    refine g_aload_n dX10_back_11 rfl ?_
    refine g_geti dX10_back_12 fl_X10_330 h.1 ?_
    refine g_puti dX10_back_15 fl_X10_89 ft_10_37 h.1 ?_
    refine g_iconst (v := 0) dX10_back_18 rfl ?_
    refine g_istore_n dX10_back_19 (Nat.le_of_ble_eq_true rfl) rfl ?_
    have hI : moO (s_i w 57 37 (w_i w 57 40)) := h
    have K := l_X10_back1 (d := d) (w := (s_i w 57 37 (w_i w 57 40))) (k := k) hI hm hm6 ?_ m 0 (Nat.zero_add _)
    · rw [wvF_0, s_a_self] at K
      exact K
    refine g_iconst (v := 0) dX10_back_46 rfl ?_
    refine g_istore_n dX10_back_47 (Nat.le_of_ble_eq_true rfl) rfl ?_
    have K := l_X10_back2 (d := d) (w := s_a (s_i w 57 37 (w_i w 57 40)) 61 (wvF (w_a w 61) (w_a w 83) m)) (k := k) hI (Nat.le_refl _) rfl ?_ 4 0 rfl
    · rw [wvF_0, s_a_self] at K
      exact K
    refine g_aload_n dX10_back_71 rfl ?_
    refine g_getr dX10_back_72 fl_X10_86 h.1 (moR_82 h) ?_
    refine g_iconst (v := 0) dX10_back_75 rfl ?_
    refine g_iald dX10_back_76 (moA_82 h) (vp_in_nI (n := 0) (by decide) (by decide)) ?_
    refine g_iret dX10_back_77 rfl ⟨_, rfl, ?_⟩
    refine kk zc4 _ (((same.rf.si (by simp)).sa (by simp)).sa (by simp)) ?_ (fun j hj => ?_) (fun j hj => ?_) (fun j hj => ?_)
    · rfl
    · show wvF (w_a w 61) (w_a w 83) m j = _
      unfold wvF
      rw [if_pos hj]
    · show wvF (w_a w 61) (w_a w 83) m j = _
      unfold wvF
      rw [if_neg (by omega)]
    · show wvF (w_a w 82) (w_a w 84) 4 j = _
      unfold wvF
      rw [if_pos hj]
  · refine g_bipush (v := -5) dX10_back_7 rfl ?_
    refine g_iret dX10_back_9 rfl ⟨_, rfl, ?_⟩
    exact k0 zc4
def acF (c kd : Nat) (b x : Int32) : Int32 × List Nat := if c = 0 then aW kd b x else if c = 1 then aV kd b x else if c = 2 then aT kd b x else aL kd b x
theorem c_X10_act {d : Nat} {w : gx_W} {nb : Nat} {y z x : Int32} {k : Int32 → gx_W → Prop} (hd : 9 ≤ d) (h : moO w) (hn : w_i w 57 43 = nI nb) (hn5 : nb ≤ 50) (hk : ∀ j, j < nb → ∃ m, m < 8 ∧ w_a w 85 j = nI m) (hlen : ∀ c kd (b x : Int32), kd < 8 → (acF c kd b x).2.length < 2 ^ 30) (k2 : (∀ bb c : Nat, y = nI bb → bb < nb → z = nI c → c < 4 → False) → k 0 (s_i w 57 45 0)) (k1 : ∀ bb c kd : Nat, y = nI bb → bb < nb → z = nI c → c < 4 → w_a w 85 bb = nI kd → kd < 8 → ∀ w', trR (s_i w 57 45 0) w' 0 (acF c kd (nI bb) x).2 → k (acF c kd (nI bb) x).1 w') : gx_C 0 0 d mX10_act [.ref 57, .int y, .int z, .int x] w (Qi k) := by
  refine gx_C_of' (L := [.ref 57, .int y, .int z, .int x]) (by decide +kernel) rfl (Nat.le_of_ble_eq_true rfl) ?_
  refine g_aload_n dX10_act_0 rfl ?_
  refine g_iconst (v := 0) dX10_act_1 rfl ?_
  refine g_puti dX10_act_2 fl_X10_336 ft_10_45 h.1 ?_
  refine g_aload_n dX10_act_5 rfl ?_
  refine g_iload_n dX10_act_6 rfl ?_
  refine g_cV1i dX10_act_7 ml_X10_375 mi_X10_isBody mv_X10_isBody h.1 ⟨_, rfl, rfl⟩ (Nat.le_of_ble_eq_true rfl) rfl (by omega) ?_
  refine c_X10_isBody (by omega) (w := s_i w 57 45 0) h hn hn5 (fun bb ebb hbb => ?_) (fun nb1 => ?_)
  · refine g_if_eq (tgt := 22) dX10_act_10 (by decide) (fun q => absurd q (by decide)) (fun _ => ?_)
    refine g_iload_n dX10_act_13 rfl ?_
    refine g_iconst (v := 0) dX10_act_14 rfl ?_
    refine g_iconst (v := 3) dX10_act_15 rfl ?_
    refine g_cS3i dX10_act_16 ml_X10_124 mi_X10_in ms_X10_in (Nat.le_of_ble_eq_true rfl) rfl (by omega) ?_
    refine c_inN (H := 3) rfl (by decide) (fun c ec hc => ?_) (fun nc => ?_)
    · refine g_if_ne (tgt := 24) dX10_act_19 (by decide) (fun _ => ?_) (fun q => absurd q (by decide))
      obtain ⟨kd, hkd, ekd⟩ := hk bb hbb
      subst ebb
      subst ec
      have hbd : bdM (s_i w 57 45 0) bb kd 0 := ⟨h, by omega, ekd, hkd, by rw [wi_si, if_pos ⟨rfl, rfl⟩]; rfl⟩
      refine g_iload_n dX10_act_24 rfl ?_
      refine g_if_ne (tgt := 37) dX10_act_25 (by decide) (fun zc25 => ?_) (fun zc25 => ?_)
      · refine g_iload_n dX10_act_37 rfl ?_
        refine g_iconst (v := 1) dX10_act_38 rfl ?_
        refine g_icmp_ne (tgt := 51) dX10_act_39 (by decide) (fun zc39 => ?_) (fun zc39 => ?_)
        · refine g_iload_n dX10_act_51 rfl ?_
          refine g_iconst (v := 2) dX10_act_52 rfl ?_
          refine g_icmp_ne (tgt := 65) dX10_act_53 (by decide) (fun zc53 => ?_) (fun zc53 => ?_)
          · refine g_aload_n dX10_act_65 rfl ?_
            refine g_iload_n dX10_act_66 rfl ?_
            refine g_iload_n dX10_act_67 rfl ?_
            refine g_cV2i dX10_act_68 ml_X10_378 mi_X10_telling mv_X10_telling h.1 ⟨_, rfl, rfl⟩ (Nat.le_of_ble_eq_true rfl) rfl (by omega) ?_
            refine c_X10_telling (by omega) hbd (by rw [Nat.zero_add]; exact hlen 3 kd (nI bb) x hkd) (fun w1 hs1 => ?_)
            refine g_iret dX10_act_71 rfl ⟨_, rfl, ?_⟩
            have n0 : c ≠ 0 := fun e => zc25 (by rw [e]; rfl)
            have n1 : c ≠ 1 := fun e => zc39 (by rw [e]; rfl)
            have n2 : c ≠ 2 := fun e => zc53 (by rw [e]; rfl)
            have ec : c = 3 := by omega
            subst ec
            exact k1 bb 3 kd rfl hbb rfl (by decide) ekd hkd w1 hs1
          · refine g_aload_n dX10_act_56 rfl ?_
            refine g_iload_n dX10_act_57 rfl ?_
            refine g_iload_n dX10_act_58 rfl ?_
            refine g_cV2i dX10_act_59 ml_X10_360 mi_X10_taking mv_X10_taking h.1 ⟨_, rfl, rfl⟩ (Nat.le_of_ble_eq_true rfl) rfl (by omega) ?_
            refine c_X10_taking (by omega) hbd (by rw [Nat.zero_add]; exact hlen 2 kd (nI bb) x hkd) (fun w1 hs1 => ?_)
            refine g_goto (tgt := 71) dX10_act_62 (by decide) ?_
            refine g_iret dX10_act_71 rfl ⟨_, rfl, ?_⟩
            have ec : c = 2 := pI_inj (b := 2) (by omega) (by decide) zc53
            subst ec
            exact k1 bb 2 kd rfl hbb rfl (by decide) ekd hkd w1 hs1
        · refine g_aload_n dX10_act_42 rfl ?_
          refine g_iload_n dX10_act_43 rfl ?_
          refine g_iload_n dX10_act_44 rfl ?_
          refine g_cV2i dX10_act_45 ml_X10_369 mi_X10_waiting mv_X10_waiting h.1 ⟨_, rfl, rfl⟩ (Nat.le_of_ble_eq_true rfl) rfl (by omega) ?_
          refine c_X10_waiting (by omega) hbd (by rw [Nat.zero_add]; exact hlen 1 kd (nI bb) x hkd) (fun w1 hs1 => ?_)
          refine g_goto (tgt := 71) dX10_act_48 (by decide) ?_
          refine g_iret dX10_act_71 rfl ⟨_, rfl, ?_⟩
          have ec : c = 1 := pI_inj (b := 1) (by omega) (by decide) zc39
          subst ec
          exact k1 bb 1 kd rfl hbb rfl (by decide) ekd hkd w1 hs1
      · refine g_aload_n dX10_act_28 rfl ?_
        refine g_iload_n dX10_act_29 rfl ?_
        refine g_iload_n dX10_act_30 rfl ?_
        refine g_cV2i dX10_act_31 ml_X10_351 mi_X10_wanting mv_X10_wanting h.1 ⟨_, rfl, rfl⟩ (Nat.le_of_ble_eq_true rfl) rfl (by omega) ?_
        refine c_X10_wanting (by omega) hbd (by rw [Nat.zero_add]; exact hlen 0 kd (nI bb) x hkd) (fun w1 hs1 => ?_)
        refine g_goto (tgt := 71) dX10_act_34 (by decide) ?_
        refine g_iret dX10_act_71 rfl ⟨_, rfl, ?_⟩
        have ec : c = 0 := pI_inj (b := 0) (by omega) (by decide) zc25
        subst ec
        exact k1 bb 0 kd rfl hbb rfl (by decide) ekd hkd w1 hs1
    · refine g_if_ne (tgt := 24) dX10_act_19 (by decide) (fun q => absurd q (by decide)) (fun _ => ?_)
      refine g_iconst (v := 0) dX10_act_22 rfl ?_
      refine g_iret dX10_act_23 rfl ⟨_, rfl, ?_⟩
      exact k2 (fun bb c _ _ e1 h1 => nc c (by omega) e1)
  · refine g_if_eq (tgt := 22) dX10_act_10 (by decide) (fun _ => ?_) (fun q => absurd q (by decide))
    refine g_iconst (v := 0) dX10_act_22 rfl ?_
    refine g_iret dX10_act_23 rfl ⟨_, rfl, ?_⟩
    exact k2 (fun bb c e1 h1 _ _ => nb1 bb h1 e1)

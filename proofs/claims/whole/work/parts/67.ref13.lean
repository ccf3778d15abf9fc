/-! The reference: numbers and their changes -/
theorem chOK_r {n p q : Nat} {x y : Int32} (hp : chOK n x y p) (hq : q < 4) (hy : y = nI q) : ∃ m, m < n ∧ x = nI m ∧ p = q * 6 + m := by
  rcases hp with ⟨q', m, e1, e2, h1, h2, e3⟩ | ⟨q', e1, e2, h1, h2, e3⟩
  · have : q = q' := pI_inj (by omega) (by omega) (hy.symm.trans e1)
    subst this
    exact ⟨m, h2, e2, e3⟩
  · have : q = q' := pI_inj (by omega) (by omega) (hy.symm.trans e1)
    omega
theorem chOK_g {n p : Nat} {x y : Int32} (hp : chOK n x y p) (h0 : ¬ y = 0) (h1 : ¬ y = 1) (h2 : ¬ y = 2) (h3 : ¬ y = 3) : ∃ q, q < 4 ∧ y = nI (q + 4) ∧ p = 24 + q := by
  rcases hp with ⟨q', m, e1, e2, g1, g2, e3⟩ | ⟨q', e1, e2, g1, g2, e3⟩
  · rcases (by omega : q' = 0 ∨ q' = 1 ∨ q' = 2 ∨ q' = 3) with e | e | e | e <;> subst e
    · exact absurd e1 h0
    · exact absurd e1 h1
    · exact absurd e1 h2
    · exact absurd e1 h3
  · exact ⟨q' - 4, by omega, by rw [e1, show q' - 4 + 4 = q' by omega], by omega⟩
theorem nI_4s (q : Nat) : nI (q + 4) - 4 = nI q := by
  rw [show (4 : Int32) = nI 4 from rfl, pk_sub (by omega), Nat.add_sub_cancel]
theorem c_X10_valueAt {d : Nat} {w : gx_W} {f : Nat → Int32} {n p : Nat} {x y : Int32} {k : Int32 → gx_W → Prop} (hd : 0 ≤ d) (h : moO w) (hx : mxD w f n) (hp : chOK n x y p) (kk : k (f p) w) : gx_C 0 0 d mX10_valueAt [.ref 57, .int y, .int x] w (Qi k) := by
  refine gx_C_of' (L := [.ref 57, .int y, .int x]) (by decide +kernel) rfl (Nat.le_of_ble_eq_true rfl) ?_
  refine g_iload_n dX10_valueAt_0 rfl ?_
  by_cases s1_0 : y = 0
  · refine g_tableIn (off := 31) (tgt := 32) dX10_valueAt_1 (by rw [s1_0]; decide) (by rw [s1_0]; decide) (by rw [s1_0]; rfl) (by decide) ?_
    obtain ⟨m, hm, ex, ep⟩ := chOK_r (q := 0) hp (by decide) s1_0
    subst ex
    subst ep
    have hm6 := hx.1.2.1
    refine g_aload_n dX10_valueAt_32 rfl ?_
    refine g_getr dX10_valueAt_33 fl_X10_9 h.1 (moR_58 h) ?_
    refine g_iload_n dX10_valueAt_36 rfl ?_
    refine g_iald dX10_valueAt_37 (moA_58 h) (vp_in_nI (by omega) (by decide)) ?_
    refine g_iret dX10_valueAt_38 rfl ⟨_, rfl, ?_⟩
    rw [nI_n (by omega), hx.1.2.2.1 m hm]; rw [show 0 * 6 + m = m by omega] at kk; exact kk
  by_cases s1_1 : y = 1
  · refine g_tableIn (off := 38) (tgt := 39) dX10_valueAt_1 (by rw [s1_1]; decide) (by rw [s1_1]; decide) (by rw [s1_1]; rfl) (by decide) ?_
    obtain ⟨m, hm, ex, ep⟩ := chOK_r (q := 1) hp (by decide) s1_1
    subst ex
    subst ep
    have hm6 := hx.1.2.1
    refine g_aload_n dX10_valueAt_39 rfl ?_
    refine g_getr dX10_valueAt_40 fl_X10_15 h.1 (moR_59 h) ?_
    refine g_iload_n dX10_valueAt_43 rfl ?_
    refine g_iald dX10_valueAt_44 (moA_59 h) (vp_in_nI (by omega) (by decide)) ?_
    refine g_iret dX10_valueAt_45 rfl ⟨_, rfl, ?_⟩
    rw [nI_n (by omega), hx.1.2.2.2.1 m hm]; rw [show 1 * 6 + m = 6 + m by omega] at kk; exact kk
  by_cases s1_2 : y = 2
  · refine g_tableIn (off := 45) (tgt := 46) dX10_valueAt_1 (by rw [s1_2]; decide) (by rw [s1_2]; decide) (by rw [s1_2]; rfl) (by decide) ?_
    obtain ⟨m, hm, ex, ep⟩ := chOK_r (q := 2) hp (by decide) s1_2
    subst ex
    subst ep
    have hm6 := hx.1.2.1
    refine g_aload_n dX10_valueAt_46 rfl ?_
    refine g_getr dX10_valueAt_47 fl_X10_18 h.1 (moR_60 h) ?_
    refine g_iload_n dX10_valueAt_50 rfl ?_
    refine g_iald dX10_valueAt_51 (moA_60 h) (vp_in_nI (by omega) (by decide)) ?_
    refine g_iret dX10_valueAt_52 rfl ⟨_, rfl, ?_⟩
    rw [nI_n (by omega), hx.1.2.2.2.2.1 m hm]; rw [show 2 * 6 + m = 12 + m by omega] at kk; exact kk
  by_cases s1_3 : y = 3
  · refine g_tableIn (off := 52) (tgt := 53) dX10_valueAt_1 (by rw [s1_3]; decide) (by rw [s1_3]; decide) (by rw [s1_3]; rfl) (by decide) ?_
    obtain ⟨m, hm, ex, ep⟩ := chOK_r (q := 3) hp (by decide) s1_3
    subst ex
    subst ep
    have hm6 := hx.1.2.1
    refine g_aload_n dX10_valueAt_53 rfl ?_
    refine g_getr dX10_valueAt_54 fl_X10_21 h.1 (moR_61 h) ?_
    refine g_iload_n dX10_valueAt_57 rfl ?_
    refine g_iald dX10_valueAt_58 (moA_61 h) (vp_in_nI (by omega) (by decide)) ?_
    refine g_iret dX10_valueAt_59 rfl ⟨_, rfl, ?_⟩
    rw [nI_n (by omega), hx.2 m hm]; rw [show 3 * 6 + m = 18 + m by omega] at kk; exact kk
  refine g_tableOut (tgt := 60) dX10_valueAt_1 (by have z0 := lv_neT s1_0 (a := 0) (by decide); have z1 := lv_neT s1_1 (a := 1) (by decide); have z2 := lv_neT s1_2 (a := 2) (by decide); have z3 := lv_neT s1_3 (a := 3) (by decide); omega) (by decide) ?_
  obtain ⟨q, hq, ey, ep⟩ := chOK_g hp s1_0 s1_1 s1_2 s1_3
  subst ep
  refine g_aload_n dX10_valueAt_60 rfl ?_
  refine g_getr dX10_valueAt_61 fl_X10_24 h.1 (moR_62 h) ?_
  refine g_iload_n dX10_valueAt_64 rfl ?_
  refine g_iconst (v := 4) dX10_valueAt_65 rfl ?_
  refine g_isub dX10_valueAt_66 ?_
  rw [ey, nI_4s]
  refine g_iald dX10_valueAt_67 (moA_62 h) (vp_in_nI (by omega) (by decide)) ?_
  refine g_iret dX10_valueAt_68 rfl ⟨_, rfl, ?_⟩
  rw [nI_n (by omega), hx.1.2.2.2.2.2 q hq]; exact kk
theorem mxD_up {w : gx_W} {f : Nat → Int32} {n p r q m : Nat} {v : Int32} (hx : mxD w f n) (hq : (q < 4 ∧ m < n ∧ r = 58 + q ∧ p = 6 * q + m) ∨ (q = 4 ∧ m < 4 ∧ r = 62 ∧ p = 24 + m)) : mxD (s_a w r (va_up (w_a w r) m v)) (va_up f p v) n := by
  obtain ⟨⟨g1, g2, g3, g4, g5, g6⟩, g7⟩ := hx
  have hr : r = 58 + q := by omega
  refine ⟨⟨g1, g2, fun j hj => ?_, fun j hj => ?_, fun j hj => ?_, fun j hj => ?_⟩, fun j hj => ?_⟩
  all_goals
    rw [wa_sa, up_at]
  · by_cases z : 58 = r
    · rw [if_pos z, up_at, ← z]
      by_cases y : j = m
      · rw [if_pos y, if_pos (by omega)]
      · rw [if_neg y, if_neg (by omega)]; exact g3 j hj
    · rw [if_neg z, if_neg (by omega)]; exact g3 j hj
  · by_cases z : 59 = r
    · rw [if_pos z, up_at, ← z]
      by_cases y : j = m
      · rw [if_pos y, if_pos (by omega)]
      · rw [if_neg y, if_neg (by omega)]; exact g4 j hj
    · rw [if_neg z, if_neg (by omega)]; exact g4 j hj
  · by_cases z : 60 = r
    · rw [if_pos z, up_at, ← z]
      by_cases y : j = m
      · rw [if_pos y, if_pos (by omega)]
      · rw [if_neg y, if_neg (by omega)]; exact g5 j hj
    · rw [if_neg z, if_neg (by omega)]; exact g5 j hj
  · by_cases z : 62 = r
    · rw [if_pos z, up_at, ← z]
      by_cases y : j = m
      · rw [if_pos y, if_pos (by omega)]
      · rw [if_neg y, if_neg (by omega)]; exact g6 j hj
    · rw [if_neg z, if_neg (by omega)]; exact g6 j hj
  · by_cases z : 61 = r
    · rw [if_pos z, up_at, ← z]
      by_cases y : j = m
      · rw [if_pos y, if_pos (by omega)]
      · rw [if_neg y, if_neg (by omega)]; exact g7 j hj
    · rw [if_neg z, if_neg (by omega)]; exact g7 j hj
theorem c_X10_lays {d : Nat} {w : gx_W} {f : Nat → Int32} {n p : Nat} {x y v : Int32} {k : gx_W → Prop} (hd : 0 ≤ d) (h : moO w) (hx : mxD w f n) (hp : chOK n x y p) (kk : ∀ w', same [58, 59, 60, 61, 62] [] w w' → mxD w' (va_up f p v) n → k w') : gx_C 0 0 d mX10_lays [.ref 57, .int y, .int x, .int v] w (Qv k) := by
  refine gx_C_of' (L := [.ref 57, .int y, .int x, .int v]) (by decide +kernel) rfl (Nat.le_of_ble_eq_true rfl) ?_
  refine g_iload_n dX10_lays_0 rfl ?_
  by_cases s1_0 : y = 0
  · refine g_tableIn (off := 31) (tgt := 32) dX10_lays_1 (by rw [s1_0]; decide) (by rw [s1_0]; decide) (by rw [s1_0]; rfl) (by decide) ?_
    obtain ⟨m, hm, ex, ep⟩ := chOK_r (q := 0) hp (by decide) s1_0
    subst ex
    subst ep
    have hm6 := hx.1.2.1
    refine g_aload_n dX10_lays_32 rfl ?_
    refine g_getr dX10_lays_33 fl_X10_9 h.1 (moR_58 h) ?_
    refine g_iload_n dX10_lays_36 rfl ?_
    refine g_iload_n dX10_lays_37 rfl ?_
    refine g_iast dX10_lays_38 (moA_58 h) (vp_in_nI (by omega) (by decide)) ?_
    refine g_goto (tgt := 81) dX10_lays_39 (by decide) ?_
    refine g_vret dX10_lays_81 rfl ⟨rfl, ?_⟩
    rw [nI_n (by omega)]; exact kk _ (same.rf.sa (by simp)) (mxD_up (q := 0) (m := m) hx (Or.inl ⟨by decide, hm, rfl, by omega⟩))
  by_cases s1_1 : y = 1
  · refine g_tableIn (off := 41) (tgt := 42) dX10_lays_1 (by rw [s1_1]; decide) (by rw [s1_1]; decide) (by rw [s1_1]; rfl) (by decide) ?_
    obtain ⟨m, hm, ex, ep⟩ := chOK_r (q := 1) hp (by decide) s1_1
    subst ex
    subst ep
    have hm6 := hx.1.2.1
    refine g_aload_n dX10_lays_42 rfl ?_
    refine g_getr dX10_lays_43 fl_X10_15 h.1 (moR_59 h) ?_
    refine g_iload_n dX10_lays_46 rfl ?_
    refine g_iload_n dX10_lays_47 rfl ?_
    refine g_iast dX10_lays_48 (moA_59 h) (vp_in_nI (by omega) (by decide)) ?_
    refine g_goto (tgt := 81) dX10_lays_49 (by decide) ?_
    refine g_vret dX10_lays_81 rfl ⟨rfl, ?_⟩
    rw [nI_n (by omega)]; exact kk _ (same.rf.sa (by simp)) (mxD_up (q := 1) (m := m) hx (Or.inl ⟨by decide, hm, rfl, by omega⟩))
  by_cases s1_2 : y = 2
  · refine g_tableIn (off := 51) (tgt := 52) dX10_lays_1 (by rw [s1_2]; decide) (by rw [s1_2]; decide) (by rw [s1_2]; rfl) (by decide) ?_
    obtain ⟨m, hm, ex, ep⟩ := chOK_r (q := 2) hp (by decide) s1_2
    subst ex
    subst ep
    have hm6 := hx.1.2.1
    refine g_aload_n dX10_lays_52 rfl ?_
    refine g_getr dX10_lays_53 fl_X10_18 h.1 (moR_60 h) ?_
    refine g_iload_n dX10_lays_56 rfl ?_
    refine g_iload_n dX10_lays_57 rfl ?_
    refine g_iast dX10_lays_58 (moA_60 h) (vp_in_nI (by omega) (by decide)) ?_
    refine g_goto (tgt := 81) dX10_lays_59 (by decide) ?_
    refine g_vret dX10_lays_81 rfl ⟨rfl, ?_⟩
    rw [nI_n (by omega)]; exact kk _ (same.rf.sa (by simp)) (mxD_up (q := 2) (m := m) hx (Or.inl ⟨by decide, hm, rfl, by omega⟩))
  by_cases s1_3 : y = 3
  · refine g_tableIn (off := 61) (tgt := 62) dX10_lays_1 (by rw [s1_3]; decide) (by rw [s1_3]; decide) (by rw [s1_3]; rfl) (by decide) ?_
    obtain ⟨m, hm, ex, ep⟩ := chOK_r (q := 3) hp (by decide) s1_3
    subst ex
    subst ep
    have hm6 := hx.1.2.1
    refine g_aload_n dX10_lays_62 rfl ?_
    refine g_getr dX10_lays_63 fl_X10_21 h.1 (moR_61 h) ?_
    refine g_iload_n dX10_lays_66 rfl ?_
    refine g_iload_n dX10_lays_67 rfl ?_
    refine g_iast dX10_lays_68 (moA_61 h) (vp_in_nI (by omega) (by decide)) ?_
    refine g_goto (tgt := 81) dX10_lays_69 (by decide) ?_
    refine g_vret dX10_lays_81 rfl ⟨rfl, ?_⟩
    rw [nI_n (by omega)]; exact kk _ (same.rf.sa (by simp)) (mxD_up (q := 3) (m := m) hx (Or.inl ⟨by decide, hm, rfl, by omega⟩))
  refine g_tableOut (tgt := 72) dX10_lays_1 (by have z0 := lv_neT s1_0 (a := 0) (by decide); have z1 := lv_neT s1_1 (a := 1) (by decide); have z2 := lv_neT s1_2 (a := 2) (by decide); have z3 := lv_neT s1_3 (a := 3) (by decide); omega) (by decide) ?_
  obtain ⟨q, hq, ey, ep⟩ := chOK_g hp s1_0 s1_1 s1_2 s1_3
  subst ep
  refine g_aload_n dX10_lays_72 rfl ?_
  refine g_getr dX10_lays_73 fl_X10_24 h.1 (moR_62 h) ?_
  refine g_iload_n dX10_lays_76 rfl ?_
  refine g_iconst (v := 4) dX10_lays_77 rfl ?_
  refine g_isub dX10_lays_78 ?_
  refine g_iload_n dX10_lays_79 rfl ?_
  rw [ey, nI_4s]
  refine g_iast dX10_lays_80 (moA_62 h) (vp_in_nI (by omega) (by decide)) ?_
  refine g_vret dX10_lays_81 rfl ⟨rfl, ?_⟩
  rw [nI_n (by omega)]; exact kk _ (same.rf.sa (by simp)) (mxD_up (q := 4) (m := q) hx (Or.inr ⟨rfl, hq, rfl, rfl⟩))
theorem c_X10_isOne {d : Nat} {w : gx_W} {n : Nat} {x y : Int32} {k : Int32 → gx_W → Prop} (hd : 2 ≤ d) (h : moO w) (hn : w_i w 57 1 = nI n) (hn6 : n ≤ 6) (kt : ∀ p, chOK n x y p → k 1 w) (kf : (∀ p, ¬ chOK n x y p) → k 0 w) : gx_C 0 0 d mX10_isOne [.ref 57, .int x, .int y] w (Qi k) := by
  refine gx_C_of' (L := [.ref 57, .int x, .int y]) (by decide +kernel) rfl (Nat.le_of_ble_eq_true rfl) ?_
  refine g_iload_n dX10_isOne_0 rfl ?_
  refine g_iconst (v := 0) dX10_isOne_1 rfl ?_
  refine g_iconst (v := 3) dX10_isOne_2 rfl ?_
  refine g_cS3i dX10_isOne_3 ml_X10_124 mi_X10_in ms_X10_in (Nat.le_of_ble_eq_true rfl) rfl (by omega) ?_
  refine c_inN (H := 3) rfl (by decide) (fun q e hq => ?_) (fun ny => ?_)
  · refine g_if_eq (tgt := 17) dX10_isOne_6 (by decide) (fun q => absurd q (by decide)) (fun _ => ?_)
    refine g_aload_n dX10_isOne_9 rfl ?_
    refine g_iload_n dX10_isOne_10 rfl ?_
    refine g_cV1i dX10_isOne_11 ml_X10_128 mi_X10_isRoad mv_X10_isRoad h.1 ⟨_, rfl, rfl⟩ (Nat.le_of_ble_eq_true rfl) rfl (by omega) ?_
    refine c_X10_isRoad (by omega) h hn hn6 (fun m e2 hm => ?_) (fun nx => ?_)
    · refine g_goto (tgt := 36) dX10_isOne_14 (by decide) ?_
      refine g_zret dX10_isOne_36 rfl (Or.inr rfl) ⟨_, rfl, ?_⟩
      exact kt _ (Or.inl ⟨q, m, e, e2, by omega, hm, rfl⟩)
    · refine g_goto (tgt := 36) dX10_isOne_14 (by decide) ?_
      refine g_zret dX10_isOne_36 rfl (Or.inl rfl) ⟨_, rfl, ?_⟩
      refine kf (fun p hp => ?_)
      obtain ⟨m, hm, ex, -⟩ := chOK_r hp (by omega) e
      exact nx m hm ex
  · refine g_if_eq (tgt := 17) dX10_isOne_6 (by decide) (fun _ => ?_) (fun q => absurd q (by decide))
    refine g_iload_n dX10_isOne_17 rfl ?_
    refine g_iconst (v := 4) dX10_isOne_18 rfl ?_
    refine g_bipush (v := 7) dX10_isOne_19 rfl ?_
    refine g_cS3i dX10_isOne_21 ml_X10_124 mi_X10_in ms_X10_in (Nat.le_of_ble_eq_true rfl) rfl (by omega) ?_
    refine c_X10_in (by omega) (fun g1 g2 => ?_) (fun g => ?_)
    · refine g_if_eq (tgt := 35) dX10_isOne_24 (by decide) (fun q => absurd q (by decide)) (fun _ => ?_)
      refine g_iload_n dX10_isOne_27 rfl ?_
      refine g_if_ne (tgt := 35) dX10_isOne_28 (by decide) (fun zc28 => ?_) (fun zc28 => ?_)
      · refine g_iconst (v := 0) dX10_isOne_35 rfl ?_
        refine g_zret dX10_isOne_36 rfl (Or.inl rfl) ⟨_, rfl, ?_⟩
        refine kf (fun p hp => ?_)
        rcases hp with ⟨q', m, e1, e2, h1, h2, e3⟩ | ⟨q', e1, e2, h1, h2, e3⟩
        · exact ny q' (by omega) e1
        · exact zc28 e2
      · refine g_iconst (v := 1) dX10_isOne_31 rfl ?_
        refine g_goto (tgt := 36) dX10_isOne_32 (by decide) ?_
        refine g_zret dX10_isOne_36 rfl (Or.inr rfl) ⟨_, rfl, ?_⟩
        obtain ⟨q, hq, ey⟩ := nI_of2 (M := 7) (n := 7) (by decide) (fun z => absurd (Int32.le_trans g1 (Int32.le_of_lt z)) (by decide)) g2
        exact kt (20 + q) (Or.inr ⟨q, ey, zc28, by have := g1; rw [ey, show (4 : Int32) = nI 4 from rfl, nI_leI (by decide) (by omega)] at this; exact this, by omega, rfl⟩)
    · refine g_if_eq (tgt := 35) dX10_isOne_24 (by decide) (fun _ => ?_) (fun q => absurd q (by decide))
      refine g_iconst (v := 0) dX10_isOne_35 rfl ?_
      refine g_zret dX10_isOne_36 rfl (Or.inl rfl) ⟨_, rfl, ?_⟩
      refine kf (fun p hp => ?_)
      rcases hp with ⟨q', m, e1, e2, h1, h2, e3⟩ | ⟨q', e1, e2, h1, h2, e3⟩
      · exact ny q' (by omega) e1
      · exact g ⟨by rw [e1]; exact nI_le (a := 4) h1 (by omega), by rw [e1]; exact nI_le (b := 7) (by omega) (by decide)⟩
theorem c_X10_mayHave {d : Nat} {w : gx_W} {q : Nat} {y v : Int32} {k : Int32 → gx_W → Prop} (hd : 1 ≤ d) (hy : y = nI q) (hq : q < 8) (kt : me_fits y v = true → k 1 w) (kf : me_fits y v = false → k 0 w) : gx_C 0 0 d mX10_mayHave [.int y, .int v] w (Qi k) := by
  refine gx_C_of' (L := [.int y, .int v]) (by decide +kernel) rfl (Nat.le_of_ble_eq_true rfl) ?_
  refine g_iload_n dX10_mayHave_0 rfl ?_
  by_cases s1_0 : y = 2
  · refine g_tableIn (off := 39) (tgt := 40) dX10_mayHave_1 (by rw [s1_0]; decide) (by rw [s1_0]; decide) (by rw [s1_0]; rfl) (by decide) ?_
    refine g_iload_n dX10_mayHave_40 rfl ?_
    refine g_bipush (v := -99) dX10_mayHave_41 rfl ?_
    refine g_bipush (v := 99) dX10_mayHave_43 rfl ?_
    refine g_cS3i dX10_mayHave_45 ml_X10_124 mi_X10_in ms_X10_in (Nat.le_of_ble_eq_true rfl) rfl (by omega) ?_
    refine c_X10_in (by omega) (fun a1 a2 => ?_) (fun a => ?_)
    · refine g_zret dX10_mayHave_48 rfl (Or.inr rfl) ⟨_, rfl, ?_⟩
      exact kt (decide_eq_true ⟨by rw [s1_0]; decide, by rw [s1_0]; decide, by rw [s1_0]; exact a1, by rw [s1_0]; exact a2⟩)
    · refine g_zret dX10_mayHave_48 rfl (Or.inl rfl) ⟨_, rfl, ?_⟩
      exact kf (decide_eq_false (fun q => a (by have q3 := q.2.2; rw [s1_0] at q3; exact q3)))
  by_cases s1_1 : y = 3
  · refine g_tableIn (off := 48) (tgt := 49) dX10_mayHave_1 (by rw [s1_1]; decide) (by rw [s1_1]; decide) (by rw [s1_1]; rfl) (by decide) ?_
    refine g_iload_n dX10_mayHave_49 rfl ?_
    refine g_iconst (v := 0) dX10_mayHave_50 rfl ?_
    refine g_bipush (v := 99) dX10_mayHave_51 rfl ?_
    refine g_cS3i dX10_mayHave_53 ml_X10_124 mi_X10_in ms_X10_in (Nat.le_of_ble_eq_true rfl) rfl (by omega) ?_
    refine c_X10_in (by omega) (fun a1 a2 => ?_) (fun a => ?_)
    · refine g_zret dX10_mayHave_56 rfl (Or.inr rfl) ⟨_, rfl, ?_⟩
      exact kt (decide_eq_true ⟨by rw [s1_1]; decide, by rw [s1_1]; decide, by rw [s1_1]; exact a1, by rw [s1_1]; exact a2⟩)
    · refine g_zret dX10_mayHave_56 rfl (Or.inl rfl) ⟨_, rfl, ?_⟩
      exact kf (decide_eq_false (fun q => a (by have q3 := q.2.2; rw [s1_1] at q3; exact q3)))
  by_cases s1_2 : y = 4
  · refine g_tableIn (off := 71) (tgt := 72) dX10_mayHave_1 (by rw [s1_2]; decide) (by rw [s1_2]; decide) (by rw [s1_2]; rfl) (by decide) ?_
    refine g_iload_n dX10_mayHave_72 rfl ?_
    refine g_iconst (v := 0) dX10_mayHave_73 rfl ?_
    refine g_bipush (v := 9) dX10_mayHave_74 rfl ?_
    refine g_cS3i dX10_mayHave_76 ml_X10_124 mi_X10_in ms_X10_in (Nat.le_of_ble_eq_true rfl) rfl (by omega) ?_
    refine c_X10_in (by omega) (fun a1 a2 => ?_) (fun a => ?_)
    · refine g_zret dX10_mayHave_79 rfl (Or.inr rfl) ⟨_, rfl, ?_⟩
      exact kt (decide_eq_true ⟨by rw [s1_2]; decide, by rw [s1_2]; decide, by rw [s1_2]; exact a1, by rw [s1_2]; exact a2⟩)
    · refine g_zret dX10_mayHave_79 rfl (Or.inl rfl) ⟨_, rfl, ?_⟩
      exact kf (decide_eq_false (fun q => a (by have q3 := q.2.2; rw [s1_2] at q3; exact q3)))
  by_cases s1_3 : y = 5
  · refine g_tableIn (off := 56) (tgt := 57) dX10_mayHave_1 (by rw [s1_3]; decide) (by rw [s1_3]; decide) (by rw [s1_3]; rfl) (by decide) ?_
    refine g_iload_n dX10_mayHave_57 rfl ?_
    refine g_iconst (v := 0) dX10_mayHave_58 rfl ?_
    refine g_iconst (v := 5) dX10_mayHave_59 rfl ?_
    refine g_cS3i dX10_mayHave_60 ml_X10_124 mi_X10_in ms_X10_in (Nat.le_of_ble_eq_true rfl) rfl (by omega) ?_
    refine c_X10_in (by omega) (fun a1 a2 => ?_) (fun a => ?_)
    · refine g_zret dX10_mayHave_63 rfl (Or.inr rfl) ⟨_, rfl, ?_⟩
      exact kt (decide_eq_true ⟨by rw [s1_3]; decide, by rw [s1_3]; decide, by rw [s1_3]; exact a1, by rw [s1_3]; exact a2⟩)
    · refine g_zret dX10_mayHave_63 rfl (Or.inl rfl) ⟨_, rfl, ?_⟩
      exact kf (decide_eq_false (fun q => a (by have q3 := q.2.2; rw [s1_3] at q3; exact q3)))
  by_cases s1_4 : y = 6
  · refine g_tableIn (off := 71) (tgt := 72) dX10_mayHave_1 (by rw [s1_4]; decide) (by rw [s1_4]; decide) (by rw [s1_4]; rfl) (by decide) ?_
    refine g_iload_n dX10_mayHave_72 rfl ?_
    refine g_iconst (v := 0) dX10_mayHave_73 rfl ?_
    refine g_bipush (v := 9) dX10_mayHave_74 rfl ?_
    refine g_cS3i dX10_mayHave_76 ml_X10_124 mi_X10_in ms_X10_in (Nat.le_of_ble_eq_true rfl) rfl (by omega) ?_
    refine c_X10_in (by omega) (fun a1 a2 => ?_) (fun a => ?_)
    · refine g_zret dX10_mayHave_79 rfl (Or.inr rfl) ⟨_, rfl, ?_⟩
      exact kt (decide_eq_true ⟨by rw [s1_4]; decide, by rw [s1_4]; decide, by rw [s1_4]; exact a1, by rw [s1_4]; exact a2⟩)
    · refine g_zret dX10_mayHave_79 rfl (Or.inl rfl) ⟨_, rfl, ?_⟩
      exact kf (decide_eq_false (fun q => a (by have q3 := q.2.2; rw [s1_4] at q3; exact q3)))
  by_cases s1_5 : y = 7
  · refine g_tableIn (off := 63) (tgt := 64) dX10_mayHave_1 (by rw [s1_5]; decide) (by rw [s1_5]; decide) (by rw [s1_5]; rfl) (by decide) ?_
    refine g_iload_n dX10_mayHave_64 rfl ?_
    refine g_iconst (v := 1) dX10_mayHave_65 rfl ?_
    refine g_bipush (v := 54) dX10_mayHave_66 rfl ?_
    refine g_cS3i dX10_mayHave_68 ml_X10_124 mi_X10_in ms_X10_in (Nat.le_of_ble_eq_true rfl) rfl (by omega) ?_
    refine c_X10_in (by omega) (fun a1 a2 => ?_) (fun a => ?_)
    · refine g_zret dX10_mayHave_71 rfl (Or.inr rfl) ⟨_, rfl, ?_⟩
      exact kt (decide_eq_true ⟨by rw [s1_5]; decide, by rw [s1_5]; decide, by rw [s1_5]; exact a1, by rw [s1_5]; exact a2⟩)
    · refine g_zret dX10_mayHave_71 rfl (Or.inl rfl) ⟨_, rfl, ?_⟩
      exact kf (decide_eq_false (fun q => a (by have q3 := q.2.2; rw [s1_5] at q3; exact q3)))
  refine g_tableOut (tgt := 72) dX10_mayHave_1 (by have z0 := lv_neT s1_0 (a := 2) (by decide); have z1 := lv_neT s1_1 (a := 3) (by decide); have z2 := lv_neT s1_2 (a := 4) (by decide); have z3 := lv_neT s1_3 (a := 5) (by decide); have z4 := lv_neT s1_4 (a := 6) (by decide); have z5 := lv_neT s1_5 (a := 7) (by decide); omega) (by decide) ?_
  refine g_iload_n dX10_mayHave_72 rfl ?_
  refine g_iconst (v := 0) dX10_mayHave_73 rfl ?_
  refine g_bipush (v := 9) dX10_mayHave_74 rfl ?_
  refine g_cS3i dX10_mayHave_76 ml_X10_124 mi_X10_in ms_X10_in (Nat.le_of_ble_eq_true rfl) rfl (by omega) ?_
  refine c_X10_in (by omega) (fun a1 a2 => ?_) (fun a => ?_)
  · refine g_zret dX10_mayHave_79 rfl (Or.inr rfl) ⟨_, rfl, ?_⟩
    rcases (by have z2 : ¬ q = 2 := fun z => s1_0 (by rw [hy, z]; rfl)
               have z3 : ¬ q = 3 := fun z => s1_1 (by rw [hy, z]; rfl)
               have z4 : ¬ q = 4 := fun z => s1_2 (by rw [hy, z]; rfl)
               have z5 : ¬ q = 5 := fun z => s1_3 (by rw [hy, z]; rfl)
               have z6 : ¬ q = 6 := fun z => s1_4 (by rw [hy, z]; rfl)
               have z7 : ¬ q = 7 := fun z => s1_5 (by rw [hy, z]; rfl)
               omega : q = 0 ∨ q = 1) with e | e
    · have e0 : y = 0 := by rw [hy, e]; rfl
      exact kt (decide_eq_true ⟨by rw [e0]; decide, by rw [e0]; decide, by rw [e0]; exact a1, by rw [e0]; exact a2⟩)
    · have e0 : y = 1 := by rw [hy, e]; rfl
      exact kt (decide_eq_true ⟨by rw [e0]; decide, by rw [e0]; decide, by rw [e0]; exact a1, by rw [e0]; exact a2⟩)
  · refine g_zret dX10_mayHave_79 rfl (Or.inl rfl) ⟨_, rfl, ?_⟩
    rcases (by have z2 : ¬ q = 2 := fun z => s1_0 (by rw [hy, z]; rfl)
               have z3 : ¬ q = 3 := fun z => s1_1 (by rw [hy, z]; rfl)
               have z4 : ¬ q = 4 := fun z => s1_2 (by rw [hy, z]; rfl)
               have z5 : ¬ q = 5 := fun z => s1_3 (by rw [hy, z]; rfl)
               have z6 : ¬ q = 6 := fun z => s1_4 (by rw [hy, z]; rfl)
               have z7 : ¬ q = 7 := fun z => s1_5 (by rw [hy, z]; rfl)
               omega : q = 0 ∨ q = 1) with e | e
    · have e0 : y = 0 := by rw [hy, e]; rfl
      exact kf (decide_eq_false (fun q => a (by have q3 := q.2.2; rw [e0] at q3; exact q3)))
    · have e0 : y = 1 := by rw [hy, e]; rfl
      exact kf (decide_eq_false (fun q => a (by have q3 := q.2.2; rw [e0] at q3; exact q3)))

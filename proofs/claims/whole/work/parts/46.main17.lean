/-! CrossroadsChoose: day -/
def me_dayv (u : Int32) (t : Nat) (s : thS) : Int32 := if u = 0 then s.1 (18 + t) else if u = 1 then s.2.1 t else if u = 2 then s.2.2.1 t else s.2.2.2.1 t
set_option maxHeartbeats 4000000 in
theorem c_X9_day {d : Nat} {w : gx_W} {n l N : Nat} {ln : Nat → Nat} {x y v u : Int32} {k : Int32 → gx_W → Prop} (hd : 8 ≤ d) (hT : isT w) (h : clO w) (hc : isCk w 37 38 n l N) (ho : thO w) (h43 : isCr w 43 44) (hl : ∀ i, i < 6 → isSn w (45 + 2 * i) (46 + 2 * i) (ln i)) (k0 : (∀ m, m ≤ 60 → y ≠ nI m) → k (-1) w) (k1 : (∀ i, i < 6 → x ≠ nI i) → k (-1) w) (k5 : (∀ t, t < n → v ≠ nI t) → k (-1) w) (k6 : (u < 0 ∨ 3 < u) → k (-1) w) (k2 : ∀ m i, y = nI m → m ≤ 60 → x = nI i → i < 6 → w_i w (45 + 2 * i) 1 = 0 → ∀ t, v = nI t → t < n → ¬ u < 0 → ¬ 3 < u →  k (-11) w) (k4 : ∀ m i, y = nI m → m ≤ 60 → x = nI i → i < 6 → ¬ w_i w (45 + 2 * i) 1 = 0 → ¬ (w_i w (45 + 2 * i) 1 = 2 ∧ w_i w (45 + 2 * i) 3 = 0) → ∀ t, v = nI t → t < n → ¬ u < 0 → ¬ 3 < u →  k (-12) w) (k3 : ∀ m i, y = nI m → m ≤ 60 → x = nI i → i < 6 → w_i w (45 + 2 * i) 1 = 2 → w_i w (45 + 2 * i) 3 = 0 → ∀ t, v = nI t → t < n → ¬ u < 0 → ¬ 3 < u →  ∀ w', thJ w w' n l N (me_day w n l N i m (ln i)) → k (me_dayv u t (me_day w n l N i m (ln i))) w') : gx_C 0 0 d mX9_day [.ref 6, .int x, .int y, .int v, .int u] w (Qi k) := by
  refine gx_C_of' (L := [.ref 6, .int x, .int y, .int v, .int u, .retAddr 0]) (by decide +kernel) rfl (Nat.le_of_ble_eq_true rfl) ?_
  have hn6 := hc.1.1.2.2
  refine g_aload_n dX9_day_0 rfl ?_
  refine g_iload_n dX9_day_1 rfl ?_
  refine g_iload_n dX9_day_2 rfl ?_
  refine g_cV2i dX9_day_3 ml_X9_154 mi_X9_dayRefusal mv_X9_dayRefusal h.1 ⟨_, rfl, rfl⟩ (Nat.le_of_ble_eq_true rfl) rfl (by omega) ?_
  refine c_X9_dayRefusal (by omega) h (fun hy => ?_) (fun hn => ?_) (fun m i ey hm e hi f1 => ?_) (fun m i ey hm e hi f1 f2 => ?_) (fun m i ey hm e hi f1 f2 => ?_)
  · refine g_istore dX9_day_6 (Nat.le_of_ble_eq_true rfl) rfl ?_
    refine g_iload dX9_day_8 rfl ?_
    refine g_iconst (v := -1) dX9_day_10 rfl ?_
    refine g_icmp_eq (tgt := 36) dX9_day_11 (by decide) (fun _ => ?_) (fun q => absurd q (by decide))
    refine g_iconst (v := -1) dX9_day_36 rfl ?_
    refine g_iret dX9_day_37 rfl ⟨_, rfl, ?_⟩
    exact k0 hy
  · refine g_istore dX9_day_6 (Nat.le_of_ble_eq_true rfl) rfl ?_
    refine g_iload dX9_day_8 rfl ?_
    refine g_iconst (v := -1) dX9_day_10 rfl ?_
    refine g_icmp_eq (tgt := 36) dX9_day_11 (by decide) (fun _ => ?_) (fun q => absurd q (by decide))
    refine g_iconst (v := -1) dX9_day_36 rfl ?_
    refine g_iret dX9_day_37 rfl ⟨_, rfl, ?_⟩
    exact k1 hn
  · refine g_istore dX9_day_6 (Nat.le_of_ble_eq_true rfl) rfl ?_
    refine g_iload dX9_day_8 rfl ?_
    refine g_iconst (v := -1) dX9_day_10 rfl ?_
    refine g_icmp_eq (tgt := 36) dX9_day_11 (by decide) (fun q => absurd q (by decide)) (fun _ => ?_)
    refine g_aload_n dX9_day_14 rfl ?_
    refine g_getr dX9_day_15 fl_X9_67 h.1 h.2.1.1 ?_
    refine g_iload_n dX9_day_18 rfl ?_
    refine g_cV1i dX9_day_19 ml_X9_141 mi_X2_isRoad mv_X2_isRoad hc.1.1.1.1 ⟨_, rfl, rfl⟩ (Nat.le_of_ble_eq_true rfl) rfl (by omega) ?_
    refine c_X2_isRoad (by omega) hc.1.1 (fun t ev ht => ?_) (fun nv => ?_)
    · refine g_if_eq (tgt := 36) dX9_day_22 (by decide) (fun q => absurd q (by decide)) (fun _ => ?_)
      refine g_iload dX9_day_25 rfl ?_
      refine g_if_lt (tgt := 36) dX9_day_27 (by decide) (fun zc27 => ?_) (fun zc27 => ?_)
      · refine g_iconst (v := -1) dX9_day_36 rfl ?_
        refine g_iret dX9_day_37 rfl ⟨_, rfl, ?_⟩
        exact k6 (Or.inl zc27)
      · refine g_iload dX9_day_30 rfl ?_
        refine g_iconst (v := 3) dX9_day_32 rfl ?_
        refine g_icmp_le (tgt := 38) dX9_day_33 (by decide) (fun zc33 => ?_) (fun zc33 => ?_)
        · refine g_iload dX9_day_38 rfl ?_
          refine g_if_eq (tgt := 46) dX9_day_40 (by decide) (fun q => absurd q (by decide)) (fun _ => ?_)
          refine g_iload dX9_day_43 rfl ?_
          refine g_iret dX9_day_45 rfl ⟨_, rfl, ?_⟩
          exact k2 m i ey hm e hi f1 t ev ht zc27 (Int32.not_lt.mpr zc33)
        · refine g_iconst (v := -1) dX9_day_36 rfl ?_
          refine g_iret dX9_day_37 rfl ⟨_, rfl, ?_⟩
          exact k6 (Or.inr (Int32.not_le.mp zc33))
    · refine g_if_eq (tgt := 36) dX9_day_22 (by decide) (fun _ => ?_) (fun q => absurd q (by decide))
      refine g_iconst (v := -1) dX9_day_36 rfl ?_
      refine g_iret dX9_day_37 rfl ⟨_, rfl, ?_⟩
      exact k5 nv
  · refine g_istore dX9_day_6 (Nat.le_of_ble_eq_true rfl) rfl ?_
    refine g_iload dX9_day_8 rfl ?_
    refine g_iconst (v := -1) dX9_day_10 rfl ?_
    refine g_icmp_eq (tgt := 36) dX9_day_11 (by decide) (fun q => absurd q (by decide)) (fun _ => ?_)
    refine g_aload_n dX9_day_14 rfl ?_
    refine g_getr dX9_day_15 fl_X9_67 h.1 h.2.1.1 ?_
    refine g_iload_n dX9_day_18 rfl ?_
    refine g_cV1i dX9_day_19 ml_X9_141 mi_X2_isRoad mv_X2_isRoad hc.1.1.1.1 ⟨_, rfl, rfl⟩ (Nat.le_of_ble_eq_true rfl) rfl (by omega) ?_
    refine c_X2_isRoad (by omega) hc.1.1 (fun t ev ht => ?_) (fun nv => ?_)
    · refine g_if_eq (tgt := 36) dX9_day_22 (by decide) (fun q => absurd q (by decide)) (fun _ => ?_)
      refine g_iload dX9_day_25 rfl ?_
      refine g_if_lt (tgt := 36) dX9_day_27 (by decide) (fun zc27 => ?_) (fun zc27 => ?_)
      · refine g_iconst (v := -1) dX9_day_36 rfl ?_
        refine g_iret dX9_day_37 rfl ⟨_, rfl, ?_⟩
        exact k6 (Or.inl zc27)
      · refine g_iload dX9_day_30 rfl ?_
        refine g_iconst (v := 3) dX9_day_32 rfl ?_
        refine g_icmp_le (tgt := 38) dX9_day_33 (by decide) (fun zc33 => ?_) (fun zc33 => ?_)
        · refine g_iload dX9_day_38 rfl ?_
          refine g_if_eq (tgt := 46) dX9_day_40 (by decide) (fun _ => ?_) (fun q => absurd q (by decide))
          refine g_aload_n dX9_day_46 rfl ?_
          refine g_aload_n dX9_day_47 rfl ?_
          refine g_iload_n dX9_day_48 rfl ?_
          refine g_cV1q dX9_day_49 ml_X9_91 mi_X9_shelfAt mv_X9_shelfAt h.1 ⟨_, rfl, rfl⟩ (Nat.le_of_ble_eq_true rfl) rfl (by omega) ?_
          refine c_X9_shelfAt (by omega) h (fun j e2 hj => ?_) (fun hn2 => ?_)
          · have ej : j = i := pI_inj (by omega) (by omega) (e2.symm.trans e)
            subst ej
            subst ey
            subst ev
            refine g_iload_n dX9_day_52 rfl ?_
            refine g_cV2v dX9_day_53 ml_X9_157 mi_X9_thinkDay mv_X9_thinkDay h.1 ⟨_, rfl, rfl⟩ (Nat.le_of_ble_eq_true rfl) rfl (by omega) ?_
            refine c_X9_thinkDay (by omega) hT h hc ho h43 hj (hl j hj) hm (fun w1 I1 => ?_)
            refine g_iload dX9_day_56 rfl ?_
            by_cases s58_0 : u = 0
            · refine g_tableIn (off := 26) (tgt := 84) dX9_day_58 (by rw [s58_0]; decide) (by rw [s58_0]; decide) (by rw [s58_0]; rfl) (by decide) ?_
              refine g_aload_n dX9_day_84 rfl ?_
              refine g_getr dX9_day_85 fl_X9_74 (clO_th h I1.1).1 (clO_th h I1.1).2.1.2.1 ?_
              refine g_getr dX9_day_88 fl_X9_165 I1.2.1.1 I1.2.1.2.1 ?_
              refine g_iload_n dX9_day_91 rfl ?_
              refine g_iconst (v := 3) dX9_day_92 rfl ?_
              refine g_cV2i dX9_day_93 ml_X9_112 mi_X2_number mv_X2_number I1.2.2.1.1.1.1.1 ⟨_, rfl, rfl⟩ (Nat.le_of_ble_eq_true rfl) rfl (by omega) ?_
              refine c_number_r (q := 3) (m := t) (by omega) I1.2.2.1.1.1 (by decide) ht rfl rfl ?_
              refine g_iret dX9_day_96 rfl ⟨_, rfl, ?_⟩
              have K := k3 m j rfl hm e2 hj f1 f2 t rfl ht zc27 (Int32.not_lt.mpr zc33) w1 I1
              unfold me_dayv at K
              rw [if_pos s58_0] at K
              rw [I1.2.2.2.1 (3 * 6 + t) (by omega)]
              exact K
            by_cases s58_1 : u = 1
            · refine g_tableIn (off := 39) (tgt := 97) dX9_day_58 (by rw [s58_1]; decide) (by rw [s58_1]; decide) (by rw [s58_1]; rfl) (by decide) ?_
              refine g_aload_n dX9_day_97 rfl ?_
              refine g_getr dX9_day_98 fl_X9_74 (clO_th h I1.1).1 (clO_th h I1.1).2.1.2.1 ?_
              refine g_getr dX9_day_101 fl_X9_168 I1.2.1.1 I1.2.1.2.2.1.1 ?_
              refine g_iload_n dX9_day_104 rfl ?_
              refine g_iald dX9_day_105 I1.2.1.2.2.1.2 (vp_in_nI (by omega) (by decide)) ?_
              refine g_iret dX9_day_106 rfl ⟨_, rfl, ?_⟩
              have K := k3 m j rfl hm e2 hj f1 f2 t rfl ht zc27 (Int32.not_lt.mpr zc33) w1 I1
              unfold me_dayv at K
              rw [if_neg s58_0, if_pos s58_1] at K
              rw [nI_n (by omega), I1.2.2.2.2.1 t (by omega)]
              exact K
            by_cases s58_2 : u = 2
            · refine g_tableIn (off := 49) (tgt := 107) dX9_day_58 (by rw [s58_2]; decide) (by rw [s58_2]; decide) (by rw [s58_2]; rfl) (by decide) ?_
              refine g_aload_n dX9_day_107 rfl ?_
              refine g_getr dX9_day_108 fl_X9_74 (clO_th h I1.1).1 (clO_th h I1.1).2.1.2.1 ?_
              refine g_getr dX9_day_111 fl_X9_171 I1.2.1.1 I1.2.1.2.2.2.1.1 ?_
              refine g_iload_n dX9_day_114 rfl ?_
              refine g_iald dX9_day_115 I1.2.1.2.2.2.1.2 (vp_in_nI (by omega) (by decide)) ?_
              refine g_iret dX9_day_116 rfl ⟨_, rfl, ?_⟩
              have K := k3 m j rfl hm e2 hj f1 f2 t rfl ht zc27 (Int32.not_lt.mpr zc33) w1 I1
              unfold me_dayv at K
              rw [if_neg s58_0, if_neg s58_1, if_pos s58_2] at K
              rw [nI_n (by omega), I1.2.2.2.2.2.1 t (by omega)]
              exact K
            refine g_tableOut (tgt := 117) dX9_day_58 (by have z0 := lv_neT s58_0 (a := 0) (by decide); have z1 := lv_neT s58_1 (a := 1) (by decide); have z2 := lv_neT s58_2 (a := 2) (by decide); omega) (by decide) ?_
            refine g_aload_n dX9_day_117 rfl ?_
            refine g_getr dX9_day_118 fl_X9_74 (clO_th h I1.1).1 (clO_th h I1.1).2.1.2.1 ?_
            refine g_getr dX9_day_121 fl_X9_174 I1.2.1.1 I1.2.1.2.2.2.2.1 ?_
            refine g_iload_n dX9_day_124 rfl ?_
            refine g_iald dX9_day_125 I1.2.1.2.2.2.2.2 (vp_in_nI (by omega) (by decide)) ?_
            refine g_iret dX9_day_126 rfl ⟨_, rfl, ?_⟩
            have K := k3 m j rfl hm e2 hj f1 f2 t rfl ht zc27 (Int32.not_lt.mpr zc33) w1 I1
            unfold me_dayv at K
            rw [if_neg s58_0, if_neg s58_1, if_neg s58_2] at K
            rw [nI_n (by omega), I1.2.2.2.2.2.2.1 t (by omega)]
            exact K
          · exact absurd e (hn2 i hi)
        · refine g_iconst (v := -1) dX9_day_36 rfl ?_
          refine g_iret dX9_day_37 rfl ⟨_, rfl, ?_⟩
          exact k6 (Or.inr (Int32.not_le.mp zc33))
    · refine g_if_eq (tgt := 36) dX9_day_22 (by decide) (fun _ => ?_) (fun q => absurd q (by decide))
      refine g_iconst (v := -1) dX9_day_36 rfl ?_
      refine g_iret dX9_day_37 rfl ⟨_, rfl, ?_⟩
      exact k5 nv
  · refine g_istore dX9_day_6 (Nat.le_of_ble_eq_true rfl) rfl ?_
    refine g_iload dX9_day_8 rfl ?_
    refine g_iconst (v := -1) dX9_day_10 rfl ?_
    refine g_icmp_eq (tgt := 36) dX9_day_11 (by decide) (fun q => absurd q (by decide)) (fun _ => ?_)
    refine g_aload_n dX9_day_14 rfl ?_
    refine g_getr dX9_day_15 fl_X9_67 h.1 h.2.1.1 ?_
    refine g_iload_n dX9_day_18 rfl ?_
    refine g_cV1i dX9_day_19 ml_X9_141 mi_X2_isRoad mv_X2_isRoad hc.1.1.1.1 ⟨_, rfl, rfl⟩ (Nat.le_of_ble_eq_true rfl) rfl (by omega) ?_
    refine c_X2_isRoad (by omega) hc.1.1 (fun t ev ht => ?_) (fun nv => ?_)
    · refine g_if_eq (tgt := 36) dX9_day_22 (by decide) (fun q => absurd q (by decide)) (fun _ => ?_)
      refine g_iload dX9_day_25 rfl ?_
      refine g_if_lt (tgt := 36) dX9_day_27 (by decide) (fun zc27 => ?_) (fun zc27 => ?_)
      · refine g_iconst (v := -1) dX9_day_36 rfl ?_
        refine g_iret dX9_day_37 rfl ⟨_, rfl, ?_⟩
        exact k6 (Or.inl zc27)
      · refine g_iload dX9_day_30 rfl ?_
        refine g_iconst (v := 3) dX9_day_32 rfl ?_
        refine g_icmp_le (tgt := 38) dX9_day_33 (by decide) (fun zc33 => ?_) (fun zc33 => ?_)
        · refine g_iload dX9_day_38 rfl ?_
          refine g_if_eq (tgt := 46) dX9_day_40 (by decide) (fun q => absurd q (by decide)) (fun _ => ?_)
          refine g_iload dX9_day_43 rfl ?_
          refine g_iret dX9_day_45 rfl ⟨_, rfl, ?_⟩
          exact k4 m i ey hm e hi f1 f2 t ev ht zc27 (Int32.not_lt.mpr zc33)
        · refine g_iconst (v := -1) dX9_day_36 rfl ?_
          refine g_iret dX9_day_37 rfl ⟨_, rfl, ?_⟩
          exact k6 (Or.inr (Int32.not_le.mp zc33))
    · refine g_if_eq (tgt := 36) dX9_day_22 (by decide) (fun _ => ?_) (fun q => absurd q (by decide))
      refine g_iconst (v := -1) dX9_day_36 rfl ?_
      refine g_iret dX9_day_37 rfl ⟨_, rfl, ?_⟩
      exact k5 nv

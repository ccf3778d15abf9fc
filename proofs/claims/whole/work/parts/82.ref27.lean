/-! The reference: pull has of feed led count trace body keep -/
theorem c_X10_pull {d : Nat} {w : gx_W} {f : Nat → Int32} {n N : Nat} {sg va : Nat → Int32} {x y : Int32} {k : Int32 → gx_W → Prop} (hd : 4 ≤ d) (h : moO w) (hx : mxD w f n) (hl : lwM w N sg va) (hb : bnd f n) (k1 : (∀ m, m < n → x ≠ nI m) → k (-2000000000) w) (k2 : (∀ c, c < 100 → y ≠ nI c) → k (-2000000000) w) (kk : ∀ m c, x = nI m → m < n → y = nI c → c < 100 → ∀ w', same [73, 74, 75] [] w w' → k (cr_want N sg va f m c) w') : gx_C 0 0 d mX10_pull [.ref 57, .int x, .int y] w (Qi k) := by
  refine gx_C_of' (L := [.ref 57, .int x, .int y]) (by decide +kernel) rfl (Nat.le_of_ble_eq_true rfl) ?_
  refine g_aload_n dX10_pull_0 rfl ?_
  refine g_iload_n dX10_pull_1 rfl ?_
  refine g_cV1i dX10_pull_2 ml_X10_128 mi_X10_isRoad mv_X10_isRoad h.1 ⟨_, rfl, rfl⟩ (Nat.le_of_ble_eq_true rfl) rfl (by omega) ?_
  refine c_X10_isRoad (by omega) h hx.1.1 hx.1.2.1 (fun m em hm => ?_) (fun nx => ?_)
  · refine g_if_eq (tgt := 15) dX10_pull_5 (by decide) (fun q => absurd q (by decide)) (fun _ => ?_)
    refine g_iload_n dX10_pull_8 rfl ?_
    refine g_cS1i dX10_pull_9 ml_X10_256 mi_X10_isComer ms_X10_isComer (Nat.le_of_ble_eq_true rfl) rfl (by omega) ?_
    refine c_X10_isComer (by omega) (fun c ec hc => ?_) (fun ny => ?_)
    · refine g_if_ne (tgt := 18) dX10_pull_12 (by decide) (fun _ => ?_) (fun q => absurd q (by decide))
      subst em
      subst ec
      refine g_aload_n dX10_pull_18 rfl ?_
      refine g_cV0v dX10_pull_19 ml_X10_259 mi_X10_layNow mv_X10_layNow h.1 ⟨_, rfl, rfl⟩ (Nat.le_of_ble_eq_true rfl) rfl (by omega) ?_
      refine c_X10_layNow (by omega) h hx hl hb (fun w1 hs1 h1 => ?_)
      refine g_aload_n dX10_pull_22 rfl ?_
      refine g_iload_n dX10_pull_23 rfl ?_
      refine g_iload_n dX10_pull_24 rfl ?_
      refine g_cV2i dX10_pull_25 ml_X10_240 mi_X10_wants mv_X10_wants h1.1.1 ⟨_, rfl, rfl⟩ (Nat.le_of_ble_eq_true rfl) rfl (by omega) ?_
      refine c_X10_wants (by omega) h1 hm hc (fun w2 hs2 => ?_)
      refine g_iret dX10_pull_28 rfl ⟨_, rfl, ?_⟩
      exact kk m c rfl hm rfl hc w2 ((hs1.wk (by simp) (by simp)).tr (hs2.wk (by simp) (by simp)))
    · refine g_if_ne (tgt := 18) dX10_pull_12 (by decide) (fun q => absurd q (by decide)) (fun _ => ?_)
      refine g_ldc dX10_pull_15 ct_X10_165 ?_
      refine g_iret dX10_pull_17 rfl ⟨_, rfl, ?_⟩
      exact k2 ny
  · refine g_if_eq (tgt := 15) dX10_pull_5 (by decide) (fun _ => ?_) (fun q => absurd q (by decide))
    refine g_ldc dX10_pull_15 ct_X10_165 ?_
    refine g_iret dX10_pull_17 rfl ⟨_, rfl, ?_⟩
    exact k1 nx
theorem c_X10_has {d : Nat} {w : gx_W} {f : Nat → Int32} {n N : Nat} {sg va : Nat → Int32} {x : Int32} {k : Int32 → gx_W → Prop} (hd : 6 ≤ d) (h : moO w) (hx : mxD w f n) (hl : lwM w N sg va) (hb : bnd f n) (k1 : (∀ c, c < 100 → x ≠ nI c) → k (-1) w) (kk : ∀ c, x = nI c → c < 100 → ∀ w', same [73, 74, 75] [] w w' → k (cr_has N sg va f n c) w') : gx_C 0 0 d mX10_has [.ref 57, .int x] w (Qi k) := by
  refine gx_C_of' (L := [.ref 57, .int x]) (by decide +kernel) rfl (Nat.le_of_ble_eq_true rfl) ?_
  refine g_iload_n dX10_has_0 rfl ?_
  refine g_cS1i dX10_has_1 ml_X10_256 mi_X10_isComer ms_X10_isComer (Nat.le_of_ble_eq_true rfl) rfl (by omega) ?_
  refine c_X10_isComer (by omega) (fun c ec hc => ?_) (fun ny => ?_)
  · refine g_if_ne (tgt := 9) dX10_has_4 (by decide) (fun _ => ?_) (fun q => absurd q (by decide))
    subst ec
    refine g_aload_n dX10_has_9 rfl ?_
    refine g_cV0v dX10_has_10 ml_X10_259 mi_X10_layNow mv_X10_layNow h.1 ⟨_, rfl, rfl⟩ (Nat.le_of_ble_eq_true rfl) rfl (by omega) ?_
    refine c_X10_layNow (by omega) h hx hl hb (fun w1 hs1 h1 => ?_)
    refine g_aload_n dX10_has_13 rfl ?_
    refine g_iload_n dX10_has_14 rfl ?_
    refine g_cV1i dX10_has_15 ml_X10_249 mi_X10_hasNow mv_X10_hasNow h1.1.1 ⟨_, rfl, rfl⟩ (Nat.le_of_ble_eq_true rfl) rfl (by omega) ?_
    refine c_X10_hasNow (by omega) h1 hc (fun w2 hs2 => ?_)
    refine g_iret dX10_has_18 rfl ⟨_, rfl, ?_⟩
    exact kk c rfl hc w2 ((hs1.wk (by simp) (by simp)).tr (hs2.wk (by simp) (by simp)))
  · refine g_if_ne (tgt := 9) dX10_has_4 (by decide) (fun q => absurd q (by decide)) (fun _ => ?_)
    refine g_iconst (v := -1) dX10_has_7 rfl ?_
    refine g_iret dX10_has_8 rfl ⟨_, rfl, ?_⟩
    exact k1 ny
theorem c_X10_of {d : Nat} {w : gx_W} {f : Nat → Int32} {n : Nat} {x y : Int32} {k : Int32 → gx_W → Prop} (hd : 3 ≤ d) (h : moO w) (hx : mxD w f n) (k1 : ∀ p, chOK n x y p → k (f p) w) (k0 : (∀ p, ¬ chOK n x y p) → k (-2000000000) w) : gx_C 0 0 d mX10_of [.ref 57, .int x, .int y] w (Qi k) := by
  refine gx_C_of' (L := [.ref 57, .int x, .int y]) (by decide +kernel) rfl (Nat.le_of_ble_eq_true rfl) ?_
  refine g_aload_n dX10_of_0 rfl ?_
  refine g_iload_n dX10_of_1 rfl ?_
  refine g_iload_n dX10_of_2 rfl ?_
  refine g_cV2i dX10_of_3 ml_X10_155 mi_X10_isOne mv_X10_isOne h.1 ⟨_, rfl, rfl⟩ (Nat.le_of_ble_eq_true rfl) rfl (by omega) ?_
  refine c_X10_isOne (by omega) h hx.1.1 hx.1.2.1 (fun p hp => ?_) (fun np => ?_)
  · refine g_if_eq (tgt := 18) dX10_of_6 (by decide) (fun q => absurd q (by decide)) (fun _ => ?_)
    refine g_aload_n dX10_of_9 rfl ?_
    refine g_iload_n dX10_of_10 rfl ?_
    refine g_iload_n dX10_of_11 rfl ?_
    refine g_cV2i dX10_of_12 ml_X10_141 mi_X10_valueAt mv_X10_valueAt h.1 ⟨_, rfl, rfl⟩ (Nat.le_of_ble_eq_true rfl) rfl (by omega) ?_
    refine c_X10_valueAt (by omega) h hx hp ?_
    refine g_goto (tgt := 20) dX10_of_15 (by decide) ?_
    refine g_iret dX10_of_20 rfl ⟨_, rfl, ?_⟩
    exact k1 p hp
  · refine g_if_eq (tgt := 18) dX10_of_6 (by decide) (fun _ => ?_) (fun q => absurd q (by decide))
    refine g_ldc dX10_of_18 ct_X10_165 ?_
    refine g_iret dX10_of_20 rfl ⟨_, rfl, ?_⟩
    exact k0 np
theorem c_X10_feed {d : Nat} {w : gx_W} {T : Nat} {g : Nat → Int32} {x : Int32} {k : Int32 → gx_W → Prop} (hd : 1 ≤ d) (h : moO w) (ht : prT w T g) (k1 : (∀ m, m ≤ 255 → x ≠ nI m) → k (-1) w) (k2 : ∀ m, x = nI m → m ≤ 255 → T = 120 → k (-3) w) (k3 : ∀ m, x = nI m → m ≤ 255 → T < 120 → k (nI (T + 1)) (s_i (s_a w 67 (va_up (w_a w 67) T x.toInt8.toInt32)) 57 14 (nI (T + 1)))) : gx_C 0 0 d mX10_feed [.ref 57, .int x] w (Qi k) := by
  refine gx_C_of' (L := [.ref 57, .int x]) (by decide +kernel) rfl (Nat.le_of_ble_eq_true rfl) ?_
  refine g_iload_n dX10_feed_0 rfl ?_
  refine g_iconst (v := 0) dX10_feed_1 rfl ?_
  refine g_sipush (v := 255) dX10_feed_2 rfl ?_
  refine g_cS3i dX10_feed_5 ml_X10_124 mi_X10_in ms_X10_in (Nat.le_of_ble_eq_true rfl) rfl (by omega) ?_
  refine c_inN (H := 255) rfl (by decide) (fun m em hm => ?_) (fun nx => ?_)
  · refine g_if_ne (tgt := 13) dX10_feed_8 (by decide) (fun _ => ?_) (fun q => absurd q (by decide))
    refine g_aload_n dX10_feed_13 rfl ?_
    refine g_geti dX10_feed_14 fl_X10_166 h.1 ?_
    rw [ht.1]
    refine g_bipush (v := 120) dX10_feed_17 rfl ?_
    refine g_icmp_ne (tgt := 25) dX10_feed_19 (by decide) (fun zc19 => ?_) (fun zc19 => ?_)
    · have hT1 : T < 120 := by have := ht.2.1; rcases Nat.lt_or_ge T 120 with q | q; exact q; exact absurd (show nI T = 120 by rw [show T = 120 by omega]; rfl) zc19
      refine g_aload_n dX10_feed_25 rfl ?_
      refine g_getr dX10_feed_26 fl_X10_39 h.1 (moR_67 h) ?_
      refine g_aload_n dX10_feed_29 rfl ?_
      refine g_geti dX10_feed_30 fl_X10_166 h.1 ?_
      rw [ht.1]
      refine g_iload_n dX10_feed_33 rfl ?_
      refine g_i2b dX10_feed_34 ?_
      refine g_bast dX10_feed_35 (moA_67 h) (vp_in_nI (by omega) (by decide)) ?_
      rw [nI_n (show T < 2 ^ 31 by have := ht.2.1; omega), show vp_nar .byte x.toInt8.toInt32 = x.toInt8.toInt32 from by show x.toInt8.toInt32.toInt8.toInt32 = _; rw [Int8.toInt8_toInt32]]
      refine g_aload_n dX10_feed_36 rfl ?_
      refine g_dup dX10_feed_37 rfl ?_
      refine g_geti dX10_feed_38 fl_X10_166 h.1 ?_
      rw [show w_i (s_a w 67 (va_up (w_a w 67) T x.toInt8.toInt32)) 57 14 = nI T from ht.1]
      refine g_iconst (v := 1) dX10_feed_41 rfl ?_
      refine g_iadd dX10_feed_42 ?_
      rw [nI_1]
      refine g_puti dX10_feed_43 fl_X10_166 ft_10_14 h.1 ?_
      refine g_aload_n dX10_feed_46 rfl ?_
      refine g_geti dX10_feed_47 fl_X10_166 h.1 ?_
      rw [wi_si, if_pos ⟨rfl, rfl⟩]
      refine g_iret dX10_feed_50 rfl ⟨_, rfl, ?_⟩
      exact k3 m em hm hT1
    · refine g_bipush (v := -3) dX10_feed_22 rfl ?_
      refine g_iret dX10_feed_24 rfl ⟨_, rfl, ?_⟩
      exact k2 m em hm (pI_inj (a := T) (b := 120) (by have := ht.2.1; omega) (by decide) zc19)
  · refine g_if_ne (tgt := 13) dX10_feed_8 (by decide) (fun q => absurd q (by decide)) (fun _ => ?_)
    refine g_iconst (v := -1) dX10_feed_11 rfl ?_
    refine g_iret dX10_feed_12 rfl ⟨_, rfl, ?_⟩
    exact k1 nx
theorem c_X10_led {d : Nat} {w : gx_W} {x : Int32} {k : Int32 → gx_W → Prop} (hd : 1 ≤ d) (h : moO w) (k4 : x = 4 → k (w_i w 57 37) w) (k1 : ∀ i, x = nI i → i < 4 → k (w_a w 82 i) w) (k0 : (∀ i, i < 5 → x ≠ nI i) → k (-2000000000) w) : gx_C 0 0 d mX10_led [.ref 57, .int x] w (Qi k) := by
  refine gx_C_of' (L := [.ref 57, .int x]) (by decide +kernel) rfl (Nat.le_of_ble_eq_true rfl) ?_
  refine g_iload_n dX10_led_0 rfl ?_
  refine g_iconst (v := 4) dX10_led_1 rfl ?_
  refine g_icmp_ne (tgt := 12) dX10_led_2 (by decide) (fun zc2 => ?_) (fun zc2 => ?_)
  · refine g_iload_n dX10_led_12 rfl ?_
    refine g_iconst (v := 0) dX10_led_13 rfl ?_
    refine g_iconst (v := 3) dX10_led_14 rfl ?_
    refine g_cS3i dX10_led_15 ml_X10_124 mi_X10_in ms_X10_in (Nat.le_of_ble_eq_true rfl) rfl (by omega) ?_
    refine c_inN (H := 3) rfl (by decide) (fun m em hm => ?_) (fun nx => ?_)
    · refine g_if_eq (tgt := 30) dX10_led_18 (by decide) (fun q => absurd q (by decide)) (fun _ => ?_)
      subst em
      refine g_aload_n dX10_led_21 rfl ?_
      refine g_getr dX10_led_22 fl_X10_86 h.1 (moR_82 h) ?_
      refine g_iload_n dX10_led_25 rfl ?_
      refine g_iald dX10_led_26 (moA_82 h) (vp_in_nI (by omega) (by decide)) ?_
      refine g_goto (tgt := 32) dX10_led_27 (by decide) ?_
      refine g_iret dX10_led_32 rfl ⟨_, rfl, ?_⟩
      rw [nI_n (by omega)]
      exact k1 m rfl (by omega)
    · refine g_if_eq (tgt := 30) dX10_led_18 (by decide) (fun _ => ?_) (fun q => absurd q (by decide))
      refine g_ldc dX10_led_30 ct_X10_165 ?_
      refine g_iret dX10_led_32 rfl ⟨_, rfl, ?_⟩
      refine k0 (fun i hi e => ?_)
      rcases Nat.lt_or_ge i 4 with q | q
      · exact nx i (by omega) e
      · exact zc2 (by rw [e, show i = 4 by omega]; rfl)
  · refine g_aload_n dX10_led_5 rfl ?_
    refine g_geti dX10_led_6 fl_X10_89 h.1 ?_
    refine g_goto (tgt := 32) dX10_led_9 (by decide) ?_
    refine g_iret dX10_led_32 rfl ⟨_, rfl, ?_⟩
    exact k4 zc2
theorem c_X10_count {d : Nat} {w : gx_W} {x : Int32} {k : Int32 → gx_W → Prop} (hd : 0 ≤ d) (h : moO w) (k0 : x = 0 → k (w_i w 57 1) w) (k1 : x = 1 → k (w_i w 57 14) w) (k2 : x = 2 → k (w_i w 57 7) w) (k3 : x = 3 → k (w_i w 57 43) w) (k4 : x = 4 → k (w_i w 57 45) w) (k5 : ¬ x = 0 → ¬ x = 1 → ¬ x = 2 → ¬ x = 3 → ¬ x = 4 → k (-1) w) : gx_C 0 0 d mX10_count [.ref 57, .int x] w (Qi k) := by
  refine gx_C_of' (L := [.ref 57, .int x]) (by decide +kernel) rfl (Nat.le_of_ble_eq_true rfl) ?_
  refine g_iload_n dX10_count_0 rfl ?_
  by_cases s1_0 : x = 0
  · refine g_tableIn (off := 35) (tgt := 36) dX10_count_1 (by rw [s1_0]; decide) (by rw [s1_0]; decide) (by rw [s1_0]; rfl) (by decide) ?_
    refine g_aload_n dX10_count_36 rfl ?_
    refine g_geti dX10_count_37 fl_X10_121 h.1 ?_
    refine g_iret dX10_count_40 rfl ⟨_, rfl, ?_⟩
    exact k0 s1_0
  by_cases s1_1 : x = 1
  · refine g_tableIn (off := 40) (tgt := 41) dX10_count_1 (by rw [s1_1]; decide) (by rw [s1_1]; decide) (by rw [s1_1]; rfl) (by decide) ?_
    refine g_aload_n dX10_count_41 rfl ?_
    refine g_geti dX10_count_42 fl_X10_166 h.1 ?_
    refine g_iret dX10_count_45 rfl ⟨_, rfl, ?_⟩
    exact k1 s1_1
  by_cases s1_2 : x = 2
  · refine g_tableIn (off := 45) (tgt := 46) dX10_count_1 (by rw [s1_2]; decide) (by rw [s1_2]; decide) (by rw [s1_2]; rfl) (by decide) ?_
    refine g_aload_n dX10_count_46 rfl ?_
    refine g_geti dX10_count_47 fl_X10_148 h.1 ?_
    refine g_iret dX10_count_50 rfl ⟨_, rfl, ?_⟩
    exact k2 s1_2
  by_cases s1_3 : x = 3
  · refine g_tableIn (off := 50) (tgt := 51) dX10_count_1 (by rw [s1_3]; decide) (by rw [s1_3]; decide) (by rw [s1_3]; rfl) (by decide) ?_
    refine g_aload_n dX10_count_51 rfl ?_
    refine g_geti dX10_count_52 fl_X10_333 h.1 ?_
    refine g_iret dX10_count_55 rfl ⟨_, rfl, ?_⟩
    exact k3 s1_3
  by_cases s1_4 : x = 4
  · refine g_tableIn (off := 55) (tgt := 56) dX10_count_1 (by rw [s1_4]; decide) (by rw [s1_4]; decide) (by rw [s1_4]; rfl) (by decide) ?_
    refine g_aload_n dX10_count_56 rfl ?_
    refine g_geti dX10_count_57 fl_X10_336 h.1 ?_
    refine g_iret dX10_count_60 rfl ⟨_, rfl, ?_⟩
    exact k4 s1_4
  refine g_tableOut (tgt := 61) dX10_count_1 (by have z0 := lv_neT s1_0 (a := 0) (by decide); have z1 := lv_neT s1_1 (a := 1) (by decide); have z2 := lv_neT s1_2 (a := 2) (by decide); have z3 := lv_neT s1_3 (a := 3) (by decide); have z4 := lv_neT s1_4 (a := 4) (by decide); omega) (by decide) ?_
  refine g_iconst (v := -1) dX10_count_61 rfl ?_
  refine g_iret dX10_count_62 rfl ⟨_, rfl, ?_⟩
  exact k5 s1_0 s1_1 s1_2 s1_3 s1_4
theorem c_X10_trace {d : Nat} {w : gx_W} {R : Nat} {x : Int32} {k : Int32 → gx_W → Prop} (hd : 0 ≤ d) (h : moO w) (hr : w_i w 57 45 = nI R) (hR : R < 2 ^ 30) (kt : ∀ m, x = nI m → m < R → m < 24 → k (w_a w 86 m) w) (kf : (∀ m, m < R → m < 24 → x ≠ nI m) → k (-1) w) : gx_C 0 0 d mX10_trace [.ref 57, .int x] w (Qi k) := by
  refine gx_C_of' (L := [.ref 57, .int x]) (by decide +kernel) rfl (Nat.le_of_ble_eq_true rfl) ?_
  refine g_iload_n dX10_trace_0 rfl ?_
  refine g_if_lt (tgt := 27) dX10_trace_1 (by decide) (fun zc1 => ?_) (fun zc1 => ?_)
  · refine g_iconst (v := -1) dX10_trace_27 rfl ?_
    refine g_iret dX10_trace_28 rfl ⟨_, rfl, ?_⟩
    exact kf (fun m _ hm e => absurd zc1 (by rw [e]; exact nI_pos (by omega)))
  · obtain ⟨m, hm, em⟩ := nI_of zc1
    subst em
    refine g_iload_n dX10_trace_4 rfl ?_
    refine g_aload_n dX10_trace_5 rfl ?_
    refine g_geti dX10_trace_6 fl_X10_336 h.1 ?_
    rw [hr]
    refine g_icmp_ge (tgt := 27) dX10_trace_9 (by decide) (fun zc9 => ?_) (fun zc9 => ?_)
    · refine g_iconst (v := -1) dX10_trace_27 rfl ?_
      refine g_iret dX10_trace_28 rfl ⟨_, rfl, ?_⟩
      exact kf (fun i hi hi2 e => absurd zc9 (by rw [e]; exact nI_ge hi (by omega)))
    · refine g_iload_n dX10_trace_12 rfl ?_
      refine g_bipush (v := 24) dX10_trace_13 rfl ?_
      refine g_icmp_ge (tgt := 27) dX10_trace_15 (by decide) (fun zc15 => ?_) (fun zc15 => ?_)
      · refine g_iconst (v := -1) dX10_trace_27 rfl ?_
        refine g_iret dX10_trace_28 rfl ⟨_, rfl, ?_⟩
        exact kf (fun i hi hi2 e => absurd (show nI 24 ≤ nI m from zc15) (by rw [e]; exact nI_ge hi2 (by omega)))
      · refine g_aload_n dX10_trace_18 rfl ?_
        refine g_getr dX10_trace_19 fl_X10_102 h.1 (moR_86 h) ?_
        refine g_iload_n dX10_trace_22 rfl ?_
        refine g_iald dX10_trace_23 (moA_86 h) (vp_in_nI (by rcases Nat.lt_or_ge m 24 with q | q; exact q; exact absurd (nI_le q (by omega)) zc15) (by decide)) ?_
        refine g_goto (tgt := 28) dX10_trace_24 (by decide) ?_
        refine g_iret dX10_trace_28 rfl ⟨_, rfl, ?_⟩
        rw [nI_n hm]
        exact kt m rfl (by rcases Nat.lt_or_ge m R with q | q; exact q; exact absurd (nI_le q (by omega)) zc9) (by rcases Nat.lt_or_ge m 24 with q | q; exact q; exact absurd (nI_le q (by omega)) zc15)
theorem c_X10_body {d : Nat} {w : gx_W} {nb : Nat} {x : Int32} {k : Int32 → gx_W → Prop} (hd : 1 ≤ d) (h : moO w) (hn : w_i w 57 43 = nI nb) (hn5 : nb ≤ 50) (k1 : (∀ m, m ≤ 7 → x ≠ nI m) → k (-1) w) (k2 : ∀ m, x = nI m → m ≤ 7 → nb = 50 → k (-3) w) (k3 : ∀ m, x = nI m → m ≤ 7 → nb < 50 → k (nI nb) (s_i (s_a w 85 (va_up (w_a w 85) nb x)) 57 43 (nI (nb + 1)))) : gx_C 0 0 d mX10_body [.ref 57, .int x] w (Qi k) := by
  refine gx_C_of' (L := [.ref 57, .int x]) (by decide +kernel) rfl (Nat.le_of_ble_eq_true rfl) ?_
  refine g_iload_n dX10_body_0 rfl ?_
  refine g_iconst (v := 0) dX10_body_1 rfl ?_
  refine g_bipush (v := 7) dX10_body_2 rfl ?_
  refine g_cS3i dX10_body_4 ml_X10_124 mi_X10_in ms_X10_in (Nat.le_of_ble_eq_true rfl) rfl (by omega) ?_
  refine c_inN (H := 7) rfl (by decide) (fun m em hm => ?_) (fun nx => ?_)
  · refine g_if_ne (tgt := 12) dX10_body_7 (by decide) (fun _ => ?_) (fun q => absurd q (by decide))
    refine g_aload_n dX10_body_12 rfl ?_
    refine g_geti dX10_body_13 fl_X10_333 h.1 ?_
    rw [hn]
    refine g_bipush (v := 50) dX10_body_16 rfl ?_
    refine g_icmp_ne (tgt := 24) dX10_body_18 (by decide) (fun zc18 => ?_) (fun zc18 => ?_)
    · have hT1 : nb < 50 := by rcases Nat.lt_or_ge nb 50 with q | q; exact q; exact absurd (show nI nb = 50 by rw [show nb = 50 by omega]; rfl) zc18
      refine g_aload_n dX10_body_24 rfl ?_
      refine g_getr dX10_body_25 fl_X10_99 h.1 (moR_85 h) ?_
      refine g_aload_n dX10_body_28 rfl ?_
      refine g_geti dX10_body_29 fl_X10_333 h.1 ?_
      rw [hn]
      refine g_iload_n dX10_body_32 rfl ?_
      refine g_iast dX10_body_33 (moA_85 h) (vp_in_nI (by omega) (by decide)) ?_
      rw [nI_n (show nb < 2 ^ 31 by omega)]
      refine g_aload_n dX10_body_34 rfl ?_
      refine g_dup dX10_body_35 rfl ?_
      refine g_geti dX10_body_36 fl_X10_333 h.1 ?_
      rw [show w_i (s_a w 85 (va_up (w_a w 85) nb x)) 57 43 = nI nb from hn]
      refine g_iconst (v := 1) dX10_body_39 rfl ?_
      refine g_iadd dX10_body_40 ?_
      rw [nI_1]
      refine g_puti dX10_body_41 fl_X10_333 ft_10_43 h.1 ?_
      refine g_aload_n dX10_body_44 rfl ?_
      refine g_geti dX10_body_45 fl_X10_333 h.1 ?_
      rw [wi_si, if_pos ⟨rfl, rfl⟩]
      refine g_iconst (v := 1) dX10_body_48 rfl ?_
      refine g_isub dX10_body_49 ?_
      rw [nI_pred]
      refine g_iret dX10_body_50 rfl ⟨_, rfl, ?_⟩
      exact k3 m em hm hT1
    · refine g_bipush (v := -3) dX10_body_21 rfl ?_
      refine g_iret dX10_body_23 rfl ⟨_, rfl, ?_⟩
      exact k2 m em hm (pI_inj (a := nb) (b := 50) (by omega) (by decide) zc18)
  · refine g_if_ne (tgt := 12) dX10_body_7 (by decide) (fun q => absurd q (by decide)) (fun _ => ?_)
    refine g_iconst (v := -1) dX10_body_10 rfl ?_
    refine g_iret dX10_body_11 rfl ⟨_, rfl, ?_⟩
    exact k1 nx
theorem c_X10_keep {d : Nat} {w : gx_W} {nb : Nat} {x y : Int32} {k : Int32 → gx_W → Prop} (hd : 2 ≤ d) (h : moO w) (hn : w_i w 57 43 = nI nb) (hn5 : nb ≤ 50) (k1 : (∀ m, m < 6 → x ≠ nI m) → k (-1) w) (k2 : ¬ y = -1 → (∀ m, m < nb → y ≠ nI m) → k (-1) w) (k3 : ∀ i, x = nI i → i < 6 → y = -1 → k 1 (s_a w 87 (va_up (w_a w 87) i (-1)))) (k4 : ∀ i m, x = nI i → i < 6 → y = nI m → m < nb → k 1 (s_a w 87 (va_up (w_a w 87) i (nI m)))) : gx_C 0 0 d mX10_keep [.ref 57, .int x, .int y] w (Qi k) := by
  refine gx_C_of' (L := [.ref 57, .int x, .int y]) (by decide +kernel) rfl (Nat.le_of_ble_eq_true rfl) ?_
  refine g_iload_n dX10_keep_0 rfl ?_
  refine g_cS1i dX10_keep_1 ml_X10_136 mi_X10_isShelf ms_X10_isShelf (Nat.le_of_ble_eq_true rfl) rfl (by omega) ?_
  refine c_X10_isShelf (by omega) (fun i ei hi => ?_) (fun nx => ?_)
  · refine g_if_eq (tgt := 20) dX10_keep_4 (by decide) (fun q => absurd q (by decide)) (fun _ => ?_)
    refine g_iload_n dX10_keep_7 rfl ?_
    refine g_iconst (v := -1) dX10_keep_8 rfl ?_
    refine g_icmp_eq (tgt := 22) dX10_keep_9 (by decide) (fun zc9 => ?_) (fun zc9 => ?_)
    · subst ei
      refine g_aload_n dX10_keep_22 rfl ?_
      refine g_getr dX10_keep_23 fl_X10_105 h.1 (moR_87 h) ?_
      refine g_iload_n dX10_keep_26 rfl ?_
      refine g_iload_n dX10_keep_27 rfl ?_
      refine g_iast dX10_keep_28 (moA_87 h) (vp_in_nI (by omega) (by decide)) ?_
      rw [nI_n (by omega)]
      refine g_iconst (v := 1) dX10_keep_29 rfl ?_
      refine g_iret dX10_keep_30 rfl ⟨_, rfl, ?_⟩
      rw [zc9]
      exact k3 i rfl hi zc9
    · refine g_aload_n dX10_keep_12 rfl ?_
      refine g_iload_n dX10_keep_13 rfl ?_
      refine g_cV1i dX10_keep_14 ml_X10_375 mi_X10_isBody mv_X10_isBody h.1 ⟨_, rfl, rfl⟩ (Nat.le_of_ble_eq_true rfl) rfl (by omega) ?_
      refine c_X10_isBody (by omega) h hn hn5 (fun m em hm => ?_) (fun ny => ?_)
      · refine g_if_ne (tgt := 22) dX10_keep_17 (by decide) (fun _ => ?_) (fun q => absurd q (by decide))
        subst ei
        refine g_aload_n dX10_keep_22 rfl ?_
        refine g_getr dX10_keep_23 fl_X10_105 h.1 (moR_87 h) ?_
        refine g_iload_n dX10_keep_26 rfl ?_
        refine g_iload_n dX10_keep_27 rfl ?_
        refine g_iast dX10_keep_28 (moA_87 h) (vp_in_nI (by omega) (by decide)) ?_
        rw [nI_n (by omega)]
        refine g_iconst (v := 1) dX10_keep_29 rfl ?_
        refine g_iret dX10_keep_30 rfl ⟨_, rfl, ?_⟩
        subst em
        exact k4 i m rfl hi rfl hm
      · refine g_if_ne (tgt := 22) dX10_keep_17 (by decide) (fun q => absurd q (by decide)) (fun _ => ?_)
        refine g_iconst (v := -1) dX10_keep_20 rfl ?_
        refine g_iret dX10_keep_21 rfl ⟨_, rfl, ?_⟩
        exact k2 zc9 ny
  · refine g_if_eq (tgt := 20) dX10_keep_4 (by decide) (fun _ => ?_) (fun q => absurd q (by decide))
    refine g_iconst (v := -1) dX10_keep_20 rfl ?_
    refine g_iret dX10_keep_21 rfl ⟨_, rfl, ?_⟩
    exact k1 nx

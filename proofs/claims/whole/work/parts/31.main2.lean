/-! CrossroadsChoose: the short calls -/
theorem g_cS3l {nc ns d : Nat} {M M' : gx_M} {Q : Option Value → gx_W → Prop} {pc idx : Nat} {L st : List Value} {w : gx_W} {a b c : Value} (hd : gx_d M pc (.invokestatic idx) 3) (hl : gx_ML M.1.cls idx M'.1) (hm : gx_MI M' 3) (hst : Cond.static M'.1 ∈ gx_T) (hcat : (st.map fun v => v.category).sum ≤ 8) (hL0 : L.length = M.2.2.1) (h1 : 1 ≤ d) (kk : gx_C 0 0 (d - 1) M' [a, b, c] w (Ql fun v w' => gx_G nc ns d M Q (pc + 3) L (.long v :: st) w')) : gx_G nc ns d M Q pc L (c :: b :: a :: st) w :=
  g_callS (mc := 0) (ms := 0) (d' := d - 1) (as := [a, b, c]) hd hl hm hst rfl rfl hcat hL0 (by omega) (gx_C_mono (fun r w' h => by obtain ⟨v, e, h⟩ := h; subst e; exact h) kk)
theorem isCo_ex {x : Int32} (h : isCo x = true) : ∃ c, c < 100 ∧ x = nI c := by
  simp only [isCo, Bool.and_eq_true, Bool.not_eq_true', decide_eq_false_iff_not] at h
  exact pI_cases (n := 100) (by decide) h.1 (Int32.not_le.mp h.2)
theorem isCo_nI {c : Nat} (h : c < 100) : isCo (nI c) = true := by
  simp only [isCo, Bool.and_eq_true, Bool.not_eq_true', decide_eq_false_iff_not]
  exact ⟨nI_pos (by omega), nI_ge (b := 100) h (by decide)⟩
theorem c_isComer {d : Nat} {w : gx_W} {x : Int32} {k : Int32 → gx_W → Prop} (kt : ∀ c, x = nI c → c < 100 → k 1 w) (kf : (∀ c, c < 100 → x ≠ nI c) → k 0 w) : gx_C 0 0 d mX9_isComer [.int x] w (Qi k) := by
  refine c_X9_isComer (Nat.zero_le _) (fun e => ?_) (fun e => kf (fun c hc q => e (by rw [q]; exact isCo_nI hc)))
  obtain ⟨c, hc, ex⟩ := isCo_ex e
  exact kt c ex hc
theorem c_X9_of {d : Nat} {w : gx_W} {n l N : Nat} {x y : Int32} {k : Int32 → gx_W → Prop} (hd : 2 ≤ d) (h : clO w) (hc : isCk w 37 38 n l N) (h1 : ∀ q m : Nat, y = nI q → x = nI m → q < 4 → m < n → k (w_a w 38 (q * 6 + m)) w) (h2 : ∀ q : Nat, y = nI q → x = 0 → 4 ≤ q → q < 8 → k (w_a w 38 (20 + q)) w) (h3 : (∀ q m : Nat, q < 4 → m < n → y = nI q → x = nI m → False) → (∀ q : Nat, 4 ≤ q → q < 8 → y = nI q → x = 0 → False) → k (-2000000000) w) : gx_C 0 0 d mX9_of [.ref 6, .int x, .int y] w (Qi k) := by
  refine gx_C_of' (L := [.ref 6, .int x, .int y]) (by decide +kernel) rfl (Nat.le_of_ble_eq_true rfl) ?_
  refine g_aload_n dX9_of_0 rfl ?_
  refine g_getr dX9_of_1 fl_X9_67 h.1 h.2.1.1 ?_
  refine g_iload_n dX9_of_4 rfl ?_
  refine g_iload_n dX9_of_5 rfl ?_
  refine g_cV2i dX9_of_6 ml_X9_112 mi_X2_number mv_X2_number hc.1.1.1.1 ⟨_, rfl, rfl⟩ (Nat.le_of_ble_eq_true rfl) rfl (by omega) ?_
  refine c_X2_number (by omega) hc.1.1 (fun q m e1 e2 hq hm => ?_) (fun q e1 e2 hq1 hq2 => ?_) (fun n1 n2 => ?_)
  · refine g_iret dX9_of_9 rfl ⟨_, rfl, ?_⟩
    exact h1 q m e1 e2 hq hm
  · refine g_iret dX9_of_9 rfl ⟨_, rfl, ?_⟩
    exact h2 q e1 e2 hq1 hq2
  · refine g_iret dX9_of_9 rfl ⟨_, rfl, ?_⟩
    exact h3 n1 n2
theorem c_X9_road {d : Nat} {w : gx_W} {n l N : Nat} {x y : Int32} {k : Int32 → gx_W → Prop} (hd : 3 ≤ d) (h : clO w) (hc : isCk w 37 38 n l N) (hT : isT w) (k1 : ¬ (me_fits 0 x = true ∧ me_fits 2 y = true) → k (-1) w) (k2 : me_fits 0 x = true → me_fits 2 y = true → n = 6 → k (-3) w) (k3 : me_fits 0 x = true → me_fits 2 y = true → n < 6 → k (nI n) (s_a (s_i w 37 1 (nI (n + 1))) 38 (cr_put (w_a w 38) n x 1 y))) : gx_C 0 0 d mX9_road [.ref 6, .int x, .int y] w (Qi k) := by
  refine gx_C_of' (L := [.ref 6, .int x, .int y]) (by decide +kernel) rfl (Nat.le_of_ble_eq_true rfl) ?_
  refine g_iconst (v := 0) dX9_road_0 rfl ?_
  refine g_iload_n dX9_road_1 rfl ?_
  refine g_cS2i dX9_road_2 ml_X9_79 mi_X9_fits ms_X9_fits (Nat.le_of_ble_eq_true rfl) rfl (by omega) ?_
  refine c_X9_fits (by omega) hT (fun e2 => ?_) (fun e2 => ?_)
  · refine g_if_eq (tgt := 16) dX9_road_5 (by decide) (fun q => absurd q (by decide)) (fun _ => ?_)
    refine g_iconst (v := 2) dX9_road_8 rfl ?_
    refine g_iload_n dX9_road_9 rfl ?_
    refine g_cS2i dX9_road_10 ml_X9_79 mi_X9_fits ms_X9_fits (Nat.le_of_ble_eq_true rfl) rfl (by omega) ?_
    refine c_X9_fits (by omega) hT (fun e10 => ?_) (fun e10 => ?_)
    · refine g_if_ne (tgt := 18) dX9_road_13 (by decide) (fun _ => ?_) (fun q => absurd q (by decide))
      refine g_aload_n dX9_road_18 rfl ?_
      refine g_getr dX9_road_19 fl_X9_67 h.1 h.2.1.1 ?_
      refine g_cV0i dX9_road_22 ml_X9_83 mi_X2_isFull mv_X2_isFull hc.1.1.1.1 ⟨_, rfl, rfl⟩ (Nat.le_of_ble_eq_true rfl) rfl (by omega) ?_
      refine c_X2_isFull (by omega) hc.1.1 (fun f => ?_) (fun f => ?_)
      · refine g_if_eq (tgt := 33) dX9_road_25 (by decide) (fun q => absurd q (by decide)) (fun _ => ?_)
        refine g_bipush (v := -3) dX9_road_28 rfl ?_
        refine g_goto (tgt := 43) dX9_road_30 (by decide) ?_
        refine g_iret dX9_road_43 rfl ⟨_, rfl, ?_⟩
        exact k2 e2 e10 f
      · refine g_if_eq (tgt := 33) dX9_road_25 (by decide) (fun _ => ?_) (fun q => absurd q (by decide))
        refine g_aload_n dX9_road_33 rfl ?_
        refine g_getr dX9_road_34 fl_X9_67 h.1 h.2.1.1 ?_
        refine g_iload_n dX9_road_37 rfl ?_
        refine g_iconst (v := 1) dX9_road_38 rfl ?_
        refine g_iload_n dX9_road_39 rfl ?_
        refine g_cV3i dX9_road_40 ml_X9_87 mi_X2_add mv_X2_add hc.1.1.1.1 ⟨_, rfl, rfl⟩ (Nat.le_of_ble_eq_true rfl) rfl (by omega) ?_
        refine c_X2_add (by omega) hc.1.1 (fun g => ?_) (fun g => ?_)
        · refine g_iret dX9_road_43 rfl ⟨_, rfl, ?_⟩
          exact k3 e2 e10 f
        · refine g_iret dX9_road_43 rfl ⟨_, rfl, ?_⟩
          omega
    · refine g_if_ne (tgt := 18) dX9_road_13 (by decide) (fun q => absurd q (by decide)) (fun _ => ?_)
      refine g_iconst (v := -1) dX9_road_16 rfl ?_
      refine g_iret dX9_road_17 rfl ⟨_, rfl, ?_⟩
      exact k1 (fun q => by rw [e10] at q; cases q.2)
  · refine g_if_eq (tgt := 16) dX9_road_5 (by decide) (fun _ => ?_) (fun q => absurd q (by decide))
    refine g_iconst (v := -1) dX9_road_16 rfl ?_
    refine g_iret dX9_road_17 rfl ⟨_, rfl, ?_⟩
    exact k1 (fun q => by rw [e2] at q; cases q.1)
theorem c_X9_isPair {d : Nat} {w : gx_W} {n l N : Nat} {x : Int32} {k : Int32 → gx_W → Prop} (hd : 1 ≤ d) (h : clO w) (hc : isCk w 37 38 n l N) (kt : ∀ q c, x = nI (100 * q + c) → c < 100 → q < n → k 1 w) (kf : (∀ q c, c < 100 → q < n → x ≠ nI (100 * q + c)) → k 0 w) : gx_C 0 0 d mX9_isPair [.ref 6, .int x] w (Qi k) := by
  refine gx_C_of' (L := [.ref 6, .int x]) (by decide +kernel) rfl (Nat.le_of_ble_eq_true rfl) ?_
  have hn := hc.1.1.2.2
  refine g_iload_n dX9_isPair_0 rfl ?_
  refine g_if_lt (tgt := 22) dX9_isPair_1 (by decide) (fun zc1 => ?_) (fun zc1 => ?_)
  · refine g_iconst (v := 0) dX9_isPair_22 rfl ?_
    refine g_zret dX9_isPair_23 rfl (Or.inl rfl) ⟨_, rfl, ?_⟩
    refine kf (fun q c hc1 hq e => ?_)
    rw [e] at zc1
    exact absurd zc1 (nI_pos (by omega))
  · refine g_aload_n dX9_isPair_4 rfl ?_
    refine g_getr dX9_isPair_5 fl_X9_67 h.1 h.2.1.1 ?_
    refine g_iload_n dX9_isPair_8 rfl ?_
    refine g_bipush (v := 100) dX9_isPair_9 rfl ?_
    refine g_idiv dX9_isPair_11 (by decide) ?_
    have h0 : 0 ≤ x.toInt := by
      have c := zc1
      rw [pI_lt] at c
      have e : (0 : Int32).toInt = 0 := by decide
      omega
    have hx : x = nI x.toInt.toNat := pI_nat h0
    have hb := pI_b x
    have hdv : x / 100 = nI (x.toInt.toNat / 100) := by
      conv => lhs; rw [hx]
      exact pk_div (d := 100) (by omega) (by decide) (by decide)
    rw [hdv]
    refine g_cV1i dX9_isPair_12 ml_X9_141 mi_X2_isRoad mv_X2_isRoad hc.1.1.1.1 ⟨_, rfl, rfl⟩ (Nat.le_of_ble_eq_true rfl) rfl (by omega) ?_
    refine c_X2_isRoad (by omega) hc.1.1 (fun m e hm => ?_) (fun hn2 => ?_)
    · refine g_if_eq (tgt := 22) dX9_isPair_15 (by decide) (fun q => absurd q (by decide)) (fun _ => ?_)
      refine g_iconst (v := 1) dX9_isPair_18 rfl ?_
      refine g_goto (tgt := 23) dX9_isPair_19 (by decide) ?_
      refine g_zret dX9_isPair_23 rfl (Or.inr rfl) ⟨_, rfl, ?_⟩
      have em : x.toInt.toNat / 100 = m := pI_inj (by omega) (by omega) e
      refine kt m (x.toInt.toNat % 100) ?_ (Nat.mod_lt _ (by decide)) hm
      rw [← em, Nat.div_add_mod]
      exact hx
    · refine g_if_eq (tgt := 22) dX9_isPair_15 (by decide) (fun _ => ?_) (fun q => absurd q (by decide))
      refine g_iconst (v := 0) dX9_isPair_22 rfl ?_
      refine g_zret dX9_isPair_23 rfl (Or.inl rfl) ⟨_, rfl, ?_⟩
      refine kf (fun q c hc1 hq e => hn2 q hq ?_)
      have e2 : x.toInt.toNat = 100 * q + c := by rw [e, nI_toInt (by omega)]; omega
      rw [e2, show (100 * q + c) / 100 = q by omega]
theorem c_X9_feed {d : Nat} {w : gx_W} {T : Nat} {g : Nat → Int32} {x : Int32} {k : Int32 → gx_W → Prop} (hd : 2 ≤ d) (h : clO w) (ht : tpK w T g) (k1 : (x < 0 ∨ 255 < x) → k (-1) w) (k2 : ¬ x < 0 → ¬ 255 < x → T = 120 → k (-3) w) (k3 : ¬ x < 0 → ¬ 255 < x → T < 120 → k (nI (T + 1)) (s_i (s_a w 8 (va_up g T x)) 7 1 (nI (T + 1)))) : gx_C 0 0 d mX9_feed [.ref 6, .int x] w (Qi k) := by
  refine gx_C_of' (L := [.ref 6, .int x]) (by decide +kernel) rfl (Nat.le_of_ble_eq_true rfl) ?_
  refine g_iload_n dX9_feed_0 rfl ?_
  refine g_if_lt (tgt := 11) dX9_feed_1 (by decide) (fun zc1 => ?_) (fun zc1 => ?_)
  · refine g_iconst (v := -1) dX9_feed_11 rfl ?_
    refine g_iret dX9_feed_12 rfl ⟨_, rfl, ?_⟩
    exact k1 (Or.inl zc1)
  · refine g_iload_n dX9_feed_4 rfl ?_
    refine g_sipush (v := 255) dX9_feed_5 rfl ?_
    refine g_icmp_le (tgt := 13) dX9_feed_8 (by decide) (fun zc8 => ?_) (fun zc8 => ?_)
    · refine g_aload_n dX9_feed_13 rfl ?_
      refine g_getr dX9_feed_14 fl_X9_10 h.1 h.2.1.2.2.1 ?_
      refine g_cV0i dX9_feed_17 ml_X9_125 mi_X6_isFull mv_X6_isFull ht.1.1 ⟨_, rfl, rfl⟩ (Nat.le_of_ble_eq_true rfl) rfl (by omega) ?_
      refine c_X6_isFull (by omega) ht (fun f => ?_) (fun f => ?_)
      · refine g_if_eq (tgt := 28) dX9_feed_20 (by decide) (fun q => absurd q (by decide)) (fun _ => ?_)
        refine g_bipush (v := -3) dX9_feed_23 rfl ?_
        refine g_goto (tgt := 36) dX9_feed_25 (by decide) ?_
        refine g_iret dX9_feed_36 rfl ⟨_, rfl, ?_⟩
        exact k2 zc1 (Int32.not_lt.mpr zc8) f
      · refine g_if_eq (tgt := 28) dX9_feed_20 (by decide) (fun _ => ?_) (fun q => absurd q (by decide))
        refine g_aload_n dX9_feed_28 rfl ?_
        refine g_getr dX9_feed_29 fl_X9_10 h.1 h.2.1.2.2.1 ?_
        refine g_iload_n dX9_feed_32 rfl ?_
        refine g_cV1i dX9_feed_33 ml_X9_126 mi_X6_add mv_X6_add ht.1.1 ⟨_, rfl, rfl⟩ (Nat.le_of_ble_eq_true rfl) rfl (by omega) ?_
        refine c_X6_add (by omega) ht (fun g => ?_) (fun g => ?_)
        · refine g_iret dX9_feed_36 rfl ⟨_, rfl, ?_⟩
          exact k3 zc1 (Int32.not_lt.mpr zc8) f
        · refine g_iret dX9_feed_36 rfl ⟨_, rfl, ?_⟩
          omega
    · refine g_iconst (v := -1) dX9_feed_11 rfl ?_
      refine g_iret dX9_feed_12 rfl ⟨_, rfl, ?_⟩
      exact k1 (Or.inr (Int32.not_le.mp zc8))
theorem c_X9_has {d : Nat} {w : gx_W} {n l N : Nat} {x : Int32} {k : Int32 → gx_W → Prop} (hd : 6 ≤ d) (h : clO w) (hc : isCk w 37 38 n l N) (k1 : (∀ c, c < 100 → x ≠ nI c) → k (-1) w) (k2 : ∀ c, x = nI c → c < 100 → ∀ w', same JR JF w w' → k (cr_has N (w_a w (l + 1)) (w_a w (l + 2)) (w_a w 38) n c) w') : gx_C 0 0 d mX9_has [.ref 6, .int x] w (Qi k) := by
  refine gx_C_of' (L := [.ref 6, .int x]) (by decide +kernel) rfl (Nat.le_of_ble_eq_true rfl) ?_
  refine g_iload_n dX9_has_0 rfl ?_
  refine g_cS1i dX9_has_1 ml_X9_145 mi_X9_isComer ms_X9_isComer (Nat.le_of_ble_eq_true rfl) rfl (by omega) ?_
  refine c_isComer (fun c ec hco => ?_) (fun nc => ?_)
  · refine g_if_eq (tgt := 18) dX9_has_4 (by decide) (fun q => absurd q (by decide)) (fun _ => ?_)
    refine g_aload_n dX9_has_7 rfl ?_
    refine g_getr dX9_has_8 fl_X9_67 h.1 h.2.1.1 ?_
    subst ec
    refine g_iload_n dX9_has_11 rfl ?_
    refine g_cV1i dX9_has_12 ml_X9_151 mi_X2_haver mv_X2_haver hc.1.1.1.1 ⟨_, rfl, rfl⟩ (Nat.le_of_ble_eq_true rfl) rfl (by omega) ?_
    refine c_X2_haver (by omega) hc.1 hco (fun w1 hs => ?_)
    refine g_goto (tgt := 19) dX9_has_15 (by decide) ?_
    refine g_iret dX9_has_19 rfl ⟨_, rfl, ?_⟩
    exact k2 c rfl hco w1 (isCk.junk hc.2 hs)
  · refine g_if_eq (tgt := 18) dX9_has_4 (by decide) (fun _ => ?_) (fun q => absurd q (by decide))
    refine g_iconst (v := -1) dX9_has_18 rfl ?_
    refine g_iret dX9_has_19 rfl ⟨_, rfl, ?_⟩
    exact k1 nc
theorem c_X9_pull {d : Nat} {w : gx_W} {n l N : Nat} {x y : Int32} {k : Int32 → gx_W → Prop} (hd : 4 ≤ d) (h : clO w) (hc : isCk w 37 38 n l N) (k1 : (∀ m, m < n → x ≠ nI m) → k (-2000000000) w) (k2 : (∀ c, c < 100 → y ≠ nI c) → k (-2000000000) w) (k3 : ∀ m c, x = nI m → m < n → y = nI c → c < 100 → ∀ w', same JR JF w w' → k (cr_want N (w_a w (l + 1)) (w_a w (l + 2)) (w_a w 38) m c) w') : gx_C 0 0 d mX9_pull [.ref 6, .int x, .int y] w (Qi k) := by
  refine gx_C_of' (L := [.ref 6, .int x, .int y]) (by decide +kernel) rfl (Nat.le_of_ble_eq_true rfl) ?_
  refine g_aload_n dX9_pull_0 rfl ?_
  refine g_getr dX9_pull_1 fl_X9_67 h.1 h.2.1.1 ?_
  refine g_iload_n dX9_pull_4 rfl ?_
  refine g_cV1i dX9_pull_5 ml_X9_141 mi_X2_isRoad mv_X2_isRoad hc.1.1.1.1 ⟨_, rfl, rfl⟩ (Nat.le_of_ble_eq_true rfl) rfl (by omega) ?_
  refine c_X2_isRoad (by omega) hc.1.1 (fun m e hm => ?_) (fun hn => ?_)
  · refine g_if_eq (tgt := 30) dX9_pull_8 (by decide) (fun q => absurd q (by decide)) (fun _ => ?_)
    refine g_iload_n dX9_pull_11 rfl ?_
    refine g_cS1i dX9_pull_12 ml_X9_145 mi_X9_isComer ms_X9_isComer (Nat.le_of_ble_eq_true rfl) rfl (by omega) ?_
    refine c_isComer (fun c ec hco => ?_) (fun nc => ?_)
    · refine g_if_eq (tgt := 30) dX9_pull_15 (by decide) (fun q => absurd q (by decide)) (fun _ => ?_)
      subst ec
      subst e
      refine g_aload_n dX9_pull_18 rfl ?_
      refine g_getr dX9_pull_19 fl_X9_67 h.1 h.2.1.1 ?_
      refine g_iload_n dX9_pull_22 rfl ?_
      refine g_iload_n dX9_pull_23 rfl ?_
      refine g_cV2i dX9_pull_24 ml_X9_148 mi_X2_wants mv_X2_wants hc.1.1.1.1 ⟨_, rfl, rfl⟩ (Nat.le_of_ble_eq_true rfl) rfl (by omega) ?_
      refine c_X2_wants (by omega) hc.1 hm hco (fun w1 hs => ?_)
      refine g_goto (tgt := 32) dX9_pull_27 (by decide) ?_
      refine g_iret dX9_pull_32 rfl ⟨_, rfl, ?_⟩
      exact k3 m c rfl hm rfl hco w1 (isCk.junk hc.2 hs)
    · refine g_if_eq (tgt := 30) dX9_pull_15 (by decide) (fun _ => ?_) (fun q => absurd q (by decide))
      refine g_ldc dX9_pull_30 ct_X9_116 ?_
      refine g_iret dX9_pull_32 rfl ⟨_, rfl, ?_⟩
      exact k2 nc
  · refine g_if_eq (tgt := 30) dX9_pull_8 (by decide) (fun _ => ?_) (fun q => absurd q (by decide))
    refine g_ldc dX9_pull_30 ct_X9_116 ?_
    refine g_iret dX9_pull_32 rfl ⟨_, rfl, ?_⟩
    exact k1 hn
theorem c_X9_second {d : Nat} {w : gx_W} {n l N : Nat} {x y : Int32} {k : Int32 → gx_W → Prop} (hd : 6 ≤ d) (h : clO w) (hc : isCk w 37 38 n l N) (k1 : (∀ c, c < 100 → x ≠ nI c) → k (-1) w) (k2 : y < 0 → k (-1) w) (k3 : ∀ c, x = nI c → c < 100 → cr_runs (w_a w 38) n c = true → y = 0 → k (w_a w 38 25) w) (k4 : ∀ c, x = nI c → c < 100 → ¬ y < 0 → cr_runs (w_a w 38) n c = true → ¬ y = 0 → k (-2) w) (k5 : ∀ c, x = nI c → c < 100 → cr_runs (w_a w 38) n c = false → ∀ w', same JR JF w w' → ∀ m, y = nI m → m < n → k (cr_road (cr_want N (w_a w (l + 1)) (w_a w (l + 2)) (w_a w 38) · c) n m) w') (k6 : ∀ c, x = nI c → c < 100 → ¬ y < 0 → cr_runs (w_a w 38) n c = false → ∀ w', same JR JF w w' → (∀ m, m < n → y ≠ nI m) → k (-2) w') : gx_C 0 0 d mX9_second [.ref 6, .int x, .int y] w (Qi k) := by
  refine gx_C_of' (L := [.ref 6, .int x, .int y]) (by decide +kernel) rfl (Nat.le_of_ble_eq_true rfl) ?_
  refine g_iload_n dX9_second_0 rfl ?_
  refine g_cS1i dX9_second_1 ml_X9_145 mi_X9_isComer ms_X9_isComer (Nat.le_of_ble_eq_true rfl) rfl (by omega) ?_
  refine c_isComer (fun c ec hco => ?_) (fun nc => ?_)
  · refine g_if_eq (tgt := 23) dX9_second_4 (by decide) (fun q => absurd q (by decide)) (fun _ => ?_)
    refine g_iload_n dX9_second_7 rfl ?_
    refine g_if_lt (tgt := 23) dX9_second_8 (by decide) (fun zc8 => ?_) (fun zc8 => ?_)
    · refine g_iconst (v := -1) dX9_second_23 rfl ?_
      refine g_iret dX9_second_24 rfl ⟨_, rfl, ?_⟩
      exact k2 zc8
    · subst ec
      refine g_aload_n dX9_second_11 rfl ?_
      refine g_getr dX9_second_12 fl_X9_67 h.1 h.2.1.1 ?_
      refine g_iload_n dX9_second_15 rfl ?_
      refine g_iload_n dX9_second_16 rfl ?_
      refine g_cV2i dX9_second_17 ml_X9_213 mi_X2_asked mv_X2_asked hc.1.1.1.1 ⟨_, rfl, rfl⟩ (Nat.le_of_ble_eq_true rfl) rfl (by omega) ?_
      refine c_X2_asked (by omega) hc.1 hco zc8 (fun r1 r2 => ?_) (fun r1 r2 => ?_) (fun r1 w1 hs m r2 r3 => ?_) (fun r1 w1 hs r2 => ?_)
      · refine g_goto (tgt := 24) dX9_second_20 (by decide) ?_
        refine g_iret dX9_second_24 rfl ⟨_, rfl, ?_⟩
        exact k3 c rfl hco r1 r2
      · refine g_goto (tgt := 24) dX9_second_20 (by decide) ?_
        refine g_iret dX9_second_24 rfl ⟨_, rfl, ?_⟩
        exact k4 c rfl hco zc8 r1 r2
      · refine g_goto (tgt := 24) dX9_second_20 (by decide) ?_
        refine g_iret dX9_second_24 rfl ⟨_, rfl, ?_⟩
        exact k5 c rfl hco r1 w1 (isCk.junk hc.2 hs) m r2 r3
      · refine g_goto (tgt := 24) dX9_second_20 (by decide) ?_
        refine g_iret dX9_second_24 rfl ⟨_, rfl, ?_⟩
        exact k6 c rfl hco zc8 r1 w1 (isCk.junk hc.2 hs) r2
  · refine g_if_eq (tgt := 23) dX9_second_4 (by decide) (fun _ => ?_) (fun q => absurd q (by decide))
    refine g_iconst (v := -1) dX9_second_23 rfl ?_
    refine g_iret dX9_second_24 rfl ⟨_, rfl, ?_⟩
    exact k1 nc
theorem c_X9_power {d : Nat} {w : gx_W} {n l N : Nat} {x y : Int32} {k : Int64 → gx_W → Prop} (hd : 5 ≤ d) (h : clO w) (hc : isCk w 37 38 n l N) (hT : isT w) (k1 : (∀ m, m < n → x ≠ nI m) → k (-9223372036854775808) w) (k2 : (y < 0 ∨ 1 < y) → k (-9223372036854775808) w) (k3 : ∀ t, x = nI t → t < n → ¬ y < 0 → ¬ 1 < y → k ((nI ((if y = 0 then vt_wy (w_a w 38) n t (2 ^ n) else vt_f n) / vt_sd (vt_wy (w_a w 38) n t (2 ^ n)) (vt_f n) (vt_f n))).toInt64) w) : gx_C 0 0 d mX9_power [.ref 6, .int x, .int y] w (Ql k) := by
  refine gx_C_of' (L := [.ref 6, .int x, .int y]) (by decide +kernel) rfl (Nat.le_of_ble_eq_true rfl) ?_
  refine g_aload_n dX9_power_0 rfl ?_
  refine g_getr dX9_power_1 fl_X9_67 h.1 h.2.1.1 ?_
  refine g_iload_n dX9_power_4 rfl ?_
  refine g_cV1i dX9_power_5 ml_X9_141 mi_X2_isRoad mv_X2_isRoad hc.1.1.1.1 ⟨_, rfl, rfl⟩ (Nat.le_of_ble_eq_true rfl) rfl (by omega) ?_
  refine c_X2_isRoad (by omega) hc.1.1 (fun m e hm => ?_) (fun hn => ?_)
  · refine g_if_eq (tgt := 20) dX9_power_8 (by decide) (fun q => absurd q (by decide)) (fun _ => ?_)
    refine g_iload_n dX9_power_11 rfl ?_
    refine g_if_lt (tgt := 20) dX9_power_12 (by decide) (fun zc12 => ?_) (fun zc12 => ?_)
    · refine g_ldc2 dX9_power_20 ct_X9_227 ?_
      refine g_lret dX9_power_23 rfl ⟨_, rfl, ?_⟩
      exact k2 (Or.inl zc12)
    · refine g_iload_n dX9_power_15 rfl ?_
      refine g_iconst (v := 1) dX9_power_16 rfl ?_
      refine g_icmp_le (tgt := 24) dX9_power_17 (by decide) (fun zc17 => ?_) (fun zc17 => ?_)
      · subst e
        refine g_aload_n dX9_power_24 rfl ?_
        refine g_getr dX9_power_25 fl_X9_67 h.1 h.2.1.1 ?_
        refine g_iload_n dX9_power_28 rfl ?_
        refine g_iload_n dX9_power_29 rfl ?_
        refine g_cS3l dX9_power_30 ml_X9_229 mi_X8_powerOf ms_X8_powerOf (Nat.le_of_ble_eq_true rfl) rfl (by omega) ?_
        refine c_X8_powerOf (by omega) hT hc.1.1 hm ?_
        refine g_lret dX9_power_33 rfl ⟨_, rfl, ?_⟩
        exact k3 m rfl hm zc12 (Int32.not_lt.mpr zc17)
      · refine g_ldc2 dX9_power_20 ct_X9_227 ?_
        refine g_lret dX9_power_23 rfl ⟨_, rfl, ?_⟩
        exact k2 (Or.inr (Int32.not_le.mp zc17))
  · refine g_if_eq (tgt := 20) dX9_power_8 (by decide) (fun _ => ?_) (fun q => absurd q (by decide))
    refine g_ldc2 dX9_power_20 ct_X9_227 ?_
    refine g_lret dX9_power_23 rfl ⟨_, rfl, ?_⟩
    exact k1 hn
theorem c_X9_winning {d : Nat} {w : gx_W} {n l N : Nat} {x : Int32} {k : Int32 → gx_W → Prop} (hd : 5 ≤ d) (h : clO w) (hc : isCk w 37 38 n l N) (k1 : (x < 0 ∨ 4 < x) → k (-1) w) (k2 : ¬ x < 0 → ¬ 4 < x → k (vt_res x (nI (2 ^ n - 1)) (vt_st (w_a w 38) n (nI (2 ^ n - 1)) (2 ^ n))) w) : gx_C 0 0 d mX9_winning [.ref 6, .int x] w (Qi k) := by
  refine gx_C_of' (L := [.ref 6, .int x]) (by decide +kernel) rfl (Nat.le_of_ble_eq_true rfl) ?_
  refine g_iload_n dX9_winning_0 rfl ?_
  refine g_if_lt (tgt := 9) dX9_winning_1 (by decide) (fun zc1 => ?_) (fun zc1 => ?_)
  · refine g_iconst (v := -1) dX9_winning_9 rfl ?_
    refine g_goto (tgt := 21) dX9_winning_10 (by decide) ?_
    refine g_iret dX9_winning_21 rfl ⟨_, rfl, ?_⟩
    exact k1 (Or.inl zc1)
  · refine g_iload_n dX9_winning_4 rfl ?_
    refine g_iconst (v := 4) dX9_winning_5 rfl ?_
    refine g_icmp_le (tgt := 13) dX9_winning_6 (by decide) (fun zc6 => ?_) (fun zc6 => ?_)
    · refine g_aload_n dX9_winning_13 rfl ?_
      refine g_getr dX9_winning_14 fl_X9_67 h.1 h.2.1.1 ?_
      refine g_iload_n dX9_winning_17 rfl ?_
      refine g_cS2i dX9_winning_18 ml_X9_235 mi_X8_winners ms_X8_winners (Nat.le_of_ble_eq_true rfl) rfl (by omega) ?_
      refine c_X8_winners (by omega) hc.1.1 ?_
      refine g_iret dX9_winning_21 rfl ⟨_, rfl, ?_⟩
      exact k2 zc1 (Int32.not_lt.mpr zc6)
    · refine g_iconst (v := -1) dX9_winning_9 rfl ?_
      refine g_goto (tgt := 21) dX9_winning_10 (by decide) ?_
      refine g_iret dX9_winning_21 rfl ⟨_, rfl, ?_⟩
      exact k1 (Or.inr (Int32.not_le.mp zc6))
theorem c_X9_trace {d : Nat} {w : gx_W} {n R : Nat} {x : Int32} {k : Int32 → gx_W → Prop} (hd : 1 ≤ d) (h : clO w) (hb : boK w n) (hr : w_i w 17 3 = nI R) (hR : R < 2 ^ 30) (kt : ∀ m, x = nI m → m < R → m < 24 → k (w_a w 19 m) w) (kf : (∀ m, m < R → m < 24 → x ≠ nI m) → k (-1) w) : gx_C 0 0 d mX9_trace [.ref 6, .int x] w (Qi k) := by
  refine gx_C_of' (L := [.ref 6, .int x]) (by decide +kernel) rfl (Nat.le_of_ble_eq_true rfl) ?_
  refine g_aload_n dX9_trace_0 rfl ?_
  refine g_getr dX9_trace_1 fl_X9_33 h.1 h.2.1.2.2.2.2.2 ?_
  refine g_iload_n dX9_trace_4 rfl ?_
  refine g_cV1i dX9_trace_5 ml_X9_295 mi_X0_traced mv_X0_traced hb.1.1 ⟨_, rfl, rfl⟩ (Nat.le_of_ble_eq_true rfl) rfl (by omega) ?_
  refine c_X0_traced (by omega) hb hr hR (fun m e h1 h2 => ?_) (fun hn => ?_)
  · refine g_iret dX9_trace_8 rfl ⟨_, rfl, ?_⟩
    exact kt m e h1 h2
  · refine g_iret dX9_trace_8 rfl ⟨_, rfl, ?_⟩
    exact kf hn
theorem c_X9_act {d : Nat} {w : gx_W} {n : Nat} {y z x : Int32} {k : Int32 → gx_W → Prop} (hd : 45 ≤ d) (hT : isT w) (h : clO w) (hb : boK w n) (hk : ∀ j, j < n → ∃ m, m < 8 ∧ w_a w 18 j = nI m) (k1 : ∀ bb c own : Nat, y = nI bb → bb < n → z = nI c → c < 4 → w_a w 18 bb = nI own → own < 8 → ∀ w', boR (s_i w 17 3 0) w' 0 (bw own (nI bb) 41 c own x).2 → k (bw own (nI bb) 41 c own x).1 w') (k2 : (∀ bb c : Nat, y = nI bb → bb < n → z = nI c → c < 4 → False) → k 0 (s_i w 17 3 0)) : gx_C 0 0 d mX9_act [.ref 6, .int y, .int z, .int x] w (Qi k) := by
  refine gx_C_of' (L := [.ref 6, .int y, .int z, .int x]) (by decide +kernel) rfl (Nat.le_of_ble_eq_true rfl) ?_
  refine g_aload_n dX9_act_0 rfl ?_
  refine g_getr dX9_act_1 fl_X9_33 h.1 h.2.1.2.2.2.2.2 ?_
  refine g_iload_n dX9_act_4 rfl ?_
  refine g_iload_n dX9_act_5 rfl ?_
  refine g_iload_n dX9_act_6 rfl ?_
  refine g_cV3i dX9_act_7 ml_X9_292 mi_X0_perform mv_X0_perform hb.1.1 ⟨_, rfl, rfl⟩ (Nat.le_of_ble_eq_true rfl) rfl (by omega) ?_
  refine c_X0_perform (by omega) hT hb hk (fun bb c own e1 e2 e3 e4 e5 e6 w1 r1 => ?_) (fun hn => ?_)
  · refine g_iret dX9_act_10 rfl ⟨_, rfl, ?_⟩
    exact k1 bb c own e1 e2 e3 e4 e5 e6 w1 r1
  · refine g_iret dX9_act_10 rfl ⟨_, rfl, ?_⟩
    exact k2 hn
theorem c_X9_body {d : Nat} {w : gx_W} {n : Nat} {x : Int32} {k : Int32 → gx_W → Prop} (hd : 2 ≤ d) (h : clO w) (hb : boK w n) (k1 : (x < 0 ∨ 8 ≤ x) → k (-1) w) (k2 : ¬ x < 0 → x < 8 → n = 50 → k (-3) w) (k3 : ¬ x < 0 → x < 8 → n < 50 → k (nI n) (s_i (s_a w 18 (va_up (w_a w 18) n x)) 17 2 (nI (n + 1)))) : gx_C 0 0 d mX9_body [.ref 6, .int x] w (Qi k) := by
  refine gx_C_of' (L := [.ref 6, .int x]) (by decide +kernel) rfl (Nat.le_of_ble_eq_true rfl) ?_
  refine g_iload_n dX9_body_0 rfl ?_
  refine g_if_lt (tgt := 10) dX9_body_1 (by decide) (fun zc1 => ?_) (fun zc1 => ?_)
  · refine g_iconst (v := -1) dX9_body_10 rfl ?_
    refine g_iret dX9_body_11 rfl ⟨_, rfl, ?_⟩
    exact k1 (Or.inl zc1)
  · refine g_iload_n dX9_body_4 rfl ?_
    refine g_bipush (v := 8) dX9_body_5 rfl ?_
    refine g_icmp_lt (tgt := 12) dX9_body_7 (by decide) (fun zc7 => ?_) (fun zc7 => ?_)
    · refine g_aload_n dX9_body_12 rfl ?_
      refine g_getr dX9_body_13 fl_X9_33 h.1 h.2.1.2.2.2.2.2 ?_
      refine g_cV0i dX9_body_16 ml_X9_290 mi_X0_isFull mv_X0_isFull hb.1.1 ⟨_, rfl, rfl⟩ (Nat.le_of_ble_eq_true rfl) rfl (by omega) ?_
      refine c_X0_isFull (by omega) hb (fun f => ?_) (fun f => ?_)
      · refine g_if_eq (tgt := 27) dX9_body_19 (by decide) (fun q => absurd q (by decide)) (fun _ => ?_)
        refine g_bipush (v := -3) dX9_body_22 rfl ?_
        refine g_goto (tgt := 35) dX9_body_24 (by decide) ?_
        refine g_iret dX9_body_35 rfl ⟨_, rfl, ?_⟩
        exact k2 zc1 zc7 f
      · refine g_if_eq (tgt := 27) dX9_body_19 (by decide) (fun _ => ?_) (fun q => absurd q (by decide))
        refine g_aload_n dX9_body_27 rfl ?_
        refine g_getr dX9_body_28 fl_X9_33 h.1 h.2.1.2.2.2.2.2 ?_
        refine g_iload_n dX9_body_31 rfl ?_
        refine g_cV1i dX9_body_32 ml_X9_291 mi_X0_add mv_X0_add hb.1.1 ⟨_, rfl, rfl⟩ (Nat.le_of_ble_eq_true rfl) rfl (by omega) ?_
        refine c_X0_add (by omega) hb (fun g => ?_) (fun g => ?_)
        · refine g_iret dX9_body_35 rfl ⟨_, rfl, ?_⟩
          exact k3 zc1 zc7 f
        · refine g_iret dX9_body_35 rfl ⟨_, rfl, ?_⟩
          omega
    · refine g_iconst (v := -1) dX9_body_10 rfl ?_
      refine g_iret dX9_body_11 rfl ⟨_, rfl, ?_⟩
      exact k1 (Or.inr (Int32.not_lt.mp zc7))
theorem c_X9_led {d : Nat} {w : gx_W} {x : Int32} {k : Int32 → gx_W → Prop} (hd : 0 ≤ d) (h : clO w) (k1 : ∀ i, x = nI i → i < 5 → k (w_a w 21 i) w) (k2 : (∀ i, i < 5 → x ≠ nI i) → k (-2000000000) w) : gx_C 0 0 d mX9_led [.ref 6, .int x] w (Qi k) := by
  refine gx_C_of' (L := [.ref 6, .int x]) (by decide +kernel) rfl (Nat.le_of_ble_eq_true rfl) ?_
  refine g_iload_n dX9_led_0 rfl ?_
  refine g_if_lt (tgt := 18) dX9_led_1 (by decide) (fun zc1 => ?_) (fun zc1 => ?_)
  · refine g_ldc dX9_led_18 ct_X9_116 ?_
    refine g_iret dX9_led_20 rfl ⟨_, rfl, ?_⟩
    refine k2 (fun i hi e => ?_)
    first
      | (rw [e] at zc1; exact absurd zc1 (nI_pos (by omega)))
      | (rw [e] at zc6; exact absurd zc6 (nI_ge (b := 5) hi (by decide)))
  · refine g_iload_n dX9_led_4 rfl ?_
    refine g_iconst (v := 5) dX9_led_5 rfl ?_
    refine g_icmp_ge (tgt := 18) dX9_led_6 (by decide) (fun zc6 => ?_) (fun zc6 => ?_)
    · refine g_ldc dX9_led_18 ct_X9_116 ?_
      refine g_iret dX9_led_20 rfl ⟨_, rfl, ?_⟩
      refine k2 (fun i hi e => ?_)
      first
        | (rw [e] at zc1; exact absurd zc1 (nI_pos (by omega)))
        | (rw [e] at zc6; exact absurd zc6 (nI_ge (b := 5) hi (by decide)))
    · obtain ⟨i, hi, ex⟩ : ∃ i, i < 5 ∧ x = nI i := pI_cases (n := 5) (by decide) zc1 (Int32.not_le.mp zc6)
      subst ex
      refine g_aload_n dX9_led_9 rfl ?_
      refine g_getr dX9_led_10 fl_X9_43 h.1 h.2.2.2.1.1 ?_
      refine g_iload_n dX9_led_13 rfl ?_
      refine g_iald dX9_led_14 h.2.2.2.1.2 (vp_in_nI hi (by decide)) ?_
      refine g_goto (tgt := 20) dX9_led_15 (by decide) ?_
      refine g_iret dX9_led_20 rfl ⟨_, rfl, ?_⟩
      rw [nI_n (by omega)]
      exact k1 i rfl hi
theorem c_X9_count {d : Nat} {w : gx_W} {n l N nb T D : Nat} {g : Nat → Int32} {x : Int32} {k : Int32 → gx_W → Prop} (hd : 0 ≤ d) (h : clO w) (hc : isCk w 37 38 n l N) (hb : boK w nb) (ht : tpK w T g) (hg : chO w) (hD : w_i w 9 4 = nI D) (k0 : x = 0 → k (nI n) w) (k1 : x = 1 → k (nI T) w) (k2 : x = 2 → k (nI D) w) (k3 : x = 3 → k (nI nb) w) (k4 : x = 4 → k (w_i w 17 3) w) (k5 : ¬ x = 0 → ¬ x = 1 → ¬ x = 2 → ¬ x = 3 → ¬ x = 4 → k (-1) w) : gx_C 0 0 d mX9_count [.ref 6, .int x] w (Qi k) := by
  refine gx_C_of' (L := [.ref 6, .int x]) (by decide +kernel) rfl (Nat.le_of_ble_eq_true rfl) ?_
  refine g_iload_n dX9_count_0 rfl ?_
  by_cases s1_0 : x = 0
  · refine g_tableIn (off := 35) (tgt := 36) dX9_count_1 (by rw [s1_0]; decide) (by rw [s1_0]; decide) (by rw [s1_0]; rfl) (by decide) ?_
    refine g_aload_n dX9_count_36 rfl ?_
    refine g_getr dX9_count_37 fl_X9_67 h.1 h.2.1.1 ?_
    refine g_geti dX9_count_40 fl_X9_196 hc.1.1.1.1 ?_
    refine g_iret dX9_count_43 rfl ⟨_, rfl, ?_⟩
    rw [hc.1.1.2.1]
    exact k0 s1_0
  by_cases s1_1 : x = 1
  · refine g_tableIn (off := 43) (tgt := 44) dX9_count_1 (by rw [s1_1]; decide) (by rw [s1_1]; decide) (by rw [s1_1]; rfl) (by decide) ?_
    refine g_aload_n dX9_count_44 rfl ?_
    refine g_getr dX9_count_45 fl_X9_10 h.1 h.2.1.2.2.1 ?_
    refine g_geti dX9_count_48 fl_X9_341 ht.1.1 ?_
    refine g_iret dX9_count_51 rfl ⟨_, rfl, ?_⟩
    rw [ht.2.1]
    exact k1 s1_1
  by_cases s1_2 : x = 2
  · refine g_tableIn (off := 51) (tgt := 52) dX9_count_1 (by rw [s1_2]; decide) (by rw [s1_2]; decide) (by rw [s1_2]; rfl) (by decide) ?_
    refine g_aload_n dX9_count_52 rfl ?_
    refine g_getr dX9_count_53 fl_X9_19 h.1 h.2.1.2.2.2.1 ?_
    refine g_geti dX9_count_56 fl_X9_281 hg.1 ?_
    refine g_iret dX9_count_59 rfl ⟨_, rfl, ?_⟩
    rw [hD]
    exact k2 s1_2
  by_cases s1_3 : x = 3
  · refine g_tableIn (off := 59) (tgt := 60) dX9_count_1 (by rw [s1_3]; decide) (by rw [s1_3]; decide) (by rw [s1_3]; rfl) (by decide) ?_
    refine g_aload_n dX9_count_60 rfl ?_
    refine g_getr dX9_count_61 fl_X9_33 h.1 h.2.1.2.2.2.2.2 ?_
    refine g_geti dX9_count_64 fl_X9_342 hb.1.1 ?_
    refine g_iret dX9_count_67 rfl ⟨_, rfl, ?_⟩
    rw [hb.2.1]
    exact k3 s1_3
  by_cases s1_4 : x = 4
  · refine g_tableIn (off := 67) (tgt := 68) dX9_count_1 (by rw [s1_4]; decide) (by rw [s1_4]; decide) (by rw [s1_4]; rfl) (by decide) ?_
    refine g_aload_n dX9_count_68 rfl ?_
    refine g_getr dX9_count_69 fl_X9_33 h.1 h.2.1.2.2.2.2.2 ?_
    refine g_geti dX9_count_72 fl_X9_345 hb.1.1 ?_
    refine g_iret dX9_count_75 rfl ⟨_, rfl, ?_⟩
    exact k4 s1_4
  refine g_tableOut (tgt := 76) dX9_count_1 (by have z0 := lv_neT s1_0 (a := 0) (by decide); have z1 := lv_neT s1_1 (a := 1) (by decide); have z2 := lv_neT s1_2 (a := 2) (by decide); have z3 := lv_neT s1_3 (a := 3) (by decide); have z4 := lv_neT s1_4 (a := 4) (by decide); omega) (by decide) ?_
  refine g_iconst (v := -1) dX9_count_76 rfl ?_
  refine g_iret dX9_count_77 rfl ⟨_, rfl, ?_⟩
  exact k5 s1_0 s1_1 s1_2 s1_3 s1_4

/-! The reference: last day judge row element put taken -/
theorem c_X10_last {d : Nat} {w : gx_W} {f : Nat → Int32} {n N : Nat} {sg va : Nat → Int32} {ln : Nat → Nat} {C : Nat → Nat → Int64} {x y : Int32} {k : Int32 → gx_W → Prop} (hd : 8 ≤ d) (h : moO w) (hx : mxD w f n) (hl : lwM w N sg va) (hb : bnd f n) (hsh : ∀ i, i < 6 → w_a w 87 i = -2 → shM w i (ln i) (C i)) (k1 : (∀ m, m < 6 → x ≠ nI m) → k (-1) w) (k2 : (∀ m, m < 61 → y ≠ nI m) → k (-1) w) (k3 : ∀ i m, x = nI i → i < 6 → y = nI m → m < 61 → w_a w 87 i = -1 → k (-11) w) (k4 : ∀ i m, x = nI i → i < 6 → y = nI m → m < 61 → ¬ w_a w 87 i = -1 → ¬ w_a w 87 i = -2 → k (-12) w) (kk : ∀ i m, x = nI i → i < 6 → y = nI m → m < 61 → w_a w 87 i = -2 → ∀ w', same [73, 74, 75, 76, 77, 78] [(57, 31)] w w' → dyS w' n N sg va (th_day N sg va n (fun j => (C i j).toInt32.toNatClampNeg) (sh_com (fun j => isCo (C i j).toInt32) (min m (ln i))) (th_00 f)) → k (th_day N sg va n (fun j => (C i j).toInt32.toNatClampNeg) (sh_com (fun j => isCo (C i j).toInt32) (min m (ln i))) (th_00 f)).2.2.2.2.2.1 w') : gx_C 0 0 d mX10_last [.ref 57, .int x, .int y] w (Qi k) := by
  refine gx_C_of' (L := [.ref 57, .int x, .int y]) (by decide +kernel) rfl (Nat.le_of_ble_eq_true rfl) ?_
  refine g_iload_n dX10_last_0 rfl ?_
  refine g_cS1i dX10_last_1 ml_X10_136 mi_X10_isShelf ms_X10_isShelf (Nat.le_of_ble_eq_true rfl) rfl (by omega) ?_
  refine c_X10_isShelf (by omega) (fun i ei hi => ?_) (fun nx => ?_)
  · refine g_if_eq (tgt := 14) dX10_last_4 (by decide) (fun q => absurd q (by decide)) (fun _ => ?_)
    refine g_iload_n dX10_last_7 rfl ?_
    refine g_cS1i dX10_last_8 ml_X10_274 mi_X10_areMany ms_X10_areMany (Nat.le_of_ble_eq_true rfl) rfl (by omega) ?_
    refine c_X10_areMany (by omega) (fun m em hm => ?_) (fun ny => ?_)
    · refine g_if_ne (tgt := 16) dX10_last_11 (by decide) (fun _ => ?_) (fun q => absurd q (by decide))
      subst ei
      subst em
      refine g_aload_n dX10_last_16 rfl ?_
      refine g_iload_n dX10_last_17 rfl ?_
      refine g_cV1i dX10_last_18 ml_X10_277 mi_X10_rowFault mv_X10_rowFault h.1 ⟨_, rfl, rfl⟩ (Nat.le_of_ble_eq_true rfl) rfl (by omega) ?_
      refine c_X10_rowFault (by omega) h hi (fun e1 => ?_) (fun e1 => ?_) (fun e1 e2 => ?_)
      · refine g_if_ge (tgt := 30) dX10_last_21 (by decide) (fun q => absurd q (by decide)) (fun _ => ?_)
        refine g_aload_n dX10_last_24 rfl ?_
        refine g_iload_n dX10_last_25 rfl ?_
        refine g_cV1i dX10_last_26 ml_X10_277 mi_X10_rowFault mv_X10_rowFault h.1 ⟨_, rfl, rfl⟩ (Nat.le_of_ble_eq_true rfl) rfl (by omega) ?_
        refine c_X10_rowFault (by omega) h hi (fun _ => ?_) (fun q => absurd (e1.symm.trans q) (by decide)) (fun q _ => absurd e1 q)
        refine g_iret dX10_last_29 rfl ⟨_, rfl, ?_⟩
        exact k3 i m rfl hi rfl hm e1
      · refine g_if_ge (tgt := 30) dX10_last_21 (by decide) (fun _ => ?_) (fun q => absurd q (by decide))
        refine g_aload_n dX10_last_30 rfl ?_
        refine g_iload_n dX10_last_31 rfl ?_
        refine g_iload_n dX10_last_32 rfl ?_
        refine g_cV2v dX10_last_33 ml_X10_280 mi_X10_goDay mv_X10_goDay h.1 ⟨_, rfl, rfl⟩ (Nat.le_of_ble_eq_true rfl) rfl (by omega) ?_
        refine c_X10_goDay (by omega) h hx hl hb hi (hsh i hi e1) (by omega) (fun w1 hs1 h1 => ?_)
        refine g_aload_n dX10_last_36 rfl ?_
        refine g_geti dX10_last_37 fl_X10_265 h1.1.1.1 ?_
        refine g_iret dX10_last_40 rfl ⟨_, rfl, ?_⟩
        rw [h1.2.2.2.2]
        exact kk i m rfl hi rfl hm e1 w1 hs1 h1
      · refine g_if_ge (tgt := 30) dX10_last_21 (by decide) (fun q => absurd q (by decide)) (fun _ => ?_)
        refine g_aload_n dX10_last_24 rfl ?_
        refine g_iload_n dX10_last_25 rfl ?_
        refine g_cV1i dX10_last_26 ml_X10_277 mi_X10_rowFault mv_X10_rowFault h.1 ⟨_, rfl, rfl⟩ (Nat.le_of_ble_eq_true rfl) rfl (by omega) ?_
        refine c_X10_rowFault (by omega) h hi (fun q => absurd q e1) (fun q => absurd q e2) (fun _ _ => ?_)
        refine g_iret dX10_last_29 rfl ⟨_, rfl, ?_⟩
        exact k4 i m rfl hi rfl hm e1 e2
    · refine g_if_ne (tgt := 16) dX10_last_11 (by decide) (fun q => absurd q (by decide)) (fun _ => ?_)
      refine g_iconst (v := -1) dX10_last_14 rfl ?_
      refine g_iret dX10_last_15 rfl ⟨_, rfl, ?_⟩
      exact k2 ny
  · refine g_if_eq (tgt := 14) dX10_last_4 (by decide) (fun _ => ?_) (fun q => absurd q (by decide))
    refine g_iconst (v := -1) dX10_last_14 rfl ?_
    refine g_iret dX10_last_15 rfl ⟨_, rfl, ?_⟩
    exact k1 nx
theorem c_X10_day {d : Nat} {w : gx_W} {f : Nat → Int32} {n N : Nat} {sg va : Nat → Int32} {ln : Nat → Nat} {C : Nat → Nat → Int64} {x y v u : Int32} {k : Int32 → gx_W → Prop} (hd : 8 ≤ d) (h : moO w) (hx : mxD w f n) (hl : lwM w N sg va) (hb : bnd f n) (hsh : ∀ i, i < 6 → w_a w 87 i = -2 → shM w i (ln i) (C i)) (k1 : (∀ m, m < 6 → x ≠ nI m) → k (-1) w) (k2 : (∀ m, m < 61 → y ≠ nI m) → k (-1) w) (k5 : (∀ t, t < n → v ≠ nI t) → k (-1) w) (k6 : (∀ j, j ≤ 3 → u ≠ nI j) → k (-1) w) (k3 : ∀ i m, x = nI i → i < 6 → y = nI m → m < 61 → w_a w 87 i = -1 → ∀ t, v = nI t → t < n → ∀ j, u = nI j → j ≤ 3 → k (-11) w) (k4 : ∀ i m, x = nI i → i < 6 → y = nI m → m < 61 → ¬ w_a w 87 i = -1 → ¬ w_a w 87 i = -2 → ∀ t, v = nI t → t < n → ∀ j, u = nI j → j ≤ 3 → k (-12) w) (kk : ∀ i m, x = nI i → i < 6 → y = nI m → m < 61 → w_a w 87 i = -2 → ∀ t, v = nI t → t < n → ∀ j, u = nI j → j ≤ 3 → ∀ w', same [73, 74, 75, 76, 77, 78] [(57, 31)] w w' → dyS w' n N sg va (th_day N sg va n (fun j => (C i j).toInt32.toNatClampNeg) (sh_com (fun j => isCo (C i j).toInt32) (min m (ln i))) (th_00 f)) → k (me_dayv u t (th_day N sg va n (fun j => (C i j).toInt32.toNatClampNeg) (sh_com (fun j => isCo (C i j).toInt32) (min m (ln i))) (th_00 f))) w') : gx_C 0 0 d mX10_day [.ref 57, .int x, .int y, .int v, .int u] w (Qi k) := by
  refine gx_C_of' (L := [.ref 57, .int x, .int y, .int v, .int u]) (by decide +kernel) rfl (Nat.le_of_ble_eq_true rfl) ?_
  refine g_iload_n dX10_day_0 rfl ?_
  refine g_cS1i dX10_day_1 ml_X10_136 mi_X10_isShelf ms_X10_isShelf (Nat.le_of_ble_eq_true rfl) rfl (by omega) ?_
  refine c_X10_isShelf (by omega) (fun i ei hi => ?_) (fun nx => ?_)
  · refine g_if_eq (tgt := 32) dX10_day_4 (by decide) (fun q => absurd q (by decide)) (fun _ => ?_)
    refine g_iload_n dX10_day_7 rfl ?_
    refine g_cS1i dX10_day_8 ml_X10_274 mi_X10_areMany ms_X10_areMany (Nat.le_of_ble_eq_true rfl) rfl (by omega) ?_
    refine c_X10_areMany (by omega) (fun m em hm => ?_) (fun ny => ?_)
    · refine g_if_eq (tgt := 32) dX10_day_11 (by decide) (fun q => absurd q (by decide)) (fun _ => ?_)
      refine g_aload_n dX10_day_14 rfl ?_
      refine g_iload_n dX10_day_15 rfl ?_
      refine g_cV1i dX10_day_16 ml_X10_128 mi_X10_isRoad mv_X10_isRoad h.1 ⟨_, rfl, rfl⟩ (Nat.le_of_ble_eq_true rfl) rfl (by omega) ?_
      refine c_X10_isRoad (by omega) h hx.1.1 hx.1.2.1 (fun t et ht => ?_) (fun nv => ?_)
      · refine g_if_eq (tgt := 32) dX10_day_19 (by decide) (fun q => absurd q (by decide)) (fun _ => ?_)
        refine g_iload dX10_day_22 rfl ?_
        refine g_iconst (v := 0) dX10_day_24 rfl ?_
        refine g_iconst (v := 3) dX10_day_25 rfl ?_
        refine g_cS3i dX10_day_26 ml_X10_124 mi_X10_in ms_X10_in (Nat.le_of_ble_eq_true rfl) rfl (by omega) ?_
        refine c_inN (H := 3) rfl (by decide) (fun j ej hj => ?_) (fun nu => ?_)
        · refine g_if_ne (tgt := 34) dX10_day_29 (by decide) (fun _ => ?_) (fun q => absurd q (by decide))
          subst ei
          subst em
          subst et
          have hn6 := hx.1.2.1
          refine g_aload_n dX10_day_34 rfl ?_
          refine g_iload_n dX10_day_35 rfl ?_
          refine g_cV1i dX10_day_36 ml_X10_277 mi_X10_rowFault mv_X10_rowFault h.1 ⟨_, rfl, rfl⟩ (Nat.le_of_ble_eq_true rfl) rfl (by omega) ?_
          refine c_X10_rowFault (by omega) h hi (fun e1 => ?_) (fun e1 => ?_) (fun e1 e2 => ?_)
          · refine g_if_ge (tgt := 48) dX10_day_39 (by decide) (fun q => absurd q (by decide)) (fun _ => ?_)
            refine g_aload_n dX10_day_42 rfl ?_
            refine g_iload_n dX10_day_43 rfl ?_
            refine g_cV1i dX10_day_44 ml_X10_277 mi_X10_rowFault mv_X10_rowFault h.1 ⟨_, rfl, rfl⟩ (Nat.le_of_ble_eq_true rfl) rfl (by omega) ?_
            refine c_X10_rowFault (by omega) h hi (fun _ => ?_) (fun q => absurd (e1.symm.trans q) (by decide)) (fun q _ => absurd e1 q)
            refine g_iret dX10_day_47 rfl ⟨_, rfl, ?_⟩
            exact k3 i m rfl hi rfl hm e1 t rfl ht j ej hj
          · refine g_if_ge (tgt := 48) dX10_day_39 (by decide) (fun _ => ?_) (fun q => absurd q (by decide))
            refine g_aload_n dX10_day_48 rfl ?_
            refine g_iload_n dX10_day_49 rfl ?_
            refine g_iload_n dX10_day_50 rfl ?_
            refine g_cV2v dX10_day_51 ml_X10_280 mi_X10_goDay mv_X10_goDay h.1 ⟨_, rfl, rfl⟩ (Nat.le_of_ble_eq_true rfl) rfl (by omega) ?_
            refine c_X10_goDay (by omega) h hx hl hb hi (hsh i hi e1) (by omega) (fun w1 hs1 h1 => ?_)
            refine g_iload dX10_day_54 rfl ?_
            by_cases s56_0 : u = 0
            · refine g_tableIn (off := 28) (tgt := 84) dX10_day_56 (by rw [s56_0]; decide) (by rw [s56_0]; decide) (by rw [s56_0]; rfl) (by decide) ?_
              refine g_aload_n dX10_day_84 rfl ?_
              refine g_getr dX10_day_85 fl_X10_65 h1.1.1.1 (moR_75 h1.1.1) ?_
              refine g_iload_n dX10_day_88 rfl ?_
              refine g_iald dX10_day_89 (moA_75 h1.1.1) (vp_in_nI (by omega) (by decide)) ?_
              refine g_iret dX10_day_90 rfl ⟨_, rfl, ?_⟩
              have K := kk i m rfl hi rfl hm e1 t rfl ht j ej hj w1 hs1 h1
              unfold me_dayv at K
              rw [if_pos s56_0] at K
              rw [nI_n (show t < 2 ^ 31 by have := hx.1.2.1; omega), h1.1.2.1.2 t ht]
              exact K
            by_cases s56_1 : u = 1
            · refine g_tableIn (off := 35) (tgt := 91) dX10_day_56 (by rw [s56_1]; decide) (by rw [s56_1]; decide) (by rw [s56_1]; rfl) (by decide) ?_
              refine g_aload_n dX10_day_91 rfl ?_
              refine g_getr dX10_day_92 fl_X10_68 h1.1.1.1 (moR_76 h1.1.1) ?_
              refine g_iload_n dX10_day_95 rfl ?_
              refine g_iald dX10_day_96 (moA_76 h1.1.1) (vp_in_nI (by omega) (by decide)) ?_
              refine g_iret dX10_day_97 rfl ⟨_, rfl, ?_⟩
              have K := kk i m rfl hi rfl hm e1 t rfl ht j ej hj w1 hs1 h1
              unfold me_dayv at K
              rw [if_neg s56_0, if_pos s56_1] at K
              rw [nI_n (show t < 2 ^ 31 by have := hx.1.2.1; omega), h1.2.1 t ht]
              exact K
            by_cases s56_2 : u = 2
            · refine g_tableIn (off := 42) (tgt := 98) dX10_day_56 (by rw [s56_2]; decide) (by rw [s56_2]; decide) (by rw [s56_2]; rfl) (by decide) ?_
              refine g_aload_n dX10_day_98 rfl ?_
              refine g_getr dX10_day_99 fl_X10_71 h1.1.1.1 (moR_77 h1.1.1) ?_
              refine g_iload_n dX10_day_102 rfl ?_
              refine g_iald dX10_day_103 (moA_77 h1.1.1) (vp_in_nI (by omega) (by decide)) ?_
              refine g_iret dX10_day_104 rfl ⟨_, rfl, ?_⟩
              have K := kk i m rfl hi rfl hm e1 t rfl ht j ej hj w1 hs1 h1
              unfold me_dayv at K
              rw [if_neg s56_0, if_neg s56_1, if_pos s56_2] at K
              rw [nI_n (show t < 2 ^ 31 by have := hx.1.2.1; omega), h1.2.2.1 t ht]
              exact K
            refine g_tableOut (tgt := 105) dX10_day_56 (by have z0 := lv_neT s56_0 (a := 0) (by decide); have z1 := lv_neT s56_1 (a := 1) (by decide); have z2 := lv_neT s56_2 (a := 2) (by decide); omega) (by decide) ?_
            refine g_aload_n dX10_day_105 rfl ?_
            refine g_getr dX10_day_106 fl_X10_74 h1.1.1.1 (moR_78 h1.1.1) ?_
            refine g_iload_n dX10_day_109 rfl ?_
            refine g_iald dX10_day_110 (moA_78 h1.1.1) (vp_in_nI (by omega) (by decide)) ?_
            refine g_iret dX10_day_111 rfl ⟨_, rfl, ?_⟩
            have K := kk i m rfl hi rfl hm e1 t rfl ht j ej hj w1 hs1 h1
            unfold me_dayv at K
            rw [if_neg s56_0, if_neg s56_1, if_neg s56_2] at K
            rw [nI_n (show t < 2 ^ 31 by have := hx.1.2.1; omega), h1.2.2.2.1 t ht]
            exact K
          · refine g_if_ge (tgt := 48) dX10_day_39 (by decide) (fun q => absurd q (by decide)) (fun _ => ?_)
            refine g_aload_n dX10_day_42 rfl ?_
            refine g_iload_n dX10_day_43 rfl ?_
            refine g_cV1i dX10_day_44 ml_X10_277 mi_X10_rowFault mv_X10_rowFault h.1 ⟨_, rfl, rfl⟩ (Nat.le_of_ble_eq_true rfl) rfl (by omega) ?_
            refine c_X10_rowFault (by omega) h hi (fun q => absurd q e1) (fun q => absurd q e2) (fun _ _ => ?_)
            refine g_iret dX10_day_47 rfl ⟨_, rfl, ?_⟩
            exact k4 i m rfl hi rfl hm e1 e2 t rfl ht j ej hj
        · refine g_if_ne (tgt := 34) dX10_day_29 (by decide) (fun q => absurd q (by decide)) (fun _ => ?_)
          refine g_iconst (v := -1) dX10_day_32 rfl ?_
          refine g_iret dX10_day_33 rfl ⟨_, rfl, ?_⟩
          exact k6 nu
      · refine g_if_eq (tgt := 32) dX10_day_19 (by decide) (fun _ => ?_) (fun q => absurd q (by decide))
        refine g_iconst (v := -1) dX10_day_32 rfl ?_
        refine g_iret dX10_day_33 rfl ⟨_, rfl, ?_⟩
        exact k5 nv
    · refine g_if_eq (tgt := 32) dX10_day_11 (by decide) (fun _ => ?_) (fun q => absurd q (by decide))
      refine g_iconst (v := -1) dX10_day_32 rfl ?_
      refine g_iret dX10_day_33 rfl ⟨_, rfl, ?_⟩
      exact k2 ny
  · refine g_if_eq (tgt := 32) dX10_day_4 (by decide) (fun _ => ?_) (fun q => absurd q (by decide))
    refine g_iconst (v := -1) dX10_day_32 rfl ?_
    refine g_iret dX10_day_33 rfl ⟨_, rfl, ?_⟩
    exact k1 nx
theorem c_X10_judge {d : Nat} {w : gx_W} {f : Nat → Int32} {n N : Nat} {sg va : Nat → Int32} {ln : Nat → Nat} {C : Nat → Nat → Int64} {x : Int32} {k : Int32 → gx_W → Prop} (hd : 8 ≤ d) (h : moO w) (hx : mxD w f n) (hl : lwM w N sg va) (hb : bnd f n) (hsh : ∀ i, i < 6 → w_a w 87 i = -2 → shM w i (ln i) (C i)) (k1 : (∀ m, m < 6 → x ≠ nI m) → k (-1) w) (k3 : ∀ i, x = nI i → i < 6 → w_a w 87 i = -1 → k (-11) w) (k4 : ∀ i, x = nI i → i < 6 → ¬ w_a w 87 i = -1 → ¬ w_a w 87 i = -2 → k (-12) w) (kk : ∀ i, x = nI i → i < 6 → w_a w 87 i = -2 → ∀ w', same [73, 74, 75] [] w w' → k (me_fw N sg va n (fun j => (C i j).toInt32) (ln i) ((ln i + 1) / 2) 0 f) w') : gx_C 0 0 d mX10_judge [.ref 57, .int x] w (Qi k) := by
  refine gx_C_of' (L := [.ref 57, .int x]) (by decide +kernel) rfl (Nat.le_of_ble_eq_true rfl) ?_
  refine g_iload_n dX10_judge_0 rfl ?_
  refine g_cS1i dX10_judge_1 ml_X10_136 mi_X10_isShelf ms_X10_isShelf (Nat.le_of_ble_eq_true rfl) rfl (by omega) ?_
  refine c_X10_isShelf (by omega) (fun i ei hi => ?_) (fun nx => ?_)
  · refine g_if_ne (tgt := 9) dX10_judge_4 (by decide) (fun _ => ?_) (fun q => absurd q (by decide))
    subst ei
    refine g_aload_n dX10_judge_9 rfl ?_
    refine g_iload_n dX10_judge_10 rfl ?_
    refine g_cV1i dX10_judge_11 ml_X10_277 mi_X10_rowFault mv_X10_rowFault h.1 ⟨_, rfl, rfl⟩ (Nat.le_of_ble_eq_true rfl) rfl (by omega) ?_
    refine c_X10_rowFault (by omega) h hi (fun e1 => ?_) (fun e1 => ?_) (fun e1 e2 => ?_)
    · refine g_if_ge (tgt := 25) dX10_judge_14 (by decide) (fun q => absurd q (by decide)) (fun _ => ?_)
      refine g_aload_n dX10_judge_17 rfl ?_
      refine g_iload_n dX10_judge_18 rfl ?_
      refine g_cV1i dX10_judge_19 ml_X10_277 mi_X10_rowFault mv_X10_rowFault h.1 ⟨_, rfl, rfl⟩ (Nat.le_of_ble_eq_true rfl) rfl (by omega) ?_
      refine c_X10_rowFault (by omega) h hi (fun _ => ?_) (fun q => absurd (e1.symm.trans q) (by decide)) (fun q _ => absurd e1 q)
      refine g_goto (tgt := 30) dX10_judge_22 (by decide) ?_
      refine g_iret dX10_judge_30 rfl ⟨_, rfl, ?_⟩
      exact k3 i rfl hi e1
    · refine g_if_ge (tgt := 25) dX10_judge_14 (by decide) (fun _ => ?_) (fun q => absurd q (by decide))
      refine g_aload_n dX10_judge_25 rfl ?_
      refine g_iload_n dX10_judge_26 rfl ?_
      refine g_cV1i dX10_judge_27 ml_X10_317 mi_X10_wrongTwo mv_X10_wrongTwo h.1 ⟨_, rfl, rfl⟩ (Nat.le_of_ble_eq_true rfl) rfl (by omega) ?_
      refine c_X10_wrongTwo (by omega) h hx hl hb hi (hsh i hi e1) (fun w1 hs1 => ?_)
      refine g_iret dX10_judge_30 rfl ⟨_, rfl, ?_⟩
      exact kk i rfl hi e1 w1 hs1
    · refine g_if_ge (tgt := 25) dX10_judge_14 (by decide) (fun q => absurd q (by decide)) (fun _ => ?_)
      refine g_aload_n dX10_judge_17 rfl ?_
      refine g_iload_n dX10_judge_18 rfl ?_
      refine g_cV1i dX10_judge_19 ml_X10_277 mi_X10_rowFault mv_X10_rowFault h.1 ⟨_, rfl, rfl⟩ (Nat.le_of_ble_eq_true rfl) rfl (by omega) ?_
      refine c_X10_rowFault (by omega) h hi (fun q => absurd q e1) (fun q => absurd q e2) (fun _ _ => ?_)
      refine g_goto (tgt := 30) dX10_judge_22 (by decide) ?_
      refine g_iret dX10_judge_30 rfl ⟨_, rfl, ?_⟩
      exact k4 i rfl hi e1 e2
  · refine g_if_ne (tgt := 9) dX10_judge_4 (by decide) (fun q => absurd q (by decide)) (fun _ => ?_)
    refine g_iconst (v := -1) dX10_judge_7 rfl ?_
    refine g_iret dX10_judge_8 rfl ⟨_, rfl, ?_⟩
    exact k1 nx
theorem s_l_id {w : gx_W} {k : Nat} : s_l w k (w_l w k) = w := by
  have e : va_up w.2.2.2.2.1 k (w.2.2.2.2.1 k) = w.2.2.2.2.1 := by
    funext j
    by_cases q : j = k
    · subst q; exact va_up_at
    · exact va_up_row q
  show (w.1, w.2.1, w.2.2.1, w.2.2.2.1, va_up w.2.2.2.2.1 k (w.2.2.2.2.1 k), w.2.2.2.2.2) = w
  rw [e]
def zeF (a : Nat → Int64) (b j : Nat) : Nat → Int64 := fun y => if b ≤ y ∧ y < b + j then 0 else a y
theorem zeF_0 (a : Nat → Int64) (b : Nat) : zeF a b 0 = a := by
  funext y
  unfold zeF
  rw [if_neg (by omega)]
theorem zeF_s (a : Nat → Int64) (b j : Nat) : va_up (zeF a b j) (b + j) 0 = zeF a b (j + 1) := by
  funext y
  rw [up_at]
  unfold zeF
  by_cases q : y = b + j
  · rw [if_pos q, if_pos (by omega)]
  · rw [if_neg q]
    by_cases z : b ≤ y ∧ y < b + j
    · rw [if_pos z, if_pos (by omega)]
    · rw [if_neg z, if_neg (by omega)]
theorem z60a (i : Nat) : (60 : Int32) * nI i = nI (60 * i) := pk_mul 60 i
theorem l_X10_row {d i : Nat} {w : gx_W} {x2 x3 : Int32} {k : Int32 → gx_W → Prop} (h : moO w) (hi : i < 6) (kk : k 1 (s_l w 89 (zeF (w_l w 89) (60 * i) 60))) : ∀ (z j : Nat), j + z = 60 → gx_G 0 0 d mX10_row (Qi k) 54 [.ref 57, .int (nI i), .int x2, .int x3, .int (nI (60 * i + j))] [] (s_l w 89 (zeF (w_l w 89) (60 * i) j)) := by
  intro z
  induction z with
  | zero =>
    intro j hj
    have e : j = 60 := by omega
    subst e
    refine g_iload dX10_row_54 rfl ?_
    refine g_bipush (v := 60) dX10_row_56 rfl ?_
    refine g_iload_n dX10_row_58 rfl ?_
    refine g_imul dX10_row_59 ?_
    rw [z60a]
    refine g_bipush (v := 60) dX10_row_60 rfl ?_
    refine g_iadd dX10_row_62 ?_
    rw [show nI (60 * i) + 60 = nI (60 * i + 60) from nI_add (60 * i) 60]
    refine g_icmp_ge (tgt := 80) dX10_row_63 (by decide) (fun zc63 => ?_) (fun zc63 => ?_)
    · refine g_iconst (v := 1) dX10_row_80 rfl ?_
      refine g_iret dX10_row_81 rfl ⟨_, rfl, ?_⟩
      exact kk
    · exact absurd (Int32.le_refl _) zc63
  | succ z ih =>
    intro j hj
    refine g_iload dX10_row_54 rfl ?_
    refine g_bipush (v := 60) dX10_row_56 rfl ?_
    refine g_iload_n dX10_row_58 rfl ?_
    refine g_imul dX10_row_59 ?_
    rw [z60a]
    refine g_bipush (v := 60) dX10_row_60 rfl ?_
    refine g_iadd dX10_row_62 ?_
    rw [show nI (60 * i) + 60 = nI (60 * i + 60) from nI_add (60 * i) 60]
    refine g_icmp_ge (tgt := 80) dX10_row_63 (by decide) (fun zc63 => ?_) (fun zc63 => ?_)
    · exact absurd zc63 (nI_ge (by omega) (by omega))
    · refine g_aload_n dX10_row_66 rfl ?_
      refine g_getr dX10_row_67 fl_X10_111 h.1 (moR_89 h) ?_
      refine g_iload dX10_row_70 rfl ?_
      refine g_lconst (v := 0) dX10_row_72 rfl ?_
      refine g_last dX10_row_73 (moA_89 h) (vp_in_nI (by omega) (by decide)) ?_
      rw [nI_n (by omega), show w_l (s_l w 89 (zeF (w_l w 89) (60 * i) j)) 89 = zeF (w_l w 89) (60 * i) j from by rw [wl_sl, if_pos rfl], zeF_s, s_l_l]
      refine g_iinc dX10_row_74 rfl rfl ?_
      refine g_goto (tgt := 54) dX10_row_77 (by decide) ?_
      rw [nI_1']
      have K := ih (j + 1) (by omega)
      exact K
theorem c_X10_row {d : Nat} {w : gx_W} {x s n : Int32} {k : Int32 → gx_W → Prop} (hd : 2 ≤ d) (h : moO w) (k1 : (∀ m, m < 6 → x ≠ nI m) → k (-1) w) (k2 : (∀ m, m ≤ 4 → s ≠ nI m) → k (-1) w) (k3 : 60 < n → k (-1) w) (k4 : ∀ i j, x = nI i → i < 6 → s = nI j → j ≤ 4 → n < 0 → k (-14) w) (k5 : ∀ i j m, x = nI i → i < 6 → s = nI j → j ≤ 4 → n = nI m → m ≤ 60 → k 1 (s_l (s_a (s_a w 87 (va_up (w_a w 87) i (-2 - s))) 88 (va_up (w_a w 88) i n)) 89 (zeF (w_l w 89) (60 * i) 60))) : gx_C 0 0 d mX10_row [.ref 57, .int x, .int s, .int n] w (Qi k) := by
  refine gx_C_of' (L := [.ref 57, .int x, .int s, .int n, .retAddr 0]) (by decide +kernel) rfl (Nat.le_of_ble_eq_true rfl) ?_
  refine g_iload_n dX10_row_0 rfl ?_
  refine g_cS1i dX10_row_1 ml_X10_136 mi_X10_isShelf ms_X10_isShelf (Nat.le_of_ble_eq_true rfl) rfl (by omega) ?_
  refine c_X10_isShelf (by omega) (fun i ei hi => ?_) (fun nx => ?_)
  · refine g_if_eq (tgt := 22) dX10_row_4 (by decide) (fun q => absurd q (by decide)) (fun _ => ?_)
    refine g_iload_n dX10_row_7 rfl ?_
    refine g_iconst (v := 0) dX10_row_8 rfl ?_
    refine g_iconst (v := 4) dX10_row_9 rfl ?_
    refine g_cS3i dX10_row_10 ml_X10_124 mi_X10_in ms_X10_in (Nat.le_of_ble_eq_true rfl) rfl (by omega) ?_
    refine c_inN (H := 4) rfl (by decide) (fun j ej hj => ?_) (fun nu => ?_)
    · refine g_if_eq (tgt := 22) dX10_row_13 (by decide) (fun q => absurd q (by decide)) (fun _ => ?_)
      refine g_iload_n dX10_row_16 rfl ?_
      refine g_bipush (v := 60) dX10_row_17 rfl ?_
      refine g_icmp_le (tgt := 24) dX10_row_19 (by decide) (fun zc19 => ?_) (fun zc19 => ?_)
      · refine g_iload_n dX10_row_24 rfl ?_
        refine g_if_ge (tgt := 31) dX10_row_25 (by decide) (fun zc25 => ?_) (fun zc25 => ?_)
        · subst ei
          obtain ⟨m, hm, em⟩ := nI_of2 (M := 60) (n := 60) (by decide) (Int32.not_lt.mpr zc25) zc19
          refine g_aload_n dX10_row_31 rfl ?_
          refine g_getr dX10_row_32 fl_X10_105 h.1 (moR_87 h) ?_
          refine g_iload_n dX10_row_35 rfl ?_
          refine g_bipush (v := -2) dX10_row_36 rfl ?_
          refine g_iload_n dX10_row_38 rfl ?_
          refine g_isub dX10_row_39 ?_
          refine g_iast dX10_row_40 (moA_87 h) (vp_in_nI (by omega) (by decide)) ?_
          rw [nI_n (show i < 2 ^ 31 by omega)]
          refine g_aload_n dX10_row_41 rfl ?_
          refine g_getr dX10_row_42 fl_X10_108 h.1 (moR_88 h) ?_
          refine g_iload_n dX10_row_45 rfl ?_
          refine g_iload_n dX10_row_46 rfl ?_
          refine g_iast dX10_row_47 (moA_88 h) (vp_in_nI (by omega) (by decide)) ?_
          rw [nI_n (show i < 2 ^ 31 by omega)]
          refine g_bipush (v := 60) dX10_row_48 rfl ?_
          refine g_iload_n dX10_row_50 rfl ?_
          refine g_imul dX10_row_51 ?_
          refine g_istore dX10_row_52 (Nat.le_of_ble_eq_true rfl) rfl ?_
          rw [z60a]
          have K := l_X10_row (d := d) (i := i) (w := s_a (s_a w 87 (va_up (w_a w 87) i (-2 - s))) 88 (va_up (w_a w 88) i n)) (x2 := s) (x3 := n) (k := k) h hi (k5 i j m rfl hi ej hj em hm) 60 0 rfl
          rw [zeF_0, s_l_id] at K
          exact K
        · refine g_bipush (v := -14) dX10_row_28 rfl ?_
          refine g_iret dX10_row_30 rfl ⟨_, rfl, ?_⟩
          exact k4 i j ei hi ej hj (Int32.not_le.mp zc25)
      · refine g_iconst (v := -1) dX10_row_22 rfl ?_
        refine g_iret dX10_row_23 rfl ⟨_, rfl, ?_⟩
        exact k3 (Int32.not_le.mp zc19)
    · refine g_if_eq (tgt := 22) dX10_row_13 (by decide) (fun _ => ?_) (fun q => absurd q (by decide))
      refine g_iconst (v := -1) dX10_row_22 rfl ?_
      refine g_iret dX10_row_23 rfl ⟨_, rfl, ?_⟩
      exact k2 nu
  · refine g_if_eq (tgt := 22) dX10_row_4 (by decide) (fun _ => ?_) (fun q => absurd q (by decide))
    refine g_iconst (v := -1) dX10_row_22 rfl ?_
    refine g_iret dX10_row_23 rfl ⟨_, rfl, ?_⟩
    exact k1 nx

/-! The reference: whyNoPlace put element taken again how green -/
theorem c_X10_whyNoPlace {d : Nat} {w : gx_W} {ln : Nat → Nat} {x y : Int32} {k : Int32 → gx_W → Prop} (hd : 2 ≤ d) (h : moO w) (hsz : ∀ i, i < 6 → ¬ w_a w 87 i = -1 → w_a w 87 i < 0 → w_a w 88 i = nI (ln i) ∧ ln i ≤ 60) (k1 : (∀ m, m < 6 → x ≠ nI m) → k (-1) w) (k2 : ∀ i, x = nI i → i < 6 → w_a w 87 i = -1 → k (-11) w) (k3 : ∀ i, x = nI i → i < 6 → ¬ w_a w 87 i < 0 → k (-12) w) (k4 : ∀ i p, x = nI i → i < 6 → ¬ w_a w 87 i = -1 → w_a w 87 i < 0 → y = nI p → p < ln i → k 0 w) (k5 : ∀ i, x = nI i → i < 6 → ¬ w_a w 87 i = -1 → w_a w 87 i < 0 → (∀ p, p < ln i → y ≠ nI p) → k (-13) w) : gx_C 0 0 d mX10_whyNoPlace [.ref 57, .int x, .int y] w (Qi k) := by
  refine gx_C_of' (L := [.ref 57, .int x, .int y]) (by decide +kernel) rfl (Nat.le_of_ble_eq_true rfl) ?_
  refine g_iload_n dX10_whyNoPlace_0 rfl ?_
  refine g_cS1i dX10_whyNoPlace_1 ml_X10_136 mi_X10_isShelf ms_X10_isShelf (Nat.le_of_ble_eq_true rfl) rfl (by omega) ?_
  refine c_X10_isShelf (by omega) (fun i ei hi => ?_) (fun nx => ?_)
  · refine g_if_ne (tgt := 9) dX10_whyNoPlace_4 (by decide) (fun _ => ?_) (fun q => absurd q (by decide))
    subst ei
    refine g_aload_n dX10_whyNoPlace_9 rfl ?_
    refine g_getr dX10_whyNoPlace_10 fl_X10_105 h.1 (moR_87 h) ?_
    refine g_iload_n dX10_whyNoPlace_13 rfl ?_
    refine g_iald dX10_whyNoPlace_14 (moA_87 h) (vp_in_nI (by omega) (by decide)) ?_
    rw [nI_n (show i < 2 ^ 31 by omega)]
    refine g_iconst (v := -1) dX10_whyNoPlace_15 rfl ?_
    refine g_icmp_ne (tgt := 22) dX10_whyNoPlace_16 (by decide) (fun zc16 => ?_) (fun zc16 => ?_)
    · refine g_aload_n dX10_whyNoPlace_22 rfl ?_
      refine g_getr dX10_whyNoPlace_23 fl_X10_105 h.1 (moR_87 h) ?_
      refine g_iload_n dX10_whyNoPlace_26 rfl ?_
      refine g_iald dX10_whyNoPlace_27 (moA_87 h) (vp_in_nI (by omega) (by decide)) ?_
      rw [nI_n (show i < 2 ^ 31 by omega)]
      refine g_if_lt (tgt := 34) dX10_whyNoPlace_28 (by decide) (fun zc28 => ?_) (fun zc28 => ?_)
      · obtain ⟨z1, z2⟩ := hsz i hi zc16 zc28
        refine g_iload_n dX10_whyNoPlace_34 rfl ?_
        refine g_iconst (v := 0) dX10_whyNoPlace_35 rfl ?_
        refine g_aload_n dX10_whyNoPlace_36 rfl ?_
        refine g_getr dX10_whyNoPlace_37 fl_X10_108 h.1 (moR_88 h) ?_
        refine g_iload_n dX10_whyNoPlace_40 rfl ?_
        refine g_iald dX10_whyNoPlace_41 (moA_88 h) (vp_in_nI (by omega) (by decide)) ?_
        rw [nI_n (show i < 2 ^ 31 by omega), z1]
        refine g_iconst (v := 1) dX10_whyNoPlace_42 rfl ?_
        refine g_isub dX10_whyNoPlace_43 ?_
        refine g_cS3i dX10_whyNoPlace_44 ml_X10_124 mi_X10_in ms_X10_in (Nat.le_of_ble_eq_true rfl) rfl (by omega) ?_
        refine c_inR (by omega) (fun p ep hp => ?_) (fun np => ?_)
        · refine g_if_eq (tgt := 54) dX10_whyNoPlace_47 (by decide) (fun q => absurd q (by decide)) (fun _ => ?_)
          refine g_iconst (v := 0) dX10_whyNoPlace_50 rfl ?_
          refine g_goto (tgt := 56) dX10_whyNoPlace_51 (by decide) ?_
          refine g_iret dX10_whyNoPlace_56 rfl ⟨_, rfl, ?_⟩
          exact k4 i p rfl hi zc16 zc28 ep hp
        · refine g_if_eq (tgt := 54) dX10_whyNoPlace_47 (by decide) (fun _ => ?_) (fun q => absurd q (by decide))
          refine g_bipush (v := -13) dX10_whyNoPlace_54 rfl ?_
          refine g_iret dX10_whyNoPlace_56 rfl ⟨_, rfl, ?_⟩
          exact k5 i rfl hi zc16 zc28 np
      · refine g_bipush (v := -12) dX10_whyNoPlace_31 rfl ?_
        refine g_iret dX10_whyNoPlace_33 rfl ⟨_, rfl, ?_⟩
        exact k3 i rfl hi (Int32.not_lt.mpr (Int32.not_lt.mp zc28))
    · refine g_bipush (v := -11) dX10_whyNoPlace_19 rfl ?_
      refine g_iret dX10_whyNoPlace_21 rfl ⟨_, rfl, ?_⟩
      exact k2 i rfl hi zc16
  · refine g_if_ne (tgt := 9) dX10_whyNoPlace_4 (by decide) (fun q => absurd q (by decide)) (fun _ => ?_)
    refine g_iconst (v := -1) dX10_whyNoPlace_7 rfl ?_
    refine g_iret dX10_whyNoPlace_8 rfl ⟨_, rfl, ?_⟩
    exact k1 nx
theorem nar_0 (v : Int64) : sh_nar (nI 0) v = v.toInt32.toInt8.toInt32.toInt64 := rfl
theorem nar_1 (v : Int64) : sh_nar (nI 1) v = v.toInt32.toInt16.toInt32.toInt64 := rfl
theorem nar_2 (v : Int64) : sh_nar (nI 2) v = v.toInt32.toInt64 := rfl
theorem nar_3 (v : Int64) : sh_nar (nI 3) v = v := rfl
theorem z60p (i p : Nat) : (60 : Int32) * nI i + nI p = nI (60 * i + p) := by
  rw [show (60 : Int32) * nI i = nI (60 * i) from pk_mul 60 i, nI_add]
theorem nar_4 {v : Int64} (h : v = 0) : sh_nar (nI 4) v = 0 := by subst h; rfl
theorem put_s : ∀ s, s < 5 → (-2 : Int32) - (-2 - nI s) = nI s := by decide
theorem nar_4n {v : Int64} (h : ¬ v = 0) : sh_nar (nI 4) v = 1 := if_neg h
set_option maxHeartbeats 1000000 in
theorem c_X10_put {d : Nat} {w : gx_W} {ln : Nat → Nat} {x y : Int32} {v : Int64} {k : Int32 → gx_W → Prop} (hd : 3 ≤ d) (h : moO w) (hsz : ∀ i, i < 6 → ¬ w_a w 87 i = -1 → w_a w 87 i < 0 → w_a w 88 i = nI (ln i) ∧ ln i ≤ 60) (hso : ∀ i, i < 6 → ¬ w_a w 87 i = -1 → w_a w 87 i < 0 → ∃ s, s < 5 ∧ w_a w 87 i = -2 - nI s) (k1 : (∀ m, m < 6 → x ≠ nI m) → k (-1) w) (k2 : ∀ i, x = nI i → i < 6 → w_a w 87 i = -1 → k (-11) w) (k3 : ∀ i, x = nI i → i < 6 → ¬ w_a w 87 i < 0 → k (-12) w) (k4 : ∀ i p s, x = nI i → i < 6 → ¬ w_a w 87 i = -1 → w_a w 87 i < 0 → y = nI p → p < ln i → s < 5 → w_a w 87 i = -2 - nI s → k 1 (s_l w 89 (va_up (w_l w 89) (60 * i + p) (sh_nar (nI s) v)))) (k5 : ∀ i, x = nI i → i < 6 → ¬ w_a w 87 i = -1 → w_a w 87 i < 0 → (∀ p, p < ln i → y ≠ nI p) → k (-13) w) : gx_C 0 0 d mX10_put [.ref 57, .int x, .int y, .long v] w (Qi k) := by
  refine gx_C_of' (L := [.ref 57, .int x, .int y, .long v, .retAddr 0, .retAddr 0, .retAddr 0]) (by decide +kernel) rfl (Nat.le_of_ble_eq_true rfl) ?_
  refine g_aload_n dX10_put_0 rfl ?_
  refine g_iload_n dX10_put_1 rfl ?_
  refine g_iload_n dX10_put_2 rfl ?_
  refine g_cV2i dX10_put_3 ml_X10_381 mi_X10_whyNoPlace mv_X10_whyNoPlace h.1 ⟨_, rfl, rfl⟩ (Nat.le_of_ble_eq_true rfl) rfl (by omega) ?_
  refine c_X10_whyNoPlace (by omega) h hsz (fun nx => ?_) (fun i ei hi e1 => ?_) (fun i ei hi e1 => ?_) (fun i p ei hi e1 e2 ep hp => ?_) (fun i ei hi e1 e2 np => ?_)
  · refine g_istore dX10_put_6 (Nat.le_of_ble_eq_true rfl) rfl ?_
    refine g_iload dX10_put_8 rfl ?_
    refine g_if_ge (tgt := 16) dX10_put_10 (by decide) (fun q => absurd q (by decide)) (fun _ => ?_)
    refine g_iload dX10_put_13 rfl ?_
    refine g_iret dX10_put_15 rfl ⟨_, rfl, ?_⟩
    exact k1 nx
  · refine g_istore dX10_put_6 (Nat.le_of_ble_eq_true rfl) rfl ?_
    refine g_iload dX10_put_8 rfl ?_
    refine g_if_ge (tgt := 16) dX10_put_10 (by decide) (fun q => absurd q (by decide)) (fun _ => ?_)
    refine g_iload dX10_put_13 rfl ?_
    refine g_iret dX10_put_15 rfl ⟨_, rfl, ?_⟩
    exact k2 i ei hi e1
  · refine g_istore dX10_put_6 (Nat.le_of_ble_eq_true rfl) rfl ?_
    refine g_iload dX10_put_8 rfl ?_
    refine g_if_ge (tgt := 16) dX10_put_10 (by decide) (fun q => absurd q (by decide)) (fun _ => ?_)
    refine g_iload dX10_put_13 rfl ?_
    refine g_iret dX10_put_15 rfl ⟨_, rfl, ?_⟩
    exact k3 i ei hi e1
  · refine g_istore dX10_put_6 (Nat.le_of_ble_eq_true rfl) rfl ?_
    refine g_iload dX10_put_8 rfl ?_
    refine g_if_ge (tgt := 16) dX10_put_10 (by decide) (fun _ => ?_) (fun q => absurd q (by decide))
    obtain ⟨s, hs, es0⟩ := hso i hi e1 e2
    subst ei
    subst ep
    refine g_bipush (v := -2) dX10_put_16 rfl ?_
    refine g_aload_n dX10_put_18 rfl ?_
    refine g_getr dX10_put_19 fl_X10_105 h.1 (moR_87 h) ?_
    refine g_iload_n dX10_put_22 rfl ?_
    refine g_iald dX10_put_23 (moA_87 h) (vp_in_nI (by omega) (by decide)) ?_
    rw [nI_n (show i < 2 ^ 31 by omega), es0]
    refine g_isub dX10_put_24 ?_
    rw [put_s s hs]
    refine g_istore dX10_put_25 (Nat.le_of_ble_eq_true rfl) rfl ?_
    refine g_aload_n dX10_put_27 rfl ?_
    refine g_getr dX10_put_28 fl_X10_111 h.1 (moR_89 h) ?_
    refine g_bipush (v := 60) dX10_put_31 rfl ?_
    refine g_iload_n dX10_put_33 rfl ?_
    refine g_imul dX10_put_34 ?_
    refine g_iload_n dX10_put_35 rfl ?_
    refine g_iadd dX10_put_36 ?_
    rw [z60p]
    refine g_iload dX10_put_37 rfl ?_
    refine g_if_ne (tgt := 49) dX10_put_39 (by decide) (fun zc39 => ?_) (fun zc39 => ?_)
    · refine g_iload dX10_put_49 rfl ?_
      refine g_iconst (v := 1) dX10_put_51 rfl ?_
      refine g_icmp_ne (tgt := 62) dX10_put_52 (by decide) (fun zc52 => ?_) (fun zc52 => ?_)
      · refine g_iload dX10_put_62 rfl ?_
        refine g_iconst (v := 2) dX10_put_64 rfl ?_
        refine g_icmp_ne (tgt := 74) dX10_put_65 (by decide) (fun zc65 => ?_) (fun zc65 => ?_)
        · refine g_iload dX10_put_74 rfl ?_
          refine g_iconst (v := 3) dX10_put_76 rfl ?_
          refine g_icmp_ne (tgt := 84) dX10_put_77 (by decide) (fun zc77 => ?_) (fun zc77 => ?_)
          · refine g_lload_n dX10_put_84 rfl ?_
            refine g_lconst (v := 0) dX10_put_85 rfl ?_
            refine g_lcmp dX10_put_86 ?_
            refine g_if_eq (tgt := 94) dX10_put_87 (by decide) (fun zc87 => ?_) (fun zc87 => ?_)
            · refine g_lconst (v := 0) dX10_put_94 rfl ?_
              refine g_last dX10_put_95 (moA_89 h) (vp_in_nI (by have := (hsz i hi e1 e2).2; omega) (by decide)) ?_
              refine g_iconst (v := 1) dX10_put_96 rfl ?_
              refine g_iret dX10_put_97 rfl ⟨_, rfl, ?_⟩
              have n0 : s ≠ 0 := fun z => zc39 (by rw [z]; rfl)
              have n1 : s ≠ 1 := fun z => zc52 (by rw [z]; rfl)
              have n2 : s ≠ 2 := fun z => zc65 (by rw [z]; rfl)
              have n3 : s ≠ 3 := fun z => zc77 (by rw [z]; rfl)
              have es : s = 4 := by omega
              subst es
              have K := k4 i p _ rfl hi e1 e2 rfl hp hs es0
              rw [nI_n (show 60 * i + p < 2 ^ 31 by have := (hsz i hi e1 e2).2; omega)]
              rw [show sh_nar (nI 4) v = 0 from nar_4 ((lg_cmp_eq _ _).mp zc87)] at K
              exact K
            · refine g_lconst (v := 1) dX10_put_90 rfl ?_
              refine g_goto (tgt := 95) dX10_put_91 (by decide) ?_
              refine g_last dX10_put_95 (moA_89 h) (vp_in_nI (by have := (hsz i hi e1 e2).2; omega) (by decide)) ?_
              refine g_iconst (v := 1) dX10_put_96 rfl ?_
              refine g_iret dX10_put_97 rfl ⟨_, rfl, ?_⟩
              have n0 : s ≠ 0 := fun z => zc39 (by rw [z]; rfl)
              have n1 : s ≠ 1 := fun z => zc52 (by rw [z]; rfl)
              have n2 : s ≠ 2 := fun z => zc65 (by rw [z]; rfl)
              have n3 : s ≠ 3 := fun z => zc77 (by rw [z]; rfl)
              have es : s = 4 := by omega
              subst es
              have K := k4 i p _ rfl hi e1 e2 rfl hp hs es0
              rw [nI_n (show 60 * i + p < 2 ^ 31 by have := (hsz i hi e1 e2).2; omega)]
              rw [show sh_nar (nI 4) v = 1 from nar_4n (fun z => zc87 ((lg_cmp_eq _ _).mpr z))] at K
              exact K
          · refine g_lload_n dX10_put_80 rfl ?_
            refine g_goto (tgt := 95) dX10_put_81 (by decide) ?_
            refine g_last dX10_put_95 (moA_89 h) (vp_in_nI (by have := (hsz i hi e1 e2).2; omega) (by decide)) ?_
            refine g_iconst (v := 1) dX10_put_96 rfl ?_
            refine g_iret dX10_put_97 rfl ⟨_, rfl, ?_⟩
            have es : s = 3 := pI_inj (a := s) (b := 3) (by omega) (by decide) zc77
            subst es
            have K := k4 i p _ rfl hi e1 e2 rfl hp hs es0
            rw [nI_n (show 60 * i + p < 2 ^ 31 by have := (hsz i hi e1 e2).2; omega)]
            rw [nar_3] at K
            exact K
        · refine g_lload_n dX10_put_68 rfl ?_
          refine g_l2i dX10_put_69 ?_
          refine g_i2l dX10_put_70 ?_
          refine g_goto (tgt := 95) dX10_put_71 (by decide) ?_
          refine g_last dX10_put_95 (moA_89 h) (vp_in_nI (by have := (hsz i hi e1 e2).2; omega) (by decide)) ?_
          refine g_iconst (v := 1) dX10_put_96 rfl ?_
          refine g_iret dX10_put_97 rfl ⟨_, rfl, ?_⟩
          have es : s = 2 := pI_inj (a := s) (b := 2) (by omega) (by decide) zc65
          subst es
          have K := k4 i p _ rfl hi e1 e2 rfl hp hs es0
          rw [nI_n (show 60 * i + p < 2 ^ 31 by have := (hsz i hi e1 e2).2; omega)]
          rw [nar_2] at K
          exact K
      · refine g_lload_n dX10_put_55 rfl ?_
        refine g_l2i dX10_put_56 ?_
        refine g_i2s dX10_put_57 ?_
        refine g_i2l dX10_put_58 ?_
        refine g_goto (tgt := 95) dX10_put_59 (by decide) ?_
        refine g_last dX10_put_95 (moA_89 h) (vp_in_nI (by have := (hsz i hi e1 e2).2; omega) (by decide)) ?_
        refine g_iconst (v := 1) dX10_put_96 rfl ?_
        refine g_iret dX10_put_97 rfl ⟨_, rfl, ?_⟩
        have es : s = 1 := pI_inj (a := s) (b := 1) (by omega) (by decide) zc52
        subst es
        have K := k4 i p _ rfl hi e1 e2 rfl hp hs es0
        rw [nI_n (show 60 * i + p < 2 ^ 31 by have := (hsz i hi e1 e2).2; omega)]
        rw [nar_1] at K
        exact K
    · refine g_lload_n dX10_put_42 rfl ?_
      refine g_l2i dX10_put_43 ?_
      refine g_i2b dX10_put_44 ?_
      refine g_i2l dX10_put_45 ?_
      refine g_goto (tgt := 95) dX10_put_46 (by decide) ?_
      refine g_last dX10_put_95 (moA_89 h) (vp_in_nI (by have := (hsz i hi e1 e2).2; omega) (by decide)) ?_
      refine g_iconst (v := 1) dX10_put_96 rfl ?_
      refine g_iret dX10_put_97 rfl ⟨_, rfl, ?_⟩
      have es : s = 0 := pI_inj (a := s) (b := 0) (by omega) (by decide) zc39
      subst es
      have K := k4 i p _ rfl hi e1 e2 rfl hp hs es0
      rw [nI_n (show 60 * i + p < 2 ^ 31 by have := (hsz i hi e1 e2).2; omega)]
      rw [nar_0] at K
      exact K
  · refine g_istore dX10_put_6 (Nat.le_of_ble_eq_true rfl) rfl ?_
    refine g_iload dX10_put_8 rfl ?_
    refine g_if_ge (tgt := 16) dX10_put_10 (by decide) (fun q => absurd q (by decide)) (fun _ => ?_)
    refine g_iload dX10_put_13 rfl ?_
    refine g_iret dX10_put_15 rfl ⟨_, rfl, ?_⟩
    exact k5 i ei hi e1 e2 np
theorem c_X10_element {d : Nat} {w : gx_W} {ln : Nat → Nat} {x y : Int32} {k : Int64 → gx_W → Prop} (hd : 3 ≤ d) (h : moO w) (hsz : ∀ i, i < 6 → ¬ w_a w 87 i = -1 → w_a w 87 i < 0 → w_a w 88 i = nI (ln i) ∧ ln i ≤ 60) (k1 : (∀ i p, x = nI i → i < 6 → ¬ w_a w 87 i = -1 → w_a w 87 i < 0 → y = nI p → p < ln i → False) → k (-9223372036854775808) w) (k4 : ∀ i p, x = nI i → i < 6 → ¬ w_a w 87 i = -1 → w_a w 87 i < 0 → y = nI p → p < ln i → k (w_l w 89 (60 * i + p)) w) : gx_C 0 0 d mX10_element [.ref 57, .int x, .int y] w (Ql k) := by
  refine gx_C_of' (L := [.ref 57, .int x, .int y]) (by decide +kernel) rfl (Nat.le_of_ble_eq_true rfl) ?_
  refine g_aload_n dX10_element_0 rfl ?_
  refine g_iload_n dX10_element_1 rfl ?_
  refine g_iload_n dX10_element_2 rfl ?_
  refine g_cV2i dX10_element_3 ml_X10_381 mi_X10_whyNoPlace mv_X10_whyNoPlace h.1 ⟨_, rfl, rfl⟩ (Nat.le_of_ble_eq_true rfl) rfl (by omega) ?_
  refine c_X10_whyNoPlace (by omega) h hsz (fun nx => ?_) (fun i ei hi e1 => ?_) (fun i ei hi e1 => ?_) (fun i p ei hi e1 e2 ep hp => ?_) (fun i ei hi e1 e2 np => ?_)
  · refine g_if_ge (tgt := 15) dX10_element_6 (by decide) (fun q => absurd q (by decide)) (fun _ => ?_)
    refine g_ldc2 dX10_element_9 ct_X10_296 ?_
    refine g_goto (tgt := 26) dX10_element_12 (by decide) ?_
    refine g_lret dX10_element_26 rfl ⟨_, rfl, ?_⟩
    exact k1 (fun j p ej hj _ _ _ _ => nx j hj ej)
  · refine g_if_ge (tgt := 15) dX10_element_6 (by decide) (fun q => absurd q (by decide)) (fun _ => ?_)
    refine g_ldc2 dX10_element_9 ct_X10_296 ?_
    refine g_goto (tgt := 26) dX10_element_12 (by decide) ?_
    refine g_lret dX10_element_26 rfl ⟨_, rfl, ?_⟩
    refine k1 (fun j p ej hj q1 q2 _ _ => ?_)
    have ee : i = j := pI_inj (by omega) (by omega) (ei.symm.trans ej)
    subst ee
    exact q1 e1
  · refine g_if_ge (tgt := 15) dX10_element_6 (by decide) (fun q => absurd q (by decide)) (fun _ => ?_)
    refine g_ldc2 dX10_element_9 ct_X10_296 ?_
    refine g_goto (tgt := 26) dX10_element_12 (by decide) ?_
    refine g_lret dX10_element_26 rfl ⟨_, rfl, ?_⟩
    refine k1 (fun j p ej hj q1 q2 _ _ => ?_)
    have ee : i = j := pI_inj (by omega) (by omega) (ei.symm.trans ej)
    subst ee
    exact e1 q2
  · refine g_if_ge (tgt := 15) dX10_element_6 (by decide) (fun _ => ?_) (fun q => absurd q (by decide))
    subst ei
    subst ep
    refine g_aload_n dX10_element_15 rfl ?_
    refine g_getr dX10_element_16 fl_X10_111 h.1 (moR_89 h) ?_
    refine g_bipush (v := 60) dX10_element_19 rfl ?_
    refine g_iload_n dX10_element_21 rfl ?_
    refine g_imul dX10_element_22 ?_
    refine g_iload_n dX10_element_23 rfl ?_
    refine g_iadd dX10_element_24 ?_
    rw [z60p]
    refine g_lald dX10_element_25 (moA_89 h) (vp_in_nI (by have := (hsz i hi e1 e2).2; omega) (by decide)) ?_
    refine g_lret dX10_element_26 rfl ⟨_, rfl, ?_⟩
    rw [nI_n (show 60 * i + p < 2 ^ 31 by have := (hsz i hi e1 e2).2; omega)]
    exact k4 i p rfl hi e1 e2 rfl hp
  · refine g_if_ge (tgt := 15) dX10_element_6 (by decide) (fun q => absurd q (by decide)) (fun _ => ?_)
    refine g_ldc2 dX10_element_9 ct_X10_296 ?_
    refine g_goto (tgt := 26) dX10_element_12 (by decide) ?_
    refine g_lret dX10_element_26 rfl ⟨_, rfl, ?_⟩
    refine k1 (fun j p ej hj q1 q2 ep hp => ?_)
    have ee : i = j := pI_inj (by omega) (by omega) (ei.symm.trans ej)
    subst ee
    exact np p hp ep
theorem c_X10_taken {d : Nat} {w : gx_W} {nb : Nat} {x y : Int32} {k : Int32 → gx_W → Prop} (hd : 2 ≤ d) (h : moO w) (hb : nb ≤ 50) (hk : ∀ i, i < 6 → ¬ w_a w 87 i < 0 → ∃ m q, m < nb ∧ w_a w 87 i = nI m ∧ q < 8 ∧ w_a w 85 m = nI q) (k1 : (∀ m, m < 6 → x ≠ nI m) → k (-1) w) (k2 : (∀ m, m ≤ 7 → y ≠ nI m) → k (-1) w) (k3 : ∀ i u, x = nI i → i < 6 → y = nI u → u ≤ 7 → w_a w 87 i = -1 → k (-11) w) (k4 : ∀ i u, x = nI i → i < 6 → y = nI u → u ≤ 7 → ¬ w_a w 87 i = -1 → w_a w 87 i < 0 → k (-12) w) (k5 : ∀ i u m q, x = nI i → i < 6 → y = nI u → u ≤ 7 → ¬ w_a w 87 i < 0 → m < nb → w_a w 87 i = nI m → q < 8 → w_a w 85 m = nI q → k (if bo_un y 8 q = true then nI q else -12) w) : gx_C 0 0 d mX10_taken [.ref 57, .int x, .int y] w (Qi k) := by
  refine gx_C_of' (L := [.ref 57, .int x, .int y]) (by decide +kernel) rfl (Nat.le_of_ble_eq_true rfl) ?_
  refine g_iload_n dX10_taken_0 rfl ?_
  refine g_cS1i dX10_taken_1 ml_X10_136 mi_X10_isShelf ms_X10_isShelf (Nat.le_of_ble_eq_true rfl) rfl (by omega) ?_
  refine c_X10_isShelf (by omega) (fun i ei hi => ?_) (fun nx => ?_)
  · refine g_if_eq (tgt := 17) dX10_taken_4 (by decide) (fun q => absurd q (by decide)) (fun _ => ?_)
    refine g_iload_n dX10_taken_7 rfl ?_
    refine g_iconst (v := 0) dX10_taken_8 rfl ?_
    refine g_bipush (v := 7) dX10_taken_9 rfl ?_
    refine g_cS3i dX10_taken_11 ml_X10_124 mi_X10_in ms_X10_in (Nat.le_of_ble_eq_true rfl) rfl (by omega) ?_
    refine c_inN (H := 7) rfl (by decide) (fun u eu hu0 => ?_) (fun ny => ?_)
    · refine g_if_ne (tgt := 19) dX10_taken_14 (by decide) (fun _ => ?_) (fun q => absurd q (by decide))
      subst ei
      subst eu
      have hu : u < 8 := by omega
      refine g_aload_n dX10_taken_19 rfl ?_
      refine g_getr dX10_taken_20 fl_X10_105 h.1 (moR_87 h) ?_
      refine g_iload_n dX10_taken_23 rfl ?_
      refine g_iald dX10_taken_24 (moA_87 h) (vp_in_nI (by omega) (by decide)) ?_
      rw [nI_n (show i < 2 ^ 31 by omega)]
      refine g_iconst (v := -1) dX10_taken_25 rfl ?_
      refine g_icmp_ne (tgt := 32) dX10_taken_26 (by decide) (fun zc26 => ?_) (fun zc26 => ?_)
      · refine g_aload_n dX10_taken_32 rfl ?_
        refine g_getr dX10_taken_33 fl_X10_105 h.1 (moR_87 h) ?_
        refine g_iload_n dX10_taken_36 rfl ?_
        refine g_iald dX10_taken_37 (moA_87 h) (vp_in_nI (by omega) (by decide)) ?_
        rw [nI_n (show i < 2 ^ 31 by omega)]
        refine g_if_lt (tgt := 73) dX10_taken_38 (by decide) (fun zc38 => ?_) (fun zc38 => ?_)
        · refine g_bipush (v := -12) dX10_taken_73 rfl ?_
          refine g_iret dX10_taken_75 rfl ⟨_, rfl, ?_⟩
          exact k4 i u rfl hi rfl hu0 zc26 zc38
        · obtain ⟨m, q, hm, em, hq, eq⟩ := hk i hi zc38
          refine g_aload_n dX10_taken_41 rfl ?_
          refine g_getr dX10_taken_42 fl_X10_99 h.1 (moR_85 h) ?_
          refine g_aload_n dX10_taken_45 rfl ?_
          refine g_getr dX10_taken_46 fl_X10_105 h.1 (moR_87 h) ?_
          refine g_iload_n dX10_taken_49 rfl ?_
          refine g_iald dX10_taken_50 (moA_87 h) (vp_in_nI (by omega) (by decide)) ?_
          rw [nI_n (show i < 2 ^ 31 by omega), em]
          refine g_iald dX10_taken_51 (moA_85 h) (vp_in_nI (by omega) (by decide)) ?_
          rw [nI_n (show m < 2 ^ 31 by omega), eq]
          refine g_iload_n dX10_taken_52 rfl ?_
          refine g_cS2i dX10_taken_53 ml_X10_345 mi_X10_isUnder ms_X10_isUnder (Nat.le_of_ble_eq_true rfl) rfl (by omega) ?_
          refine c_X10_isUnder (by omega) hq hu (fun z => ?_) (fun z => ?_)
          · refine g_if_eq (tgt := 73) dX10_taken_56 (by decide) (fun q => absurd q (by decide)) (fun _ => ?_)
            refine g_aload_n dX10_taken_59 rfl ?_
            refine g_getr dX10_taken_60 fl_X10_99 h.1 (moR_85 h) ?_
            refine g_aload_n dX10_taken_63 rfl ?_
            refine g_getr dX10_taken_64 fl_X10_105 h.1 (moR_87 h) ?_
            refine g_iload_n dX10_taken_67 rfl ?_
            refine g_iald dX10_taken_68 (moA_87 h) (vp_in_nI (by omega) (by decide)) ?_
            rw [nI_n (show i < 2 ^ 31 by omega), em]
            refine g_iald dX10_taken_69 (moA_85 h) (vp_in_nI (by omega) (by decide)) ?_
            rw [nI_n (show m < 2 ^ 31 by omega), eq]
            refine g_goto (tgt := 75) dX10_taken_70 (by decide) ?_
            refine g_iret dX10_taken_75 rfl ⟨_, rfl, ?_⟩
            have K := k5 i u m q rfl hi rfl hu0 zc38 hm em hq eq
            rw [if_pos z] at K
            exact K
          · refine g_if_eq (tgt := 73) dX10_taken_56 (by decide) (fun _ => ?_) (fun q => absurd q (by decide))
            refine g_bipush (v := -12) dX10_taken_73 rfl ?_
            refine g_iret dX10_taken_75 rfl ⟨_, rfl, ?_⟩
            have K := k5 i u m q rfl hi rfl hu0 zc38 hm em hq eq
            rw [if_neg (by rw [z]; decide)] at K
            exact K
      · refine g_bipush (v := -11) dX10_taken_29 rfl ?_
        refine g_iret dX10_taken_31 rfl ⟨_, rfl, ?_⟩
        exact k3 i u rfl hi rfl hu0 zc26
    · refine g_if_ne (tgt := 19) dX10_taken_14 (by decide) (fun q => absurd q (by decide)) (fun _ => ?_)
      refine g_iconst (v := -1) dX10_taken_17 rfl ?_
      refine g_iret dX10_taken_18 rfl ⟨_, rfl, ?_⟩
      exact k2 ny
  · refine g_if_eq (tgt := 17) dX10_taken_4 (by decide) (fun _ => ?_) (fun q => absurd q (by decide))
    refine g_iconst (v := -1) dX10_taken_17 rfl ?_
    refine g_iret dX10_taken_18 rfl ⟨_, rfl, ?_⟩
    exact k1 nx

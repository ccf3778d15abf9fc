/-! CrossroadsChoose: shelves -/
theorem c_X9_placeRefusal {d : Nat} {w : gx_W} {ln : Nat → Nat} {x y : Int32} {k : Int32 → gx_W → Prop} (hd : 2 ≤ d) (h : clO w) (hl : ∀ i, i < 6 → isSn w (45 + 2 * i) (46 + 2 * i) (ln i)) (k1 : (∀ i, i < 6 → x ≠ nI i) → k (-1) w) (k2 : ∀ i, x = nI i → i < 6 → w_i w (45 + 2 * i) 1 = 0 → k (-11) w) (k3 : ∀ i p, x = nI i → i < 6 → w_i w (45 + 2 * i) 1 = 2 → y = nI p → p < ln i → k 0 w) (k4 : ∀ i, x = nI i → i < 6 → ¬ w_i w (45 + 2 * i) 1 = 0 → ¬ w_i w (45 + 2 * i) 1 = 2 → k (-12) w) (k5 : ∀ i, x = nI i → i < 6 → w_i w (45 + 2 * i) 1 = 2 → (∀ p, p < ln i → y ≠ nI p) → k (-13) w) : gx_C 0 0 d mX9_placeRefusal [.ref 6, .int x, .int y] w (Qi k) := by
  refine gx_C_of' (L := [.ref 6, .int x, .int y, .retAddr 0, .retAddr 0]) (by decide +kernel) rfl (Nat.le_of_ble_eq_true rfl) ?_
  refine g_aload_n dX9_placeRefusal_0 rfl ?_
  refine g_iload_n dX9_placeRefusal_1 rfl ?_
  refine g_cV1i dX9_placeRefusal_2 ml_X9_219 mi_X9_rowRefusal mv_X9_rowRefusal h.1 ⟨_, rfl, rfl⟩ (Nat.le_of_ble_eq_true rfl) rfl (by omega) ?_
  refine c_X9_rowRefusal (by omega) h (fun hn => ?_) (fun i e hi f1 => ?_) (fun i e hi f1 => ?_) (fun i e hi f1 f2 => ?_)
  · refine g_istore_n dX9_placeRefusal_5 (Nat.le_of_ble_eq_true rfl) rfl ?_
    refine g_aload_n dX9_placeRefusal_6 rfl ?_
    refine g_iload_n dX9_placeRefusal_7 rfl ?_
    refine g_cV1q dX9_placeRefusal_8 ml_X9_91 mi_X9_shelfAt mv_X9_shelfAt h.1 ⟨_, rfl, rfl⟩ (Nat.le_of_ble_eq_true rfl) rfl (by omega) ?_
    refine c_X9_shelfAt (by omega) h (fun j e2 hj => ?_) (fun hn2 => ?_)
    · refine g_astore dX9_placeRefusal_11 (Nat.le_of_ble_eq_true rfl) rfl ?_
      refine g_iload_n dX9_placeRefusal_13 rfl ?_
      refine g_if_ne (tgt := 22) dX9_placeRefusal_14 (by decide) (fun _ => ?_) (fun q => absurd q (by decide))
      refine g_iload_n dX9_placeRefusal_22 rfl ?_
      refine g_iret dX9_placeRefusal_23 rfl ⟨_, rfl, ?_⟩
      exact k1 hn
    · refine g_astoreN dX9_placeRefusal_11 (Nat.le_of_ble_eq_true rfl) rfl ?_
      refine g_iload_n dX9_placeRefusal_13 rfl ?_
      refine g_if_ne (tgt := 22) dX9_placeRefusal_14 (by decide) (fun _ => ?_) (fun q => absurd q (by decide))
      refine g_iload_n dX9_placeRefusal_22 rfl ?_
      refine g_iret dX9_placeRefusal_23 rfl ⟨_, rfl, ?_⟩
      exact k1 hn
  · refine g_istore_n dX9_placeRefusal_5 (Nat.le_of_ble_eq_true rfl) rfl ?_
    refine g_aload_n dX9_placeRefusal_6 rfl ?_
    refine g_iload_n dX9_placeRefusal_7 rfl ?_
    refine g_cV1q dX9_placeRefusal_8 ml_X9_91 mi_X9_shelfAt mv_X9_shelfAt h.1 ⟨_, rfl, rfl⟩ (Nat.le_of_ble_eq_true rfl) rfl (by omega) ?_
    refine c_X9_shelfAt (by omega) h (fun j e2 hj => ?_) (fun hn2 => ?_)
    · refine g_astore dX9_placeRefusal_11 (Nat.le_of_ble_eq_true rfl) rfl ?_
      refine g_iload_n dX9_placeRefusal_13 rfl ?_
      refine g_if_ne (tgt := 22) dX9_placeRefusal_14 (by decide) (fun _ => ?_) (fun q => absurd q (by decide))
      refine g_iload_n dX9_placeRefusal_22 rfl ?_
      refine g_iret dX9_placeRefusal_23 rfl ⟨_, rfl, ?_⟩
      exact k2 i e hi f1
    · refine g_astoreN dX9_placeRefusal_11 (Nat.le_of_ble_eq_true rfl) rfl ?_
      refine g_iload_n dX9_placeRefusal_13 rfl ?_
      refine g_if_ne (tgt := 22) dX9_placeRefusal_14 (by decide) (fun _ => ?_) (fun q => absurd q (by decide))
      refine g_iload_n dX9_placeRefusal_22 rfl ?_
      refine g_iret dX9_placeRefusal_23 rfl ⟨_, rfl, ?_⟩
      exact k2 i e hi f1
  · refine g_istore_n dX9_placeRefusal_5 (Nat.le_of_ble_eq_true rfl) rfl ?_
    refine g_aload_n dX9_placeRefusal_6 rfl ?_
    refine g_iload_n dX9_placeRefusal_7 rfl ?_
    refine g_cV1q dX9_placeRefusal_8 ml_X9_91 mi_X9_shelfAt mv_X9_shelfAt h.1 ⟨_, rfl, rfl⟩ (Nat.le_of_ble_eq_true rfl) rfl (by omega) ?_
    refine c_X9_shelfAt (by omega) h (fun j e2 hj => ?_) (fun hn2 => ?_)
    · refine g_astore dX9_placeRefusal_11 (Nat.le_of_ble_eq_true rfl) rfl ?_
      refine g_iload_n dX9_placeRefusal_13 rfl ?_
      refine g_if_ne (tgt := 22) dX9_placeRefusal_14 (by decide) (fun q => absurd q (by decide)) (fun _ => ?_)
      refine g_aload dX9_placeRefusal_17 rfl ?_
      refine g_ifnonnull (tgt := 24) dX9_placeRefusal_19 (by decide) ?_
      refine g_aload dX9_placeRefusal_24 rfl ?_
      refine g_iload_n dX9_placeRefusal_26 rfl ?_
      refine g_iconst (v := 1) dX9_placeRefusal_27 rfl ?_
      refine g_cV2i dX9_placeRefusal_28 ml_X9_105 mi_X5_hasRoom mv_X5_hasRoom (h.2.2.1.2.2.2 j hj).1 ⟨_, rfl, rfl⟩ (Nat.le_of_ble_eq_true rfl) rfl (by omega) ?_
      refine c_X5_hasRoomN (hl j hj) (m := 1) (by decide) rfl (fun p ep hp => ?_) (fun np => ?_)
      · refine g_if_eq (tgt := 38) dX9_placeRefusal_31 (by decide) (fun q => absurd q (by decide)) (fun _ => ?_)
        refine g_iconst (v := 0) dX9_placeRefusal_34 rfl ?_
        refine g_goto (tgt := 40) dX9_placeRefusal_35 (by decide) ?_
        refine g_iret dX9_placeRefusal_40 rfl ⟨_, rfl, ?_⟩
        have ej : j = i := pI_inj (by omega) (by omega) (e2.symm.trans e)
        subst ej
        exact k3 j p e2 hj f1 ep (by omega)
      · refine g_if_eq (tgt := 38) dX9_placeRefusal_31 (by decide) (fun _ => ?_) (fun q => absurd q (by decide))
        refine g_bipush (v := -13) dX9_placeRefusal_38 rfl ?_
        refine g_iret dX9_placeRefusal_40 rfl ⟨_, rfl, ?_⟩
        have ej : j = i := pI_inj (by omega) (by omega) (e2.symm.trans e)
        subst ej
        exact k5 j e2 hj f1 (fun p hp ep => np p (by have := (hl j hj).2.2; omega) ep (by omega))
    · refine g_astoreN dX9_placeRefusal_11 (Nat.le_of_ble_eq_true rfl) rfl ?_
      refine g_iload_n dX9_placeRefusal_13 rfl ?_
      refine g_if_ne (tgt := 22) dX9_placeRefusal_14 (by decide) (fun q => absurd q (by decide)) (fun _ => ?_)
      refine g_aloadN dX9_placeRefusal_17 rfl ?_
      refine g_ifnonnullN dX9_placeRefusal_19 ?_
      refine g_iload_n dX9_placeRefusal_22 rfl ?_
      refine g_iret dX9_placeRefusal_23 rfl ⟨_, rfl, ?_⟩
      exact absurd e (hn2 i hi)
  · refine g_istore_n dX9_placeRefusal_5 (Nat.le_of_ble_eq_true rfl) rfl ?_
    refine g_aload_n dX9_placeRefusal_6 rfl ?_
    refine g_iload_n dX9_placeRefusal_7 rfl ?_
    refine g_cV1q dX9_placeRefusal_8 ml_X9_91 mi_X9_shelfAt mv_X9_shelfAt h.1 ⟨_, rfl, rfl⟩ (Nat.le_of_ble_eq_true rfl) rfl (by omega) ?_
    refine c_X9_shelfAt (by omega) h (fun j e2 hj => ?_) (fun hn2 => ?_)
    · refine g_astore dX9_placeRefusal_11 (Nat.le_of_ble_eq_true rfl) rfl ?_
      refine g_iload_n dX9_placeRefusal_13 rfl ?_
      refine g_if_ne (tgt := 22) dX9_placeRefusal_14 (by decide) (fun _ => ?_) (fun q => absurd q (by decide))
      refine g_iload_n dX9_placeRefusal_22 rfl ?_
      refine g_iret dX9_placeRefusal_23 rfl ⟨_, rfl, ?_⟩
      exact k4 i e hi f1 f2
    · refine g_astoreN dX9_placeRefusal_11 (Nat.le_of_ble_eq_true rfl) rfl ?_
      refine g_iload_n dX9_placeRefusal_13 rfl ?_
      refine g_if_ne (tgt := 22) dX9_placeRefusal_14 (by decide) (fun _ => ?_) (fun q => absurd q (by decide))
      refine g_iload_n dX9_placeRefusal_22 rfl ?_
      refine g_iret dX9_placeRefusal_23 rfl ⟨_, rfl, ?_⟩
      exact k4 i e hi f1 f2
theorem c_X9_pairRefusal {d : Nat} {w : gx_W} {x y : Int32} {k : Int32 → gx_W → Prop} (hd : 1 ≤ d) (h : clO w) (k1 : ((∀ i, i < 6 → x ≠ nI i) ∨ ∀ i, i < 6 → y ≠ nI i) → k (-1) w) (k2 : ∀ i j, x = nI i → i < 6 → y = nI j → j < 6 → (w_i w (45 + 2 * i) 1 = 0 ∨ w_i w (45 + 2 * j) 1 = 0) → k (-11) w) (k3 : ∀ i j, x = nI i → i < 6 → y = nI j → j < 6 → w_i w (45 + 2 * i) 1 = 2 → w_i w (45 + 2 * j) 1 = 2 → w_i w (45 + 2 * i) 3 = w_i w (45 + 2 * j) 3 → k 0 w) (k4 : ∀ i j, x = nI i → i < 6 → y = nI j → j < 6 → ¬ w_i w (45 + 2 * i) 1 = 0 → ¬ w_i w (45 + 2 * j) 1 = 0 → ¬ (w_i w (45 + 2 * i) 1 = 2 ∧ w_i w (45 + 2 * j) 1 = 2 ∧ w_i w (45 + 2 * i) 3 = w_i w (45 + 2 * j) 3) → k (-12) w) : gx_C 0 0 d mX9_pairRefusal [.ref 6, .int x, .int y] w (Qi k) := by
  refine gx_C_of' (L := [.ref 6, .int x, .int y, .retAddr 0, .retAddr 0, .retAddr 0]) (by decide +kernel) rfl (Nat.le_of_ble_eq_true rfl) ?_
  refine g_aload_n dX9_pairRefusal_0 rfl ?_
  refine g_iload_n dX9_pairRefusal_1 rfl ?_
  refine g_cV1q dX9_pairRefusal_2 ml_X9_91 mi_X9_shelfAt mv_X9_shelfAt h.1 ⟨_, rfl, rfl⟩ (Nat.le_of_ble_eq_true rfl) rfl (by omega) ?_
  refine c_X9_shelfAt (by omega) h (fun i e hi => ?_) (fun hn => ?_)
  · refine g_astore_n dX9_pairRefusal_5 (Nat.le_of_ble_eq_true rfl) rfl ?_
    refine g_aload_n dX9_pairRefusal_6 rfl ?_
    refine g_iload_n dX9_pairRefusal_7 rfl ?_
    refine g_cV1q dX9_pairRefusal_8 ml_X9_91 mi_X9_shelfAt mv_X9_shelfAt h.1 ⟨_, rfl, rfl⟩ (Nat.le_of_ble_eq_true rfl) rfl (by omega) ?_
    refine c_X9_shelfAt (by omega) h (fun j e2 hj => ?_) (fun hn2 => ?_)
    · refine g_astore dX9_pairRefusal_11 (Nat.le_of_ble_eq_true rfl) rfl ?_
      refine g_aload_n dX9_pairRefusal_13 rfl ?_
      refine g_ifnull dX9_pairRefusal_14 ?_
      refine g_aload dX9_pairRefusal_17 rfl ?_
      refine g_ifnonnull (tgt := 24) dX9_pairRefusal_19 (by decide) ?_
      refine g_aload_n dX9_pairRefusal_24 rfl ?_
      refine g_cV0i dX9_pairRefusal_25 ml_X9_95 mi_X5_holdsNothing mv_X5_holdsNothing (h.2.2.1.2.2.2 i hi).1 ⟨_, rfl, rfl⟩ (Nat.le_of_ble_eq_true rfl) rfl (by omega) ?_
      refine c_X5_holdsNothing (by omega) (h.2.2.1.2.2.2 i hi) (fun f1 => ?_) (fun f1 => ?_)
      · refine g_if_ne (tgt := 39) dX9_pairRefusal_28 (by decide) (fun _ => ?_) (fun q => absurd q (by decide))
        refine g_bipush (v := -11) dX9_pairRefusal_39 rfl ?_
        refine g_iret dX9_pairRefusal_41 rfl ⟨_, rfl, ?_⟩
        exact k2 i j e hi e2 hj (Or.inl f1)
      · refine g_if_ne (tgt := 39) dX9_pairRefusal_28 (by decide) (fun q => absurd q (by decide)) (fun _ => ?_)
        refine g_aload dX9_pairRefusal_31 rfl ?_
        refine g_cV0i dX9_pairRefusal_33 ml_X9_95 mi_X5_holdsNothing mv_X5_holdsNothing (h.2.2.1.2.2.2 j hj).1 ⟨_, rfl, rfl⟩ (Nat.le_of_ble_eq_true rfl) rfl (by omega) ?_
        refine c_X5_holdsNothing (by omega) (h.2.2.1.2.2.2 j hj) (fun f2 => ?_) (fun f2 => ?_)
        · refine g_if_eq (tgt := 42) dX9_pairRefusal_36 (by decide) (fun q => absurd q (by decide)) (fun _ => ?_)
          refine g_bipush (v := -11) dX9_pairRefusal_39 rfl ?_
          refine g_iret dX9_pairRefusal_41 rfl ⟨_, rfl, ?_⟩
          exact k2 i j e hi e2 hj (Or.inr f2)
        · refine g_if_eq (tgt := 42) dX9_pairRefusal_36 (by decide) (fun _ => ?_) (fun q => absurd q (by decide))
          refine g_aload_n dX9_pairRefusal_42 rfl ?_
          refine g_cV0i dX9_pairRefusal_43 ml_X9_329 mi_X5_holdsRow mv_X5_holdsRow (h.2.2.1.2.2.2 i hi).1 ⟨_, rfl, rfl⟩ (Nat.le_of_ble_eq_true rfl) rfl (by omega) ?_
          refine c_X5_holdsRow (by omega) (h.2.2.1.2.2.2 i hi) (fun g1 => ?_) (fun g1 => ?_)
          · refine g_if_eq (tgt := 73) dX9_pairRefusal_46 (by decide) (fun q => absurd q (by decide)) (fun _ => ?_)
            refine g_aload dX9_pairRefusal_49 rfl ?_
            refine g_cV0i dX9_pairRefusal_51 ml_X9_329 mi_X5_holdsRow mv_X5_holdsRow (h.2.2.1.2.2.2 j hj).1 ⟨_, rfl, rfl⟩ (Nat.le_of_ble_eq_true rfl) rfl (by omega) ?_
            refine c_X5_holdsRow (by omega) (h.2.2.1.2.2.2 j hj) (fun g2 => ?_) (fun g2 => ?_)
            · refine g_if_eq (tgt := 73) dX9_pairRefusal_54 (by decide) (fun q => absurd q (by decide)) (fun _ => ?_)
              refine g_aload_n dX9_pairRefusal_57 rfl ?_
              refine g_geti dX9_pairRefusal_58 fl_X9_348 (h.2.2.1.2.2.2 i hi).1 ?_
              refine g_aload dX9_pairRefusal_61 rfl ?_
              refine g_geti dX9_pairRefusal_63 fl_X9_348 (h.2.2.1.2.2.2 j hj).1 ?_
              refine g_icmp_ne (tgt := 73) dX9_pairRefusal_66 (by decide) (fun zc66 => ?_) (fun zc66 => ?_)
              · refine g_iconst (v := 0) dX9_pairRefusal_73 rfl ?_
                refine g_istore dX9_pairRefusal_74 (Nat.le_of_ble_eq_true rfl) rfl ?_
                refine g_iload dX9_pairRefusal_76 rfl ?_
                refine g_if_eq (tgt := 85) dX9_pairRefusal_78 (by decide) (fun _ => ?_) (fun q => absurd q (by decide))
                refine g_bipush (v := -12) dX9_pairRefusal_85 rfl ?_
                refine g_iret dX9_pairRefusal_87 rfl ⟨_, rfl, ?_⟩
                exact k4 i j e hi e2 hj f1 f2 (fun q => zc66 q.2.2)
              · refine g_iconst (v := 1) dX9_pairRefusal_69 rfl ?_
                refine g_goto (tgt := 74) dX9_pairRefusal_70 (by decide) ?_
                refine g_istore dX9_pairRefusal_74 (Nat.le_of_ble_eq_true rfl) rfl ?_
                refine g_iload dX9_pairRefusal_76 rfl ?_
                refine g_if_eq (tgt := 85) dX9_pairRefusal_78 (by decide) (fun q => absurd q (by decide)) (fun _ => ?_)
                refine g_iconst (v := 0) dX9_pairRefusal_81 rfl ?_
                refine g_goto (tgt := 87) dX9_pairRefusal_82 (by decide) ?_
                refine g_iret dX9_pairRefusal_87 rfl ⟨_, rfl, ?_⟩
                exact k3 i j e hi e2 hj g1 g2 (by first | exact zc66 | exact Classical.not_not.mp zc66)
            · refine g_if_eq (tgt := 73) dX9_pairRefusal_54 (by decide) (fun _ => ?_) (fun q => absurd q (by decide))
              refine g_iconst (v := 0) dX9_pairRefusal_73 rfl ?_
              refine g_istore dX9_pairRefusal_74 (Nat.le_of_ble_eq_true rfl) rfl ?_
              refine g_iload dX9_pairRefusal_76 rfl ?_
              refine g_if_eq (tgt := 85) dX9_pairRefusal_78 (by decide) (fun _ => ?_) (fun q => absurd q (by decide))
              refine g_bipush (v := -12) dX9_pairRefusal_85 rfl ?_
              refine g_iret dX9_pairRefusal_87 rfl ⟨_, rfl, ?_⟩
              exact k4 i j e hi e2 hj f1 f2 (fun q => g2 q.2.1)
          · refine g_if_eq (tgt := 73) dX9_pairRefusal_46 (by decide) (fun _ => ?_) (fun q => absurd q (by decide))
            refine g_iconst (v := 0) dX9_pairRefusal_73 rfl ?_
            refine g_istore dX9_pairRefusal_74 (Nat.le_of_ble_eq_true rfl) rfl ?_
            refine g_iload dX9_pairRefusal_76 rfl ?_
            refine g_if_eq (tgt := 85) dX9_pairRefusal_78 (by decide) (fun _ => ?_) (fun q => absurd q (by decide))
            refine g_bipush (v := -12) dX9_pairRefusal_85 rfl ?_
            refine g_iret dX9_pairRefusal_87 rfl ⟨_, rfl, ?_⟩
            exact k4 i j e hi e2 hj f1 f2 (fun q => g1 q.1)
    · refine g_astoreN dX9_pairRefusal_11 (Nat.le_of_ble_eq_true rfl) rfl ?_
      refine g_aload_n dX9_pairRefusal_13 rfl ?_
      refine g_ifnull dX9_pairRefusal_14 ?_
      refine g_aloadN dX9_pairRefusal_17 rfl ?_
      refine g_ifnonnullN dX9_pairRefusal_19 ?_
      refine g_iconst (v := -1) dX9_pairRefusal_22 rfl ?_
      refine g_iret dX9_pairRefusal_23 rfl ⟨_, rfl, ?_⟩
      exact k1 (Or.inr hn2)
  · refine g_astore_nN dX9_pairRefusal_5 (Nat.le_of_ble_eq_true rfl) rfl ?_
    refine g_aload_n dX9_pairRefusal_6 rfl ?_
    refine g_iload_n dX9_pairRefusal_7 rfl ?_
    refine g_cV1q dX9_pairRefusal_8 ml_X9_91 mi_X9_shelfAt mv_X9_shelfAt h.1 ⟨_, rfl, rfl⟩ (Nat.le_of_ble_eq_true rfl) rfl (by omega) ?_
    refine c_X9_shelfAt (by omega) h (fun j e2 hj => ?_) (fun hn2 => ?_)
    · refine g_astore dX9_pairRefusal_11 (Nat.le_of_ble_eq_true rfl) rfl ?_
      refine g_aload_nN dX9_pairRefusal_13 rfl ?_
      refine g_ifnullN (tgt := 22) dX9_pairRefusal_14 (by decide) ?_
      refine g_iconst (v := -1) dX9_pairRefusal_22 rfl ?_
      refine g_iret dX9_pairRefusal_23 rfl ⟨_, rfl, ?_⟩
      exact k1 (Or.inl hn)
    · refine g_astoreN dX9_pairRefusal_11 (Nat.le_of_ble_eq_true rfl) rfl ?_
      refine g_aload_nN dX9_pairRefusal_13 rfl ?_
      refine g_ifnullN (tgt := 22) dX9_pairRefusal_14 (by decide) ?_
      refine g_iconst (v := -1) dX9_pairRefusal_22 rfl ?_
      refine g_iret dX9_pairRefusal_23 rfl ⟨_, rfl, ?_⟩
      exact k1 (Or.inl hn)
theorem c_X9_keep {d : Nat} {w : gx_W} {nb : Nat} {x y : Int32} {k : Int32 → gx_W → Prop} (hd : 1 ≤ d) (h : clO w) (hb : boK w nb) (k1 : (∀ i, i < 6 → x ≠ nI i) → k (-1) w) (k2 : ¬ y = -1 → (∀ m, m < nb → y ≠ nI m) → k (-1) w) (k3 : ∀ i, x = nI i → i < 6 → y = -1 → k 1 (s_i (s_i w (45 + 2 * i) 1 0) (45 + 2 * i) 4 0)) (k4 : ∀ i m, x = nI i → i < 6 → y = nI m → m < nb → k 1 (s_i (s_i (s_i w (45 + 2 * i) 1 1) (45 + 2 * i) 2 y) (45 + 2 * i) 4 0)) : gx_C 0 0 d mX9_keep [.ref 6, .int x, .int y] w (Qi k) := by
  refine gx_C_of' (L := [.ref 6, .int x, .int y, .retAddr 0]) (by decide +kernel) rfl (Nat.le_of_ble_eq_true rfl) ?_
  have hn50 := hb.2.2
  refine g_aload_n dX9_keep_0 rfl ?_
  refine g_iload_n dX9_keep_1 rfl ?_
  refine g_cV1q dX9_keep_2 ml_X9_91 mi_X9_shelfAt mv_X9_shelfAt h.1 ⟨_, rfl, rfl⟩ (Nat.le_of_ble_eq_true rfl) rfl (by omega) ?_
  refine c_X9_shelfAt (by omega) h (fun i e hi => ?_) (fun hn => ?_)
  · refine g_astore_n dX9_keep_5 (Nat.le_of_ble_eq_true rfl) rfl ?_
    refine g_aload_n dX9_keep_6 rfl ?_
    refine g_ifnull dX9_keep_7 ?_
    refine g_iload_n dX9_keep_10 rfl ?_
    refine g_iconst (v := -1) dX9_keep_11 rfl ?_
    refine g_icmp_eq (tgt := 28) dX9_keep_12 (by decide) (fun zc12 => ?_) (fun zc12 => ?_)
    · refine g_iload_n dX9_keep_28 rfl ?_
      refine g_if_ge (tgt := 39) dX9_keep_29 (by decide) (fun zc29 => ?_) (fun zc29 => ?_)
      · refine g_aload_n dX9_keep_39 rfl ?_
        refine g_iload_n dX9_keep_40 rfl ?_
        refine g_cV1v dX9_keep_41 ml_X9_304 mi_X5_holdBody mv_X5_holdBody (h.2.2.1.2.2.2 i hi).1 ⟨_, rfl, rfl⟩ (Nat.le_of_ble_eq_true rfl) rfl (by omega) ?_
        refine c_X5_holdBody (by omega) (h.2.2.1.2.2.2 i hi) ?_
        refine g_iconst (v := 1) dX9_keep_44 rfl ?_
        refine g_iret dX9_keep_45 rfl ⟨_, rfl, ?_⟩
        exact absurd zc29 (by rw [zc12]; decide)
      · refine g_aload_n dX9_keep_32 rfl ?_
        refine g_cV0v dX9_keep_33 ml_X9_301 mi_X5_holdNothing mv_X5_holdNothing (h.2.2.1.2.2.2 i hi).1 ⟨_, rfl, rfl⟩ (Nat.le_of_ble_eq_true rfl) rfl (by omega) ?_
        refine c_X5_holdNothing (by omega) (h.2.2.1.2.2.2 i hi) ?_
        refine g_goto (tgt := 44) dX9_keep_36 (by decide) ?_
        refine g_iconst (v := 1) dX9_keep_44 rfl ?_
        refine g_iret dX9_keep_45 rfl ⟨_, rfl, ?_⟩
        exact k3 i e hi zc12
    · refine g_aload_n dX9_keep_15 rfl ?_
      refine g_getr dX9_keep_16 fl_X9_33 h.1 h.2.1.2.2.2.2.2 ?_
      refine g_iload_n dX9_keep_19 rfl ?_
      refine g_cV1i dX9_keep_20 ml_X9_298 mi_X0_isBody mv_X0_isBody hb.1.1 ⟨_, rfl, rfl⟩ (Nat.le_of_ble_eq_true rfl) rfl (by omega) ?_
      refine c_X0_isBody (by omega) hb (fun m em hm => ?_) (fun nm => ?_)
      · refine g_if_ne (tgt := 28) dX9_keep_23 (by decide) (fun _ => ?_) (fun q => absurd q (by decide))
        refine g_iload_n dX9_keep_28 rfl ?_
        refine g_if_ge (tgt := 39) dX9_keep_29 (by decide) (fun zc29 => ?_) (fun zc29 => ?_)
        · refine g_aload_n dX9_keep_39 rfl ?_
          refine g_iload_n dX9_keep_40 rfl ?_
          refine g_cV1v dX9_keep_41 ml_X9_304 mi_X5_holdBody mv_X5_holdBody (h.2.2.1.2.2.2 i hi).1 ⟨_, rfl, rfl⟩ (Nat.le_of_ble_eq_true rfl) rfl (by omega) ?_
          refine c_X5_holdBody (by omega) (h.2.2.1.2.2.2 i hi) ?_
          refine g_iconst (v := 1) dX9_keep_44 rfl ?_
          refine g_iret dX9_keep_45 rfl ⟨_, rfl, ?_⟩
          exact k4 i m e hi em hm
        · refine g_aload_n dX9_keep_32 rfl ?_
          refine g_cV0v dX9_keep_33 ml_X9_301 mi_X5_holdNothing mv_X5_holdNothing (h.2.2.1.2.2.2 i hi).1 ⟨_, rfl, rfl⟩ (Nat.le_of_ble_eq_true rfl) rfl (by omega) ?_
          refine c_X5_holdNothing (by omega) (h.2.2.1.2.2.2 i hi) ?_
          refine g_goto (tgt := 44) dX9_keep_36 (by decide) ?_
          refine g_iconst (v := 1) dX9_keep_44 rfl ?_
          refine g_iret dX9_keep_45 rfl ⟨_, rfl, ?_⟩
          exact absurd (by rw [em, pI_le, nI_toInt (by omega)]; exact Int.natCast_nonneg m) zc29
      · refine g_if_ne (tgt := 28) dX9_keep_23 (by decide) (fun q => absurd q (by decide)) (fun _ => ?_)
        refine g_iconst (v := -1) dX9_keep_26 rfl ?_
        refine g_iret dX9_keep_27 rfl ⟨_, rfl, ?_⟩
        exact k2 zc12 nm
  · refine g_astore_nN dX9_keep_5 (Nat.le_of_ble_eq_true rfl) rfl ?_
    refine g_aload_nN dX9_keep_6 rfl ?_
    refine g_ifnullN (tgt := 26) dX9_keep_7 (by decide) ?_
    refine g_iconst (v := -1) dX9_keep_26 rfl ?_
    refine g_iret dX9_keep_27 rfl ⟨_, rfl, ?_⟩
    exact k1 hn
theorem c_X9_row {d : Nat} {w : gx_W} {x s n : Int32} {k : Int32 → gx_W → Prop} (hd : 3 ≤ d) (h : clO w) (k1 : (∀ i, i < 6 → x ≠ nI i) → k (-1) w) (k2 : (s < 0 ∨ 4 < s) → k (-1) w) (k3 : 60 < n → k (-1) w) (k4 : ∀ i, x = nI i → i < 6 → ¬ s < 0 → ¬ 4 < s → n < 0 → k (-14) w) (k5 : ∀ i m, x = nI i → i < 6 → ¬ s < 0 → ¬ 4 < s → n = nI m → m ≤ 60 → k 1 (s_l (s_i (s_i (s_i w (45 + 2 * i) 1 2) (45 + 2 * i) 3 s) (45 + 2 * i) 4 (nI m)) (46 + 2 * i) (fun j => if j < 60 then 0 else w_l w (46 + 2 * i) j))) : gx_C 0 0 d mX9_row [.ref 6, .int x, .int s, .int n] w (Qi k) := by
  refine gx_C_of' (L := [.ref 6, .int x, .int s, .int n, .retAddr 0]) (by decide +kernel) rfl (Nat.le_of_ble_eq_true rfl) ?_
  refine g_aload_n dX9_row_0 rfl ?_
  refine g_iload_n dX9_row_1 rfl ?_
  refine g_cV1q dX9_row_2 ml_X9_91 mi_X9_shelfAt mv_X9_shelfAt h.1 ⟨_, rfl, rfl⟩ (Nat.le_of_ble_eq_true rfl) rfl (by omega) ?_
  refine c_X9_shelfAt (by omega) h (fun i e hi => ?_) (fun hn => ?_)
  · refine g_astore dX9_row_5 (Nat.le_of_ble_eq_true rfl) rfl ?_
    refine g_aload dX9_row_7 rfl ?_
    refine g_ifnull dX9_row_9 ?_
    refine g_iload_n dX9_row_12 rfl ?_
    refine g_if_lt (tgt := 27) dX9_row_13 (by decide) (fun zc13 => ?_) (fun zc13 => ?_)
    · refine g_iconst (v := -1) dX9_row_27 rfl ?_
      refine g_iret dX9_row_28 rfl ⟨_, rfl, ?_⟩
      exact k2 (Or.inl zc13)
    · refine g_iload_n dX9_row_16 rfl ?_
      refine g_iconst (v := 4) dX9_row_17 rfl ?_
      refine g_icmp_gt (tgt := 27) dX9_row_18 (by decide) (fun zc18 => ?_) (fun zc18 => ?_)
      · refine g_iconst (v := -1) dX9_row_27 rfl ?_
        refine g_iret dX9_row_28 rfl ⟨_, rfl, ?_⟩
        exact k2 (Or.inr zc18)
      · refine g_iload_n dX9_row_21 rfl ?_
        refine g_bipush (v := 60) dX9_row_22 rfl ?_
        refine g_icmp_le (tgt := 29) dX9_row_24 (by decide) (fun zc24 => ?_) (fun zc24 => ?_)
        · refine g_iload_n dX9_row_29 rfl ?_
          refine g_if_ge (tgt := 36) dX9_row_30 (by decide) (fun zc30 => ?_) (fun zc30 => ?_)
          · obtain ⟨m, hm, en⟩ : ∃ m, m < 61 ∧ n = nI m := pI_ex (n := 61) (Int32.not_lt.mpr zc30) (by
              have c : n ≤ 60 := zc24
              rw [pI_le] at c
              have e : (60 : Int32).toInt = 60 := by decide
              omega)
            have hm : m ≤ 60 := by omega
            subst en
            refine g_aload dX9_row_36 rfl ?_
            refine g_iload_n dX9_row_38 rfl ?_
            refine g_iload_n dX9_row_39 rfl ?_
            refine g_cV2v dX9_row_40 ml_X9_307 mi_X5_holdRow mv_X5_holdRow (h.2.2.1.2.2.2 i hi).1 ⟨_, rfl, rfl⟩ (Nat.le_of_ble_eq_true rfl) rfl (by omega) ?_
            refine c_X5_holdRow (by omega) (h.2.2.1.2.2.2 i hi) hm ?_
            refine g_iconst (v := 1) dX9_row_43 rfl ?_
            refine g_iret dX9_row_44 rfl ⟨_, rfl, ?_⟩
            exact k5 i m e hi zc13 zc18 rfl hm
          · refine g_bipush (v := -14) dX9_row_33 rfl ?_
            refine g_iret dX9_row_35 rfl ⟨_, rfl, ?_⟩
            exact k4 i e hi zc13 zc18 (Int32.not_le.mp zc30)
        · refine g_iconst (v := -1) dX9_row_27 rfl ?_
          refine g_iret dX9_row_28 rfl ⟨_, rfl, ?_⟩
          exact k3 (Int32.not_le.mp zc24)
  · refine g_astoreN dX9_row_5 (Nat.le_of_ble_eq_true rfl) rfl ?_
    refine g_aloadN dX9_row_7 rfl ?_
    refine g_ifnullN (tgt := 27) dX9_row_9 (by decide) ?_
    refine g_iconst (v := -1) dX9_row_27 rfl ?_
    refine g_iret dX9_row_28 rfl ⟨_, rfl, ?_⟩
    exact k1 hn
theorem c_X9_put {d : Nat} {w : gx_W} {ln : Nat → Nat} {x y : Int32} {v : Int64} {k : Int32 → gx_W → Prop} (hd : 3 ≤ d) (h : clO w) (hl : ∀ i, i < 6 → isSn w (45 + 2 * i) (46 + 2 * i) (ln i)) (k1 : (∀ i, i < 6 → x ≠ nI i) → k (-1) w) (k2 : ∀ i, x = nI i → i < 6 → w_i w (45 + 2 * i) 1 = 0 → k (-11) w) (k3 : ∀ i p, x = nI i → i < 6 → w_i w (45 + 2 * i) 1 = 2 → y = nI p → p < ln i → k 1 (s_l w (46 + 2 * i) (va_up (w_l w (46 + 2 * i)) p (sh_nar (w_i w (45 + 2 * i) 3) v)))) (k4 : ∀ i, x = nI i → i < 6 → ¬ w_i w (45 + 2 * i) 1 = 0 → ¬ w_i w (45 + 2 * i) 1 = 2 → k (-12) w) (k5 : ∀ i, x = nI i → i < 6 → w_i w (45 + 2 * i) 1 = 2 → (∀ p, p < ln i → y ≠ nI p) → k (-13) w) : gx_C 0 0 d mX9_put [.ref 6, .int x, .int y, .long v] w (Qi k) := by
  refine gx_C_of' (L := [.ref 6, .int x, .int y, .long v, .retAddr 0, .retAddr 0, .retAddr 0]) (by decide +kernel) rfl (Nat.le_of_ble_eq_true rfl) ?_
  refine g_aload_n dX9_put_0 rfl ?_
  refine g_iload_n dX9_put_1 rfl ?_
  refine g_iload_n dX9_put_2 rfl ?_
  refine g_cV2i dX9_put_3 ml_X9_311 mi_X9_placeRefusal mv_X9_placeRefusal h.1 ⟨_, rfl, rfl⟩ (Nat.le_of_ble_eq_true rfl) rfl (by omega) ?_
  refine c_X9_placeRefusal (by omega) h hl (fun hn => ?_) (fun i e hi f1 => ?_) (fun i p e hi f1 ep hp => ?_) (fun i e hi f1 f2 => ?_) (fun i e hi f1 np => ?_)
  · refine g_istore dX9_put_6 (Nat.le_of_ble_eq_true rfl) rfl ?_
    refine g_aload_n dX9_put_8 rfl ?_
    refine g_iload_n dX9_put_9 rfl ?_
    refine g_cV1q dX9_put_10 ml_X9_91 mi_X9_shelfAt mv_X9_shelfAt h.1 ⟨_, rfl, rfl⟩ (Nat.le_of_ble_eq_true rfl) rfl (by omega) ?_
    refine c_X9_shelfAt (by omega) h (fun j e2 hj => ?_) (fun hn2 => ?_)
    · refine g_astore dX9_put_13 (Nat.le_of_ble_eq_true rfl) rfl ?_
      refine g_iload dX9_put_15 rfl ?_
      refine g_if_ne (tgt := 25) dX9_put_17 (by decide) (fun _ => ?_) (fun q => absurd q (by decide))
      refine g_iload dX9_put_25 rfl ?_
      refine g_iret dX9_put_27 rfl ⟨_, rfl, ?_⟩
      exact k1 hn
    · refine g_astoreN dX9_put_13 (Nat.le_of_ble_eq_true rfl) rfl ?_
      refine g_iload dX9_put_15 rfl ?_
      refine g_if_ne (tgt := 25) dX9_put_17 (by decide) (fun _ => ?_) (fun q => absurd q (by decide))
      refine g_iload dX9_put_25 rfl ?_
      refine g_iret dX9_put_27 rfl ⟨_, rfl, ?_⟩
      exact k1 hn
  · refine g_istore dX9_put_6 (Nat.le_of_ble_eq_true rfl) rfl ?_
    refine g_aload_n dX9_put_8 rfl ?_
    refine g_iload_n dX9_put_9 rfl ?_
    refine g_cV1q dX9_put_10 ml_X9_91 mi_X9_shelfAt mv_X9_shelfAt h.1 ⟨_, rfl, rfl⟩ (Nat.le_of_ble_eq_true rfl) rfl (by omega) ?_
    refine c_X9_shelfAt (by omega) h (fun j e2 hj => ?_) (fun hn2 => ?_)
    · refine g_astore dX9_put_13 (Nat.le_of_ble_eq_true rfl) rfl ?_
      refine g_iload dX9_put_15 rfl ?_
      refine g_if_ne (tgt := 25) dX9_put_17 (by decide) (fun _ => ?_) (fun q => absurd q (by decide))
      refine g_iload dX9_put_25 rfl ?_
      refine g_iret dX9_put_27 rfl ⟨_, rfl, ?_⟩
      exact k2 i e hi f1
    · refine g_astoreN dX9_put_13 (Nat.le_of_ble_eq_true rfl) rfl ?_
      refine g_iload dX9_put_15 rfl ?_
      refine g_if_ne (tgt := 25) dX9_put_17 (by decide) (fun _ => ?_) (fun q => absurd q (by decide))
      refine g_iload dX9_put_25 rfl ?_
      refine g_iret dX9_put_27 rfl ⟨_, rfl, ?_⟩
      exact k2 i e hi f1
  · refine g_istore dX9_put_6 (Nat.le_of_ble_eq_true rfl) rfl ?_
    refine g_aload_n dX9_put_8 rfl ?_
    refine g_iload_n dX9_put_9 rfl ?_
    refine g_cV1q dX9_put_10 ml_X9_91 mi_X9_shelfAt mv_X9_shelfAt h.1 ⟨_, rfl, rfl⟩ (Nat.le_of_ble_eq_true rfl) rfl (by omega) ?_
    refine c_X9_shelfAt (by omega) h (fun j e2 hj => ?_) (fun hn2 => ?_)
    · refine g_astore dX9_put_13 (Nat.le_of_ble_eq_true rfl) rfl ?_
      refine g_iload dX9_put_15 rfl ?_
      refine g_if_ne (tgt := 25) dX9_put_17 (by decide) (fun q => absurd q (by decide)) (fun _ => ?_)
      refine g_aload dX9_put_20 rfl ?_
      refine g_ifnonnull (tgt := 28) dX9_put_22 (by decide) ?_
      refine g_aload dX9_put_28 rfl ?_
      refine g_iload_n dX9_put_30 rfl ?_
      refine g_lload_n dX9_put_31 rfl ?_
      refine g_cV2v dX9_put_32 ml_X9_314 mi_X5_write mv_X5_write (h.2.2.1.2.2.2 j hj).1 ⟨_, rfl, rfl⟩ (Nat.le_of_ble_eq_true rfl) rfl (by omega) ?_
      refine c_X5_write (by omega) (hl j hj) (fun p2 ep2 hp2 => ?_) (fun np2 => ?_)
      · refine g_iconst (v := 1) dX9_put_35 rfl ?_
        refine g_iret dX9_put_36 rfl ⟨_, rfl, ?_⟩
        have ej : j = i := pI_inj (by omega) (by omega) (e2.symm.trans e)
        subst ej
        exact k3 j p2 e2 hj f1 ep2 hp2
      · refine g_iconst (v := 1) dX9_put_35 rfl ?_
        refine g_iret dX9_put_36 rfl ⟨_, rfl, ?_⟩
        have ej : j = i := pI_inj (by omega) (by omega) (e2.symm.trans e)
        subst ej
        exact absurd hp (np2 p (by have := (hl j hj).2.2; omega) ep)
    · refine g_astoreN dX9_put_13 (Nat.le_of_ble_eq_true rfl) rfl ?_
      refine g_iload dX9_put_15 rfl ?_
      refine g_if_ne (tgt := 25) dX9_put_17 (by decide) (fun q => absurd q (by decide)) (fun _ => ?_)
      refine g_aloadN dX9_put_20 rfl ?_
      refine g_ifnonnullN dX9_put_22 ?_
      refine g_iload dX9_put_25 rfl ?_
      refine g_iret dX9_put_27 rfl ⟨_, rfl, ?_⟩
      exact absurd e (hn2 i hi)
  · refine g_istore dX9_put_6 (Nat.le_of_ble_eq_true rfl) rfl ?_
    refine g_aload_n dX9_put_8 rfl ?_
    refine g_iload_n dX9_put_9 rfl ?_
    refine g_cV1q dX9_put_10 ml_X9_91 mi_X9_shelfAt mv_X9_shelfAt h.1 ⟨_, rfl, rfl⟩ (Nat.le_of_ble_eq_true rfl) rfl (by omega) ?_
    refine c_X9_shelfAt (by omega) h (fun j e2 hj => ?_) (fun hn2 => ?_)
    · refine g_astore dX9_put_13 (Nat.le_of_ble_eq_true rfl) rfl ?_
      refine g_iload dX9_put_15 rfl ?_
      refine g_if_ne (tgt := 25) dX9_put_17 (by decide) (fun _ => ?_) (fun q => absurd q (by decide))
      refine g_iload dX9_put_25 rfl ?_
      refine g_iret dX9_put_27 rfl ⟨_, rfl, ?_⟩
      exact k4 i e hi f1 f2
    · refine g_astoreN dX9_put_13 (Nat.le_of_ble_eq_true rfl) rfl ?_
      refine g_iload dX9_put_15 rfl ?_
      refine g_if_ne (tgt := 25) dX9_put_17 (by decide) (fun _ => ?_) (fun q => absurd q (by decide))
      refine g_iload dX9_put_25 rfl ?_
      refine g_iret dX9_put_27 rfl ⟨_, rfl, ?_⟩
      exact k4 i e hi f1 f2
  · refine g_istore dX9_put_6 (Nat.le_of_ble_eq_true rfl) rfl ?_
    refine g_aload_n dX9_put_8 rfl ?_
    refine g_iload_n dX9_put_9 rfl ?_
    refine g_cV1q dX9_put_10 ml_X9_91 mi_X9_shelfAt mv_X9_shelfAt h.1 ⟨_, rfl, rfl⟩ (Nat.le_of_ble_eq_true rfl) rfl (by omega) ?_
    refine c_X9_shelfAt (by omega) h (fun j e2 hj => ?_) (fun hn2 => ?_)
    · refine g_astore dX9_put_13 (Nat.le_of_ble_eq_true rfl) rfl ?_
      refine g_iload dX9_put_15 rfl ?_
      refine g_if_ne (tgt := 25) dX9_put_17 (by decide) (fun _ => ?_) (fun q => absurd q (by decide))
      refine g_iload dX9_put_25 rfl ?_
      refine g_iret dX9_put_27 rfl ⟨_, rfl, ?_⟩
      exact k5 i e hi f1 np
    · refine g_astoreN dX9_put_13 (Nat.le_of_ble_eq_true rfl) rfl ?_
      refine g_iload dX9_put_15 rfl ?_
      refine g_if_ne (tgt := 25) dX9_put_17 (by decide) (fun _ => ?_) (fun q => absurd q (by decide))
      refine g_iload dX9_put_25 rfl ?_
      refine g_iret dX9_put_27 rfl ⟨_, rfl, ?_⟩
      exact k5 i e hi f1 np
theorem c_X9_element {d : Nat} {w : gx_W} {ln : Nat → Nat} {x y : Int32} {k : Int64 → gx_W → Prop} (hd : 3 ≤ d) (h : clO w) (hl : ∀ i, i < 6 → isSn w (45 + 2 * i) (46 + 2 * i) (ln i)) (k1 : (∀ i p, x = nI i → i < 6 → w_i w (45 + 2 * i) 1 = 2 → y = nI p → p < ln i → False) → k (-9223372036854775808) w) (k3 : ∀ i p, x = nI i → i < 6 → w_i w (45 + 2 * i) 1 = 2 → y = nI p → p < ln i → k (w_l w (46 + 2 * i) p) w) : gx_C 0 0 d mX9_element [.ref 6, .int x, .int y] w (Ql k) := by
  refine gx_C_of' (L := [.ref 6, .int x, .int y, .retAddr 0]) (by decide +kernel) rfl (Nat.le_of_ble_eq_true rfl) ?_
  refine g_aload_n dX9_element_0 rfl ?_
  refine g_iload_n dX9_element_1 rfl ?_
  refine g_cV1q dX9_element_2 ml_X9_91 mi_X9_shelfAt mv_X9_shelfAt h.1 ⟨_, rfl, rfl⟩ (Nat.le_of_ble_eq_true rfl) rfl (by omega) ?_
  refine c_X9_shelfAt (by omega) h (fun j e2 hj => ?_) (fun hn2 => ?_)
  · refine g_astore_n dX9_element_5 (Nat.le_of_ble_eq_true rfl) rfl ?_
    refine g_aload_n dX9_element_6 rfl ?_
    refine g_iload_n dX9_element_7 rfl ?_
    refine g_iload_n dX9_element_8 rfl ?_
    refine g_cV2i dX9_element_9 ml_X9_311 mi_X9_placeRefusal mv_X9_placeRefusal h.1 ⟨_, rfl, rfl⟩ (Nat.le_of_ble_eq_true rfl) rfl (by omega) ?_
    refine c_X9_placeRefusal (by omega) h hl (fun hn => ?_) (fun i e hi f1 => ?_) (fun i p e hi f1 ep hp => ?_) (fun i e hi f1 f2 => ?_) (fun i e hi f1 np => ?_)
    · refine g_if_ne (tgt := 19) dX9_element_12 (by decide) (fun _ => ?_) (fun q => absurd q (by decide))
      refine g_ldc2 dX9_element_19 ct_X9_227 ?_
      refine g_lret dX9_element_22 rfl ⟨_, rfl, ?_⟩
      exact k1 (fun i p q1 q2 q3 q4 q5 => hn i q2 q1)
    · refine g_if_ne (tgt := 19) dX9_element_12 (by decide) (fun _ => ?_) (fun q => absurd q (by decide))
      refine g_ldc2 dX9_element_19 ct_X9_227 ?_
      refine g_lret dX9_element_22 rfl ⟨_, rfl, ?_⟩
      refine k1 (fun i2 p q1 q2 q3 q4 q5 => ?_)
      have ei : i2 = i := pI_inj (by omega) (by omega) (q1.symm.trans e)
      subst ei
      rw [f1] at q3
      exact absurd q3 (by decide)
    · refine g_if_ne (tgt := 19) dX9_element_12 (by decide) (fun q => absurd q (by decide)) (fun _ => ?_)
      refine g_aload_n dX9_element_15 rfl ?_
      refine g_ifnonnull (tgt := 23) dX9_element_16 (by decide) ?_
      refine g_aload_n dX9_element_23 rfl ?_
      refine g_iload_n dX9_element_24 rfl ?_
      refine g_cV1l dX9_element_25 ml_X9_318 mi_X5_valueAt mv_X5_valueAt (h.2.2.1.2.2.2 j hj).1 ⟨_, rfl, rfl⟩ (Nat.le_of_ble_eq_true rfl) rfl (by omega) ?_
      refine c_X5_valueAt (by omega) (hl j hj) (fun p2 ep2 hp2 => ?_) (fun np2 => ?_)
      · refine g_lret dX9_element_28 rfl ⟨_, rfl, ?_⟩
        have ej : j = i := pI_inj (by omega) (by omega) (e2.symm.trans e)
        subst ej
        exact k3 j p2 e2 hj f1 ep2 hp2
      · refine g_lret dX9_element_28 rfl ⟨_, rfl, ?_⟩
        have ej : j = i := pI_inj (by omega) (by omega) (e2.symm.trans e)
        subst ej
        exact absurd hp (np2 p (by have := (hl j hj).2.2; omega) ep)
    · refine g_if_ne (tgt := 19) dX9_element_12 (by decide) (fun _ => ?_) (fun q => absurd q (by decide))
      refine g_ldc2 dX9_element_19 ct_X9_227 ?_
      refine g_lret dX9_element_22 rfl ⟨_, rfl, ?_⟩
      refine k1 (fun i2 p q1 q2 q3 q4 q5 => ?_)
      have ei : i2 = i := pI_inj (by omega) (by omega) (q1.symm.trans e)
      subst ei
      exact f2 q3
    · refine g_if_ne (tgt := 19) dX9_element_12 (by decide) (fun _ => ?_) (fun q => absurd q (by decide))
      refine g_ldc2 dX9_element_19 ct_X9_227 ?_
      refine g_lret dX9_element_22 rfl ⟨_, rfl, ?_⟩
      refine k1 (fun i2 p q1 q2 q3 q4 q5 => ?_)
      have ei : i2 = i := pI_inj (by omega) (by omega) (q1.symm.trans e)
      subst ei
      exact np p q5 q4
  · refine g_astore_nN dX9_element_5 (Nat.le_of_ble_eq_true rfl) rfl ?_
    refine g_aload_n dX9_element_6 rfl ?_
    refine g_iload_n dX9_element_7 rfl ?_
    refine g_iload_n dX9_element_8 rfl ?_
    refine g_cV2i dX9_element_9 ml_X9_311 mi_X9_placeRefusal mv_X9_placeRefusal h.1 ⟨_, rfl, rfl⟩ (Nat.le_of_ble_eq_true rfl) rfl (by omega) ?_
    refine c_X9_placeRefusal (by omega) h hl (fun hn => ?_) (fun i e hi f1 => ?_) (fun i p e hi f1 ep hp => ?_) (fun i e hi f1 f2 => ?_) (fun i e hi f1 np => ?_)
    · refine g_if_ne (tgt := 19) dX9_element_12 (by decide) (fun _ => ?_) (fun q => absurd q (by decide))
      refine g_ldc2 dX9_element_19 ct_X9_227 ?_
      refine g_lret dX9_element_22 rfl ⟨_, rfl, ?_⟩
      exact k1 (fun i p q1 q2 q3 q4 q5 => hn i q2 q1)
    · refine g_if_ne (tgt := 19) dX9_element_12 (by decide) (fun _ => ?_) (fun q => absurd q (by decide))
      refine g_ldc2 dX9_element_19 ct_X9_227 ?_
      refine g_lret dX9_element_22 rfl ⟨_, rfl, ?_⟩
      refine k1 (fun i2 p q1 q2 q3 q4 q5 => ?_)
      have ei : i2 = i := pI_inj (by omega) (by omega) (q1.symm.trans e)
      subst ei
      rw [f1] at q3
      exact absurd q3 (by decide)
    · refine g_if_ne (tgt := 19) dX9_element_12 (by decide) (fun q => absurd q (by decide)) (fun _ => ?_)
      refine g_aload_nN dX9_element_15 rfl ?_
      refine g_ifnonnullN dX9_element_16 ?_
      refine g_ldc2 dX9_element_19 ct_X9_227 ?_
      refine g_lret dX9_element_22 rfl ⟨_, rfl, ?_⟩
      exact absurd e (hn2 i hi)
    · refine g_if_ne (tgt := 19) dX9_element_12 (by decide) (fun _ => ?_) (fun q => absurd q (by decide))
      refine g_ldc2 dX9_element_19 ct_X9_227 ?_
      refine g_lret dX9_element_22 rfl ⟨_, rfl, ?_⟩
      refine k1 (fun i2 p q1 q2 q3 q4 q5 => ?_)
      have ei : i2 = i := pI_inj (by omega) (by omega) (q1.symm.trans e)
      subst ei
      exact f2 q3
    · refine g_if_ne (tgt := 19) dX9_element_12 (by decide) (fun _ => ?_) (fun q => absurd q (by decide))
      refine g_ldc2 dX9_element_19 ct_X9_227 ?_
      refine g_lret dX9_element_22 rfl ⟨_, rfl, ?_⟩
      refine k1 (fun i2 p q1 q2 q3 q4 q5 => ?_)
      have ei : i2 = i := pI_inj (by omega) (by omega) (q1.symm.trans e)
      subst ei
      exact np p q5 q4

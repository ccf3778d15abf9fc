/-! CrossroadsChoose: in deed, taken, shift, undo, redo -/
def leadR (w w' : gx_W) (n t : Nat) : Prop := same [21, 38] [] w w' ∧ w_a w' 21 = va_up (va_up (w_a w 21) 3 (w_a w 21 3 + w_a w 38 (12 + t))) 4 (nI t) ∧ w_a w' 38 = cr_set (w_a w 38) n t
theorem c_X9_lead {d : Nat} {w : gx_W} {n t : Nat} {k : gx_W → Prop} (hd : 3 ≤ d) (hT : isT w) (h : clO w) (hc : isCn w 37 38 n) (ht : t < n) (kk : ∀ w', leadR w w' n t → k w') : gx_C 0 0 d mX9_lead [.ref 6, .int (nI t)] w (Qv k) := by
  refine gx_C_of' (L := [.ref 6, .int (nI t)]) (by decide +kernel) rfl (Nat.le_of_ble_eq_true rfl) ?_
  refine g_aload_n dX9_lead_0 rfl ?_
  refine g_getr dX9_lead_1 fl_X9_43 h.1 h.2.2.2.1.1 ?_
  refine g_iconst (v := 3) dX9_lead_4 rfl ?_
  refine g_dup2 dX9_lead_5 rfl rfl ?_
  refine g_iald dX9_lead_6 h.2.2.2.1.2 (by first | assumption | exact vp_in_iff.mpr (by decide)) ?_
  refine g_aload_n dX9_lead_7 rfl ?_
  refine g_getr dX9_lead_8 fl_X9_67 h.1 h.2.1.1 ?_
  refine g_iload_n dX9_lead_11 rfl ?_
  refine g_iconst (v := 2) dX9_lead_12 rfl ?_
  refine g_cV2i dX9_lead_13 ml_X9_112 mi_X2_number mv_X2_number hc.1.1 ⟨_, rfl, rfl⟩ (Nat.le_of_ble_eq_true rfl) rfl (by omega) ?_
  refine c_number_r (q := 2) (m := t) (by omega) hc (by decide) ht rfl rfl ?_
  refine g_iadd dX9_lead_16 ?_
  refine g_iast dX9_lead_17 h.2.2.2.1.2 (by first | assumption | exact vp_in_iff.mpr (by decide)) ?_
  refine g_aload_n dX9_lead_18 rfl ?_
  refine g_getr dX9_lead_19 fl_X9_43 h.1 h.2.2.2.1.1 ?_
  refine g_iconst (v := 4) dX9_lead_22 rfl ?_
  refine g_iload_n dX9_lead_23 rfl ?_
  refine g_iast dX9_lead_24 h.2.2.2.1.2 (by first | assumption | exact vp_in_iff.mpr (by decide)) ?_
  refine g_aload_n dX9_lead_25 rfl ?_
  refine g_getr dX9_lead_26 fl_X9_67 h.1 h.2.1.1 ?_
  refine g_iload_n dX9_lead_29 rfl ?_
  refine g_cV1v dX9_lead_30 ml_X9_199 mi_X2_settle mv_X2_settle hc.1.1 ⟨_, rfl, rfl⟩ (Nat.le_of_ble_eq_true rfl) rfl (by omega) ?_
  refine c_X2_settle (by omega) (hT.same (same.sa (R := [21]) (F := []) (same.sa same.rf (by simp)) (by simp)) (by simp)) (hc.same (same.sa (R := [21]) (F := []) (same.sa same.rf (by simp)) (by simp)) (by simp)) ht ?_
  refine g_vret dX9_lead_33 rfl ⟨rfl, ?_⟩
  refine kk _ ⟨same.sa (same.sa (same.sa same.rf (by simp)) (by simp)) (by simp), ?_, ?_⟩
  · rw [wa_sa, if_neg (by decide), wa_sa, if_pos rfl, wa_sa, if_pos rfl]; rfl
  · rw [wa_sa, if_pos rfl, wa_sa, if_neg (by decide), wa_sa, if_neg (by decide)]
theorem c_X9_send {d : Nat} {w : gx_W} {n : Nat} {x : Int32} {k : Int32 → gx_W → Prop} (hd : 4 ≤ d) (hT : isT w) (h : clO w) (hc : isCn w 37 38 n) (k1 : (∀ m, m < n → x ≠ nI m) → k (-1) w) (k2 : ∀ t, x = nI t → t < n → ∀ w', leadR (s_a w 21 (va_up (w_a w 21) 2 (w_a w 21 2 + 1))) w' n t → k (w_a w 38 (18 + t)) w') : gx_C 0 0 d mX9_send [.ref 6, .int x] w (Qi k) := by
  refine gx_C_of' (L := [.ref 6, .int x, .retAddr 0]) (by decide +kernel) rfl (Nat.le_of_ble_eq_true rfl) ?_
  refine g_aload_n dX9_send_0 rfl ?_
  refine g_getr dX9_send_1 fl_X9_67 h.1 h.2.1.1 ?_
  refine g_iload_n dX9_send_4 rfl ?_
  refine g_cV1i dX9_send_5 ml_X9_141 mi_X2_isRoad mv_X2_isRoad hc.1.1 ⟨_, rfl, rfl⟩ (Nat.le_of_ble_eq_true rfl) rfl (by omega) ?_
  refine c_X2_isRoad (by omega) hc (fun m e hm => ?_) (fun hn => ?_)
  · refine g_if_ne (tgt := 13) dX9_send_8 (by decide) (fun _ => ?_) (fun q => absurd q (by decide))
    subst e
    refine g_aload_n dX9_send_13 rfl ?_
    refine g_getr dX9_send_14 fl_X9_67 h.1 h.2.1.1 ?_
    refine g_iload_n dX9_send_17 rfl ?_
    refine g_iconst (v := 3) dX9_send_18 rfl ?_
    refine g_cV2i dX9_send_19 ml_X9_112 mi_X2_number mv_X2_number hc.1.1 ⟨_, rfl, rfl⟩ (Nat.le_of_ble_eq_true rfl) rfl (by omega) ?_
    refine c_number_r (q := 3) (m := m) (by omega) hc (by decide) hm rfl rfl ?_
    refine g_istore_n dX9_send_22 (Nat.le_of_ble_eq_true rfl) rfl ?_
    refine g_aload_n dX9_send_23 rfl ?_
    refine g_getr dX9_send_24 fl_X9_43 h.1 h.2.2.2.1.1 ?_
    refine g_iconst (v := 2) dX9_send_27 rfl ?_
    refine g_dup2 dX9_send_28 rfl rfl ?_
    refine g_iald dX9_send_29 h.2.2.2.1.2 (by first | assumption | exact vp_in_iff.mpr (by decide)) ?_
    refine g_iconst (v := 1) dX9_send_30 rfl ?_
    refine g_iadd dX9_send_31 ?_
    refine g_iast dX9_send_32 h.2.2.2.1.2 (by first | assumption | exact vp_in_iff.mpr (by decide)) ?_
    refine g_aload_n dX9_send_33 rfl ?_
    refine g_iload_n dX9_send_34 rfl ?_
    refine g_cV1v dX9_send_35 ml_X9_259 mi_X9_lead mv_X9_lead h.1 ⟨_, rfl, rfl⟩ (Nat.le_of_ble_eq_true rfl) rfl (by omega) ?_
    refine c_X9_lead (by omega) (hT.same (same.sa (R := [21]) (F := []) same.rf (by simp)) (by simp)) (h.same (same.sa (R := [21]) (F := []) same.rf (by simp))) (hc.same (same.sa (R := [21]) (F := []) same.rf (by simp)) (by simp)) hm (fun w1 r1 => ?_)
    refine g_iload_n dX9_send_38 rfl ?_
    refine g_iret dX9_send_39 rfl ⟨_, rfl, ?_⟩
    exact k2 m rfl hm w1 r1
  · refine g_if_ne (tgt := 13) dX9_send_8 (by decide) (fun q => absurd q (by decide)) (fun _ => ?_)
    refine g_iconst (v := -1) dX9_send_11 rfl ?_
    refine g_iret dX9_send_12 rfl ⟨_, rfl, ?_⟩
    exact k1 hn
theorem c_X9_taken {d : Nat} {w : gx_W} {nb : Nat} {x y : Int32} {k : Int32 → gx_W → Prop} (hd : 2 ≤ d) (hT : isT w) (h : clO w) (hb : boK w nb) (hk : ∀ j, j < nb → ∃ m, m < 8 ∧ w_a w 18 j = nI m) (hbd : ∀ i, i < 6 → ¬ w_i w (45 + 2 * i) 1 = 0 → ¬ w_i w (45 + 2 * i) 1 = 2 → ∃ m, m < nb ∧ w_i w (45 + 2 * i) 2 = nI m) (k1 : (∀ i, i < 6 → x ≠ nI i) → k (-1) w) (k2 : (y < 0 ∨ 8 ≤ y) → k (-1) w) (k3 : ∀ i, x = nI i → i < 6 → ¬ y < 0 → y < 8 → w_i w (45 + 2 * i) 1 = 0 → k (-11) w) (k4 : ∀ i, x = nI i → i < 6 → ¬ y < 0 → y < 8 → w_i w (45 + 2 * i) 1 = 2 → k (-12) w) (k5 : ∀ i m q, x = nI i → i < 6 → ¬ y < 0 → y < 8 → ¬ w_i w (45 + 2 * i) 1 = 0 → ¬ w_i w (45 + 2 * i) 1 = 2 → m < nb → w_i w (45 + 2 * i) 2 = nI m → q < 8 → w_a w 18 m = nI q → k (if bo_un y 8 q = true then nI q else -12) w) : gx_C 0 0 d mX9_taken [.ref 6, .int x, .int y] w (Qi k) := by
  refine gx_C_of' (L := [.ref 6, .int x, .int y, .retAddr 0, .retAddr 0]) (by decide +kernel) rfl (Nat.le_of_ble_eq_true rfl) ?_
  refine g_aload_n dX9_taken_0 rfl ?_
  refine g_iload_n dX9_taken_1 rfl ?_
  refine g_cV1q dX9_taken_2 ml_X9_91 mi_X9_shelfAt mv_X9_shelfAt h.1 ⟨_, rfl, rfl⟩ (Nat.le_of_ble_eq_true rfl) rfl (by omega) ?_
  refine c_X9_shelfAt (by omega) h (fun i e hi => ?_) (fun hn => ?_)
  · refine g_astore_n dX9_taken_5 (Nat.le_of_ble_eq_true rfl) rfl ?_
    refine g_aload_n dX9_taken_6 rfl ?_
    refine g_ifnull dX9_taken_7 ?_
    refine g_iload_n dX9_taken_10 rfl ?_
    refine g_if_lt (tgt := 20) dX9_taken_11 (by decide) (fun zc11 => ?_) (fun zc11 => ?_)
    · refine g_iconst (v := -1) dX9_taken_20 rfl ?_
      refine g_iret dX9_taken_21 rfl ⟨_, rfl, ?_⟩
      exact k2 (Or.inl zc11)
    · refine g_iload_n dX9_taken_14 rfl ?_
      refine g_bipush (v := 8) dX9_taken_15 rfl ?_
      refine g_icmp_lt (tgt := 22) dX9_taken_17 (by decide) (fun zc17 => ?_) (fun zc17 => ?_)
      · refine g_aload_n dX9_taken_22 rfl ?_
        refine g_cV0i dX9_taken_23 ml_X9_95 mi_X5_holdsNothing mv_X5_holdsNothing (h.2.2.1.2.2.2 i hi).1 ⟨_, rfl, rfl⟩ (Nat.le_of_ble_eq_true rfl) rfl (by omega) ?_
        refine c_X5_holdsNothing (by omega) (h.2.2.1.2.2.2 i hi) (fun f1 => ?_) (fun f1 => ?_)
        · refine g_if_eq (tgt := 32) dX9_taken_26 (by decide) (fun q => absurd q (by decide)) (fun _ => ?_)
          refine g_bipush (v := -11) dX9_taken_29 rfl ?_
          refine g_iret dX9_taken_31 rfl ⟨_, rfl, ?_⟩
          exact k3 i e hi zc11 zc17 f1
        · refine g_if_eq (tgt := 32) dX9_taken_26 (by decide) (fun _ => ?_) (fun q => absurd q (by decide))
          refine g_aload_n dX9_taken_32 rfl ?_
          refine g_cV0i dX9_taken_33 ml_X9_329 mi_X5_holdsRow mv_X5_holdsRow (h.2.2.1.2.2.2 i hi).1 ⟨_, rfl, rfl⟩ (Nat.le_of_ble_eq_true rfl) rfl (by omega) ?_
          refine c_X5_holdsRow (by omega) (h.2.2.1.2.2.2 i hi) (fun g1 => ?_) (fun g1 => ?_)
          · refine g_if_eq (tgt := 43) dX9_taken_36 (by decide) (fun q => absurd q (by decide)) (fun _ => ?_)
            refine g_iconst (v := -1) dX9_taken_39 rfl ?_
            refine g_goto (tgt := 54) dX9_taken_40 (by decide) ?_
            refine g_istore dX9_taken_54 (Nat.le_of_ble_eq_true rfl) rfl ?_
            refine g_iload dX9_taken_56 rfl ?_
            refine g_iload_n dX9_taken_58 rfl ?_
            refine g_cS2i dX9_taken_59 ml_X9_338 mi_X0_isUnder ms_X0_isUnder (Nat.le_of_ble_eq_true rfl) rfl (by omega) ?_
            refine c_X0_isUnder (j := 8) (by omega) hT (by omega) (fun u => ?_) (fun u => ?_)
            · refine g_if_eq (tgt := 70) dX9_taken_62 (by decide) (fun q => absurd q (by decide)) (fun _ => ?_)
              refine g_iload dX9_taken_65 rfl ?_
              refine g_goto (tgt := 72) dX9_taken_67 (by decide) ?_
              refine g_iret dX9_taken_72 rfl ⟨_, rfl, ?_⟩
              exact absurd u (by simp [bo_un])
            · refine g_if_eq (tgt := 70) dX9_taken_62 (by decide) (fun _ => ?_) (fun q => absurd q (by decide))
              refine g_bipush (v := -12) dX9_taken_70 rfl ?_
              refine g_iret dX9_taken_72 rfl ⟨_, rfl, ?_⟩
              exact k4 i e hi zc11 zc17 g1
          · refine g_if_eq (tgt := 43) dX9_taken_36 (by decide) (fun _ => ?_) (fun q => absurd q (by decide))
            refine g_aload_n dX9_taken_43 rfl ?_
            refine g_getr dX9_taken_44 fl_X9_33 h.1 h.2.1.2.2.2.2.2 ?_
            refine g_aload_n dX9_taken_47 rfl ?_
            refine g_geti dX9_taken_48 fl_X9_332 (h.2.2.1.2.2.2 i hi).1 ?_
            obtain ⟨m, hm, em⟩ := hbd i hi f1 g1
            rw [em]
            refine g_cV1i dX9_taken_51 ml_X9_335 mi_X0_kindOf mv_X0_kindOf hb.1.1 ⟨_, rfl, rfl⟩ (Nat.le_of_ble_eq_true rfl) rfl (by omega) ?_
            refine c_kindOf_b (by omega) hb hm ?_
            obtain ⟨q, hq, eq⟩ := hk m hm
            rw [eq, ← bo_i_lt hq]
            refine g_istore dX9_taken_54 (Nat.le_of_ble_eq_true rfl) rfl ?_
            refine g_iload dX9_taken_56 rfl ?_
            refine g_iload_n dX9_taken_58 rfl ?_
            refine g_cS2i dX9_taken_59 ml_X9_338 mi_X0_isUnder ms_X0_isUnder (Nat.le_of_ble_eq_true rfl) rfl (by omega) ?_
            refine c_X0_isUnder (j := q) (by omega) hT (by omega) (fun u => ?_) (fun u => ?_)
            · refine g_if_eq (tgt := 70) dX9_taken_62 (by decide) (fun q => absurd q (by decide)) (fun _ => ?_)
              refine g_iload dX9_taken_65 rfl ?_
              refine g_goto (tgt := 72) dX9_taken_67 (by decide) ?_
              refine g_iret dX9_taken_72 rfl ⟨_, rfl, ?_⟩
              have K := k5 i m q e hi zc11 zc17 f1 g1 hm em hq eq
              rw [if_pos u] at K
              rw [bo_i_lt hq]
              exact K
            · refine g_if_eq (tgt := 70) dX9_taken_62 (by decide) (fun _ => ?_) (fun q => absurd q (by decide))
              refine g_bipush (v := -12) dX9_taken_70 rfl ?_
              refine g_iret dX9_taken_72 rfl ⟨_, rfl, ?_⟩
              have K := k5 i m q e hi zc11 zc17 f1 g1 hm em hq eq
              rw [if_neg (by rw [u]; decide)] at K
              exact K
      · refine g_iconst (v := -1) dX9_taken_20 rfl ?_
        refine g_iret dX9_taken_21 rfl ⟨_, rfl, ?_⟩
        exact k2 (Or.inr (Int32.not_lt.mp zc17))
  · refine g_astore_nN dX9_taken_5 (Nat.le_of_ble_eq_true rfl) rfl ?_
    refine g_aload_nN dX9_taken_6 rfl ?_
    refine g_ifnullN (tgt := 20) dX9_taken_7 (by decide) ?_
    refine g_iconst (v := -1) dX9_taken_20 rfl ?_
    refine g_iret dX9_taken_21 rfl ⟨_, rfl, ?_⟩
    exact k1 hn

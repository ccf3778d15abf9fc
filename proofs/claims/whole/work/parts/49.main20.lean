/-! CrossroadsChoose: judge, liking, waited -/
/-- the first wrong two of a book if the number at p were v -/
def me_bk (w : gx_W) (n l N i ln p : Nat) (v : Nat) : Int32 := me_fw N (w_a w (l + 1)) (w_a w (l + 2)) n (fun j => (w_l w (46 + 2 * i) j).toInt32) ln ((ln + 1) / 2) 0 (va_up (w_a w 38) p (nI v))
/-- how many of the numbers from v on, and the last -/
def me_up (H : Nat → Int32) (t : Int32) : Nat → Nat → Int32 → Int32 → Int32 × Int32
  | 0, _, m, e => (m, e)
  | z + 1, v, m, e => if H v = t then me_up H t z (v + 1) (m + Int32.ofInt 1) (nI v) else me_up H t z (v + 1) m e
theorem c_X9_judge {d : Nat} {w : gx_W} {n l N : Nat} {ln : Nat → Nat} {x : Int32} {k : Int32 → gx_W → Prop} (hd : 8 ≤ d) (hT : isT w) (h : clO w) (hc : isCk w 37 38 n l N) (ho : thO w) (h43 : isCr w 43 44) (hl : ∀ i, i < 6 → isSn w (45 + 2 * i) (46 + 2 * i) (ln i)) (k1 : (∀ i, i < 6 → x ≠ nI i) → k (-1) w) (k2 : ∀ i, x = nI i → i < 6 → w_i w (45 + 2 * i) 1 = 0 → k (-11) w) (k4 : ∀ i, x = nI i → i < 6 → ¬ w_i w (45 + 2 * i) 1 = 0 → ¬ (w_i w (45 + 2 * i) 1 = 2 ∧ w_i w (45 + 2 * i) 3 = 0) → k (-12) w) (k3 : ∀ i, x = nI i → i < 6 → w_i w (45 + 2 * i) 1 = 2 → w_i w (45 + 2 * i) 3 = 0 → ∀ w', sam TR TG [(43, 2)] w w' → k (me_fw N (w_a w (l + 1)) (w_a w (l + 2)) n (fun j => (w_l w (46 + 2 * i) j).toInt32) (ln i) ((ln i + 1) / 2) 0 (w_a w 38)) w') : gx_C 0 0 d mX9_judge [.ref 6, .int x] w (Qi k) := by
  refine gx_C_of' (L := [.ref 6, .int x, .retAddr 0]) (by decide +kernel) rfl (Nat.le_of_ble_eq_true rfl) ?_
  refine g_aload_n dX9_judge_0 rfl ?_
  refine g_iload_n dX9_judge_1 rfl ?_
  refine g_cV1i dX9_judge_2 ml_X9_216 mi_X9_bytesRefusal mv_X9_bytesRefusal h.1 ⟨_, rfl, rfl⟩ (Nat.le_of_ble_eq_true rfl) rfl (by omega) ?_
  refine c_X9_bytesRefusal (by omega) h (fun hn => ?_) (fun i e hi f1 => ?_) (fun i e hi f1 f2 => ?_) (fun i e hi f1 f2 => ?_)
  · refine g_istore_n dX9_judge_5 (Nat.le_of_ble_eq_true rfl) rfl ?_
    refine g_iload_n dX9_judge_6 rfl ?_
    refine g_if_eq (tgt := 12) dX9_judge_7 (by decide) (fun q => absurd q (by decide)) (fun _ => ?_)
    refine g_iload_n dX9_judge_10 rfl ?_
    refine g_iret dX9_judge_11 rfl ⟨_, rfl, ?_⟩
    exact k1 hn
  · refine g_istore_n dX9_judge_5 (Nat.le_of_ble_eq_true rfl) rfl ?_
    refine g_iload_n dX9_judge_6 rfl ?_
    refine g_if_eq (tgt := 12) dX9_judge_7 (by decide) (fun q => absurd q (by decide)) (fun _ => ?_)
    refine g_iload_n dX9_judge_10 rfl ?_
    refine g_iret dX9_judge_11 rfl ⟨_, rfl, ?_⟩
    exact k2 i e hi f1
  · refine g_istore_n dX9_judge_5 (Nat.le_of_ble_eq_true rfl) rfl ?_
    refine g_iload_n dX9_judge_6 rfl ?_
    refine g_if_eq (tgt := 12) dX9_judge_7 (by decide) (fun _ => ?_) (fun q => absurd q (by decide))
    refine g_aload_n dX9_judge_12 rfl ?_
    refine g_getr dX9_judge_13 fl_X9_74 h.1 h.2.1.2.1 ?_
    refine g_aload_n dX9_judge_16 rfl ?_
    refine g_getr dX9_judge_17 fl_X9_67 h.1 h.2.1.1 ?_
    refine g_cV1v dX9_judge_20 ml_X9_184 mi_X7_begin mv_X7_begin ho.1 ⟨_, rfl, rfl⟩ (Nat.le_of_ble_eq_true rfl) rfl (by omega) ?_
    refine c_beginF (by omega) sam.rf ho h43 hc (fun w1 I1 => ?_)
    refine g_aload_n dX9_judge_23 rfl ?_
    refine g_aload_n dX9_judge_24 rfl ?_
    refine g_iload_n dX9_judge_25 rfl ?_
    refine g_cV1q dX9_judge_26 ml_X9_91 mi_X9_shelfAt mv_X9_shelfAt (clO_th h I1.1).1 ⟨_, rfl, rfl⟩ (Nat.le_of_ble_eq_true rfl) rfl (by omega) ?_
    refine c_X9_shelfAt (by omega) (clO_th h I1.1) (fun j e2 hj => ?_) (fun hn2 => ?_)
    · have ej : j = i := pI_inj (by omega) (by omega) (e2.symm.trans e)
      subst ej
      refine g_cV1i dX9_judge_29 ml_X9_242 mi_X9_firstWrong mv_X9_firstWrong (clO_th h I1.1).1 ⟨_, rfl, rfl⟩ (Nat.le_of_ble_eq_true rfl) rfl (by omega) ?_
      refine c_X9_firstWrong (by omega) hT h hc hj (hl j hj) I1 (fun w2 ff2 I2 => ?_)
      refine g_iret dX9_judge_32 rfl ⟨_, rfl, ?_⟩
      exact k3 j e2 hj f1 f2 w2 I2.1
    · exact absurd e (hn2 i hi)
  · refine g_istore_n dX9_judge_5 (Nat.le_of_ble_eq_true rfl) rfl ?_
    refine g_iload_n dX9_judge_6 rfl ?_
    refine g_if_eq (tgt := 12) dX9_judge_7 (by decide) (fun q => absurd q (by decide)) (fun _ => ?_)
    refine g_iload_n dX9_judge_10 rfl ?_
    refine g_iret dX9_judge_11 rfl ⟨_, rfl, ?_⟩
    exact k4 i e hi f1 f2
set_option maxHeartbeats 4000000 in
theorem l_X9_liking {d n l N i ln q : Nat} {w : gx_W} {u x4 : Int32} {k : Int32 → gx_W → Prop} (hd : 9 ≤ d) (hT : isT w) (h : clO w) (hc : isCk w 37 38 n l N) (ho : thO w) (hi6 : i < 6) (hsn : isSn w (45 + 2 * i) (46 + 2 * i) ln) (hq : q < n) : ∀ (j : Nat) (m e : Int32) (w1 : gx_W), j ≤ 10 → sam TR TG [(43, 2)] w w1 → isCr w1 43 44 → (∀ w', sam TR TG [(43, 2)] w w' → k (if u = 0 then (me_how (me_bk w n l N i ln (0 * 6 + q)) (-2) j m e).1 else (me_how (me_bk w n l N i ln (0 * 6 + q)) (-2) j m e).2) w') → gx_G 0 0 d mX9_liking (Qi k) 57 [.ref 6, .int (nI i), .int (nI q), .int u, .int x4, .int m, .int e, .int (me_co j)] [] w1 := by
  intro j
  induction j with
  | zero =>
    intro m e w1 hj hs h1 kk
    have hT1 : w1.1[1]? = some (30, 8) := (hT.sam hs (by simp) 1 (by decide) (by decide)).1
    have hv1 : w_a w1 1 = fun j => (gx_tab 1).getD j 0 := (hT.sam hs (by simp) 1 (by decide) (by decide)).2
    refine g_iload dX9_liking_57 rfl ?_
    refine g_gets (a := 1) dX9_liking_59 gs_X9_135 (by decide) (by decide) ?_
    refine g_iconst (v := 0) dX9_liking_62 rfl ?_
    refine g_rald dX9_liking_63 (by decide) hT1 (by first | assumption | exact vp_in_iff.mpr (by decide)) ?_
    rw [hv1]
    refine g_icmp_lt (tgt := 119) dX9_liking_64 (by decide) (fun zc64 => ?_) (fun zc64 => ?_)
    · refine g_iload_n dX9_liking_119 rfl ?_
      refine g_if_ne (tgt := 128) dX9_liking_120 (by decide) (fun zc120 => ?_) (fun zc120 => ?_)
      · refine g_iload dX9_liking_128 rfl ?_
        refine g_iret dX9_liking_130 rfl ⟨_, rfl, ?_⟩
        have K := kk w1 hs
        rw [if_neg zc120] at K
        exact K
      · refine g_iload dX9_liking_123 rfl ?_
        refine g_goto (tgt := 130) dX9_liking_125 (by decide) ?_
        refine g_iret dX9_liking_130 rfl ⟨_, rfl, ?_⟩
        have K := kk w1 hs
        rw [if_pos zc120] at K
        exact K
    · exact absurd (by decide) zc64
  | succ v ih =>
    intro m e w1 hj hs h1 kk
    have hT1 : w1.1[1]? = some (30, 8) := (hT.sam hs (by simp) 1 (by decide) (by decide)).1
    have hv1 : w_a w1 1 = fun j => (gx_tab 1).getD j 0 := (hT.sam hs (by simp) 1 (by decide) (by decide)).2
    have ev : me_co (v + 1) = nI v := rfl
    rw [ev]
    refine g_iload dX9_liking_57 rfl ?_
    refine g_gets (a := 1) dX9_liking_59 gs_X9_135 (by decide) (by decide) ?_
    refine g_iconst (v := 0) dX9_liking_62 rfl ?_
    refine g_rald dX9_liking_63 (by decide) hT1 (by first | assumption | exact vp_in_iff.mpr (by decide)) ?_
    rw [hv1]
    refine g_icmp_lt (tgt := 119) dX9_liking_64 (by decide) (fun zc64 => ?_) (fun zc64 => ?_)
    · refine g_iload_n dX9_liking_119 rfl ?_
      refine g_if_ne (tgt := 128) dX9_liking_120 (by decide) (fun zc120 => ?_) (fun zc120 => ?_)
      · refine g_iload dX9_liking_128 rfl ?_
        refine g_iret dX9_liking_130 rfl ⟨_, rfl, ?_⟩
        exact absurd zc64 (show ¬ nI v < 0 from nI_pos (by omega))
      · refine g_iload dX9_liking_123 rfl ?_
        refine g_goto (tgt := 130) dX9_liking_125 (by decide) ?_
        refine g_iret dX9_liking_130 rfl ⟨_, rfl, ?_⟩
        exact absurd zc64 (show ¬ nI v < 0 from nI_pos (by omega))
    · refine g_aload_n dX9_liking_67 rfl ?_
      refine g_getr dX9_liking_68 fl_X9_74 (clO_th h hs).1 (clO_th h hs).2.1.2.1 ?_
      refine g_aload_n dX9_liking_71 rfl ?_
      refine g_getr dX9_liking_72 fl_X9_67 (clO_th h hs).1 (clO_th h hs).2.1.1 ?_
      refine g_cV1v dX9_liking_75 ml_X9_184 mi_X7_begin mv_X7_begin (ho.sam hs).1 ⟨_, rfl, rfl⟩ (Nat.le_of_ble_eq_true rfl) rfl (by omega) ?_
      refine c_beginF (by omega) hs ho h1 hc (fun w2 I2 => ?_)
      refine g_aload_n dX9_liking_78 rfl ?_
      refine g_getr dX9_liking_79 fl_X9_74 (clO_th h I2.1).1 (clO_th h I2.1).2.1.2.1 ?_
      refine g_getr dX9_liking_82 fl_X9_165 I2.2.1.1 I2.2.1.2.1 ?_
      refine g_iload_n dX9_liking_85 rfl ?_
      refine g_iconst (v := 0) dX9_liking_86 rfl ?_
      refine g_iload dX9_liking_87 rfl ?_
      refine g_cV3v dX9_liking_89 ml_X9_121 mi_X2_become mv_X2_become I2.2.2.1.1.1.1.1 ⟨_, rfl, rfl⟩ (Nat.le_of_ble_eq_true rfl) rfl (by omega) ?_
      refine c_becomeF (y := 0) (by omega) I2 hq (by decide) rfl (fun w3 I3 => ?_)
      refine g_aload_n dX9_liking_92 rfl ?_
      refine g_aload_n dX9_liking_93 rfl ?_
      refine g_iload_n dX9_liking_94 rfl ?_
      refine g_cV1q dX9_liking_95 ml_X9_91 mi_X9_shelfAt mv_X9_shelfAt (clO_th h I3.1).1 ⟨_, rfl, rfl⟩ (Nat.le_of_ble_eq_true rfl) rfl (by omega) ?_
      refine c_X9_shelfAt (by omega) (clO_th h I3.1) (fun j e2 hj => ?_) (fun hn2 => ?_)
      · have ej : i = j := pI_inj (by omega) (by omega) e2
        subst ej
        refine g_cV1i dX9_liking_98 ml_X9_242 mi_X9_firstWrong mv_X9_firstWrong (clO_th h I3.1).1 ⟨_, rfl, rfl⟩ (Nat.le_of_ble_eq_true rfl) rfl (by omega) ?_
        refine c_X9_firstWrong (by omega) hT h hc hi6 hsn I3 (fun w4 f4 I4 => ?_)
        refine g_bipush (v := -2) dX9_liking_101 rfl ?_
        refine g_icmp_ne (tgt := 113) dX9_liking_103 (by decide) (fun zc103 => ?_) (fun zc103 => ?_)
        · refine g_iinc dX9_liking_113 rfl rfl ?_
          refine g_goto (tgt := 57) dX9_liking_116 (by decide) ?_
          rw [show me_how (me_bk w n l N i ln (0 * 6 + q)) (-2) (v + 1) m e = me_how (me_bk w n l N i ln (0 * 6 + q)) (-2) v m e from if_neg zc103] at kk
          rw [me_co_dec]
          exact ih _ _ w4 (by omega) I4.1 I4.2.2.1.1.1.1 kk
        · refine g_iinc dX9_liking_106 rfl rfl ?_
          refine g_iload dX9_liking_109 rfl ?_
          refine g_istore dX9_liking_111 (Nat.le_of_ble_eq_true rfl) rfl ?_
          refine g_iinc dX9_liking_113 rfl rfl ?_
          refine g_goto (tgt := 57) dX9_liking_116 (by decide) ?_
          rw [show me_how (me_bk w n l N i ln (0 * 6 + q)) (-2) (v + 1) m e = me_how (me_bk w n l N i ln (0 * 6 + q)) (-2) v (m + Int32.ofInt 1) (nI v) from if_pos zc103] at kk
          rw [me_co_dec]
          exact ih _ _ w4 (by omega) I4.1 I4.2.2.1.1.1.1 kk
      · exact absurd rfl (hn2 i hi6)
set_option maxHeartbeats 4000000 in
theorem c_X9_liking {d : Nat} {w : gx_W} {n l N : Nat} {ln : Nat → Nat} {x y u : Int32} {k : Int32 → gx_W → Prop} (hd : 10 ≤ d) (hT : isT w) (h : clO w) (hc : isCk w 37 38 n l N) (ho : thO w) (h43 : isCr w 43 44) (hl : ∀ i, i < 6 → isSn w (45 + 2 * i) (46 + 2 * i) (ln i)) (k1 : (∀ i, i < 6 → x ≠ nI i) → k (-1) w) (k5 : (∀ t, t < n → y ≠ nI t) → k (-1) w) (k6 : (u < 0 ∨ 1 < u) → k (-1) w) (k2 : ∀ i, x = nI i → i < 6 → w_i w (45 + 2 * i) 1 = 0 → ∀ t, y = nI t → t < n → ¬ u < 0 → ¬ 1 < u → k (-11) w) (k4 : ∀ i, x = nI i → i < 6 → ¬ w_i w (45 + 2 * i) 1 = 0 → ¬ (w_i w (45 + 2 * i) 1 = 2 ∧ w_i w (45 + 2 * i) 3 = 0) → ∀ t, y = nI t → t < n → ¬ u < 0 → ¬ 1 < u → k (-12) w) (k3 : ∀ i, x = nI i → i < 6 → w_i w (45 + 2 * i) 1 = 2 → w_i w (45 + 2 * i) 3 = 0 → ∀ t, y = nI t → t < n → ¬ u < 0 → ¬ 1 < u → ∀ w', sam TR TG [(43, 2)] w w' → k (if u = 0 then (me_how (me_bk w n l N i (ln i) (0 * 6 + t)) (-2) 10 0 (-2)).1 else (me_how (me_bk w n l N i (ln i) (0 * 6 + t)) (-2) 10 0 (-2)).2) w') : gx_C 0 0 d mX9_liking [.ref 6, .int x, .int y, .int u] w (Qi k) := by
  refine gx_C_of' (L := [.ref 6, .int x, .int y, .int u, .retAddr 0, .retAddr 0, .retAddr 0, .retAddr 0]) (by decide +kernel) rfl (Nat.le_of_ble_eq_true rfl) ?_
  have hT2 : w.1[2]? = some (30, 8) := (hT 2 (by decide) (by decide)).1
  have hv2 : w_a w 2 = fun j => (gx_tab 2).getD j 0 := (hT 2 (by decide) (by decide)).2
  refine g_aload_n dX9_liking_0 rfl ?_
  refine g_iload_n dX9_liking_1 rfl ?_
  refine g_cV1i dX9_liking_2 ml_X9_216 mi_X9_bytesRefusal mv_X9_bytesRefusal h.1 ⟨_, rfl, rfl⟩ (Nat.le_of_ble_eq_true rfl) rfl (by omega) ?_
  refine c_X9_bytesRefusal (by omega) h (fun hn => ?_) (fun i e hi f1 => ?_) (fun i e hi f1 f2 => ?_) (fun i e hi f1 f2 => ?_)
  · refine g_istore dX9_liking_5 (Nat.le_of_ble_eq_true rfl) rfl ?_
    refine g_iload dX9_liking_7 rfl ?_
    refine g_iconst (v := -1) dX9_liking_9 rfl ?_
    refine g_icmp_eq (tgt := 33) dX9_liking_10 (by decide) (fun _ => ?_) (fun q => absurd q (by decide))
    refine g_iconst (v := -1) dX9_liking_33 rfl ?_
    refine g_iret dX9_liking_34 rfl ⟨_, rfl, ?_⟩
    exact k1 hn
  · refine g_istore dX9_liking_5 (Nat.le_of_ble_eq_true rfl) rfl ?_
    refine g_iload dX9_liking_7 rfl ?_
    refine g_iconst (v := -1) dX9_liking_9 rfl ?_
    refine g_icmp_eq (tgt := 33) dX9_liking_10 (by decide) (fun q => absurd q (by decide)) (fun _ => ?_)
    refine g_aload_n dX9_liking_13 rfl ?_
    refine g_getr dX9_liking_14 fl_X9_67 h.1 h.2.1.1 ?_
    refine g_iload_n dX9_liking_17 rfl ?_
    refine g_cV1i dX9_liking_18 ml_X9_141 mi_X2_isRoad mv_X2_isRoad hc.1.1.1.1 ⟨_, rfl, rfl⟩ (Nat.le_of_ble_eq_true rfl) rfl (by omega) ?_
    refine c_X2_isRoad (by omega) hc.1.1 (fun t ey ht => ?_) (fun nv => ?_)
    · refine g_if_eq (tgt := 33) dX9_liking_21 (by decide) (fun q => absurd q (by decide)) (fun _ => ?_)
      refine g_iload_n dX9_liking_24 rfl ?_
      refine g_if_lt (tgt := 33) dX9_liking_25 (by decide) (fun zc25 => ?_) (fun zc25 => ?_)
      · refine g_iconst (v := -1) dX9_liking_33 rfl ?_
        refine g_iret dX9_liking_34 rfl ⟨_, rfl, ?_⟩
        exact k6 (Or.inl zc25)
      · refine g_iload_n dX9_liking_28 rfl ?_
        refine g_iconst (v := 1) dX9_liking_29 rfl ?_
        refine g_icmp_le (tgt := 35) dX9_liking_30 (by decide) (fun zc30 => ?_) (fun zc30 => ?_)
        · refine g_iload dX9_liking_35 rfl ?_
          refine g_if_eq (tgt := 43) dX9_liking_37 (by decide) (fun q => absurd q (by decide)) (fun _ => ?_)
          refine g_iload dX9_liking_40 rfl ?_
          refine g_iret dX9_liking_42 rfl ⟨_, rfl, ?_⟩
          exact k2 i e hi f1 t ey ht zc25 (Int32.not_lt.mpr zc30)
        · refine g_iconst (v := -1) dX9_liking_33 rfl ?_
          refine g_iret dX9_liking_34 rfl ⟨_, rfl, ?_⟩
          exact k6 (Or.inr (Int32.not_le.mp zc30))
    · refine g_if_eq (tgt := 33) dX9_liking_21 (by decide) (fun _ => ?_) (fun q => absurd q (by decide))
      refine g_iconst (v := -1) dX9_liking_33 rfl ?_
      refine g_iret dX9_liking_34 rfl ⟨_, rfl, ?_⟩
      exact k5 nv
  · refine g_istore dX9_liking_5 (Nat.le_of_ble_eq_true rfl) rfl ?_
    refine g_iload dX9_liking_7 rfl ?_
    refine g_iconst (v := -1) dX9_liking_9 rfl ?_
    refine g_icmp_eq (tgt := 33) dX9_liking_10 (by decide) (fun q => absurd q (by decide)) (fun _ => ?_)
    refine g_aload_n dX9_liking_13 rfl ?_
    refine g_getr dX9_liking_14 fl_X9_67 h.1 h.2.1.1 ?_
    refine g_iload_n dX9_liking_17 rfl ?_
    refine g_cV1i dX9_liking_18 ml_X9_141 mi_X2_isRoad mv_X2_isRoad hc.1.1.1.1 ⟨_, rfl, rfl⟩ (Nat.le_of_ble_eq_true rfl) rfl (by omega) ?_
    refine c_X2_isRoad (by omega) hc.1.1 (fun t ey ht => ?_) (fun nv => ?_)
    · refine g_if_eq (tgt := 33) dX9_liking_21 (by decide) (fun q => absurd q (by decide)) (fun _ => ?_)
      refine g_iload_n dX9_liking_24 rfl ?_
      refine g_if_lt (tgt := 33) dX9_liking_25 (by decide) (fun zc25 => ?_) (fun zc25 => ?_)
      · refine g_iconst (v := -1) dX9_liking_33 rfl ?_
        refine g_iret dX9_liking_34 rfl ⟨_, rfl, ?_⟩
        exact k6 (Or.inl zc25)
      · refine g_iload_n dX9_liking_28 rfl ?_
        refine g_iconst (v := 1) dX9_liking_29 rfl ?_
        refine g_icmp_le (tgt := 35) dX9_liking_30 (by decide) (fun zc30 => ?_) (fun zc30 => ?_)
        · refine g_iload dX9_liking_35 rfl ?_
          refine g_if_eq (tgt := 43) dX9_liking_37 (by decide) (fun _ => ?_) (fun q => absurd q (by decide))
          refine g_iconst (v := 0) dX9_liking_43 rfl ?_
          refine g_istore dX9_liking_44 (Nat.le_of_ble_eq_true rfl) rfl ?_
          refine g_bipush (v := -2) dX9_liking_46 rfl ?_
          refine g_istore dX9_liking_48 (Nat.le_of_ble_eq_true rfl) rfl ?_
          refine g_gets (a := 2) dX9_liking_50 gs_X9_138 (by decide) (by decide) ?_
          refine g_iconst (v := 0) dX9_liking_53 rfl ?_
          refine g_rald dX9_liking_54 (by decide) hT2 (by first | assumption | exact vp_in_iff.mpr (by decide)) ?_
          rw [hv2]
          refine g_istore dX9_liking_55 (Nat.le_of_ble_eq_true rfl) rfl ?_
          subst ey
          subst e
          exact l_X9_liking (by omega) hT h hc ho hi (hl i hi) ht 10 _ _ w (Nat.le_refl _) sam.rf h43 (k3 i rfl hi f1 f2 t rfl ht zc25 (Int32.not_lt.mpr zc30))
        · refine g_iconst (v := -1) dX9_liking_33 rfl ?_
          refine g_iret dX9_liking_34 rfl ⟨_, rfl, ?_⟩
          exact k6 (Or.inr (Int32.not_le.mp zc30))
    · refine g_if_eq (tgt := 33) dX9_liking_21 (by decide) (fun _ => ?_) (fun q => absurd q (by decide))
      refine g_iconst (v := -1) dX9_liking_33 rfl ?_
      refine g_iret dX9_liking_34 rfl ⟨_, rfl, ?_⟩
      exact k5 nv
  · refine g_istore dX9_liking_5 (Nat.le_of_ble_eq_true rfl) rfl ?_
    refine g_iload dX9_liking_7 rfl ?_
    refine g_iconst (v := -1) dX9_liking_9 rfl ?_
    refine g_icmp_eq (tgt := 33) dX9_liking_10 (by decide) (fun q => absurd q (by decide)) (fun _ => ?_)
    refine g_aload_n dX9_liking_13 rfl ?_
    refine g_getr dX9_liking_14 fl_X9_67 h.1 h.2.1.1 ?_
    refine g_iload_n dX9_liking_17 rfl ?_
    refine g_cV1i dX9_liking_18 ml_X9_141 mi_X2_isRoad mv_X2_isRoad hc.1.1.1.1 ⟨_, rfl, rfl⟩ (Nat.le_of_ble_eq_true rfl) rfl (by omega) ?_
    refine c_X2_isRoad (by omega) hc.1.1 (fun t ey ht => ?_) (fun nv => ?_)
    · refine g_if_eq (tgt := 33) dX9_liking_21 (by decide) (fun q => absurd q (by decide)) (fun _ => ?_)
      refine g_iload_n dX9_liking_24 rfl ?_
      refine g_if_lt (tgt := 33) dX9_liking_25 (by decide) (fun zc25 => ?_) (fun zc25 => ?_)
      · refine g_iconst (v := -1) dX9_liking_33 rfl ?_
        refine g_iret dX9_liking_34 rfl ⟨_, rfl, ?_⟩
        exact k6 (Or.inl zc25)
      · refine g_iload_n dX9_liking_28 rfl ?_
        refine g_iconst (v := 1) dX9_liking_29 rfl ?_
        refine g_icmp_le (tgt := 35) dX9_liking_30 (by decide) (fun zc30 => ?_) (fun zc30 => ?_)
        · refine g_iload dX9_liking_35 rfl ?_
          refine g_if_eq (tgt := 43) dX9_liking_37 (by decide) (fun q => absurd q (by decide)) (fun _ => ?_)
          refine g_iload dX9_liking_40 rfl ?_
          refine g_iret dX9_liking_42 rfl ⟨_, rfl, ?_⟩
          exact k4 i e hi f1 f2 t ey ht zc25 (Int32.not_lt.mpr zc30)
        · refine g_iconst (v := -1) dX9_liking_33 rfl ?_
          refine g_iret dX9_liking_34 rfl ⟨_, rfl, ?_⟩
          exact k6 (Or.inr (Int32.not_le.mp zc30))
    · refine g_if_eq (tgt := 33) dX9_liking_21 (by decide) (fun _ => ?_) (fun q => absurd q (by decide))
      refine g_iconst (v := -1) dX9_liking_33 rfl ?_
      refine g_iret dX9_liking_34 rfl ⟨_, rfl, ?_⟩
      exact k5 nv
set_option maxHeartbeats 4000000 in
theorem l_X9_waited {d n l N i ln q : Nat} {w : gx_W} {u x4 : Int32} {k : Int32 → gx_W → Prop} (hd : 9 ≤ d) (hT : isT w) (h : clO w) (hc : isCk w 37 38 n l N) (ho : thO w) (hi6 : i < 6) (hsn : isSn w (45 + 2 * i) (46 + 2 * i) ln) (hq : q < n) : ∀ (z v : Nat) (m e : Int32) (w1 : gx_W), v + z = 21 → sam TR TG [(43, 2)] w w1 → isCr w1 43 44 → (∀ w', sam TR TG [(43, 2)] w w' → k (if u = 0 then (me_up (me_bk w n l N i ln (3 * 6 + q)) (-2) z v m e).1 else (me_up (me_bk w n l N i ln (3 * 6 + q)) (-2) z v m e).2) w') → gx_G 0 0 d mX9_waited (Qi k) 53 [.ref 6, .int (nI i), .int (nI q), .int u, .int x4, .int m, .int e, .int (nI v)] [] w1 := by
  intro z
  induction z with
  | zero =>
    intro v m e w1 hj hs h1 kk
    have ev : v = 21 := by omega
    subst ev
    refine g_iload dX9_waited_53 rfl ?_
    refine g_bipush (v := 20) dX9_waited_55 rfl ?_
    refine g_icmp_gt (tgt := 112) dX9_waited_57 (by decide) (fun zc57 => ?_) (fun zc57 => ?_)
    · refine g_iload_n dX9_waited_112 rfl ?_
      refine g_if_ne (tgt := 121) dX9_waited_113 (by decide) (fun zc113 => ?_) (fun zc113 => ?_)
      · refine g_iload dX9_waited_121 rfl ?_
        refine g_iret dX9_waited_123 rfl ⟨_, rfl, ?_⟩
        have K := kk w1 hs
        rw [if_neg zc113] at K
        exact K
      · refine g_iload dX9_waited_116 rfl ?_
        refine g_goto (tgt := 123) dX9_waited_118 (by decide) ?_
        refine g_iret dX9_waited_123 rfl ⟨_, rfl, ?_⟩
        have K := kk w1 hs
        rw [if_pos zc113] at K
        exact K
    · exact absurd (by decide) zc57
  | succ z ih =>
    intro v m e w1 hj hs h1 kk
    refine g_iload dX9_waited_53 rfl ?_
    refine g_bipush (v := 20) dX9_waited_55 rfl ?_
    refine g_icmp_gt (tgt := 112) dX9_waited_57 (by decide) (fun zc57 => ?_) (fun zc57 => ?_)
    · refine g_iload_n dX9_waited_112 rfl ?_
      refine g_if_ne (tgt := 121) dX9_waited_113 (by decide) (fun zc113 => ?_) (fun zc113 => ?_)
      · refine g_iload dX9_waited_121 rfl ?_
        refine g_iret dX9_waited_123 rfl ⟨_, rfl, ?_⟩
        exact absurd zc57 (show ¬ nI 20 < nI v from nI_nlt (by omega) (by omega))
      · refine g_iload dX9_waited_116 rfl ?_
        refine g_goto (tgt := 123) dX9_waited_118 (by decide) ?_
        refine g_iret dX9_waited_123 rfl ⟨_, rfl, ?_⟩
        exact absurd zc57 (show ¬ nI 20 < nI v from nI_nlt (by omega) (by omega))
    · refine g_aload_n dX9_waited_60 rfl ?_
      refine g_getr dX9_waited_61 fl_X9_74 (clO_th h hs).1 (clO_th h hs).2.1.2.1 ?_
      refine g_aload_n dX9_waited_64 rfl ?_
      refine g_getr dX9_waited_65 fl_X9_67 (clO_th h hs).1 (clO_th h hs).2.1.1 ?_
      refine g_cV1v dX9_waited_68 ml_X9_184 mi_X7_begin mv_X7_begin (ho.sam hs).1 ⟨_, rfl, rfl⟩ (Nat.le_of_ble_eq_true rfl) rfl (by omega) ?_
      refine c_beginF (by omega) hs ho h1 hc (fun w2 I2 => ?_)
      refine g_aload_n dX9_waited_71 rfl ?_
      refine g_getr dX9_waited_72 fl_X9_74 (clO_th h I2.1).1 (clO_th h I2.1).2.1.2.1 ?_
      refine g_getr dX9_waited_75 fl_X9_165 I2.2.1.1 I2.2.1.2.1 ?_
      refine g_iload_n dX9_waited_78 rfl ?_
      refine g_iconst (v := 3) dX9_waited_79 rfl ?_
      refine g_iload dX9_waited_80 rfl ?_
      refine g_cV3v dX9_waited_82 ml_X9_121 mi_X2_become mv_X2_become I2.2.2.1.1.1.1.1 ⟨_, rfl, rfl⟩ (Nat.le_of_ble_eq_true rfl) rfl (by omega) ?_
      refine c_becomeF (y := 3) (by omega) I2 hq (by decide) rfl (fun w3 I3 => ?_)
      refine g_aload_n dX9_waited_85 rfl ?_
      refine g_aload_n dX9_waited_86 rfl ?_
      refine g_iload_n dX9_waited_87 rfl ?_
      refine g_cV1q dX9_waited_88 ml_X9_91 mi_X9_shelfAt mv_X9_shelfAt (clO_th h I3.1).1 ⟨_, rfl, rfl⟩ (Nat.le_of_ble_eq_true rfl) rfl (by omega) ?_
      refine c_X9_shelfAt (by omega) (clO_th h I3.1) (fun j e2 hj => ?_) (fun hn2 => ?_)
      · have ej : i = j := pI_inj (by omega) (by omega) e2
        subst ej
        refine g_cV1i dX9_waited_91 ml_X9_242 mi_X9_firstWrong mv_X9_firstWrong (clO_th h I3.1).1 ⟨_, rfl, rfl⟩ (Nat.le_of_ble_eq_true rfl) rfl (by omega) ?_
        refine c_X9_firstWrong (by omega) hT h hc hi6 hsn I3 (fun w4 f4 I4 => ?_)
        refine g_bipush (v := -2) dX9_waited_94 rfl ?_
        refine g_icmp_ne (tgt := 106) dX9_waited_96 (by decide) (fun zc96 => ?_) (fun zc96 => ?_)
        · refine g_iinc dX9_waited_106 rfl rfl ?_
          refine g_goto (tgt := 53) dX9_waited_109 (by decide) ?_
          rw [show me_up (me_bk w n l N i ln (3 * 6 + q)) (-2) (z + 1) v m e = me_up (me_bk w n l N i ln (3 * 6 + q)) (-2) z (v + 1) m e from if_neg zc96] at kk
          rw [nI_1']
          exact ih (v + 1) _ _ w4 (by omega) I4.1 I4.2.2.1.1.1.1 kk
        · refine g_iinc dX9_waited_99 rfl rfl ?_
          refine g_iload dX9_waited_102 rfl ?_
          refine g_istore dX9_waited_104 (Nat.le_of_ble_eq_true rfl) rfl ?_
          refine g_iinc dX9_waited_106 rfl rfl ?_
          refine g_goto (tgt := 53) dX9_waited_109 (by decide) ?_
          rw [show me_up (me_bk w n l N i ln (3 * 6 + q)) (-2) (z + 1) v m e = me_up (me_bk w n l N i ln (3 * 6 + q)) (-2) z (v + 1) (m + Int32.ofInt 1) (nI v) from if_pos zc96] at kk
          rw [nI_1']
          exact ih (v + 1) _ _ w4 (by omega) I4.1 I4.2.2.1.1.1.1 kk
      · exact absurd rfl (hn2 i hi6)
set_option maxHeartbeats 4000000 in
theorem c_X9_waited {d : Nat} {w : gx_W} {n l N : Nat} {ln : Nat → Nat} {x y u : Int32} {k : Int32 → gx_W → Prop} (hd : 10 ≤ d) (hT : isT w) (h : clO w) (hc : isCk w 37 38 n l N) (ho : thO w) (h43 : isCr w 43 44) (hl : ∀ i, i < 6 → isSn w (45 + 2 * i) (46 + 2 * i) (ln i)) (k1 : (∀ i, i < 6 → x ≠ nI i) → k (-1) w) (k5 : (∀ t, t < n → y ≠ nI t) → k (-1) w) (k6 : (u < 0 ∨ 1 < u) → k (-1) w) (k2 : ∀ i, x = nI i → i < 6 → w_i w (45 + 2 * i) 1 = 0 → ∀ t, y = nI t → t < n → ¬ u < 0 → ¬ 1 < u → k (-11) w) (k4 : ∀ i, x = nI i → i < 6 → ¬ w_i w (45 + 2 * i) 1 = 0 → ¬ (w_i w (45 + 2 * i) 1 = 2 ∧ w_i w (45 + 2 * i) 3 = 0) → ∀ t, y = nI t → t < n → ¬ u < 0 → ¬ 1 < u → k (-12) w) (k3 : ∀ i, x = nI i → i < 6 → w_i w (45 + 2 * i) 1 = 2 → w_i w (45 + 2 * i) 3 = 0 → ∀ t, y = nI t → t < n → ¬ u < 0 → ¬ 1 < u → ∀ w', sam TR TG [(43, 2)] w w' → k (if u = 0 then (me_up (me_bk w n l N i (ln i) (3 * 6 + t)) (-2) 21 0 0 (-2)).1 else (me_up (me_bk w n l N i (ln i) (3 * 6 + t)) (-2) 21 0 0 (-2)).2) w') : gx_C 0 0 d mX9_waited [.ref 6, .int x, .int y, .int u] w (Qi k) := by
  refine gx_C_of' (L := [.ref 6, .int x, .int y, .int u, .retAddr 0, .retAddr 0, .retAddr 0, .retAddr 0]) (by decide +kernel) rfl (Nat.le_of_ble_eq_true rfl) ?_
  have hT2 : w.1[2]? = some (30, 8) := (hT 2 (by decide) (by decide)).1
  have hv2 : w_a w 2 = fun j => (gx_tab 2).getD j 0 := (hT 2 (by decide) (by decide)).2
  refine g_aload_n dX9_waited_0 rfl ?_
  refine g_iload_n dX9_waited_1 rfl ?_
  refine g_cV1i dX9_waited_2 ml_X9_216 mi_X9_bytesRefusal mv_X9_bytesRefusal h.1 ⟨_, rfl, rfl⟩ (Nat.le_of_ble_eq_true rfl) rfl (by omega) ?_
  refine c_X9_bytesRefusal (by omega) h (fun hn => ?_) (fun i e hi f1 => ?_) (fun i e hi f1 f2 => ?_) (fun i e hi f1 f2 => ?_)
  · refine g_istore dX9_waited_5 (Nat.le_of_ble_eq_true rfl) rfl ?_
    refine g_iload dX9_waited_7 rfl ?_
    refine g_iconst (v := -1) dX9_waited_9 rfl ?_
    refine g_icmp_eq (tgt := 33) dX9_waited_10 (by decide) (fun _ => ?_) (fun q => absurd q (by decide))
    refine g_iconst (v := -1) dX9_waited_33 rfl ?_
    refine g_iret dX9_waited_34 rfl ⟨_, rfl, ?_⟩
    exact k1 hn
  · refine g_istore dX9_waited_5 (Nat.le_of_ble_eq_true rfl) rfl ?_
    refine g_iload dX9_waited_7 rfl ?_
    refine g_iconst (v := -1) dX9_waited_9 rfl ?_
    refine g_icmp_eq (tgt := 33) dX9_waited_10 (by decide) (fun q => absurd q (by decide)) (fun _ => ?_)
    refine g_aload_n dX9_waited_13 rfl ?_
    refine g_getr dX9_waited_14 fl_X9_67 h.1 h.2.1.1 ?_
    refine g_iload_n dX9_waited_17 rfl ?_
    refine g_cV1i dX9_waited_18 ml_X9_141 mi_X2_isRoad mv_X2_isRoad hc.1.1.1.1 ⟨_, rfl, rfl⟩ (Nat.le_of_ble_eq_true rfl) rfl (by omega) ?_
    refine c_X2_isRoad (by omega) hc.1.1 (fun t ey ht => ?_) (fun nv => ?_)
    · refine g_if_eq (tgt := 33) dX9_waited_21 (by decide) (fun q => absurd q (by decide)) (fun _ => ?_)
      refine g_iload_n dX9_waited_24 rfl ?_
      refine g_if_lt (tgt := 33) dX9_waited_25 (by decide) (fun zc25 => ?_) (fun zc25 => ?_)
      · refine g_iconst (v := -1) dX9_waited_33 rfl ?_
        refine g_iret dX9_waited_34 rfl ⟨_, rfl, ?_⟩
        exact k6 (Or.inl zc25)
      · refine g_iload_n dX9_waited_28 rfl ?_
        refine g_iconst (v := 1) dX9_waited_29 rfl ?_
        refine g_icmp_le (tgt := 35) dX9_waited_30 (by decide) (fun zc30 => ?_) (fun zc30 => ?_)
        · refine g_iload dX9_waited_35 rfl ?_
          refine g_if_eq (tgt := 43) dX9_waited_37 (by decide) (fun q => absurd q (by decide)) (fun _ => ?_)
          refine g_iload dX9_waited_40 rfl ?_
          refine g_iret dX9_waited_42 rfl ⟨_, rfl, ?_⟩
          exact k2 i e hi f1 t ey ht zc25 (Int32.not_lt.mpr zc30)
        · refine g_iconst (v := -1) dX9_waited_33 rfl ?_
          refine g_iret dX9_waited_34 rfl ⟨_, rfl, ?_⟩
          exact k6 (Or.inr (Int32.not_le.mp zc30))
    · refine g_if_eq (tgt := 33) dX9_waited_21 (by decide) (fun _ => ?_) (fun q => absurd q (by decide))
      refine g_iconst (v := -1) dX9_waited_33 rfl ?_
      refine g_iret dX9_waited_34 rfl ⟨_, rfl, ?_⟩
      exact k5 nv
  · refine g_istore dX9_waited_5 (Nat.le_of_ble_eq_true rfl) rfl ?_
    refine g_iload dX9_waited_7 rfl ?_
    refine g_iconst (v := -1) dX9_waited_9 rfl ?_
    refine g_icmp_eq (tgt := 33) dX9_waited_10 (by decide) (fun q => absurd q (by decide)) (fun _ => ?_)
    refine g_aload_n dX9_waited_13 rfl ?_
    refine g_getr dX9_waited_14 fl_X9_67 h.1 h.2.1.1 ?_
    refine g_iload_n dX9_waited_17 rfl ?_
    refine g_cV1i dX9_waited_18 ml_X9_141 mi_X2_isRoad mv_X2_isRoad hc.1.1.1.1 ⟨_, rfl, rfl⟩ (Nat.le_of_ble_eq_true rfl) rfl (by omega) ?_
    refine c_X2_isRoad (by omega) hc.1.1 (fun t ey ht => ?_) (fun nv => ?_)
    · refine g_if_eq (tgt := 33) dX9_waited_21 (by decide) (fun q => absurd q (by decide)) (fun _ => ?_)
      refine g_iload_n dX9_waited_24 rfl ?_
      refine g_if_lt (tgt := 33) dX9_waited_25 (by decide) (fun zc25 => ?_) (fun zc25 => ?_)
      · refine g_iconst (v := -1) dX9_waited_33 rfl ?_
        refine g_iret dX9_waited_34 rfl ⟨_, rfl, ?_⟩
        exact k6 (Or.inl zc25)
      · refine g_iload_n dX9_waited_28 rfl ?_
        refine g_iconst (v := 1) dX9_waited_29 rfl ?_
        refine g_icmp_le (tgt := 35) dX9_waited_30 (by decide) (fun zc30 => ?_) (fun zc30 => ?_)
        · refine g_iload dX9_waited_35 rfl ?_
          refine g_if_eq (tgt := 43) dX9_waited_37 (by decide) (fun _ => ?_) (fun q => absurd q (by decide))
          refine g_iconst (v := 0) dX9_waited_43 rfl ?_
          refine g_istore dX9_waited_44 (Nat.le_of_ble_eq_true rfl) rfl ?_
          refine g_bipush (v := -2) dX9_waited_46 rfl ?_
          refine g_istore dX9_waited_48 (Nat.le_of_ble_eq_true rfl) rfl ?_
          refine g_iconst (v := 0) dX9_waited_50 rfl ?_
          refine g_istore dX9_waited_51 (Nat.le_of_ble_eq_true rfl) rfl ?_
          subst ey
          subst e
          exact l_X9_waited (by omega) hT h hc ho hi (hl i hi) ht 21 0 _ _ w rfl sam.rf h43 (k3 i rfl hi f1 f2 t rfl ht zc25 (Int32.not_lt.mpr zc30))
        · refine g_iconst (v := -1) dX9_waited_33 rfl ?_
          refine g_iret dX9_waited_34 rfl ⟨_, rfl, ?_⟩
          exact k6 (Or.inr (Int32.not_le.mp zc30))
    · refine g_if_eq (tgt := 33) dX9_waited_21 (by decide) (fun _ => ?_) (fun q => absurd q (by decide))
      refine g_iconst (v := -1) dX9_waited_33 rfl ?_
      refine g_iret dX9_waited_34 rfl ⟨_, rfl, ?_⟩
      exact k5 nv
  · refine g_istore dX9_waited_5 (Nat.le_of_ble_eq_true rfl) rfl ?_
    refine g_iload dX9_waited_7 rfl ?_
    refine g_iconst (v := -1) dX9_waited_9 rfl ?_
    refine g_icmp_eq (tgt := 33) dX9_waited_10 (by decide) (fun q => absurd q (by decide)) (fun _ => ?_)
    refine g_aload_n dX9_waited_13 rfl ?_
    refine g_getr dX9_waited_14 fl_X9_67 h.1 h.2.1.1 ?_
    refine g_iload_n dX9_waited_17 rfl ?_
    refine g_cV1i dX9_waited_18 ml_X9_141 mi_X2_isRoad mv_X2_isRoad hc.1.1.1.1 ⟨_, rfl, rfl⟩ (Nat.le_of_ble_eq_true rfl) rfl (by omega) ?_
    refine c_X2_isRoad (by omega) hc.1.1 (fun t ey ht => ?_) (fun nv => ?_)
    · refine g_if_eq (tgt := 33) dX9_waited_21 (by decide) (fun q => absurd q (by decide)) (fun _ => ?_)
      refine g_iload_n dX9_waited_24 rfl ?_
      refine g_if_lt (tgt := 33) dX9_waited_25 (by decide) (fun zc25 => ?_) (fun zc25 => ?_)
      · refine g_iconst (v := -1) dX9_waited_33 rfl ?_
        refine g_iret dX9_waited_34 rfl ⟨_, rfl, ?_⟩
        exact k6 (Or.inl zc25)
      · refine g_iload_n dX9_waited_28 rfl ?_
        refine g_iconst (v := 1) dX9_waited_29 rfl ?_
        refine g_icmp_le (tgt := 35) dX9_waited_30 (by decide) (fun zc30 => ?_) (fun zc30 => ?_)
        · refine g_iload dX9_waited_35 rfl ?_
          refine g_if_eq (tgt := 43) dX9_waited_37 (by decide) (fun q => absurd q (by decide)) (fun _ => ?_)
          refine g_iload dX9_waited_40 rfl ?_
          refine g_iret dX9_waited_42 rfl ⟨_, rfl, ?_⟩
          exact k4 i e hi f1 f2 t ey ht zc25 (Int32.not_lt.mpr zc30)
        · refine g_iconst (v := -1) dX9_waited_33 rfl ?_
          refine g_iret dX9_waited_34 rfl ⟨_, rfl, ?_⟩
          exact k6 (Or.inr (Int32.not_le.mp zc30))
    · refine g_if_eq (tgt := 33) dX9_waited_21 (by decide) (fun _ => ?_) (fun q => absurd q (by decide))
      refine g_iconst (v := -1) dX9_waited_33 rfl ?_
      refine g_iret dX9_waited_34 rfl ⟨_, rfl, ?_⟩
      exact k5 nv

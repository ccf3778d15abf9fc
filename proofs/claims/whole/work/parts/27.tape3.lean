/-! Tape: readNumber, readJoined, readOperand, readBracket, readSigned -/
set_option maxHeartbeats 4000000 in
theorem l_X6_readNumber {d l T N : Nat} {g : Nat → Int32} {k : gx_W → Prop} (hd : 1 ≤ d) (hN : N < 128) : ∀ (z i p : Nat) (v : Int32) (w : gx_W), i + z = 4 → tpI w l T g p N → (∀ w', tpR w w' l N (tp_num g T z p v).1 [(48, (tp_num g T z p v).2)] → k w') → gx_G 0 0 d mX6_readNumber (Qv k) 4 [.ref 7, .ref l, .int v, .int (nI i)] [] w := by
  intro z
  induction z with
  | zero =>
    intro i p v w hi h kk
    have e : i = 4 := by omega
    subst e
    refine g_iload_n dX6_readNumber_4 rfl ?_
    refine g_iconst (v := 4) dX6_readNumber_5 rfl ?_
    refine g_icmp_ge (tgt := 48) dX6_readNumber_6 (by decide) (fun zc6 => ?_) (fun zc6 => ?_)
    · refine g_aload_n dX6_readNumber_48 rfl ?_
      refine g_bipush (v := 48) dX6_readNumber_49 rfl ?_
      refine g_iload_n dX6_readNumber_51 rfl ?_
      refine g_cV2v dX6_readNumber_52 ml_X6_44 mi_X4_add mv_X4_add h.2.1.1 ⟨_, rfl, rfl⟩ (Nat.le_of_ble_eq_true rfl) rfl (by omega) ?_
      refine c_adds h hN (fun w1 r1 => ?_)
      refine g_vret dX6_readNumber_55 rfl ⟨rfl, ?_⟩
      exact kk w1 r1
    · exact absurd (Int32.le_refl _) zc6
  | succ z ih =>
    intro i p v w hi h kk
    refine g_iload_n dX6_readNumber_4 rfl ?_
    refine g_iconst (v := 4) dX6_readNumber_5 rfl ?_
    refine g_icmp_ge (tgt := 48) dX6_readNumber_6 (by decide) (fun zc6 => ?_) (fun zc6 => ?_)
    · exact absurd zc6 (nI_ge (b := 4) (by omega) (by decide))
    · refine g_aload_n dX6_readNumber_9 rfl ?_
      refine g_cV0i dX6_readNumber_10 ml_X6_36 mi_X6_here mv_X6_here h.1.1.1 ⟨_, rfl, rfl⟩ (Nat.le_of_ble_eq_true rfl) rfl (by omega) ?_
      refine c_X6_here (by omega) h.1 h.2.2.1 h.2.2.2.1 ?_
      refine g_cS1i dX6_readNumber_13 ml_X6_56 mi_X6_isDigit ms_X6_isDigit (Nat.le_of_ble_eq_true rfl) rfl (by omega) ?_
      refine c_X6_isDigit (by omega) (fun e13 => ?_) (fun e13 => ?_)
      · refine g_if_eq (tgt := 48) dX6_readNumber_16 (by decide) (fun q => absurd q (by decide)) (fun _ => ?_)
        refine g_bipush (v := 10) dX6_readNumber_19 rfl ?_
        refine g_iload_n dX6_readNumber_21 rfl ?_
        refine g_imul dX6_readNumber_22 ?_
        refine g_aload_n dX6_readNumber_23 rfl ?_
        refine g_cV0i dX6_readNumber_24 ml_X6_36 mi_X6_here mv_X6_here h.1.1.1 ⟨_, rfl, rfl⟩ (Nat.le_of_ble_eq_true rfl) rfl (by omega) ?_
        refine c_X6_here (by omega) h.1 h.2.2.1 h.2.2.2.1 ?_
        refine g_iadd dX6_readNumber_27 ?_
        refine g_bipush (v := 48) dX6_readNumber_28 rfl ?_
        refine g_isub dX6_readNumber_30 ?_
        refine g_istore_n dX6_readNumber_31 (Nat.le_of_ble_eq_true rfl) rfl ?_
        refine g_aload_n dX6_readNumber_32 rfl ?_
        refine g_dup dX6_readNumber_33 rfl ?_
        refine g_geti dX6_readNumber_34 fl_X6_26 h.1.1.1 ?_
        refine g_iconst (v := 1) dX6_readNumber_37 rfl ?_
        refine g_iadd dX6_readNumber_38 ?_
        refine g_puti dX6_readNumber_39 fl_X6_26 ft_6_2 h.1.1.1 ?_
        rw [h.up]
        have hlt := tp_lt (tp_dg_ne e13)
        have r := h.mv
        have h := h.step r (by omega) (by simp only [List.length_nil]; omega)
        refine g_iinc dX6_readNumber_42 rfl rfl ?_
        refine g_goto (tgt := 4) dX6_readNumber_45 (by decide) ?_
        rw [nI_1']
        rw [show tp_num g T (z + 1) p v = tp_num g T z (p + 1) (10 * v + tp_h g T p - 48) from if_pos e13] at kk
        exact ih (i + 1) (p + 1) _ _ (by omega) h (fun w' r' => kk w' (r.tr r'))
      · refine g_if_eq (tgt := 48) dX6_readNumber_16 (by decide) (fun _ => ?_) (fun q => absurd q (by decide))
        refine g_aload_n dX6_readNumber_48 rfl ?_
        refine g_bipush (v := 48) dX6_readNumber_49 rfl ?_
        refine g_iload_n dX6_readNumber_51 rfl ?_
        refine g_cV2v dX6_readNumber_52 ml_X6_44 mi_X4_add mv_X4_add h.2.1.1 ⟨_, rfl, rfl⟩ (Nat.le_of_ble_eq_true rfl) rfl (by omega) ?_
        refine c_adds h hN (fun w1 r1 => ?_)
        refine g_vret dX6_readNumber_55 rfl ⟨rfl, ?_⟩
        rw [show tp_num g T (z + 1) p v = (p, v) from if_neg (by rw [e13]; decide)] at kk
        exact kk w1 r1
theorem c_X6_readNumber {d : Nat} {w : gx_W} {l T p N : Nat} {g : Nat → Int32} {k : gx_W → Prop} (hd : 1 ≤ d) (h : tpI w l T g p N) (hN : N < 128) (kk : ∀ w', tpR w w' l N (tp_num g T 4 p 0).1 [(48, (tp_num g T 4 p 0).2)] → k w') : gx_C 0 0 d mX6_readNumber [.ref 7, .ref l] w (Qv k) := by
  refine gx_C_of' (L := [.ref 7, .ref l, .retAddr 0, .retAddr 0]) (by decide +kernel) rfl (Nat.le_of_ble_eq_true rfl) ?_
  refine g_iconst (v := 0) dX6_readNumber_0 rfl ?_
  refine g_istore_n dX6_readNumber_1 (Nat.le_of_ble_eq_true rfl) rfl ?_
  refine g_iconst (v := 0) dX6_readNumber_2 rfl ?_
  refine g_istore_n dX6_readNumber_3 (Nat.le_of_ble_eq_true rfl) rfl ?_
  exact l_X6_readNumber hd hN 4 0 p 0 w rfl h kk
def tpJC (l T : Nat) (g : Nat → Int32) (f : Nat) : Prop := ∀ {d lv op p N : Nat} {w : gx_W} {k : Int32 → gx_W → Prop}, (6 - op) * 6 + (6 - lv) ≤ f → 3 * f + 4 ≤ d → lv ≤ 5 → op ≤ 6 → tpI w l T g p N → N ≤ p + 1 → ((tp_j g T f lv op p).1 = true → ∀ w', tpR w w' l N (tp_j g T f lv op p).2.1 (tp_j g T f lv op p).2.2 → k 1 w') → ((tp_j g T f lv op p).1 = false → ∀ w', tpR w w' l N (tp_j g T f lv op p).2.1 (tp_j g T f lv op p).2.2 → k 0 w') → gx_C 0 0 d mX6_readJoined [.ref 7, .ref l, .int (nI lv), .int (nI op)] w (Qi k)
def tpOC (l T : Nat) (g : Nat → Int32) (f : Nat) : Prop := ∀ {d op p N : Nat} {w : gx_W} {k : Int32 → gx_W → Prop}, (6 - op) * 6 + 1 ≤ f → 3 * f + 3 ≤ d → op ≤ 6 → tpI w l T g p N → N ≤ p + 1 → ((tp_j g T f 5 op p).1 = true → ∀ w', tpR w w' l N (tp_j g T f 5 op p).2.1 (tp_j g T f 5 op p).2.2 → k 1 w') → ((tp_j g T f 5 op p).1 = false → ∀ w', tpR w w' l N (tp_j g T f 5 op p).2.1 (tp_j g T f 5 op p).2.2 → k 0 w') → gx_C 0 0 d mX6_readOperand [.ref 7, .ref l, .int (nI op)] w (Qi k)
theorem c_X6_readBracket {d : Nat} {w : gx_W} {f l T op p N : Nat} {g : Nat → Int32} {k : Int32 → gx_W → Prop} (hd : 0 ≤ d) (IH : tpJC l T g f) (hf : (6 - op) * 6 + 6 ≤ f) (hd5 : 3 * f + 5 ≤ d) (hop : op ≤ 6) (h : tpI w l T g p N) (hN : N ≤ p + 1) (kt : (tp_br g T (tp_j g T f 0 op p)).1 = true → ∀ w', tpR w w' l N (tp_br g T (tp_j g T f 0 op p)).2.1 (tp_br g T (tp_j g T f 0 op p)).2.2 → k 1 w') (kf : (tp_br g T (tp_j g T f 0 op p)).1 = false → ∀ w', tpR w w' l N (tp_br g T (tp_j g T f 0 op p)).2.1 (tp_br g T (tp_j g T f 0 op p)).2.2 → k 0 w') : gx_C 0 0 d mX6_readBracket [.ref 7, .ref l, .int (nI op)] w (Qi k) := by
  refine gx_C_of' (L := [.ref 7, .ref l, .int (nI op)]) (by decide +kernel) rfl (Nat.le_of_ble_eq_true rfl) ?_
  have hT := h.1.2.2.1
  have hp := h.2.2.2.1
  refine g_aload_n dX6_readBracket_0 rfl ?_
  refine g_aload_n dX6_readBracket_1 rfl ?_
  refine g_iconst (v := 0) dX6_readBracket_2 rfl ?_
  refine g_iload_n dX6_readBracket_3 rfl ?_
  refine g_cV3i dX6_readBracket_4 ml_X6_40 mi_X6_readJoined mv_X6_readJoined h.1.1.1 ⟨_, rfl, rfl⟩ (Nat.le_of_ble_eq_true rfl) rfl (by omega) ?_
  refine IH (lv := 0) (by omega) (by omega) (by omega) hop h hN (fun e4 w1 r1 => ?_) (fun e4 w1 r1 => ?_)
  · refine g_if_eq (tgt := 19) dX6_readBracket_7 (by decide) (fun q => absurd q (by decide)) (fun _ => ?_)
    have b := tp_j_b (g := g) (T := T) f 0 op p hp
    have h0 := h
    have h := h.step r1 b.2 (by have := b.1; have := b.2; omega)
    refine g_aload_n dX6_readBracket_10 rfl ?_
    refine g_cV0i dX6_readBracket_11 ml_X6_36 mi_X6_here mv_X6_here h.1.1.1 ⟨_, rfl, rfl⟩ (Nat.le_of_ble_eq_true rfl) rfl (by omega) ?_
    refine c_X6_here (by omega) h.1 h.2.2.1 h.2.2.2.1 ?_
    refine g_bipush (v := 41) dX6_readBracket_14 rfl ?_
    refine g_icmp_eq (tgt := 21) dX6_readBracket_16 (by decide) (fun zc16 => ?_) (fun zc16 => ?_)
    · refine g_aload_n dX6_readBracket_21 rfl ?_
      refine g_dup dX6_readBracket_22 rfl ?_
      refine g_geti dX6_readBracket_23 fl_X6_26 h.1.1.1 ?_
      refine g_iconst (v := 1) dX6_readBracket_26 rfl ?_
      refine g_iadd dX6_readBracket_27 ?_
      refine g_puti dX6_readBracket_28 fl_X6_26 ft_6_2 h.1.1.1 ?_
      rw [h.up]
      have hlt := tp_lt (g := g) (T := T) (p := (tp_j g T f 0 op p).2.1) (by rw [zc16]; decide)
      have r := h.mv
      refine g_iconst (v := 1) dX6_readBracket_31 rfl ?_
      refine g_zret dX6_readBracket_32 rfl (Or.inr rfl) ⟨_, rfl, ?_⟩
      rw [show tp_br g T (tp_j g T f 0 op p) = (true, (tp_j g T f 0 op p).2.1 + 1, (tp_j g T f 0 op p).2.2) from if_pos ⟨e4, zc16⟩] at kt
      exact kt rfl _ (r1.tr' r rfl (List.append_nil _).symm)
    · refine g_iconst (v := 0) dX6_readBracket_19 rfl ?_
      refine g_zret dX6_readBracket_20 rfl (Or.inl rfl) ⟨_, rfl, ?_⟩
      rw [show tp_br g T (tp_j g T f 0 op p) = (false, (tp_j g T f 0 op p).2.1, (tp_j g T f 0 op p).2.2) from if_neg (fun q => zc16 q.2)] at kf
      exact kf rfl w1 r1
  · refine g_if_eq (tgt := 19) dX6_readBracket_7 (by decide) (fun _ => ?_) (fun q => absurd q (by decide))
    refine g_iconst (v := 0) dX6_readBracket_19 rfl ?_
    refine g_zret dX6_readBracket_20 rfl (Or.inl rfl) ⟨_, rfl, ?_⟩
    rw [show tp_br g T (tp_j g T f 0 op p) = (false, (tp_j g T f 0 op p).2.1, (tp_j g T f 0 op p).2.2) from if_neg (fun q => by rw [e4] at q; cases q.1)] at kf
    exact kf rfl w1 r1
theorem c_X6_readSigned {d : Nat} {w : gx_W} {f l T op p N : Nat} {g : Nat → Int32} {s : Int32} {k : Int32 → gx_W → Prop} (hd : 0 ≤ d) (IH : tpOC l T g f) (hf : (6 - op) * 6 + 1 ≤ f) (hd5 : 3 * f + 4 ≤ d) (hop : op ≤ 6) (h : tpI w l T g p N) (hN : N ≤ p + 1) (kt : (tp_sg s (tp_j g T f 5 op p)).1 = true → ∀ w', tpR w w' l N (tp_sg s (tp_j g T f 5 op p)).2.1 (tp_sg s (tp_j g T f 5 op p)).2.2 → k 1 w') (kf : (tp_sg s (tp_j g T f 5 op p)).1 = false → ∀ w', tpR w w' l N (tp_sg s (tp_j g T f 5 op p)).2.1 (tp_sg s (tp_j g T f 5 op p)).2.2 → k 0 w') : gx_C 0 0 d mX6_readSigned [.ref 7, .ref l, .int s, .int (nI op)] w (Qi k) := by
  refine gx_C_of' (L := [.ref 7, .ref l, .int s, .int (nI op)]) (by decide +kernel) rfl (Nat.le_of_ble_eq_true rfl) ?_
  have hT := h.1.2.2.1
  have hp := h.2.2.2.1
  refine g_aload_n dX6_readSigned_0 rfl ?_
  refine g_aload_n dX6_readSigned_1 rfl ?_
  refine g_iload_n dX6_readSigned_2 rfl ?_
  refine g_cV2i dX6_readSigned_3 ml_X6_48 mi_X6_readOperand mv_X6_readOperand h.1.1.1 ⟨_, rfl, rfl⟩ (Nat.le_of_ble_eq_true rfl) rfl (by omega) ?_
  refine IH (by omega) (by omega) hop h hN (fun e3 w1 r1 => ?_) (fun e3 w1 r1 => ?_)
  · refine g_if_ne (tgt := 11) dX6_readSigned_6 (by decide) (fun _ => ?_) (fun q => absurd q (by decide))
    have b := tp_j_b (g := g) (T := T) f 5 op p hp
    have h := h.step r1 b.2 (by have := b.1; have := b.2; omega)
    refine g_aload_n dX6_readSigned_11 rfl ?_
    refine g_iload_n dX6_readSigned_12 rfl ?_
    refine g_bipush (v := 45) dX6_readSigned_13 rfl ?_
    refine g_icmp_ne (tgt := 23) dX6_readSigned_15 (by decide) (fun zc15 => ?_) (fun zc15 => ?_)
    · refine g_iload_n dX6_readSigned_23 rfl ?_
      refine g_iconst (v := 0) dX6_readSigned_24 rfl ?_
      refine g_cV2v dX6_readSigned_25 ml_X6_44 mi_X4_add mv_X4_add h.2.1.1 ⟨_, rfl, rfl⟩ (Nat.le_of_ble_eq_true rfl) rfl (by omega) ?_
      refine c_adds h (by have := b.1; have := b.2; omega) (fun w2 r2 => ?_)
      refine g_iconst (v := 1) dX6_readSigned_28 rfl ?_
      refine g_zret dX6_readSigned_29 rfl (Or.inr rfl) ⟨_, rfl, ?_⟩
      rw [show tp_sg s (tp_j g T f 5 op p) = (true, (tp_j g T f 5 op p).2.1, (tp_j g T f 5 op p).2.2 ++ [(if s = 45 then 126 else s, 0)]) from if_pos e3] at kt
      rw [if_neg zc15] at kt
      exact kt rfl _ (r1.tr' r2 rfl rfl)
    · refine g_bipush (v := 126) dX6_readSigned_18 rfl ?_
      refine g_goto (tgt := 24) dX6_readSigned_20 (by decide) ?_
      refine g_iconst (v := 0) dX6_readSigned_24 rfl ?_
      refine g_cV2v dX6_readSigned_25 ml_X6_44 mi_X4_add mv_X4_add h.2.1.1 ⟨_, rfl, rfl⟩ (Nat.le_of_ble_eq_true rfl) rfl (by omega) ?_
      refine c_adds h (by have := b.1; have := b.2; omega) (fun w2 r2 => ?_)
      refine g_iconst (v := 1) dX6_readSigned_28 rfl ?_
      refine g_zret dX6_readSigned_29 rfl (Or.inr rfl) ⟨_, rfl, ?_⟩
      rw [show tp_sg s (tp_j g T f 5 op p) = (true, (tp_j g T f 5 op p).2.1, (tp_j g T f 5 op p).2.2 ++ [(if s = 45 then 126 else s, 0)]) from if_pos e3] at kt
      rw [if_pos (by first | exact zc15 | exact Classical.not_not.mp zc15)] at kt
      exact kt rfl _ (r1.tr' r2 rfl rfl)
  · refine g_if_ne (tgt := 11) dX6_readSigned_6 (by decide) (fun q => absurd q (by decide)) (fun _ => ?_)
    refine g_iconst (v := 0) dX6_readSigned_9 rfl ?_
    refine g_zret dX6_readSigned_10 rfl (Or.inl rfl) ⟨_, rfl, ?_⟩
    rw [show tp_sg s (tp_j g T f 5 op p) = (false, (tp_j g T f 5 op p).2.1, (tp_j g T f 5 op p).2.2) from if_neg (by rw [e3]; decide)] at kf
    exact kf rfl w1 r1

/-! CrossroadsChoose: least; what the crossing's rules look at -/
theorem cr_want_congr {N : Nat} {sg va f g : Nat → Int32} {m c : Nat} (h : ∀ j, j < 28 → f j = g j) (hm : m < 6) : cr_want N sg va f m c = cr_want N sg va g m c := by
  unfold cr_want
  rw [h m (by omega), h (18 + m) (by omega), h (6 + m) (by omega)]
theorem cr_runs_congr {f g : Nat → Int32} {n c : Nat} (h : ∀ j, j < 28 → f j = g j) : cr_runs f n c = cr_runs g n c := by
  unfold cr_runs
  rw [h 24 (by decide), h 25 (by decide)]
theorem cr_most_congr {W W' : Nat → Int32} {out : Nat → Bool} {n : Nat} (h : ∀ i, i < n → W i = W' i) : cr_most W out n = cr_most W' out n := by
  induction n with
  | zero => rfl
  | succ n ih =>
    unfold cr_most
    rw [ih (fun i hi => h i (by omega)), h n (by omega)]
theorem cr_has_congr {N : Nat} {sg va f g : Nat → Int32} {n c : Nat} (h : ∀ j, j < 28 → f j = g j) (hn : n ≤ 6) : cr_has N sg va f n c = cr_has N sg va g n c := by
  unfold cr_has
  rw [cr_runs_congr h, h 25 (by decide), cr_most_congr (W' := (cr_want N sg va g · c)) (fun i hi => cr_want_congr h (by omega))]
theorem cr_set_congr {f g : Nat → Int32} {n t : Nat} (h : ∀ j, j < 28 → f j = g j) : ∀ j, j < 28 → cr_set f n t j = cr_set g n t j := by
  intro j hj
  unfold cr_set
  rw [h j hj]
set_option maxHeartbeats 4000000 in
theorem l_X9_least {d n : Nat} {w : gx_W} {k : Int32 → gx_W → Prop} (hd : 3 ≤ d) (h : clO w) (hc : isCn w 37 38 n) (kk : k (me_ls (w_a w 38) n).1 w) : ∀ (z i : Nat) (x4 : Value), i + z = n → gx_G 0 0 d mX9_least (Qi k) 7 [.ref 6, .int (me_ls (w_a w 38) i).1, .int (me_ls (w_a w 38) i).2, .int (nI i), x4] [] w := by
  intro z
  have hb := hc.2.2
  induction z with
  | zero =>
    intro i x4 hi
    have e : i = n := by omega
    subst e
    refine g_iload_n dX9_least_7 rfl ?_
    refine g_aload_n dX9_least_8 rfl ?_
    refine g_getr dX9_least_9 fl_X9_67 h.1 h.2.1.1 ?_
    refine g_geti dX9_least_12 fl_X9_196 hc.1.1 ?_
    refine g_icmp_ge (tgt := 72) dX9_least_15 (by decide) (fun zc15 => ?_) (fun zc15 => ?_)
    · refine g_iload_n dX9_least_72 rfl ?_
      refine g_iret dX9_least_73 rfl ⟨_, rfl, ?_⟩
      exact kk
    · exact absurd (Int32.le_refl _) (by rw [hc.2.1] at zc15; exact zc15)
  | succ z ih =>
    intro i x4 hi
    have hlt : i < n := by omega
    refine g_iload_n dX9_least_7 rfl ?_
    refine g_aload_n dX9_least_8 rfl ?_
    refine g_getr dX9_least_9 fl_X9_67 h.1 h.2.1.1 ?_
    refine g_geti dX9_least_12 fl_X9_196 hc.1.1 ?_
    refine g_icmp_ge (tgt := 72) dX9_least_15 (by decide) (fun zc15 => ?_) (fun zc15 => ?_)
    · exact absurd zc15 (by rw [hc.2.1]; exact nI_ge hlt (by omega))
    · refine g_aload_n dX9_least_18 rfl ?_
      refine g_getr dX9_least_19 fl_X9_67 h.1 h.2.1.1 ?_
      refine g_iload_n dX9_least_22 rfl ?_
      refine g_iconst (v := 0) dX9_least_23 rfl ?_
      refine g_cV2i dX9_least_24 ml_X9_112 mi_X2_number mv_X2_number hc.1.1 ⟨_, rfl, rfl⟩ (Nat.le_of_ble_eq_true rfl) rfl (by omega) ?_
      refine c_number_r (q := 0) (m := i) (by omega) hc (by decide) hlt rfl rfl ?_
      refine g_aload_n dX9_least_27 rfl ?_
      refine g_getr dX9_least_28 fl_X9_67 h.1 h.2.1.1 ?_
      refine g_iload_n dX9_least_31 rfl ?_
      refine g_iconst (v := 3) dX9_least_32 rfl ?_
      refine g_cV2i dX9_least_33 ml_X9_112 mi_X2_number mv_X2_number hc.1.1 ⟨_, rfl, rfl⟩ (Nat.le_of_ble_eq_true rfl) rfl (by omega) ?_
      refine c_number_r (q := 3) (m := i) (by omega) hc (by decide) hlt rfl rfl ?_
      refine g_iadd dX9_least_36 ?_
      refine g_aload_n dX9_least_37 rfl ?_
      refine g_getr dX9_least_38 fl_X9_67 h.1 h.2.1.1 ?_
      refine g_iload_n dX9_least_41 rfl ?_
      refine g_iconst (v := 1) dX9_least_42 rfl ?_
      refine g_cV2i dX9_least_43 ml_X9_112 mi_X2_number mv_X2_number hc.1.1 ⟨_, rfl, rfl⟩ (Nat.le_of_ble_eq_true rfl) rfl (by omega) ?_
      refine c_number_r (q := 1) (m := i) (by omega) hc (by decide) hlt rfl rfl ?_
      refine g_iadd dX9_least_46 ?_
      simp only [Nat.zero_mul, Nat.zero_add, Nat.reduceMul, Nat.one_mul]
      refine g_istore dX9_least_47 (Nat.le_of_ble_eq_true rfl) rfl ?_
      refine g_iload_n dX9_least_49 rfl ?_
      refine g_bipush (v := -2) dX9_least_50 rfl ?_
      refine g_icmp_eq (tgt := 61) dX9_least_52 (by decide) (fun zc52 => ?_) (fun zc52 => ?_)
      · refine g_iload_n dX9_least_61 rfl ?_
        refine g_istore_n dX9_least_62 (Nat.le_of_ble_eq_true rfl) rfl ?_
        refine g_iload dX9_least_63 rfl ?_
        refine g_istore_n dX9_least_65 (Nat.le_of_ble_eq_true rfl) rfl ?_
        refine g_iinc dX9_least_66 rfl rfl ?_
        refine g_goto (tgt := 7) dX9_least_69 (by decide) ?_
        have e : me_ls (w_a w 38) (i + 1) = (nI i, w_a w 38 i + w_a w 38 (18 + i) + w_a w 38 (6 + i)) := if_pos (Or.inl zc52)
        have K := ih (i + 1) (.int (w_a w 38 i + w_a w 38 (18 + i) + w_a w 38 (6 + i))) (by omega)
        rw [e] at K
        rw [nI_1']
        exact K
      · refine g_iload dX9_least_55 rfl ?_
        refine g_iload_n dX9_least_57 rfl ?_
        refine g_icmp_ge (tgt := 66) dX9_least_58 (by decide) (fun zc58 => ?_) (fun zc58 => ?_)
        · refine g_iinc dX9_least_66 rfl rfl ?_
          refine g_goto (tgt := 7) dX9_least_69 (by decide) ?_
          have e : me_ls (w_a w 38) (i + 1) = me_ls (w_a w 38) i := if_neg (fun q => q.elim (fun q => zc52 q) (fun q => Int32.not_le.mpr q zc58))
          have K := ih (i + 1) (.int (w_a w 38 i + w_a w 38 (18 + i) + w_a w 38 (6 + i))) (by omega)
          rw [e] at K
          rw [nI_1']
          exact K
        · refine g_iload_n dX9_least_61 rfl ?_
          refine g_istore_n dX9_least_62 (Nat.le_of_ble_eq_true rfl) rfl ?_
          refine g_iload dX9_least_63 rfl ?_
          refine g_istore_n dX9_least_65 (Nat.le_of_ble_eq_true rfl) rfl ?_
          refine g_iinc dX9_least_66 rfl rfl ?_
          refine g_goto (tgt := 7) dX9_least_69 (by decide) ?_
          have e : me_ls (w_a w 38) (i + 1) = (nI i, w_a w 38 i + w_a w 38 (18 + i) + w_a w 38 (6 + i)) := if_pos (Or.inr (Int32.not_le.mp zc58))
          have K := ih (i + 1) (.int (w_a w 38 i + w_a w 38 (18 + i) + w_a w 38 (6 + i))) (by omega)
          rw [e] at K
          rw [nI_1']
          exact K
theorem c_X9_least {d : Nat} {w : gx_W} {n : Nat} {k : Int32 → gx_W → Prop} (hd : 3 ≤ d) (h : clO w) (hc : isCn w 37 38 n) (kk : k (me_ls (w_a w 38) n).1 w) : gx_C 0 0 d mX9_least [.ref 6] w (Qi k) := by
  refine gx_C_of' (L := [.ref 6, .retAddr 0, .retAddr 0, .retAddr 0, .retAddr 0]) (by decide +kernel) rfl (Nat.le_of_ble_eq_true rfl) ?_
  refine g_bipush (v := -2) dX9_least_0 rfl ?_
  refine g_istore_n dX9_least_2 (Nat.le_of_ble_eq_true rfl) rfl ?_
  refine g_iconst (v := 0) dX9_least_3 rfl ?_
  refine g_istore_n dX9_least_4 (Nat.le_of_ble_eq_true rfl) rfl ?_
  refine g_iconst (v := 0) dX9_least_5 rfl ?_
  refine g_istore_n dX9_least_6 (Nat.le_of_ble_eq_true rfl) rfl ?_
  exact l_X9_least hd h hc kk n 0 _ (by omega)

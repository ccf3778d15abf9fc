/-! CrossroadsChoose: comes -/
theorem c_X9_comes {d : Nat} {w : gx_W} {n l N : Nat} {x : Int32} {k : Int32 → gx_W → Prop} (hd : 6 ≤ d) (hT : isT w) (h : clO w) (hc : isCk w 37 38 n l N) (k1 : (∀ c, c < 100 → x ≠ nI c) → k (-1) w) (kA : ∀ c, x = nI c → c < 100 → cr_has N (w_a w (l + 1)) (w_a w (l + 2)) (w_a w 38) n c = -2 → ∀ w', same JR JF w w' → k (-5) w') (kB : ∀ c t, x = nI c → c < 100 → t < n → cr_has N (w_a w (l + 1)) (w_a w (l + 2)) (w_a w 38) n c = nI t → ∀ w1, same JR JF w w1 → cr_runs (w_a w 38) n c = true → ∀ w', leadR (s_a (s_a w1 21 (va_up (w_a w1 21) 0 (w_a w1 21 0 + 1))) 21 (va_up (w_a (s_a w1 21 (va_up (w_a w1 21) 0 (w_a w1 21 0 + 1))) 21) 1 (w_a (s_a w1 21 (va_up (w_a w1 21) 0 (w_a w1 21 0 + 1))) 21 1 + 1))) w' n t → k (nI t) w') (kC : ∀ c t, x = nI c → c < 100 → t < n → cr_has N (w_a w (l + 1)) (w_a w (l + 2)) (w_a w 38) n c = nI t → ∀ w1, same JR JF w w1 → cr_runs (w_a w 38) n c = false → ∀ w', leadR (s_a w1 21 (va_up (w_a w1 21) 0 (w_a w1 21 0 + 1))) w' n t → k (nI t) w') : gx_C 0 0 d mX9_comes [.ref 6, .int x] w (Qi k) := by
  refine gx_C_of' (L := [.ref 6, .int x, .retAddr 0]) (by decide +kernel) rfl (Nat.le_of_ble_eq_true rfl) ?_
  refine g_iload_n dX9_comes_0 rfl ?_
  refine g_cS1i dX9_comes_1 ml_X9_145 mi_X9_isComer ms_X9_isComer (Nat.le_of_ble_eq_true rfl) rfl (by omega) ?_
  refine c_isComer (fun c ec hco => ?_) (fun nc => ?_)
  · refine g_if_ne (tgt := 9) dX9_comes_4 (by decide) (fun _ => ?_) (fun q => absurd q (by decide))
    subst ec
    refine g_aload_n dX9_comes_9 rfl ?_
    refine g_getr dX9_comes_10 fl_X9_67 h.1 h.2.1.1 ?_
    refine g_iload_n dX9_comes_13 rfl ?_
    refine g_cV1i dX9_comes_14 ml_X9_151 mi_X2_haver mv_X2_haver hc.1.1.1.1 ⟨_, rfl, rfl⟩ (Nat.le_of_ble_eq_true rfl) rfl (by omega) ?_
    refine c_haver2 (by omega) hc hco (fun e w1 hs => ?_) (fun t ht e w1 hs => ?_)
    · refine g_istore_n dX9_comes_17 (Nat.le_of_ble_eq_true rfl) rfl ?_
      refine g_iload_n dX9_comes_18 rfl ?_
      refine g_if_ge (tgt := 25) dX9_comes_19 (by decide) (fun q => absurd q (by decide)) (fun _ => ?_)
      refine g_bipush (v := -5) dX9_comes_22 rfl ?_
      refine g_iret dX9_comes_24 rfl ⟨_, rfl, ?_⟩
      exact kA c rfl hco e w1 hs
    · refine g_istore_n dX9_comes_17 (Nat.le_of_ble_eq_true rfl) rfl ?_
      refine g_iload_n dX9_comes_18 rfl ?_
      refine g_if_ge (tgt := 25) dX9_comes_19 (by decide) (fun zc19 => ?_) (fun zc19 => ?_)
      · have e38 : w_a w1 38 = w_a w 38 := (hs.2.2.2.1 38 (by decide)).1
        have hT := hT.same hs (by simp)
        have h := h.same hs
        have hc := (hc.same (by decide) hs).1
        refine g_aload_n dX9_comes_25 rfl ?_
        refine g_getr dX9_comes_26 fl_X9_43 h.1 h.2.2.2.1.1 ?_
        refine g_iconst (v := 0) dX9_comes_29 rfl ?_
        refine g_dup2 dX9_comes_30 rfl rfl ?_
        refine g_iald dX9_comes_31 h.2.2.2.1.2 (by first | assumption | exact vp_in_iff.mpr (by decide)) ?_
        refine g_iconst (v := 1) dX9_comes_32 rfl ?_
        refine g_iadd dX9_comes_33 ?_
        refine g_iast dX9_comes_34 h.2.2.2.1.2 (by first | assumption | exact vp_in_iff.mpr (by decide)) ?_
        refine g_aload_n dX9_comes_35 rfl ?_
        refine g_getr dX9_comes_36 fl_X9_67 h.1 h.2.1.1 ?_
        refine g_iload_n dX9_comes_39 rfl ?_
        refine g_cV1i dX9_comes_40 ml_X9_256 mi_X2_isRunner mv_X2_isRunner hc.1.1.1.1 ⟨_, rfl, rfl⟩ (Nat.le_of_ble_eq_true rfl) rfl (by omega) ?_
        refine c_X2_isRunner (by omega) (hc.1.1.same (same.sa (R := [21]) (F := []) same.rf (by simp)) (by simp)) hco (fun er => ?_) (fun er => ?_)
        · refine g_if_eq (tgt := 56) dX9_comes_43 (by decide) (fun q => absurd q (by decide)) (fun _ => ?_)
          refine g_aload_n dX9_comes_46 rfl ?_
          refine g_getr dX9_comes_47 fl_X9_43 h.1 h.2.2.2.1.1 ?_
          refine g_iconst (v := 1) dX9_comes_50 rfl ?_
          refine g_dup2 dX9_comes_51 rfl rfl ?_
          refine g_iald dX9_comes_52 h.2.2.2.1.2 (by first | assumption | exact vp_in_iff.mpr (by decide)) ?_
          refine g_iconst (v := 1) dX9_comes_53 rfl ?_
          refine g_iadd dX9_comes_54 ?_
          refine g_iast dX9_comes_55 h.2.2.2.1.2 (by first | assumption | exact vp_in_iff.mpr (by decide)) ?_
          refine g_aload_n dX9_comes_56 rfl ?_
          refine g_iload_n dX9_comes_57 rfl ?_
          refine g_cV1v dX9_comes_58 ml_X9_259 mi_X9_lead mv_X9_lead h.1 ⟨_, rfl, rfl⟩ (Nat.le_of_ble_eq_true rfl) rfl (by omega) ?_
          refine c_X9_lead (by omega) (hT.same (same.sa (R := [21]) (F := []) (same.sa same.rf (by simp)) (by simp)) (by simp)) (h.same (same.sa (R := [21]) (F := []) (same.sa same.rf (by simp)) (by simp))) (hc.1.1.same (same.sa (R := [21]) (F := []) (same.sa same.rf (by simp)) (by simp)) (by simp)) ht (fun w3 r3 => ?_)
          refine g_iload_n dX9_comes_61 rfl ?_
          refine g_iret dX9_comes_62 rfl ⟨_, rfl, ?_⟩
          exact kB c t rfl hco ht e w1 hs (by rw [← e38]; exact er) w3 r3
        · refine g_if_eq (tgt := 56) dX9_comes_43 (by decide) (fun _ => ?_) (fun q => absurd q (by decide))
          refine g_aload_n dX9_comes_56 rfl ?_
          refine g_iload_n dX9_comes_57 rfl ?_
          refine g_cV1v dX9_comes_58 ml_X9_259 mi_X9_lead mv_X9_lead h.1 ⟨_, rfl, rfl⟩ (Nat.le_of_ble_eq_true rfl) rfl (by omega) ?_
          refine c_X9_lead (by omega) (hT.same (same.sa (R := [21]) (F := []) same.rf (by simp)) (by simp)) (h.same (same.sa (R := [21]) (F := []) same.rf (by simp))) (hc.1.1.same (same.sa (R := [21]) (F := []) same.rf (by simp)) (by simp)) ht (fun w3 r3 => ?_)
          refine g_iload_n dX9_comes_61 rfl ?_
          refine g_iret dX9_comes_62 rfl ⟨_, rfl, ?_⟩
          exact kC c t rfl hco ht e w1 hs (by rw [← e38]; exact er) w3 r3
      · refine g_bipush (v := -5) dX9_comes_22 rfl ?_
        refine g_iret dX9_comes_24 rfl ⟨_, rfl, ?_⟩
        exact absurd (Int32.not_lt.mp (nI_pos (by have := hc.1.1.2.2; omega))) zc19
  · refine g_if_ne (tgt := 9) dX9_comes_4 (by decide) (fun q => absurd q (by decide)) (fun _ => ?_)
    refine g_iconst (v := -1) dX9_comes_7 rfl ?_
    refine g_iret dX9_comes_8 rfl ⟨_, rfl, ?_⟩
    exact k1 nc

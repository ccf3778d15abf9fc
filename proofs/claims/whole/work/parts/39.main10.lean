/-! CrossroadsChoose: again -/
theorem thI.rows {w w' : gx_W} {n l N : Nat} {f a b g : Nat → Int32} {cm lt wo : Int32} (h : thI w w' n l N f a b g cm lt wo) : w_a w' (l + 1) = w_a w (l + 1) ∧ w_a w' (l + 2) = w_a w (l + 2) := by
  have hl := h.2.2.1.2
  exact ⟨(h.1.2.2.2.1 _ (by rcases hl with rfl | rfl <;> decide)).1, (h.1.2.2.2.1 _ (by rcases hl with rfl | rfl <;> decide)).1⟩
theorem clO_th {w w' : gx_W} (h : clO w) (hs : sam TR TG [(43, 2)] w w') : clO w' := h.sam hs (by simp) (by simp) (by intro i hi; simp)
def me_nx (N : Nat) (sg va f : Nat → Int32) (n c : Nat) : Nat → Int32 := if cr_has N sg va f n c < 0 then f else cr_set f n (cr_has N sg va f n c).toNatClampNeg
theorem me_nx_A {N : Nat} {sg va f : Nat → Int32} {n c : Nat} (h : cr_has N sg va f n c = -2) : me_nx N sg va f n c = f := by
  unfold me_nx
  rw [h]
  exact if_pos (by decide)
theorem me_nx_B {N : Nat} {sg va f : Nat → Int32} {n c t : Nat} (ht : t < 2 ^ 31) (h : cr_has N sg va f n c = nI t) : me_nx N sg va f n c = cr_set f n t := by
  unfold me_nx
  rw [h, if_neg (nI_pos ht), nI_n ht]
def me_ag (N : Nat) (sg va : Nat → Int32) (n c : Nat) (q : Int32) : Nat → Nat → (Nat → Int32) → Int32
  | 0, _, _ => -2
  | z + 1, t, f => if cr_has N sg va f n c = q then nI t else me_ag N sg va n c q z (t + 1) (me_nx N sg va f n c)
set_option maxHeartbeats 4000000 in
theorem l_X9_again {d n l N q c : Nat} {w : gx_W} {k : Int32 → gx_W → Prop} (hd : 7 ≤ d) (hT : isT w) (h : clO w) (hq : q < n) (hc : c < 100) (hn : n ≤ 6) : ∀ (z t : Nat) (f a b g : Nat → Int32) (cm lt wo : Int32) (w1 : gx_W), t + z = 201 → thI w w1 n l N f a b g cm lt wo → (∀ w', sam TR TG [(43, 2)] w w' → k (me_ag N (w_a w (l + 1)) (w_a w (l + 2)) n c (nI q) z t f) w') → gx_G 0 0 d mX9_again (Qi k) 23 [.ref 6, .int (nI (100 * q + c)), .int (nI t)] [] w1 := by
  intro z
  induction z with
  | zero =>
    intro t f a b g cm lt wo w1 hi hI kk
    have e : t = 201 := by omega
    subst e
    refine g_iload_n dX9_again_23 rfl ?_
    refine g_sipush (v := 200) dX9_again_24 rfl ?_
    refine g_icmp_gt (tgt := 56) dX9_again_27 (by decide) (fun zc27 => ?_) (fun zc27 => ?_)
    · refine g_bipush (v := -2) dX9_again_56 rfl ?_
      refine g_iret dX9_again_58 rfl ⟨_, rfl, ?_⟩
      exact kk w1 hI.1
    · exact absurd (by decide) zc27
  | succ z ih =>
    intro t f a b g cm lt wo w1 hi hI kk
    have e100 : (100 : Int32) = nI 100 := rfl
    have hrem : nI (100 * q + c) - nI (100 * q + c) / 100 * 100 = nI c := by
      rw [e100, pk_rem (by omega) (by decide) (by decide), show (100 * q + c) % 100 = c by omega]
    have hdiv : nI (100 * q + c) / 100 = nI q := by
      rw [e100, pk_div (by omega) (by decide) (by decide), show (100 * q + c) / 100 = q by omega]
    refine g_iload_n dX9_again_23 rfl ?_
    refine g_sipush (v := 200) dX9_again_24 rfl ?_
    refine g_icmp_gt (tgt := 56) dX9_again_27 (by decide) (fun zc27 => ?_) (fun zc27 => ?_)
    · refine g_bipush (v := -2) dX9_again_56 rfl ?_
      refine g_iret dX9_again_58 rfl ⟨_, rfl, ?_⟩
      exact absurd (show nI 200 < nI t from zc27) (by rw [pI_lt, nI_toInt (by omega), nI_toInt (by omega)]; omega)
    · refine g_aload_n dX9_again_30 rfl ?_
      refine g_getr dX9_again_31 fl_X9_74 (clO_th h hI.1).1 (clO_th h hI.1).2.1.2.1 ?_
      refine g_iload_n dX9_again_34 rfl ?_
      refine g_bipush (v := 100) dX9_again_35 rfl ?_
      refine g_irem dX9_again_37 (by decide) ?_
      rw [hrem]
      refine g_cV1i dX9_again_38 ml_X9_207 mi_X7_meet mv_X7_meet hI.2.1.1 ⟨_, rfl, rfl⟩ (Nat.le_of_ble_eq_true rfl) rfl (by omega) ?_
      refine c_meetI (by omega) hT hI.rows hI hc (fun e w2 I2 => ?_) (fun u hu e w2 I2 => ?_)
      · refine g_iload_n dX9_again_41 rfl ?_
        refine g_bipush (v := 100) dX9_again_42 rfl ?_
        refine g_idiv dX9_again_44 (by decide) ?_
        rw [hdiv]
        refine g_icmp_ne (tgt := 50) dX9_again_45 (by decide) (fun zc45 => ?_) (fun zc45 => ?_)
        · refine g_iinc dX9_again_50 rfl rfl ?_
          refine g_goto (tgt := 23) dX9_again_53 (by decide) ?_
          rw [show me_ag N (w_a w (l + 1)) (w_a w (l + 2)) n c (nI q) (z + 1) t f = me_ag N (w_a w (l + 1)) (w_a w (l + 2)) n c (nI q) z (t + 1) (me_nx N (w_a w (l + 1)) (w_a w (l + 2)) f n c) from if_neg (by rw [e]; exact zc45), me_nx_A e] at kk
          rw [nI_1']
          exact ih (t + 1) _ _ _ _ _ _ _ w2 (by omega) I2 kk
        · refine g_iload_n dX9_again_48 rfl ?_
          refine g_iret dX9_again_49 rfl ⟨_, rfl, ?_⟩
          have eq : (-2 : Int32) = nI q := by first | exact zc45 | exact Classical.not_not.mp zc45
          have := congrArg Int32.toInt eq
          rw [nI_toInt (by omega)] at this
          have e2 : (-2 : Int32).toInt = -2 := by decide
          omega
      · refine g_iload_n dX9_again_41 rfl ?_
        refine g_bipush (v := 100) dX9_again_42 rfl ?_
        refine g_idiv dX9_again_44 (by decide) ?_
        rw [hdiv]
        refine g_icmp_ne (tgt := 50) dX9_again_45 (by decide) (fun zc45 => ?_) (fun zc45 => ?_)
        · refine g_iinc dX9_again_50 rfl rfl ?_
          refine g_goto (tgt := 23) dX9_again_53 (by decide) ?_
          rw [show me_ag N (w_a w (l + 1)) (w_a w (l + 2)) n c (nI q) (z + 1) t f = me_ag N (w_a w (l + 1)) (w_a w (l + 2)) n c (nI q) z (t + 1) (me_nx N (w_a w (l + 1)) (w_a w (l + 2)) f n c) from if_neg (by rw [e]; exact zc45), me_nx_B (by omega) e] at kk
          rw [nI_1']
          exact ih (t + 1) _ _ _ _ _ _ _ w2 (by omega) I2 kk
        · refine g_iload_n dX9_again_48 rfl ?_
          refine g_iret dX9_again_49 rfl ⟨_, rfl, ?_⟩
          have eq : nI u = nI q := by first | exact zc45 | exact Classical.not_not.mp zc45
          rw [show me_ag N (w_a w (l + 1)) (w_a w (l + 2)) n c (nI q) (z + 1) t f = nI t from if_pos (e.trans eq)] at kk
          exact kk w2 I2.1
theorem c_X9_again {d : Nat} {w : gx_W} {n l N : Nat} {x : Int32} {k : Int32 → gx_W → Prop} (hd : 7 ≤ d) (hT : isT w) (h : clO w) (hc : isCk w 37 38 n l N) (ho : thO w) (h43 : isCr w 43 44) (k1 : (∀ q c, c < 100 → q < n → x ≠ nI (100 * q + c)) → k (-1) w) (kk : ∀ q c, x = nI (100 * q + c) → c < 100 → q < n → ∀ w', sam TR TG [(43, 2)] w w' → k (me_ag N (w_a w (l + 1)) (w_a w (l + 2)) n c (nI q) 200 1 (w_a w 38)) w') : gx_C 0 0 d mX9_again [.ref 6, .int x] w (Qi k) := by
  refine gx_C_of' (L := [.ref 6, .int x, .retAddr 0]) (by decide +kernel) rfl (Nat.le_of_ble_eq_true rfl) ?_
  refine g_aload_n dX9_again_0 rfl ?_
  refine g_iload_n dX9_again_1 rfl ?_
  refine g_cV1i dX9_again_2 ml_X9_181 mi_X9_isPair mv_X9_isPair h.1 ⟨_, rfl, rfl⟩ (Nat.le_of_ble_eq_true rfl) rfl (by omega) ?_
  refine c_X9_isPair (by omega) h hc (fun q c e hco hq => ?_) (fun np => ?_)
  · refine g_if_ne (tgt := 10) dX9_again_5 (by decide) (fun _ => ?_) (fun q => absurd q (by decide))
    refine g_aload_n dX9_again_10 rfl ?_
    refine g_getr dX9_again_11 fl_X9_74 h.1 h.2.1.2.1 ?_
    refine g_aload_n dX9_again_14 rfl ?_
    refine g_getr dX9_again_15 fl_X9_67 h.1 h.2.1.1 ?_
    refine g_cV1v dX9_again_18 ml_X9_184 mi_X7_begin mv_X7_begin ho.1 ⟨_, rfl, rfl⟩ (Nat.le_of_ble_eq_true rfl) rfl (by omega) ?_
    refine c_beginI (by omega) ho h43 hc (fun w1 I1 => ?_)
    refine g_iconst (v := 1) dX9_again_21 rfl ?_
    refine g_istore_n dX9_again_22 (Nat.le_of_ble_eq_true rfl) rfl ?_
    subst e
    exact l_X9_again hd hT h hq hco hc.1.1.2.2 200 1 _ _ _ _ _ _ _ w1 rfl I1 (kk q c rfl hco hq)
  · refine g_if_ne (tgt := 10) dX9_again_5 (by decide) (fun q => absurd q (by decide)) (fun _ => ?_)
    refine g_iconst (v := -1) dX9_again_8 rfl ?_
    refine g_iret dX9_again_9 rfl ⟨_, rfl, ?_⟩
    exact k1 np

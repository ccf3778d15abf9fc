/-! CrossroadsChoose: how, green, least -/
def me_co : Nat → Int32
  | 0 => -1
  | j + 1 => nI j
theorem me_co_dec (j : Nat) : nI j + Int32.ofInt (-1) = me_co j := by
  cases j with
  | zero => decide
  | succ j => exact pk_m1 j
def me_how (H : Nat → Int32) (t : Int32) : Nat → Int32 → Int32 → Int32 × Int32
  | 0, m, e => (m, e)
  | i + 1, m, e => if H i = t then me_how H t i (m + Int32.ofInt 1) (nI i) else me_how H t i m e
def me_gr (H : Nat → Int32) : Nat → Nat → Int32 → Int32
  | 0, _, g => g
  | z + 1, c, g => if g = 0 then g else if H c < 0 then me_gr H z (c + 1) g else me_gr H z (c + 1) (g &&& ((1 <<< (H c &&& 31)) ^^^ -1))
def me_ls (f : Nat → Int32) : Nat → Int32 × Int32
  | 0 => (-2, 0)
  | i + 1 => if (me_ls f i).1 = -2 ∨ f i + f (18 + i) + f (6 + i) < (me_ls f i).2 then (nI i, f i + f (18 + i) + f (6 + i)) else me_ls f i
/-- haver, where the law's scratch has moved on -/
theorem c_haverJ {d n l N c : Nat} {w w1 : gx_W} {k : Int32 → gx_W → Prop} (hd : 5 ≤ d) (h : isCk w 37 38 n l N) (hs : same JR JF w w1) (hc : c < 100) (kk : ∀ w', same JR JF w w' → k (cr_has N (w_a w (l + 1)) (w_a w (l + 2)) (w_a w 38) n c) w') : gx_C 0 0 d mX2_haver [.ref 37, .int (nI c)] w1 (Qi k) := by
  obtain ⟨h1, e1, e2, e3⟩ := h.same (by decide) hs
  refine c_X2_haver hd h1.1 hc (fun w' hs' => ?_)
  rw [e1, e2, e3]
  exact kk w' (hs.tr (isCk.junk h.2 hs'))
set_option maxHeartbeats 4000000 in
theorem l_X9_how {d n l N : Nat} {w : gx_W} {x y : Int32} {k : Int32 → gx_W → Prop} (hd : 6 ≤ d) (h : clO w) (hc : isCk w 37 38 n l N) : ∀ (i : Nat) (m e : Int32) (w1 : gx_W), i ≤ 100 → same JR JF w w1 → (∀ w', same JR JF w w' → k (if y = 0 then (me_how (cr_has N (w_a w (l + 1)) (w_a w (l + 2)) (w_a w 38) n) x i m e).1 else (me_how (cr_has N (w_a w (l + 1)) (w_a w (l + 2)) (w_a w 38) n) x i m e).2) w') → gx_G 0 0 d mX9_how (Qi k) 32 [.ref 6, .int x, .int y, .int m, .int e, .int (me_co i)] [] w1 := by
  intro i
  induction i with
  | zero =>
    intro m e w1 hi hs kk
    refine g_iload dX9_how_32 rfl ?_
    refine g_if_lt (tgt := 63) dX9_how_34 (by decide) (fun zc34 => ?_) (fun zc34 => ?_)
    · refine g_iload_n dX9_how_63 rfl ?_
      refine g_if_ne (tgt := 71) dX9_how_64 (by decide) (fun zc64 => ?_) (fun zc64 => ?_)
      · refine g_iload dX9_how_71 rfl ?_
        refine g_iret dX9_how_73 rfl ⟨_, rfl, ?_⟩
        have K := kk w1 hs
        rw [if_neg zc64] at K
        exact K
      · refine g_iload_n dX9_how_67 rfl ?_
        refine g_goto (tgt := 73) dX9_how_68 (by decide) ?_
        refine g_iret dX9_how_73 rfl ⟨_, rfl, ?_⟩
        have K := kk w1 hs
        rw [if_pos (by first | exact zc64 | exact Classical.not_not.mp zc64)] at K
        exact K
    · exact absurd (by decide) zc34
  | succ i ih =>
    intro m e w1 hi hs kk
    refine g_iload dX9_how_32 rfl ?_
    refine g_if_lt (tgt := 63) dX9_how_34 (by decide) (fun zc34 => ?_) (fun zc34 => ?_)
    · exact absurd zc34 (nI_pos (by omega))
    · refine g_aload_n dX9_how_37 rfl ?_
      refine g_getr dX9_how_38 fl_X9_67 (h.same hs).1 (h.same hs).2.1.1 ?_
      refine g_iload dX9_how_41 rfl ?_
      refine g_cV1i dX9_how_43 ml_X9_151 mi_X2_haver mv_X2_haver (hc.same (by decide) hs).1.1.1.1.1 ⟨_, rfl, rfl⟩ (Nat.le_of_ble_eq_true rfl) rfl (by omega) ?_
      refine c_haverJ (by omega) hc hs (by omega) (fun w2 hs2 => ?_)
      refine g_iload_n dX9_how_46 rfl ?_
      refine g_icmp_ne (tgt := 57) dX9_how_47 (by decide) (fun zc47 => ?_) (fun zc47 => ?_)
      · refine g_iinc dX9_how_57 rfl rfl ?_
        refine g_goto (tgt := 32) dX9_how_60 (by decide) ?_
        rw [show me_co (i + 1) = nI i from rfl, me_co_dec]
        rw [show me_how (cr_has N (w_a w (l + 1)) (w_a w (l + 2)) (w_a w 38) n) x (i + 1) m e = me_how (cr_has N (w_a w (l + 1)) (w_a w (l + 2)) (w_a w 38) n) x i m e from if_neg zc47] at kk
        exact ih _ _ w2 (by omega) hs2 kk
      · refine g_iinc dX9_how_50 rfl rfl ?_
        refine g_iload dX9_how_53 rfl ?_
        refine g_istore dX9_how_55 (Nat.le_of_ble_eq_true rfl) rfl ?_
        refine g_iinc dX9_how_57 rfl rfl ?_
        refine g_goto (tgt := 32) dX9_how_60 (by decide) ?_
        rw [show me_co (i + 1) = nI i from rfl, me_co_dec]
        rw [show me_how (cr_has N (w_a w (l + 1)) (w_a w (l + 2)) (w_a w 38) n) x (i + 1) m e = me_how (cr_has N (w_a w (l + 1)) (w_a w (l + 2)) (w_a w 38) n) x i (m + Int32.ofInt 1) (nI i) from if_pos (by first | exact zc47 | exact Classical.not_not.mp zc47)] at kk
        exact ih _ _ w2 (by omega) hs2 kk
theorem c_X9_how {d : Nat} {w : gx_W} {n l N : Nat} {x y : Int32} {k : Int32 → gx_W → Prop} (hd : 6 ≤ d) (h : clO w) (hc : isCk w 37 38 n l N) (k1 : (∀ m, m < n → x ≠ nI m) → k (-1) w) (k2 : (y < 0 ∨ 1 < y) → k (-1) w) (kk : ∀ t, x = nI t → t < n → ¬ y < 0 → ¬ 1 < y → ∀ w', same JR JF w w' → k (if y = 0 then (me_how (cr_has N (w_a w (l + 1)) (w_a w (l + 2)) (w_a w 38) n) x 100 0 (-2)).1 else (me_how (cr_has N (w_a w (l + 1)) (w_a w (l + 2)) (w_a w 38) n) x 100 0 (-2)).2) w') : gx_C 0 0 d mX9_how [.ref 6, .int x, .int y] w (Qi k) := by
  refine gx_C_of' (L := [.ref 6, .int x, .int y, .retAddr 0, .retAddr 0, .retAddr 0]) (by decide +kernel) rfl (Nat.le_of_ble_eq_true rfl) ?_
  refine g_aload_n dX9_how_0 rfl ?_
  refine g_getr dX9_how_1 fl_X9_67 h.1 h.2.1.1 ?_
  refine g_iload_n dX9_how_4 rfl ?_
  refine g_cV1i dX9_how_5 ml_X9_141 mi_X2_isRoad mv_X2_isRoad hc.1.1.1.1 ⟨_, rfl, rfl⟩ (Nat.le_of_ble_eq_true rfl) rfl (by omega) ?_
  refine c_X2_isRoad (by omega) hc.1.1 (fun t e ht => ?_) (fun hn => ?_)
  · refine g_if_eq (tgt := 20) dX9_how_8 (by decide) (fun q => absurd q (by decide)) (fun _ => ?_)
    refine g_iload_n dX9_how_11 rfl ?_
    refine g_if_lt (tgt := 20) dX9_how_12 (by decide) (fun zc12 => ?_) (fun zc12 => ?_)
    · refine g_iconst (v := -1) dX9_how_20 rfl ?_
      refine g_iret dX9_how_21 rfl ⟨_, rfl, ?_⟩
      exact k2 (Or.inl zc12)
    · refine g_iload_n dX9_how_15 rfl ?_
      refine g_iconst (v := 1) dX9_how_16 rfl ?_
      refine g_icmp_le (tgt := 22) dX9_how_17 (by decide) (fun zc17 => ?_) (fun zc17 => ?_)
      · refine g_iconst (v := 0) dX9_how_22 rfl ?_
        refine g_istore_n dX9_how_23 (Nat.le_of_ble_eq_true rfl) rfl ?_
        refine g_bipush (v := -2) dX9_how_24 rfl ?_
        refine g_istore dX9_how_26 (Nat.le_of_ble_eq_true rfl) rfl ?_
        refine g_bipush (v := 99) dX9_how_28 rfl ?_
        refine g_istore dX9_how_30 (Nat.le_of_ble_eq_true rfl) rfl ?_
        exact l_X9_how hd h hc 100 0 (-2) w (by decide) same.rf (kk t e ht zc12 (Int32.not_lt.mpr zc17))
      · refine g_iconst (v := -1) dX9_how_20 rfl ?_
        refine g_iret dX9_how_21 rfl ⟨_, rfl, ?_⟩
        exact k2 (Or.inr (Int32.not_le.mp zc17))
  · refine g_if_eq (tgt := 20) dX9_how_8 (by decide) (fun _ => ?_) (fun q => absurd q (by decide))
    refine g_iconst (v := -1) dX9_how_20 rfl ?_
    refine g_iret dX9_how_21 rfl ⟨_, rfl, ?_⟩
    exact k1 hn
set_option maxHeartbeats 4000000 in
theorem l_X9_green {d n l N : Nat} {w : gx_W} {k : Int32 → gx_W → Prop} (hd : 6 ≤ d) (h : clO w) (hc : isCk w 37 38 n l N) : ∀ (z c : Nat) (g : Int32) (x3 : Value) (w1 : gx_W), c + z = 100 → same JR JF w w1 → (∀ w', same JR JF w w' → k (me_gr (cr_has N (w_a w (l + 1)) (w_a w (l + 2)) (w_a w 38) n) z c g) w') → gx_G 0 0 d mX9_green (Qi k) 10 [.ref 6, .int g, .int (nI c), x3] [] w1 := by
  intro z
  induction z with
  | zero =>
    intro c g x3 w1 hi hs kk
    have e : c = 100 := by omega
    subst e
    refine g_iload_n dX9_green_10 rfl ?_
    refine g_bipush (v := 100) dX9_green_11 rfl ?_
    refine g_icmp_ge (tgt := 47) dX9_green_13 (by decide) (fun zc13 => ?_) (fun zc13 => ?_)
    · refine g_iload_n dX9_green_47 rfl ?_
      refine g_iret dX9_green_48 rfl ⟨_, rfl, ?_⟩
      exact kk w1 hs
    · exact absurd (Int32.le_refl _) zc13
  | succ z ih =>
    intro c g x3 w1 hi hs kk
    unfold me_gr at kk
    refine g_iload_n dX9_green_10 rfl ?_
    refine g_bipush (v := 100) dX9_green_11 rfl ?_
    refine g_icmp_ge (tgt := 47) dX9_green_13 (by decide) (fun zc13 => ?_) (fun zc13 => ?_)
    · refine g_iload_n dX9_green_47 rfl ?_
      refine g_iret dX9_green_48 rfl ⟨_, rfl, ?_⟩
      exact absurd zc13 (nI_ge (b := 100) (by omega) (by decide))
    · refine g_iload_n dX9_green_16 rfl ?_
      refine g_if_eq (tgt := 47) dX9_green_17 (by decide) (fun zc17 => ?_) (fun zc17 => ?_)
      · refine g_iload_n dX9_green_47 rfl ?_
        refine g_iret dX9_green_48 rfl ⟨_, rfl, ?_⟩
        rw [if_pos zc17] at kk
        exact kk w1 hs
      · refine g_aload_n dX9_green_20 rfl ?_
        refine g_getr dX9_green_21 fl_X9_67 (h.same hs).1 (h.same hs).2.1.1 ?_
        refine g_iload_n dX9_green_24 rfl ?_
        refine g_cV1i dX9_green_25 ml_X9_151 mi_X2_haver mv_X2_haver (hc.same (by decide) hs).1.1.1.1.1 ⟨_, rfl, rfl⟩ (Nat.le_of_ble_eq_true rfl) rfl (by omega) ?_
        refine c_haverJ (by omega) hc hs (by omega) (fun w2 hs2 => ?_)
        refine g_istore_n dX9_green_28 (Nat.le_of_ble_eq_true rfl) rfl ?_
        refine g_iload_n dX9_green_29 rfl ?_
        refine g_if_lt (tgt := 41) dX9_green_30 (by decide) (fun zc30 => ?_) (fun zc30 => ?_)
        · refine g_iinc dX9_green_41 rfl rfl ?_
          refine g_goto (tgt := 10) dX9_green_44 (by decide) ?_
          rw [nI_1']
          rw [if_neg zc17, if_pos zc30] at kk
          exact ih (c + 1) _ _ w2 (by omega) hs2 kk
        · refine g_iload_n dX9_green_33 rfl ?_
          refine g_iconst (v := 1) dX9_green_34 rfl ?_
          refine g_iload_n dX9_green_35 rfl ?_
          refine g_ishl dX9_green_36 ?_
          refine g_iconst (v := -1) dX9_green_37 rfl ?_
          refine g_ixor dX9_green_38 ?_
          refine g_iand dX9_green_39 ?_
          refine g_istore_n dX9_green_40 (Nat.le_of_ble_eq_true rfl) rfl ?_
          refine g_iinc dX9_green_41 rfl rfl ?_
          refine g_goto (tgt := 10) dX9_green_44 (by decide) ?_
          rw [nI_1']
          rw [if_neg zc17, if_neg zc30] at kk
          exact ih (c + 1) _ _ w2 (by omega) hs2 kk
theorem c_X9_green {d : Nat} {w : gx_W} {n l N : Nat} {k : Int32 → gx_W → Prop} (hd : 6 ≤ d) (h : clO w) (hc : isCk w 37 38 n l N) (kk : ∀ w', same JR JF w w' → k (me_gr (cr_has N (w_a w (l + 1)) (w_a w (l + 2)) (w_a w 38) n) 100 0 (nI (2 ^ n - 1))) w') : gx_C 0 0 d mX9_green [.ref 6] w (Qi k) := by
  refine gx_C_of' (L := [.ref 6, .retAddr 0, .retAddr 0, .retAddr 0]) (by decide +kernel) rfl (Nat.le_of_ble_eq_true rfl) ?_
  refine g_aload_n dX9_green_0 rfl ?_
  refine g_getr dX9_green_1 fl_X9_67 h.1 h.2.1.1 ?_
  refine g_cV0i dX9_green_4 ml_X9_210 mi_X2_allRoads mv_X2_allRoads hc.1.1.1.1 ⟨_, rfl, rfl⟩ (Nat.le_of_ble_eq_true rfl) rfl (by omega) ?_
  refine c_X2_allRoads (by omega) hc.1.1 ?_
  refine g_istore_n dX9_green_7 (Nat.le_of_ble_eq_true rfl) rfl ?_
  refine g_iconst (v := 0) dX9_green_8 rfl ?_
  refine g_istore_n dX9_green_9 (Nat.le_of_ble_eq_true rfl) rfl ?_
  exact l_X9_green hd h hc 100 0 _ _ w rfl same.rf kk

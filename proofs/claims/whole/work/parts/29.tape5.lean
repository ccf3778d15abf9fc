/-! Tape: lines -/
def tp_e (g : Nat → Int32) (T p : Nat) : tpT := tp_j g T 42 0 0 p
def tp_ln (g : Nat → Int32) (T p : Nat) : tpT :=
  if (tp_e g T p).1 = true then (if tp_h g T (tp_e g T p).2.1 = 63 then (if (tp_e g T ((tp_e g T p).2.1 + 1)).1 = true then (true, (tp_e g T ((tp_e g T p).2.1 + 1)).2.1, (tp_e g T p).2.2 ++ (63, 0) :: ((tp_e g T ((tp_e g T p).2.1 + 1)).2.2 ++ [(59, 0)])) else (false, (tp_e g T ((tp_e g T p).2.1 + 1)).2.1, (tp_e g T p).2.2 ++ (63, 0) :: (tp_e g T ((tp_e g T p).2.1 + 1)).2.2)) else (true, (tp_e g T p).2.1, (tp_e g T p).2.2 ++ [(59, 0)])) else (false, (tp_e g T p).2.1, (tp_e g T p).2.2)
def tp_lns (g : Nat → Int32) (T : Nat) : Nat → Nat → tpT
  | 0, p => (false, p, [])
  | z + 1, p => if (tp_ln g T p).1 = true then (if tp_h g T (tp_ln g T p).2.1 = 59 then tp_ap (tp_ln g T p).2.2 (tp_lns g T z ((tp_ln g T p).2.1 + 1)) else (decide (tp_h g T (tp_ln g T p).2.1 = -1), (tp_ln g T p).2.1, (tp_ln g T p).2.2)) else (false, (tp_ln g T p).2.1, (tp_ln g T p).2.2)
theorem tp_e_b {g : Nat → Int32} {T p : Nat} (hp : p ≤ T) : tpB T p (tp_e g T p) := tp_j_b 42 0 0 p hp
theorem tp_ln_b {g : Nat → Int32} {T p : Nat} (hp : p ≤ T) : p + (tp_ln g T p).2.2.length ≤ (tp_ln g T p).2.1 + 1 ∧ (tp_ln g T p).2.1 ≤ T := by
  have b1 := tp_e_b (g := g) hp
  unfold tpB at b1
  unfold tp_ln
  split
  · split
    · rename_i hq
      have hl := tp_lt (g := g) (T := T) (p := (tp_e g T p).2.1) (by rw [hq]; decide)
      have b2 := tp_e_b (g := g) (T := T) (p := (tp_e g T p).2.1 + 1) hl
      unfold tpB at b2
      split
      · refine ⟨?_, b2.2⟩
        simp only [List.length_append, List.length_cons, List.length_nil]
        omega
      · refine ⟨?_, b2.2⟩
        simp only [List.length_append, List.length_cons, List.length_nil]
        omega
    · refine ⟨?_, b1.2⟩
      simp only [List.length_append, List.length_cons, List.length_nil]
      omega
  · refine ⟨?_, b1.2⟩
    show p + (tp_e g T p).2.2.length ≤ (tp_e g T p).2.1 + 1
    omega
theorem c_readE {d l T p N : Nat} {g : Nat → Int32} {w : gx_W} {k : Int32 → gx_W → Prop} (hd : 130 ≤ d) (h : tpI w l T g p N) (hN : N ≤ p + 1) (kt : (tp_e g T p).1 = true → ∀ w', tpR w w' l N (tp_e g T p).2.1 (tp_e g T p).2.2 → k 1 w') (kf : (tp_e g T p).1 = false → ∀ w', tpR w w' l N (tp_e g T p).2.1 (tp_e g T p).2.2 → k 0 w') : gx_C 0 0 d mX6_readJoined [.ref 7, .ref l, .int 0, .int 0] w (Qi k) := (tp_all (l := l) (T := T) (g := g) 42).1 (lv := 0) (op := 0) (by decide) (by omega) (by decide) (by decide) h hN kt kf
set_option maxHeartbeats 4000000 in
theorem c_X6_readLine {d : Nat} {w : gx_W} {l T p N : Nat} {g : Nat → Int32} {k : Int32 → gx_W → Prop} (hd : 131 ≤ d) (h : tpI w l T g p N) (hN : N ≤ p) (kt : (tp_ln g T p).1 = true → ∀ w', tpR w w' l N (tp_ln g T p).2.1 (tp_ln g T p).2.2 → k 1 w') (kf : (tp_ln g T p).1 = false → ∀ w', tpR w w' l N (tp_ln g T p).2.1 (tp_ln g T p).2.2 → k 0 w') : gx_C 0 0 d mX6_readLine [.ref 7, .ref l] w (Qi k) := by
  refine gx_C_of' (L := [.ref 7, .ref l]) (by decide +kernel) rfl (Nat.le_of_ble_eq_true rfl) ?_
  have hT := h.1.2.2.1
  have hp := h.2.2.2.1
  refine g_aload_n dX6_readLine_0 rfl ?_
  refine g_aload_n dX6_readLine_1 rfl ?_
  refine g_iconst (v := 0) dX6_readLine_2 rfl ?_
  refine g_iconst (v := 0) dX6_readLine_3 rfl ?_
  refine g_cV3i dX6_readLine_4 ml_X6_40 mi_X6_readJoined mv_X6_readJoined h.1.1.1 ⟨_, rfl, rfl⟩ (Nat.le_of_ble_eq_true rfl) rfl (by omega) ?_
  refine c_readE (by omega) h (by omega) (fun e4 w1 r1 => ?_) (fun e4 w1 r1 => ?_)
  · refine g_if_ne (tgt := 12) dX6_readLine_7 (by decide) (fun _ => ?_) (fun q => absurd q (by decide))
    have b := tp_e_b (g := g) hp
    unfold tpB at b
    have h := h.step r1 b.2 (by have := b.1; have := b.2; omega)
    refine g_aload_n dX6_readLine_12 rfl ?_
    refine g_cV0i dX6_readLine_13 ml_X6_36 mi_X6_here mv_X6_here h.1.1.1 ⟨_, rfl, rfl⟩ (Nat.le_of_ble_eq_true rfl) rfl (by omega) ?_
    refine c_X6_here (by omega) h.1 h.2.2.1 h.2.2.2.1 ?_
    refine g_bipush (v := 63) dX6_readLine_16 rfl ?_
    refine g_icmp_ne (tgt := 50) dX6_readLine_18 (by decide) (fun zc18 => ?_) (fun zc18 => ?_)
    · refine g_aload_n dX6_readLine_50 rfl ?_
      refine g_bipush (v := 59) dX6_readLine_51 rfl ?_
      refine g_iconst (v := 0) dX6_readLine_53 rfl ?_
      refine g_cV2v dX6_readLine_54 ml_X6_44 mi_X4_add mv_X4_add h.2.1.1 ⟨_, rfl, rfl⟩ (Nat.le_of_ble_eq_true rfl) rfl (by omega) ?_
      refine c_adds h (by have := b.1; have := b.2; omega) (fun w4 r4 => ?_)
      refine g_iconst (v := 1) dX6_readLine_57 rfl ?_
      refine g_zret dX6_readLine_58 rfl (Or.inr rfl) ⟨_, rfl, ?_⟩
      rw [show tp_ln g T p = (true, (tp_e g T p).2.1, (tp_e g T p).2.2 ++ [(59, 0)]) from (if_pos e4).trans (if_neg zc18)] at kt
      exact kt rfl w4 (r1.tr' r4 rfl rfl)
    · refine g_aload_n dX6_readLine_21 rfl ?_
      refine g_dup dX6_readLine_22 rfl ?_
      refine g_geti dX6_readLine_23 fl_X6_26 h.1.1.1 ?_
      refine g_iconst (v := 1) dX6_readLine_26 rfl ?_
      refine g_iadd dX6_readLine_27 ?_
      refine g_puti dX6_readLine_28 fl_X6_26 ft_6_2 h.1.1.1 ?_
      rw [h.up]
      have q63 : tp_h g T (tp_e g T p).2.1 = 63 := by first | exact zc18 | exact Classical.not_not.mp zc18
      have hlt := tp_lt (g := g) (T := T) (p := (tp_e g T p).2.1) (by rw [q63]; decide)
      have r := h.mv
      have rr := r1.tr' r rfl (List.append_nil _).symm
      have h : tpI _ l T g _ (N + (tp_e g T p).2.2.length) := h.step r (by omega) (by have := b.1; have := b.2; simp only [List.length_nil]; omega)
      refine g_aload_n dX6_readLine_31 rfl ?_
      refine g_bipush (v := 63) dX6_readLine_32 rfl ?_
      refine g_iconst (v := 0) dX6_readLine_34 rfl ?_
      refine g_cV2v dX6_readLine_35 ml_X6_44 mi_X4_add mv_X4_add h.2.1.1 ⟨_, rfl, rfl⟩ (Nat.le_of_ble_eq_true rfl) rfl (by omega) ?_
      refine c_adds h (by have := b.1; have := b.2; omega) (fun w2 r2 => ?_)
      have rr := rr.tr' r2 rfl rfl
      have h := h.step r2 hlt (by have := b.1; have := b.2; simp only [List.length_cons, List.length_nil]; omega)
      have b2 := tp_e_b (g := g) (T := T) (p := (tp_e g T p).2.1 + 1) hlt
      unfold tpB at b2
      refine g_aload_n dX6_readLine_38 rfl ?_
      refine g_aload_n dX6_readLine_39 rfl ?_
      refine g_iconst (v := 0) dX6_readLine_40 rfl ?_
      refine g_iconst (v := 0) dX6_readLine_41 rfl ?_
      refine g_cV3i dX6_readLine_42 ml_X6_40 mi_X6_readJoined mv_X6_readJoined h.1.1.1 ⟨_, rfl, rfl⟩ (Nat.le_of_ble_eq_true rfl) rfl (by omega) ?_
      refine c_readE (by omega) h (by have := b.1; simp only [List.length_cons, List.length_nil]; omega) (fun e42 w3 r3 => ?_) (fun e42 w3 r3 => ?_)
      · refine g_if_ne (tgt := 50) dX6_readLine_45 (by decide) (fun _ => ?_) (fun q => absurd q (by decide))
        refine g_aload_n dX6_readLine_50 rfl ?_
        refine g_bipush (v := 59) dX6_readLine_51 rfl ?_
        refine g_iconst (v := 0) dX6_readLine_53 rfl ?_
        refine g_cV2v dX6_readLine_54 ml_X6_44 mi_X4_add mv_X4_add (h.step r3 b2.2 (by have := b.1; have := b2.1; have := b2.2; simp only [List.length_cons, List.length_nil]; omega)).2.1.1 ⟨_, rfl, rfl⟩ (Nat.le_of_ble_eq_true rfl) rfl (by omega) ?_
        refine c_adds (h.step r3 b2.2 (by have := b.1; have := b2.1; have := b2.2; simp only [List.length_cons, List.length_nil]; omega)) (by have := b.1; have := b2.1; have := b2.2; simp only [List.length_cons, List.length_nil]; omega) (fun w4 r4 => ?_)
        refine g_iconst (v := 1) dX6_readLine_57 rfl ?_
        refine g_zret dX6_readLine_58 rfl (Or.inr rfl) ⟨_, rfl, ?_⟩
        rw [show tp_ln g T p = (true, (tp_e g T ((tp_e g T p).2.1 + 1)).2.1, (tp_e g T p).2.2 ++ (63, 0) :: ((tp_e g T ((tp_e g T p).2.1 + 1)).2.2 ++ [(59, 0)])) from (if_pos e4).trans ((if_pos q63).trans (if_pos e42))] at kt
        exact kt rfl w4 ((rr.tr' r3 (by simp only [List.length_append, List.length_cons, List.length_nil]; omega) rfl).tr' r4 (by simp only [List.length_append, List.length_cons, List.length_nil]; omega) (by simp))
      · refine g_if_ne (tgt := 50) dX6_readLine_45 (by decide) (fun q => absurd q (by decide)) (fun _ => ?_)
        refine g_iconst (v := 0) dX6_readLine_48 rfl ?_
        refine g_zret dX6_readLine_49 rfl (Or.inl rfl) ⟨_, rfl, ?_⟩
        rw [show tp_ln g T p = (false, (tp_e g T ((tp_e g T p).2.1 + 1)).2.1, (tp_e g T p).2.2 ++ (63, 0) :: (tp_e g T ((tp_e g T p).2.1 + 1)).2.2) from (if_pos e4).trans ((if_pos q63).trans (if_neg (by rw [e42]; decide)))] at kf
        exact kf rfl w3 (rr.tr' r3 (by simp only [List.length_append, List.length_cons, List.length_nil]; omega) (by simp))
  · refine g_if_ne (tgt := 12) dX6_readLine_7 (by decide) (fun q => absurd q (by decide)) (fun _ => ?_)
    refine g_iconst (v := 0) dX6_readLine_10 rfl ?_
    refine g_zret dX6_readLine_11 rfl (Or.inl rfl) ⟨_, rfl, ?_⟩
    rw [show tp_ln g T p = (false, (tp_e g T p).2.1, (tp_e g T p).2.2) from if_neg (by rw [e4]; decide)] at kf
    exact kf rfl w1 r1
set_option maxHeartbeats 4000000 in
theorem l_X6_readLines {d l T : Nat} {g : Nat → Int32} {k : Int32 → gx_W → Prop} (hd : 132 ≤ d) : ∀ (z i p N : Nat) (w : gx_W), i + z = 120 → tpI w l T g p N → N ≤ p → ((tp_lns g T z p).1 = true → ∀ w', tpR w w' l N (tp_lns g T z p).2.1 (tp_lns g T z p).2.2 → k 1 w') → ((tp_lns g T z p).1 = false → ∀ w', tpR w w' l N (tp_lns g T z p).2.1 (tp_lns g T z p).2.2 → k 0 w') → gx_G 0 0 d mX6_readLines (Qi k) 2 [.ref 7, .ref l, .int (nI i)] [] w := by
  intro z
  induction z with
  | zero =>
    intro i p N w hi h hN kt kf
    have e : i = 120 := by omega
    subst e
    refine g_iload_n dX6_readLines_2 rfl ?_
    refine g_bipush (v := 120) dX6_readLines_3 rfl ?_
    refine g_icmp_ge (tgt := 57) dX6_readLines_5 (by decide) (fun zc5 => ?_) (fun zc5 => ?_)
    · refine g_iconst (v := 0) dX6_readLines_57 rfl ?_
      refine g_zret dX6_readLines_58 rfl (Or.inl rfl) ⟨_, rfl, ?_⟩
      exact kf rfl w h.rf
    · exact absurd (Int32.le_refl _) zc5
  | succ z ih =>
    intro i p N w hi h hN kt kf
    have hT := h.1.2.2.1
    have hp := h.2.2.2.1
    refine g_iload_n dX6_readLines_2 rfl ?_
    refine g_bipush (v := 120) dX6_readLines_3 rfl ?_
    refine g_icmp_ge (tgt := 57) dX6_readLines_5 (by decide) (fun zc5 => ?_) (fun zc5 => ?_)
    · refine g_iconst (v := 0) dX6_readLines_57 rfl ?_
      refine g_zret dX6_readLines_58 rfl (Or.inl rfl) ⟨_, rfl, ?_⟩
      exact absurd zc5 (nI_ge (b := 120) (by omega) (by decide))
    · refine g_aload_n dX6_readLines_8 rfl ?_
      refine g_aload_n dX6_readLines_9 rfl ?_
      refine g_cV1i dX6_readLines_10 ml_X6_33 mi_X6_readLine mv_X6_readLine h.1.1.1 ⟨_, rfl, rfl⟩ (Nat.le_of_ble_eq_true rfl) rfl (by omega) ?_
      refine c_X6_readLine (by omega) h hN (fun e10 w1 r1 => ?_) (fun e10 w1 r1 => ?_)
      · refine g_if_ne (tgt := 18) dX6_readLines_13 (by decide) (fun _ => ?_) (fun q => absurd q (by decide))
        have b := tp_ln_b (g := g) hp
        have h := h.step r1 b.2 (by have := b.1; have := b.2; omega)
        refine g_aload_n dX6_readLines_18 rfl ?_
        refine g_cV0i dX6_readLines_19 ml_X6_36 mi_X6_here mv_X6_here h.1.1.1 ⟨_, rfl, rfl⟩ (Nat.le_of_ble_eq_true rfl) rfl (by omega) ?_
        refine c_X6_here (by omega) h.1 h.2.2.1 h.2.2.2.1 ?_
        refine g_bipush (v := 59) dX6_readLines_22 rfl ?_
        refine g_icmp_eq (tgt := 41) dX6_readLines_24 (by decide) (fun zc24 => ?_) (fun zc24 => ?_)
        · refine g_aload_n dX6_readLines_41 rfl ?_
          refine g_dup dX6_readLines_42 rfl ?_
          refine g_geti dX6_readLines_43 fl_X6_26 h.1.1.1 ?_
          refine g_iconst (v := 1) dX6_readLines_46 rfl ?_
          refine g_iadd dX6_readLines_47 ?_
          refine g_puti dX6_readLines_48 fl_X6_26 ft_6_2 h.1.1.1 ?_
          rw [h.up]
          have hlt := tp_lt (g := g) (T := T) (p := (tp_ln g T p).2.1) (by rw [zc24]; decide)
          have r := h.mv
          have rr := r1.tr' r rfl (List.append_nil _).symm
          have h : tpI _ l T g _ (N + (tp_ln g T p).2.2.length) := h.step r (by omega) (by have := b.1; have := b.2; simp only [List.length_nil]; omega)
          refine g_iinc dX6_readLines_51 rfl rfl ?_
          refine g_goto (tgt := 2) dX6_readLines_54 (by decide) ?_
          rw [nI_1']
          rw [show tp_lns g T (z + 1) p = tp_ap (tp_ln g T p).2.2 (tp_lns g T z ((tp_ln g T p).2.1 + 1)) from (if_pos e10).trans (if_pos zc24)] at kt kf
          exact ih (i + 1) _ _ _ (by omega) h (by have := b.1; omega) (fun e w' r' => kt e w' (rr.tr' r' rfl rfl)) (fun e w' r' => kf e w' (rr.tr' r' rfl rfl))
        · refine g_aload_n dX6_readLines_27 rfl ?_
          refine g_cV0i dX6_readLines_28 ml_X6_36 mi_X6_here mv_X6_here h.1.1.1 ⟨_, rfl, rfl⟩ (Nat.le_of_ble_eq_true rfl) rfl (by omega) ?_
          refine c_X6_here (by omega) h.1 h.2.2.1 h.2.2.2.1 ?_
          refine g_iconst (v := -1) dX6_readLines_31 rfl ?_
          refine g_icmp_ne (tgt := 39) dX6_readLines_32 (by decide) (fun zc32 => ?_) (fun zc32 => ?_)
          · refine g_iconst (v := 0) dX6_readLines_39 rfl ?_
            refine g_zret dX6_readLines_40 rfl (Or.inl rfl) ⟨_, rfl, ?_⟩
            rw [show tp_lns g T (z + 1) p = (decide (tp_h g T (tp_ln g T p).2.1 = -1), (tp_ln g T p).2.1, (tp_ln g T p).2.2) from (if_pos e10).trans (if_neg zc24)] at kf
            exact kf (by first | exact decide_eq_true zc32 | exact decide_eq_true (Classical.not_not.mp zc32) | exact decide_eq_false zc32) w1 r1
          · refine g_iconst (v := 1) dX6_readLines_35 rfl ?_
            refine g_goto (tgt := 40) dX6_readLines_36 (by decide) ?_
            refine g_zret dX6_readLines_40 rfl (Or.inr rfl) ⟨_, rfl, ?_⟩
            rw [show tp_lns g T (z + 1) p = (decide (tp_h g T (tp_ln g T p).2.1 = -1), (tp_ln g T p).2.1, (tp_ln g T p).2.2) from (if_pos e10).trans (if_neg zc24)] at kt
            exact kt (by first | exact decide_eq_true zc32 | exact decide_eq_true (Classical.not_not.mp zc32) | exact decide_eq_false zc32) w1 r1
      · refine g_if_ne (tgt := 18) dX6_readLines_13 (by decide) (fun q => absurd q (by decide)) (fun _ => ?_)
        refine g_iconst (v := 0) dX6_readLines_16 rfl ?_
        refine g_zret dX6_readLines_17 rfl (Or.inl rfl) ⟨_, rfl, ?_⟩
        rw [show tp_lns g T (z + 1) p = (false, (tp_ln g T p).2.1, (tp_ln g T p).2.2) from if_neg (by rw [e10]; decide)] at kf
        exact kf rfl w1 r1
theorem c_X6_readLines {d : Nat} {w : gx_W} {l T p N : Nat} {g : Nat → Int32} {k : Int32 → gx_W → Prop} (hd : 132 ≤ d) (h : tpI w l T g p N) (hN : N ≤ p) (kt : (tp_lns g T 120 p).1 = true → ∀ w', tpR w w' l N (tp_lns g T 120 p).2.1 (tp_lns g T 120 p).2.2 → k 1 w') (kf : (tp_lns g T 120 p).1 = false → ∀ w', tpR w w' l N (tp_lns g T 120 p).2.1 (tp_lns g T 120 p).2.2 → k 0 w') : gx_C 0 0 d mX6_readLines [.ref 7, .ref l] w (Qi k) := by
  refine gx_C_of' (L := [.ref 7, .ref l, .retAddr 0]) (by decide +kernel) rfl (Nat.le_of_ble_eq_true rfl) ?_
  refine g_iconst (v := 0) dX6_readLines_0 rfl ?_
  refine g_istore_n dX6_readLines_1 (Nat.le_of_ble_eq_true rfl) rfl ?_
  exact l_X6_readLines hd 120 0 p N w rfl h hN kt kf
theorem c_X6_readInto {d : Nat} {w : gx_W} {l T : Nat} {g : Nat → Int32} {k : Int32 → gx_W → Prop} (hd : 133 ≤ d) (ht : tpK w T g) (hl : isLw w l (l + 1) (l + 2) (l + 3) (l + 4)) (h27 : 27 ≤ l) (kk : ∀ w', tpR (s_i (s_i w l 4 0) 7 2 0) w' l 0 (tp_lns g T 120 0).2.1 (tp_lns g T 120 0).2.2 → k (if (tp_lns g T 120 0).1 = true then -1 else nI (tp_lns g T 120 0).2.1) (s_i w' 7 1 0)) : gx_C 0 0 d mX6_readInto [.ref 7, .ref l] w (Qi k) := by
  refine gx_C_of' (L := [.ref 7, .ref l, .retAddr 0, .retAddr 0]) (by decide +kernel) rfl (Nat.le_of_ble_eq_true rfl) ?_
  refine g_aload_n dX6_readInto_0 rfl ?_
  refine g_cV0v dX6_readInto_1 ml_X6_21 mi_X4_clear mv_X4_clear hl.1 ⟨_, rfl, rfl⟩ (Nat.le_of_ble_eq_true rfl) rfl (by omega) ?_
  refine c_X4_clear (by omega) hl ?_
  refine g_aload_n dX6_readInto_4 rfl ?_
  refine g_iconst (v := 0) dX6_readInto_5 rfl ?_
  refine g_puti dX6_readInto_6 fl_X6_26 ft_6_2 ht.1.1 ?_
  have hs : same [] [(l, 4), (7, 2)] w (s_i (s_i w l 4 0) 7 2 0) := same.si (same.si same.rf (by simp)) (by simp)
  have h : tpI (s_i (s_i w l 4 0) 7 2 0) l T g 0 0 := by
    refine ⟨⟨ht.1.same hs, (hs.2.1 7 1 (by simp)).trans ht.2.1, ht.2.2.1, ?_⟩, hl.same hs, ?_, Nat.zero_le _, ?_, Nat.zero_le _, h27⟩
    · rw [(hs.2.2.2.1 8 (by simp)).1]; exact ht.2.2.2
    · rw [wi_si, if_pos ⟨rfl, rfl⟩]; rfl
    · rw [wi_si, if_neg (by omega), wi_si, if_pos ⟨rfl, rfl⟩]; rfl
  refine g_aload_n dX6_readInto_9 rfl ?_
  refine g_aload_n dX6_readInto_10 rfl ?_
  refine g_cV1i dX6_readInto_11 ml_X6_29 mi_X6_readLines mv_X6_readLines ht.1.1 ⟨_, rfl, rfl⟩ (Nat.le_of_ble_eq_true rfl) rfl (by omega) ?_
  refine c_X6_readLines (by omega) h (Nat.le_refl _) (fun e11 w1 r1 => ?_) (fun e11 w1 r1 => ?_)
  · have h1 : w1.1[7]? = some (6, 0) := by rw [r1.1.1]; exact ht.1.1
    refine g_istore_n dX6_readInto_14 (Nat.le_of_ble_eq_true rfl) rfl ?_
    refine g_iload_n dX6_readInto_15 rfl ?_
    refine g_if_eq (tgt := 23) dX6_readInto_16 (by decide) (fun q => absurd q (by decide)) (fun _ => ?_)
    refine g_iconst (v := -1) dX6_readInto_19 rfl ?_
    refine g_goto (tgt := 27) dX6_readInto_20 (by decide) ?_
    refine g_istore_n dX6_readInto_27 (Nat.le_of_ble_eq_true rfl) rfl ?_
    refine g_aload_n dX6_readInto_28 rfl ?_
    refine g_iconst (v := 0) dX6_readInto_29 rfl ?_
    refine g_puti dX6_readInto_30 fl_X6_13 ft_6_1 h1 ?_
    refine g_iload_n dX6_readInto_33 rfl ?_
    refine g_iret dX6_readInto_34 rfl ⟨_, rfl, ?_⟩
    have q := kk w1 r1
    rw [if_pos e11] at q
    exact q
  · have h1 : w1.1[7]? = some (6, 0) := by rw [r1.1.1]; exact ht.1.1
    refine g_istore_n dX6_readInto_14 (Nat.le_of_ble_eq_true rfl) rfl ?_
    refine g_iload_n dX6_readInto_15 rfl ?_
    refine g_if_eq (tgt := 23) dX6_readInto_16 (by decide) (fun _ => ?_) (fun q => absurd q (by decide))
    refine g_aload_n dX6_readInto_23 rfl ?_
    refine g_geti dX6_readInto_24 fl_X6_26 h1 ?_
    refine g_istore_n dX6_readInto_27 (Nat.le_of_ble_eq_true rfl) rfl ?_
    refine g_aload_n dX6_readInto_28 rfl ?_
    refine g_iconst (v := 0) dX6_readInto_29 rfl ?_
    refine g_puti dX6_readInto_30 fl_X6_13 ft_6_1 h1 ?_
    refine g_iload_n dX6_readInto_33 rfl ?_
    refine g_iret dX6_readInto_34 rfl ⟨_, rfl, ?_⟩
    have q := kk w1 r1
    rw [if_neg (by rw [e11]; decide)] at q
    rw [r1.2.1]
    exact q

/-! The reference: votes -/
theorem vt_sum_t {f : Nat → Int32} {s : Int32} {i : Nat} (h : cr_out s i = true) : vt_sum f s (i + 1) = vt_sum f s i + f (6 + i) := if_pos h
theorem vt_sum_f {f : Nat → Int32} {s : Int32} {i : Nat} (h : cr_out s i = false) : vt_sum f s (i + 1) = vt_sum f s i := if_neg (by rw [h]; decide)
theorem l_X10_winsBy {d n : Nat} {w : gx_W} {f : Nat → Int32} {s : Int32} {k : Int32 → gx_W → Prop} (h : moO w) (hx : mxN w f n) (kt : vt_wins f n s = true → k 1 w) (kf : vt_wins f n s = false → k 0 w) : ∀ z i : Nat, i + z = n → gx_G 0 0 d mX10_winsBy (Qi k) 4 [.ref 57, .int s, .int (vt_sum f s i), .int (nI i)] [] w := by
  intro z
  have hn6 := hx.2.1
  have en := hx.1
  induction z with
  | zero =>
    intro i hi
    have e : i = n := by omega
    subst e
    refine g_iload_n dX10_winsBy_4 rfl ?_
    refine g_aload_n dX10_winsBy_5 rfl ?_
    refine g_geti dX10_winsBy_6 fl_X10_121 h.1 ?_
    rw [en]
    refine g_icmp_ge (tgt := 36) dX10_winsBy_9 (by decide) (fun zc9 => ?_) (fun zc9 => ?_)
    · refine g_iload_n dX10_winsBy_36 rfl ?_
      refine g_aload_n dX10_winsBy_37 rfl ?_
      refine g_getr dX10_winsBy_38 fl_X10_24 h.1 (moR_62 h) ?_
      refine g_iconst (v := 3) dX10_winsBy_41 rfl ?_
      refine g_iald dX10_winsBy_42 (moA_62 h) (vp_in_nI (n := 3) (by decide) (by decide)) ?_
      rw [show (3 : Int32).toNatClampNeg = 3 from rfl, show w_a w 62 3 = f 27 from hx.2.2.2.2.2 3 (by decide)]
      refine g_icmp_lt (tgt := 50) dX10_winsBy_43 (by decide) (fun zc43 => ?_) (fun zc43 => ?_)
      · refine g_iconst (v := 0) dX10_winsBy_50 rfl ?_
        refine g_zret dX10_winsBy_51 rfl (Or.inl rfl) ⟨_, rfl, ?_⟩
        exact kf (decide_eq_false (Int32.not_le.mpr zc43))
      · refine g_iconst (v := 1) dX10_winsBy_46 rfl ?_
        refine g_goto (tgt := 51) dX10_winsBy_47 (by decide) ?_
        refine g_zret dX10_winsBy_51 rfl (Or.inr rfl) ⟨_, rfl, ?_⟩
        exact kt (decide_eq_true (Int32.not_lt.mp zc43))
    · exact absurd (Int32.le_refl _) zc9
  | succ z ih =>
    intro i hi
    refine g_iload_n dX10_winsBy_4 rfl ?_
    refine g_aload_n dX10_winsBy_5 rfl ?_
    refine g_geti dX10_winsBy_6 fl_X10_121 h.1 ?_
    rw [en]
    refine g_icmp_ge (tgt := 36) dX10_winsBy_9 (by decide) (fun zc9 => ?_) (fun zc9 => ?_)
    · exact absurd zc9 (nI_ge (by omega) (by omega))
    · refine g_iload_n dX10_winsBy_12 rfl ?_
      refine g_iload_n dX10_winsBy_13 rfl ?_
      refine g_ishr dX10_winsBy_14 ?_
      refine g_iconst (v := 1) dX10_winsBy_15 rfl ?_
      refine g_iand dX10_winsBy_16 ?_
      refine g_iconst (v := 1) dX10_winsBy_17 rfl ?_
      refine g_icmp_ne (tgt := 30) dX10_winsBy_18 (by decide) (fun zc18 => ?_) (fun zc18 => ?_)
      · refine g_iinc dX10_winsBy_30 rfl rfl ?_
        refine g_goto (tgt := 4) dX10_winsBy_33 (by decide) ?_
        rw [nI_1', ← vt_sum_f (cr_out_0 zc18)]
        exact ih (i + 1) (by omega)
      · refine g_iload_n dX10_winsBy_21 rfl ?_
        refine g_aload_n dX10_winsBy_22 rfl ?_
        refine g_getr dX10_winsBy_23 fl_X10_15 h.1 (moR_59 h) ?_
        refine g_iload_n dX10_winsBy_26 rfl ?_
        refine g_iald dX10_winsBy_27 (moA_59 h) (vp_in_nI (by omega) (by decide)) ?_
        rw [nI_n (by omega), hx.2.2.2.1 i (by omega)]
        refine g_iadd dX10_winsBy_28 ?_
        refine g_istore_n dX10_winsBy_29 (Nat.le_of_ble_eq_true rfl) rfl ?_
        refine g_iinc dX10_winsBy_30 rfl rfl ?_
        refine g_goto (tgt := 4) dX10_winsBy_33 (by decide) ?_
        rw [nI_1', ← vt_sum_t (cr_out_1 zc18)]
        exact ih (i + 1) (by omega)
theorem c_X10_winsBy {d : Nat} {w : gx_W} {f : Nat → Int32} {n : Nat} {s : Int32} {k : Int32 → gx_W → Prop} (hd : 0 ≤ d) (h : moO w) (hx : mxN w f n) (kt : vt_wins f n s = true → k 1 w) (kf : vt_wins f n s = false → k 0 w) : gx_C 0 0 d mX10_winsBy [.ref 57, .int s] w (Qi k) := by
  refine gx_C_of' (L := [.ref 57, .int s, .retAddr 0, .retAddr 0]) (by decide +kernel) rfl (Nat.le_of_ble_eq_true rfl) ?_
  refine g_iconst (v := 0) dX10_winsBy_0 rfl ?_
  refine g_istore_n dX10_winsBy_1 (Nat.le_of_ble_eq_true rfl) rfl ?_
  refine g_iconst (v := 0) dX10_winsBy_2 rfl ?_
  refine g_istore_n dX10_winsBy_3 (Nat.le_of_ble_eq_true rfl) rfl ?_
  exact l_X10_winsBy h hx kt kf n 0 (Nat.zero_add _)
theorem vt_xor : ∀ m, m < 64 → ∀ i, i < 6 → cr_out (nI m) i = true → nI m ^^^ (1 <<< (nI i &&& 31)) = vt_less (nI m) i := by decide +kernel
theorem l_X10_isJust {d n m : Nat} {w : gx_W} {f : Nat → Int32} {k : Int32 → gx_W → Prop} (hd : 1 ≤ d) (h : moO w) (hx : mxN w f n) (hm : m < 64) (hw : vt_wins f n (nI m) = true) (kt : vt_bare f n (nI m) = true → k 1 w) (kf : vt_bare f n (nI m) = false → k 0 w) : ∀ z i : Nat, i + z = n → (∀ j, j < i → ¬ (cr_out (nI m) j = true ∧ vt_wins f n (vt_less (nI m) j) = true)) → gx_G 0 0 d mX10_isJust (Qi k) 12 [.ref 57, .int (nI m), .int (nI i)] [] w := by
  intro z
  have hn6 := hx.2.1
  have en := hx.1
  induction z with
  | zero =>
    intro i hi hall
    have e : i = n := by omega
    subst e
    refine g_iload_n dX10_isJust_12 rfl ?_
    refine g_aload_n dX10_isJust_13 rfl ?_
    refine g_geti dX10_isJust_14 fl_X10_121 h.1 ?_
    rw [en]
    refine g_icmp_ge (tgt := 49) dX10_isJust_17 (by decide) (fun zc17 => ?_) (fun zc17 => ?_)
    · refine g_iconst (v := 1) dX10_isJust_49 rfl ?_
      refine g_zret dX10_isJust_50 rfl (Or.inr rfl) ⟨_, rfl, ?_⟩
      exact kt (vt_bare_iff.mpr ⟨hw, hall⟩)
    · exact absurd (Int32.le_refl _) zc17
  | succ z ih =>
    intro i hi hall
    refine g_iload_n dX10_isJust_12 rfl ?_
    refine g_aload_n dX10_isJust_13 rfl ?_
    refine g_geti dX10_isJust_14 fl_X10_121 h.1 ?_
    rw [en]
    refine g_icmp_ge (tgt := 49) dX10_isJust_17 (by decide) (fun zc17 => ?_) (fun zc17 => ?_)
    · refine g_iconst (v := 1) dX10_isJust_49 rfl ?_
      refine g_zret dX10_isJust_50 rfl (Or.inr rfl) ⟨_, rfl, ?_⟩
      exact absurd zc17 (nI_ge (by omega) (by omega))
    · refine g_iload_n dX10_isJust_20 rfl ?_
      refine g_iload_n dX10_isJust_21 rfl ?_
      refine g_ishr dX10_isJust_22 ?_
      refine g_iconst (v := 1) dX10_isJust_23 rfl ?_
      refine g_iand dX10_isJust_24 ?_
      refine g_iconst (v := 1) dX10_isJust_25 rfl ?_
      refine g_icmp_ne (tgt := 43) dX10_isJust_26 (by decide) (fun zc26 => ?_) (fun zc26 => ?_)
      · refine g_iinc dX10_isJust_43 rfl rfl ?_
        refine g_goto (tgt := 12) dX10_isJust_46 (by decide) ?_
        rw [nI_1']
        exact ih (i + 1) (by omega) (fun j hj => by rcases Nat.lt_or_ge j i with q | q; exact hall j q; rw [show j = i by omega]; exact fun q => absurd (q.1.symm.trans (cr_out_0 zc26)) (by decide))
      · refine g_aload_n dX10_isJust_29 rfl ?_
        refine g_iload_n dX10_isJust_30 rfl ?_
        refine g_iconst (v := 1) dX10_isJust_31 rfl ?_
        refine g_iload_n dX10_isJust_32 rfl ?_
        refine g_ishl dX10_isJust_33 ?_
        refine g_ixor dX10_isJust_34 ?_
        rw [vt_xor m hm i (by omega) (cr_out_1 zc26)]
        refine g_cV1i dX10_isJust_35 ml_X10_298 mi_X10_winsBy mv_X10_winsBy h.1 ⟨_, rfl, rfl⟩ (Nat.le_of_ble_eq_true rfl) rfl (by omega) ?_
        refine c_X10_winsBy (by omega) h hx (fun hl => ?_) (fun hl => ?_)
        · refine g_if_eq (tgt := 43) dX10_isJust_38 (by decide) (fun q => absurd q (by decide)) (fun _ => ?_)
          refine g_iconst (v := 0) dX10_isJust_41 rfl ?_
          refine g_zret dX10_isJust_42 rfl (Or.inl rfl) ⟨_, rfl, ?_⟩
          refine kf ?_
          cases e : vt_bare f n (nI m) with
          | false => rfl
          | true => exact absurd ⟨cr_out_1 zc26, hl⟩ ((vt_bare_iff.mp e).2 i (by omega))
        · refine g_if_eq (tgt := 43) dX10_isJust_38 (by decide) (fun _ => ?_) (fun q => absurd q (by decide))
          refine g_iinc dX10_isJust_43 rfl rfl ?_
          refine g_goto (tgt := 12) dX10_isJust_46 (by decide) ?_
          rw [nI_1']
          exact ih (i + 1) (by omega) (fun j hj => by rcases Nat.lt_or_ge j i with q | q; exact hall j q; rw [show j = i by omega]; exact fun q => absurd (q.2.symm.trans hl) (by decide))
theorem c_X10_isJust {d : Nat} {w : gx_W} {f : Nat → Int32} {n m : Nat} {k : Int32 → gx_W → Prop} (hd : 1 ≤ d) (h : moO w) (hx : mxN w f n) (hm : m < 64) (kt : vt_bare f n (nI m) = true → k 1 w) (kf : vt_bare f n (nI m) = false → k 0 w) : gx_C 0 0 d mX10_isJust [.ref 57, .int (nI m)] w (Qi k) := by
  refine gx_C_of' (L := [.ref 57, .int (nI m), .retAddr 0]) (by decide +kernel) rfl (Nat.le_of_ble_eq_true rfl) ?_
  refine g_aload_n dX10_isJust_0 rfl ?_
  refine g_iload_n dX10_isJust_1 rfl ?_
  refine g_cV1i dX10_isJust_2 ml_X10_298 mi_X10_winsBy mv_X10_winsBy h.1 ⟨_, rfl, rfl⟩ (Nat.le_of_ble_eq_true rfl) rfl (by omega) ?_
  refine c_X10_winsBy (by omega) h hx (fun hw => ?_) (fun hw => ?_)
  · refine g_if_ne (tgt := 10) dX10_isJust_5 (by decide) (fun _ => ?_) (fun q => absurd q (by decide))
    refine g_iconst (v := 0) dX10_isJust_10 rfl ?_
    refine g_istore_n dX10_isJust_11 (Nat.le_of_ble_eq_true rfl) rfl ?_
    exact l_X10_isJust hd h hx hm hw kt kf n 0 (Nat.zero_add _) (fun j hj => absurd hj (Nat.not_lt_zero _))
  · refine g_if_ne (tgt := 10) dX10_isJust_5 (by decide) (fun q => absurd q (by decide)) (fun _ => ?_)
    refine g_iconst (v := 0) dX10_isJust_8 rfl ?_
    refine g_zret dX10_isJust_9 rfl (Or.inl rfl) ⟨_, rfl, ?_⟩
    refine kf ?_
    cases e : vt_bare f n (nI m) with
    | false => rfl
    | true => exact absurd ((vt_bare_iff.mp e).1.symm.trans hw) (by decide)
theorem vt_f_s : ∀ j, j < 6 → 1 ≤ j → nI (vt_f j) * nI (j + 1) = nI (vt_f (j + 1)) := by decide
theorem l_X10_factorial {d n : Nat} {w : gx_W} {k : Int32 → gx_W → Prop} (hn : n ≤ 6) (kk : k (nI (vt_f n)) w) : ∀ z j : Nat, j + z = n → 1 ≤ j → gx_G 0 0 d mX10_factorial (Qi k) 4 [.int (nI n), .int (nI (vt_f j)), .int (nI (j + 1))] [] w := by
  intro z
  induction z with
  | zero =>
    intro j hj h1
    have e : j = n := by omega
    subst e
    refine g_iload_n dX10_factorial_4 rfl ?_
    refine g_iload_n dX10_factorial_5 rfl ?_
    refine g_icmp_gt (tgt := 19) dX10_factorial_6 (by decide) (fun zc6 => ?_) (fun zc6 => ?_)
    · refine g_iload_n dX10_factorial_19 rfl ?_
      refine g_iret dX10_factorial_20 rfl ⟨_, rfl, ?_⟩
      exact kk
    · exact absurd (nI_lt (Nat.lt_succ_self j) (by omega)) zc6
  | succ z ih =>
    intro j hj h1
    refine g_iload_n dX10_factorial_4 rfl ?_
    refine g_iload_n dX10_factorial_5 rfl ?_
    refine g_icmp_gt (tgt := 19) dX10_factorial_6 (by decide) (fun zc6 => ?_) (fun zc6 => ?_)
    · refine g_iload_n dX10_factorial_19 rfl ?_
      refine g_iret dX10_factorial_20 rfl ⟨_, rfl, ?_⟩
      exact absurd zc6 (nI_nlt (by omega) (by omega))
    · refine g_iload_n dX10_factorial_9 rfl ?_
      refine g_iload_n dX10_factorial_10 rfl ?_
      refine g_imul dX10_factorial_11 ?_
      refine g_istore_n dX10_factorial_12 (Nat.le_of_ble_eq_true rfl) rfl ?_
      refine g_iinc dX10_factorial_13 rfl rfl ?_
      refine g_goto (tgt := 4) dX10_factorial_16 (by decide) ?_
      rw [nI_1', vt_f_s j (by omega) h1]
      exact ih (j + 1) (by omega) (by omega)
theorem c_X10_factorial {d : Nat} {w : gx_W} {n : Nat} {k : Int32 → gx_W → Prop} (hd : 0 ≤ d) (hn : n ≤ 6) (kk : k (nI (vt_f n)) w) : gx_C 0 0 d mX10_factorial [.int (nI n)] w (Qi k) := by
  refine gx_C_of' (L := [.int (nI n), .retAddr 0, .retAddr 0]) (by decide +kernel) rfl (Nat.le_of_ble_eq_true rfl) ?_
  refine g_iconst (v := 1) dX10_factorial_0 rfl ?_
  refine g_istore_n dX10_factorial_1 (Nat.le_of_ble_eq_true rfl) rfl ?_
  refine g_iconst (v := 2) dX10_factorial_2 rfl ?_
  refine g_istore_n dX10_factorial_3 (Nat.le_of_ble_eq_true rfl) rfl ?_
  rcases Nat.eq_zero_or_pos n with q | q
  · subst q
    refine g_iload_n dX10_factorial_4 rfl ?_
    refine g_iload_n dX10_factorial_5 rfl ?_
    refine g_icmp_gt (tgt := 19) dX10_factorial_6 (by decide) (fun _ => ?_) (fun q => absurd (by decide) q)
    refine g_iload_n dX10_factorial_19 rfl ?_
    refine g_iret dX10_factorial_20 rfl ⟨_, rfl, ?_⟩
    exact kk
  · exact l_X10_factorial hn kk (n - 1) 1 (by omega) (Nat.le_refl _)
theorem pop_and : ∀ m, m < 64 → 0 < m → nI m &&& (nI m - 1) = nI (m &&& (m - 1)) ∧ popc (m &&& (m - 1)) + 1 = popc m ∧ m &&& (m - 1) < m := by decide +kernel
theorem l_X10_bitsOf {d s : Nat} {w : gx_W} {k : Int32 → gx_W → Prop} (kk : k (nI (popc s)) w) : ∀ z m u : Nat, m ≤ z → m < 64 → u + popc m = popc s → gx_G 0 0 d mX10_bitsOf (Qi k) 4 [.int (nI s), .int (nI u), .int (nI m)] [] w := by
  intro z
  induction z with
  | zero =>
    intro m u hm h64 hu
    have e : m = 0 := by omega
    subst e
    have eu : u = popc s := by rw [← hu]; rfl
    subst eu
    refine g_iload_n dX10_bitsOf_4 rfl ?_
    refine g_if_eq (tgt := 20) dX10_bitsOf_5 (by decide) (fun zc5 => ?_) (fun zc5 => ?_)
    · refine g_iload_n dX10_bitsOf_20 rfl ?_
      refine g_iret dX10_bitsOf_21 rfl ⟨_, rfl, ?_⟩
      exact kk
    · exact absurd rfl zc5
  | succ z ih =>
    intro m u hm h64 hu
    refine g_iload_n dX10_bitsOf_4 rfl ?_
    refine g_if_eq (tgt := 20) dX10_bitsOf_5 (by decide) (fun zc5 => ?_) (fun zc5 => ?_)
    · refine g_iload_n dX10_bitsOf_20 rfl ?_
      refine g_iret dX10_bitsOf_21 rfl ⟨_, rfl, ?_⟩
      have e : m = 0 := pI_inj (a := m) (b := 0) (by omega) (by omega) zc5
      subst e
      have eu : u = popc s := by rw [← hu]; rfl
      rw [eu]
      exact kk
    · refine g_iinc dX10_bitsOf_8 rfl rfl ?_
      refine g_iload_n dX10_bitsOf_11 rfl ?_
      refine g_iload_n dX10_bitsOf_12 rfl ?_
      refine g_iconst (v := 1) dX10_bitsOf_13 rfl ?_
      refine g_isub dX10_bitsOf_14 ?_
      refine g_iand dX10_bitsOf_15 ?_
      obtain ⟨p1, p2, p3⟩ := pop_and m h64 (Nat.pos_of_ne_zero (fun q => zc5 (by rw [q]; rfl)))
      rw [p1]
      refine g_istore_n dX10_bitsOf_16 (Nat.le_of_ble_eq_true rfl) rfl ?_
      refine g_goto (tgt := 4) dX10_bitsOf_17 (by decide) ?_
      rw [nI_1']
      exact ih (m &&& (m - 1)) (u + 1) (by omega) (by omega) (by omega)
theorem c_X10_bitsOf {d : Nat} {w : gx_W} {m : Nat} {k : Int32 → gx_W → Prop} (hd : 0 ≤ d) (hm : m < 64) (kk : k (nI (popc m)) w) : gx_C 0 0 d mX10_bitsOf [.int (nI m)] w (Qi k) := by
  refine gx_C_of' (L := [.int (nI m), .retAddr 0, .retAddr 0]) (by decide +kernel) rfl (Nat.le_of_ble_eq_true rfl) ?_
  refine g_iconst (v := 0) dX10_bitsOf_0 rfl ?_
  refine g_istore_n dX10_bitsOf_1 (Nat.le_of_ble_eq_true rfl) rfl ?_
  refine g_iload_n dX10_bitsOf_2 rfl ?_
  refine g_istore_n dX10_bitsOf_3 (Nat.le_of_ble_eq_true rfl) rfl ?_
  exact l_X10_bitsOf kk 64 m 0 (by omega) hm (Nat.zero_add _)

/-! The reference: mostOf, hasNow, takesNow, goComer -/
theorem and1 (x : Int32) : x &&& 1 = 0 ∨ x &&& 1 = 1 := by
  obtain ⟨j, hj, e⟩ := pk_andE x (m := 1) 1 (by decide)
  rcases (by omega : j = 0 ∨ j = 1) with q | q
  · exact Or.inl (by rw [e, q]; rfl)
  · exact Or.inr (by rw [e, q]; rfl)
theorem cr_out_1 {o : Int32} {i : Nat} (h : (o >>> (nI i &&& 31)) &&& 1 = 1) : cr_out o i = true := decide_eq_true (by rw [h]; decide)
theorem cr_out_0 {o : Int32} {i : Nat} (h : ¬ (o >>> (nI i &&& 31)) &&& 1 = 1) : cr_out o i = false := decide_eq_false (fun q => by
  rcases and1 (o >>> (nI i &&& 31)) with z | z
  · exact q z
  · exact h z)
theorem cr_b_lt {W : Nat → Int32} {out : Nat → Bool} {i : Nat} (hi : i < 1000) : cr_b (cr_most W out i) < 0 ↔ cr_b (cr_most W out i) = -2 := by
  cases hm : cr_most W out i with
  | none => exact ⟨fun _ => rfl, fun _ => by decide⟩
  | some bm =>
    obtain ⟨b, m⟩ := bm
    have := cr_most_lt hm
    constructor
    · intro q; exact absurd q (nI_pos (by omega))
    · intro q
      have := congrArg Int32.toInt q
      rw [show cr_b (some (b, m)) = nI b from rfl, nI_toInt (by omega), show (-2 : Int32).toInt = -2 by decide] at this
      omega
set_option maxHeartbeats 4000000 in
theorem l_X10_mostOf {d n N c : Nat} {w : gx_W} {f sg va : Nat → Int32} {o : Int32} {k : Int32 → gx_W → Prop} (hd : 4 ≤ d) (h : moT w f n N sg va) (hc : c < 100) (kk : ∀ w', same [73, 74] [] w w' → k (cr_b (cr_most (cr_want N sg va f · c) (cr_out o) n)) w') : ∀ (z i : Nat) (x6 : Value) (w1 : gx_W) (b m : Int32), i + z = n → same [73, 74] [] w w1 → b = cr_b (cr_most (cr_want N sg va f · c) (cr_out o) i) → m = cr_m (cr_most (cr_want N sg va f · c) (cr_out o) i) → gx_G 0 0 d mX10_mostOf (Qi k) 9 [.ref 57, .int (nI c), .int o, .int b, .int m, .int (nI i), x6] [] w1 := by
  intro z
  have hn6 := h.2.1.1.2.1
  induction z with
  | zero =>
    intro i x6 w1 b m hi hs hb hm
    have h1 := h.same hs (by simp) (by simp)
    have en := h1.2.1.1.1
    have e : i = n := by omega
    subst e
    refine g_iload dX10_mostOf_9 rfl ?_
    refine g_aload_n dX10_mostOf_11 rfl ?_
    refine g_geti dX10_mostOf_12 fl_X10_121 h1.1.1 ?_
    rw [en]
    refine g_icmp_ge (tgt := 67) dX10_mostOf_15 (by decide) (fun zc15 => ?_) (fun zc15 => ?_)
    · refine g_iload_n dX10_mostOf_67 rfl ?_
      refine g_iret dX10_mostOf_68 rfl ⟨_, rfl, ?_⟩
      rw [hb]; exact kk w1 hs
    · exact absurd (Int32.le_refl _) zc15
  | succ z ih =>
    intro i x6 w1 b m hi hs hb hm
    have h1 := h.same hs (by simp) (by simp)
    have en := h1.2.1.1.1
    refine g_iload dX10_mostOf_9 rfl ?_
    refine g_aload_n dX10_mostOf_11 rfl ?_
    refine g_geti dX10_mostOf_12 fl_X10_121 h1.1.1 ?_
    rw [en]
    refine g_icmp_ge (tgt := 67) dX10_mostOf_15 (by decide) (fun zc15 => ?_) (fun zc15 => ?_)
    · refine g_iload_n dX10_mostOf_67 rfl ?_
      refine g_iret dX10_mostOf_68 rfl ⟨_, rfl, ?_⟩
      exact absurd zc15 (nI_ge (by omega) (by omega))
    · refine g_iload_n dX10_mostOf_18 rfl ?_
      refine g_iload dX10_mostOf_19 rfl ?_
      refine g_ishr dX10_mostOf_21 ?_
      refine g_iconst (v := 1) dX10_mostOf_22 rfl ?_
      refine g_iand dX10_mostOf_23 ?_
      refine g_iconst (v := 1) dX10_mostOf_24 rfl ?_
      refine g_icmp_ne (tgt := 31) dX10_mostOf_25 (by decide) (fun zc25 => ?_) (fun zc25 => ?_)
      · refine g_aload_n dX10_mostOf_31 rfl ?_
        refine g_iload dX10_mostOf_32 rfl ?_
        refine g_iload_n dX10_mostOf_34 rfl ?_
        refine g_cV2i dX10_mostOf_35 ml_X10_240 mi_X10_wants mv_X10_wants h1.1.1 ⟨_, rfl, rfl⟩ (Nat.le_of_ble_eq_true rfl) rfl (by omega) ?_
        refine c_X10_wants (by omega) h1 (m := i) (by omega) hc (fun w2 hs2 => ?_)
        refine g_istore dX10_mostOf_38 (Nat.le_of_ble_eq_true rfl) rfl ?_
        refine g_iload_n dX10_mostOf_40 rfl ?_
        refine g_if_lt (tgt := 54) dX10_mostOf_41 (by decide) (fun zc41 => ?_) (fun zc41 => ?_)
        · refine g_iload dX10_mostOf_54 rfl ?_
          refine g_istore_n dX10_mostOf_56 (Nat.le_of_ble_eq_true rfl) rfl ?_
          refine g_iload dX10_mostOf_57 rfl ?_
          refine g_istore dX10_mostOf_59 (Nat.le_of_ble_eq_true rfl) rfl ?_
          refine g_iinc dX10_mostOf_61 rfl rfl ?_
          refine g_goto (tgt := 9) dX10_mostOf_64 (by decide) ?_
          have hout := cr_out_0 (o := o) (i := i) zc25
          rw [nI_1']
          have ht := cr_most_take (W := fun x => cr_want N sg va f x c) (out := cr_out o) (i := i) (by omega) hout (Or.inl ((cr_b_lt (by omega)).mp (by rw [← hb]; exact zc41)))
          exact ih (i + 1) _ w2 _ _ (by omega) (hs.tr hs2) (by rw [ht]; rfl) (by rw [ht]; rfl)
        · refine g_iload dX10_mostOf_44 rfl ?_
          refine g_iload dX10_mostOf_46 rfl ?_
          refine g_icmp_gt (tgt := 54) dX10_mostOf_48 (by decide) (fun zc48 => ?_) (fun zc48 => ?_)
          · refine g_iload dX10_mostOf_54 rfl ?_
            refine g_istore_n dX10_mostOf_56 (Nat.le_of_ble_eq_true rfl) rfl ?_
            refine g_iload dX10_mostOf_57 rfl ?_
            refine g_istore dX10_mostOf_59 (Nat.le_of_ble_eq_true rfl) rfl ?_
            refine g_iinc dX10_mostOf_61 rfl rfl ?_
            refine g_goto (tgt := 9) dX10_mostOf_64 (by decide) ?_
            have hout := cr_out_0 (o := o) (i := i) zc25
            rw [nI_1']
            have ht := cr_most_take (W := fun x => cr_want N sg va f x c) (out := cr_out o) (i := i) (by omega) hout (Or.inr (by rw [← hm]; exact zc48))
            exact ih (i + 1) _ w2 _ _ (by omega) (hs.tr hs2) (by rw [ht]; rfl) (by rw [ht]; rfl)
          · refine g_goto (tgt := 61) dX10_mostOf_51 (by decide) ?_
            refine g_iinc dX10_mostOf_61 rfl rfl ?_
            refine g_goto (tgt := 9) dX10_mostOf_64 (by decide) ?_
            have hout := cr_out_0 (o := o) (i := i) zc25
            rw [nI_1']
            have ht := cr_most_keep (W := fun x => cr_want N sg va f x c) (out := cr_out o) (i := i) hout (fun q => zc41 (by rw [hb]; exact (cr_b_lt (by omega)).mpr q)) (by rw [← hm]; exact Int32.not_lt.mp zc48)
            exact ih (i + 1) _ w2 _ _ (by omega) (hs.tr hs2) (by rw [ht]; exact hb) (by rw [ht]; exact hm)
      · refine g_goto (tgt := 61) dX10_mostOf_28 (by decide) ?_
        refine g_iinc dX10_mostOf_61 rfl rfl ?_
        refine g_goto (tgt := 9) dX10_mostOf_64 (by decide) ?_
        have hout := cr_out_1 (o := o) (i := i) zc25
        rw [nI_1']
        exact ih (i + 1) _ w1 b m (by omega) hs (by rw [cr_most_out hout]; exact hb) (by rw [cr_most_out hout]; exact hm)
theorem c_X10_mostOf {d : Nat} {w : gx_W} {f : Nat → Int32} {n N c : Nat} {sg va : Nat → Int32} {o : Int32} {k : Int32 → gx_W → Prop} (hd : 4 ≤ d) (h : moT w f n N sg va) (hc : c < 100) (kk : ∀ w', same [73, 74] [] w w' → k (cr_b (cr_most (cr_want N sg va f · c) (cr_out o) n)) w') : gx_C 0 0 d mX10_mostOf [.ref 57, .int (nI c), .int o] w (Qi k) := by
  refine gx_C_of' (L := [.ref 57, .int (nI c), .int o, .retAddr 0, .retAddr 0, .retAddr 0, .retAddr 0]) (by decide +kernel) rfl (Nat.le_of_ble_eq_true rfl) ?_
  refine g_bipush (v := -2) dX10_mostOf_0 rfl ?_
  refine g_istore_n dX10_mostOf_2 (Nat.le_of_ble_eq_true rfl) rfl ?_
  refine g_iconst (v := 0) dX10_mostOf_3 rfl ?_
  refine g_istore dX10_mostOf_4 (Nat.le_of_ble_eq_true rfl) rfl ?_
  refine g_iconst (v := 0) dX10_mostOf_6 rfl ?_
  refine g_istore dX10_mostOf_7 (Nat.le_of_ble_eq_true rfl) rfl ?_
  exact l_X10_mostOf hd h hc kk n 0 _ w _ _ (Nat.zero_add _) same.rf rfl rfl
theorem c_X10_hasNow {d : Nat} {w : gx_W} {f : Nat → Int32} {n N c : Nat} {sg va : Nat → Int32} {k : Int32 → gx_W → Prop} (hd : 5 ≤ d) (h : moT w f n N sg va) (hc : c < 100) (kk : ∀ w', same [73, 74] [] w w' → k (cr_has N sg va f n c) w') : gx_C 0 0 d mX10_hasNow [.ref 57, .int (nI c)] w (Qi k) := by
  refine gx_C_of' (L := [.ref 57, .int (nI c)]) (by decide +kernel) rfl (Nat.le_of_ble_eq_true rfl) ?_
  refine g_aload_n dX10_hasNow_0 rfl ?_
  refine g_iload_n dX10_hasNow_1 rfl ?_
  refine g_cV1i dX10_hasNow_2 ml_X10_243 mi_X10_runsBy mv_X10_runsBy h.1.1 ⟨_, rfl, rfl⟩ (Nat.le_of_ble_eq_true rfl) rfl (by omega) ?_
  refine c_X10_runsBy (by omega) h.1 h.2.1.1 hc (fun t => ?_) (fun t => ?_)
  · refine g_if_eq (tgt := 17) dX10_hasNow_5 (by decide) (fun q => absurd q (by decide)) (fun _ => ?_)
    refine g_aload_n dX10_hasNow_8 rfl ?_
    refine g_getr dX10_hasNow_9 fl_X10_24 h.1.1 (moR_62 h.1) ?_
    refine g_iconst (v := 1) dX10_hasNow_12 rfl ?_
    refine g_iald dX10_hasNow_13 (moA_62 h.1) (by first | assumption | exact vp_in_iff.mpr (by decide)) ?_
    rw [show (1 : Int32).toNatClampNeg = 1 from rfl, show w_a w 62 1 = f 25 from h.2.1.1.2.2.2.2.2 1 (by decide)]
    refine g_goto (tgt := 23) dX10_hasNow_14 (by decide) ?_
    refine g_iret dX10_hasNow_23 rfl ⟨_, rfl, ?_⟩
    have K := kk w same.rf
    rw [show cr_has N sg va f n c = f 25 from if_pos t] at K
    exact K
  · refine g_if_eq (tgt := 17) dX10_hasNow_5 (by decide) (fun _ => ?_) (fun q => absurd q (by decide))
    refine g_aload_n dX10_hasNow_17 rfl ?_
    refine g_iload_n dX10_hasNow_18 rfl ?_
    refine g_iconst (v := 0) dX10_hasNow_19 rfl ?_
    refine g_cV2i dX10_hasNow_20 ml_X10_246 mi_X10_mostOf mv_X10_mostOf h.1.1 ⟨_, rfl, rfl⟩ (Nat.le_of_ble_eq_true rfl) rfl (by omega) ?_
    refine c_X10_mostOf (by omega) h hc (fun w' hs => ?_)
    refine g_iret dX10_hasNow_23 rfl ⟨_, rfl, ?_⟩
    have K := kk w' hs
    rw [show cr_has N sg va f n c = cr_b (cr_most (cr_want N sg va f · c) (fun _ => false) n) from if_neg (by rw [t]; decide), ← cr_out0] at K
    exact K
def tkF (g : Nat → Int32) (t i : Nat) : Nat → Int32 := fun j => if j < i then (if j = t then 0 else if g j < 99 then g j + 1 else 99) else g j
theorem tkF_s (g : Nat → Int32) (t i : Nat) (v : Int32) (hv : v = if i = t then 0 else if g i < 99 then g i + 1 else 99) : va_up (tkF g t i) i v = tkF g t (i + 1) := by
  funext j
  rw [up_at]
  unfold tkF
  by_cases q : j = i
  · rw [if_pos q, if_pos (show j < i + 1 from by omega), q]; exact hv
  · rw [if_neg q]
    by_cases q2 : j < i
    · rw [if_pos q2, if_pos (show j < i + 1 from by omega)]
    · rw [if_neg q2, if_neg (show ¬ j < i + 1 from by omega)]
theorem tkF_at (g : Nat → Int32) (t i : Nat) : tkF g t i i = g i := if_neg (Nat.lt_irrefl _)
theorem tk_set {g f : Nat → Int32} {t n j : Nat} (hj : j < n) (hg : g j = f (18 + j)) (hb : -300 ≤ (f (18 + j)).toInt ∧ (f (18 + j)).toInt ≤ 300) : tkF g t n j = cr_set f n t (18 + j) := by
  unfold tkF cr_set
  rw [if_pos hj, if_pos (show 18 ≤ 18 + j ∧ 18 + j < 18 + n from ⟨by omega, by omega⟩), show 18 + j - 18 = j by omega, hg]
  by_cases q : j = t
  · rw [if_pos q, if_pos q]
  · rw [if_neg q, if_neg q]
    have e99 : (99 : Int32).toInt = 99 := by decide
    have e1 : (1 : Int32).toInt = 1 := by decide
    have es : (f (18 + j) + 1).toInt = (f (18 + j)).toInt + 1 := by rw [pI_add (by omega) (by omega), e1]
    by_cases z : f (18 + j) < 99
    · have z2 := z
      rw [pI_lt, e99] at z2
      rw [if_pos z, if_neg (by rw [pI_gt, e99, es]; omega)]
    · have z2 := z
      rw [pI_lt, e99] at z2
      rw [if_neg z, if_pos (by rw [pI_gt, e99, es]; omega)]
theorem cr_set_lo {f : Nat → Int32} {n t j : Nat} (h : j < 18 ∨ 18 + n ≤ j) : cr_set f n t j = f j := if_neg (by omega)
theorem bnd_set {f : Nat → Int32} {n t : Nat} (hn : n ≤ 6) (h : bnd f n) : bnd (cr_set f n t) n := fun m hm => by
  obtain ⟨b1, b2, b3⟩ := h m hm
  rw [cr_set_lo (by omega), cr_set_lo (by omega)]
  refine ⟨b1, b2, ?_⟩
  unfold cr_set
  rw [if_pos (by omega)]
  have e99 : (99 : Int32).toInt = 99 := by decide
  have e0 : (0 : Int32).toInt = 0 := by decide
  have e1 : (1 : Int32).toInt = 1 := by decide
  split
  · rw [e0]; omega
  · have es : (f (18 + m) + 1).toInt = (f (18 + m)).toInt + 1 := by rw [pI_add (by omega) (by omega), e1]
    split
    · rw [e99]; omega
    · rename_i q
      rw [pI_gt, e99, es] at q
      rw [es]; omega
theorem mxN.set {w : gx_W} {f : Nat → Int32} {n t : Nat} (h : mxN w f n) : mxN w (cr_set f n t) n := by
  obtain ⟨g1, g2, g3, g4, g5, g6⟩ := h
  exact ⟨g1, g2, fun j hj => by rw [cr_set_lo (by omega)]; exact g3 j hj, fun j hj => by rw [cr_set_lo (by omega)]; exact g4 j hj, fun j hj => by rw [cr_set_lo (by omega)]; exact g5 j hj, fun j hj => by rw [cr_set_lo (by omega)]; exact g6 j hj⟩
theorem l_X10_takesNow {d n t : Nat} {w : gx_W} {k : gx_W → Prop} (h : moO w) (hn : w_i w 57 1 = nI n) (hn6 : n ≤ 6) (ht : t < 6) (kk : k (s_a w 75 (tkF (w_a w 75) t n))) : ∀ z i : Nat, i + z = n → gx_G 0 0 d mX10_takesNow (Qv k) 2 [.ref 57, .int (nI t), .int (nI i)] [] (s_a w 75 (tkF (w_a w 75) t i)) := by
  intro z
  induction z with
  | zero =>
    intro i hi
    have e : i = n := by omega
    subst e
    have en : w_i (s_a w 75 (tkF (w_a w 75) t i)) 57 1 = nI i := hn
    refine g_iload_n dX10_takesNow_2 rfl ?_
    refine g_aload_n dX10_takesNow_3 rfl ?_
    refine g_geti dX10_takesNow_4 fl_X10_121 h.1 ?_
    rw [en]
    refine g_icmp_ge (tgt := 55) dX10_takesNow_7 (by decide) (fun zc7 => ?_) (fun zc7 => ?_)
    · refine g_vret dX10_takesNow_55 rfl ⟨rfl, ?_⟩
      exact kk
    · exact absurd (Int32.le_refl _) zc7
  | succ z ih =>
    intro i hi
    have en : w_i (s_a w 75 (tkF (w_a w 75) t i)) 57 1 = nI n := hn
    refine g_iload_n dX10_takesNow_2 rfl ?_
    refine g_aload_n dX10_takesNow_3 rfl ?_
    refine g_geti dX10_takesNow_4 fl_X10_121 h.1 ?_
    rw [en]
    refine g_icmp_ge (tgt := 55) dX10_takesNow_7 (by decide) (fun zc7 => ?_) (fun zc7 => ?_)
    · refine g_vret dX10_takesNow_55 rfl ⟨rfl, ?_⟩
      exact absurd zc7 (nI_ge (by omega) (by omega))
    · refine g_aload_n dX10_takesNow_10 rfl ?_
      refine g_getr dX10_takesNow_11 fl_X10_65 h.1 (moR_75 h) ?_
      refine g_iload_n dX10_takesNow_14 rfl ?_
      refine g_iload_n dX10_takesNow_15 rfl ?_
      refine g_iload_n dX10_takesNow_16 rfl ?_
      refine g_icmp_ne (tgt := 24) dX10_takesNow_17 (by decide) (fun zc17 => ?_) (fun zc17 => ?_)
      · refine g_aload_n dX10_takesNow_24 rfl ?_
        refine g_getr dX10_takesNow_25 fl_X10_65 h.1 (moR_75 h) ?_
        refine g_iload_n dX10_takesNow_28 rfl ?_
        refine g_iald dX10_takesNow_29 (moA_75 h) (vp_in_nI (by omega) (by decide)) ?_
        rw [nI_n (by omega), wa_sat, tkF_at]
        refine g_bipush (v := 99) dX10_takesNow_30 rfl ?_
        refine g_icmp_ge (tgt := 46) dX10_takesNow_32 (by decide) (fun zc32 => ?_) (fun zc32 => ?_)
        · refine g_bipush (v := 99) dX10_takesNow_46 rfl ?_
          refine g_iast dX10_takesNow_48 (moA_75 h) (vp_in_nI (by omega) (by decide)) ?_
          rw [nI_n (by omega), wa_sat, sa_sa]
          refine g_iinc dX10_takesNow_49 rfl rfl ?_
          refine g_goto (tgt := 2) dX10_takesNow_52 (by decide) ?_
          rw [tkF_s (w_a w 75) t i _ (((if_neg (fun q => zc17 (by rw [q]))).trans (if_neg (Int32.not_lt.mpr zc32)) : (if i = t then (0 : Int32) else if w_a w 75 i < 99 then w_a w 75 i + 1 else 99) = _).symm)]
          rw [nI_1']
          exact ih (i + 1) (by omega)
        · refine g_aload_n dX10_takesNow_35 rfl ?_
          refine g_getr dX10_takesNow_36 fl_X10_65 h.1 (moR_75 h) ?_
          refine g_iload_n dX10_takesNow_39 rfl ?_
          refine g_iald dX10_takesNow_40 (moA_75 h) (vp_in_nI (by omega) (by decide)) ?_
          rw [nI_n (by omega), wa_sat, tkF_at]
          refine g_iconst (v := 1) dX10_takesNow_41 rfl ?_
          refine g_iadd dX10_takesNow_42 ?_
          refine g_goto (tgt := 48) dX10_takesNow_43 (by decide) ?_
          refine g_iast dX10_takesNow_48 (moA_75 h) (vp_in_nI (by omega) (by decide)) ?_
          rw [nI_n (by omega), wa_sat, sa_sa]
          refine g_iinc dX10_takesNow_49 rfl rfl ?_
          refine g_goto (tgt := 2) dX10_takesNow_52 (by decide) ?_
          rw [tkF_s (w_a w 75) t i _ (((if_neg (fun q => zc17 (by rw [q]))).trans (if_pos (Int32.not_le.mp zc32)) : (if i = t then (0 : Int32) else if w_a w 75 i < 99 then w_a w 75 i + 1 else 99) = _).symm)]
          rw [nI_1']
          exact ih (i + 1) (by omega)
      · refine g_iconst (v := 0) dX10_takesNow_20 rfl ?_
        refine g_goto (tgt := 48) dX10_takesNow_21 (by decide) ?_
        refine g_iast dX10_takesNow_48 (moA_75 h) (vp_in_nI (by omega) (by decide)) ?_
        rw [nI_n (by omega), wa_sat, sa_sa]
        refine g_iinc dX10_takesNow_49 rfl rfl ?_
        refine g_goto (tgt := 2) dX10_takesNow_52 (by decide) ?_
        rw [tkF_s (w_a w 75) t i _ ((if_pos (pI_inj (by omega) (by omega) zc17) : (if i = t then (0 : Int32) else if w_a w 75 i < 99 then w_a w 75 i + 1 else 99) = _).symm)]
        rw [nI_1']
        exact ih (i + 1) (by omega)
theorem c_X10_takesNow {d : Nat} {w : gx_W} {f : Nat → Int32} {n N t : Nat} {sg va : Nat → Int32} {k : gx_W → Prop} (hd : 0 ≤ d) (h : moT w f n N sg va) (ht : t < n) (kk : ∀ w', same [75] [] w w' → moT w' (cr_set f n t) n N sg va → k w') : gx_C 0 0 d mX10_takesNow [.ref 57, .int (nI t)] w (Qv k) := by
  refine gx_C_of' (L := [.ref 57, .int (nI t), .retAddr 0]) (by decide +kernel) rfl (Nat.le_of_ble_eq_true rfl) ?_
  refine g_iconst (v := 0) dX10_takesNow_0 rfl ?_
  refine g_istore_n dX10_takesNow_1 (Nat.le_of_ble_eq_true rfl) rfl ?_
  have hn6 := h.2.1.1.2.1
  have K := fun kk2 => l_X10_takesNow (d := d) (k := k) (t := t) h.1 h.2.1.1.1 hn6 (by omega) kk2 n 0 (Nat.zero_add _)
  rw [sa_id (show tkF (w_a w 75) t 0 = w_a w 75 from by funext j; exact if_neg (Nat.not_lt_zero _))] at K
  refine K ?_
  have hs : same [75] [] w (s_a w 75 (tkF (w_a w 75) t n)) := same.rf.sa (by simp)
  refine kk _ hs ⟨h.1.same hs, ⟨(h.2.1.1.same hs (by simp) (by simp)).set, fun j hj => ?_⟩, h.2.2.1.same hs (by simp) (fun k h1 h2 => by simp; omega), bnd_set hn6 h.2.2.2⟩
  rw [wa_sat]
  exact tk_set hj (h.2.1.2 j hj) (h.2.2.2 j hj).2.2
theorem c_X10_goComer {d : Nat} {w : gx_W} {f : Nat → Int32} {n N c : Nat} {sg va : Nat → Int32} {k : Int32 → gx_W → Prop} (hd : 6 ≤ d) (h : moT w f n N sg va) (hc : c < 100) (kk : ∀ w', same [73, 74, 75] [] w w' → moT w' (me_nx N sg va f n c) n N sg va → k (cr_has N sg va f n c) w') : gx_C 0 0 d mX10_goComer [.ref 57, .int (nI c)] w (Qi k) := by
  refine gx_C_of' (L := [.ref 57, .int (nI c), .retAddr 0]) (by decide +kernel) rfl (Nat.le_of_ble_eq_true rfl) ?_
  refine g_aload_n dX10_goComer_0 rfl ?_
  refine g_iload_n dX10_goComer_1 rfl ?_
  refine g_cV1i dX10_goComer_2 ml_X10_249 mi_X10_hasNow mv_X10_hasNow h.1.1 ⟨_, rfl, rfl⟩ (Nat.le_of_ble_eq_true rfl) rfl (by omega) ?_
  refine c_X10_hasNow (by omega) h hc (fun w1 hs => ?_)
  have h1 := h.same hs (by simp) (by simp)
  refine g_istore_n dX10_goComer_5 (Nat.le_of_ble_eq_true rfl) rfl ?_
  refine g_iload_n dX10_goComer_6 rfl ?_
  refine g_if_lt (tgt := 15) dX10_goComer_7 (by decide) (fun zc7 => ?_) (fun zc7 => ?_)
  · refine g_iload_n dX10_goComer_15 rfl ?_
    refine g_iret dX10_goComer_16 rfl ⟨_, rfl, ?_⟩
    refine kk w1 (hs.wk (by simp) (by simp)) ?_
    rw [show me_nx N sg va f n c = f from if_pos zc7]
    exact h1
  · refine g_aload_n dX10_goComer_10 rfl ?_
    refine g_iload_n dX10_goComer_11 rfl ?_
    obtain ⟨t, ht, et⟩ : ∃ t, t < n ∧ cr_has N sg va f n c = nI t := by
      rcases cr_has_cases (N := N) (sg := sg) (va := va) (f := f) (c := c) h.2.1.1.2.1 with z3 | z3
      · rw [z3] at zc7; exact absurd zc7 (by decide)
      · exact z3
    rw [et]
    refine g_cV1v dX10_goComer_12 ml_X10_252 mi_X10_takesNow mv_X10_takesNow h1.1.1 ⟨_, rfl, rfl⟩ (Nat.le_of_ble_eq_true rfl) rfl (by omega) ?_
    refine c_X10_takesNow (by omega) h1 ht (fun w2 hs2 h2 => ?_)
    refine g_iload_n dX10_goComer_15 rfl ?_
    refine g_iret dX10_goComer_16 rfl ⟨_, rfl, ?_⟩
    rw [← et]
    refine kk w2 ((hs.wk (by simp) (by simp)).tr (hs2.wk (by simp) (by simp))) ?_
    rw [me_nx_B (by have := h.2.1.1.2.1; omega) et]
    exact h2

/-! The reference: its reader, the levels' contracts -/
set_option maxHeartbeats 4000000 in
theorem s_X10_either {T f : Nat} {g : Nat → Int32} (IH : prC T g f 1) : prC T g (f + 1) 0 := by
  intro d op p N w k hf hd hop h hN kA kB
  show gx_C 0 0 d mX10_either [.ref 57] w (Qv k)
  refine gx_C_of' (L := [.ref 57]) (by decide +kernel) rfl (Nat.le_of_ble_eq_true rfl) ?_
  have hb := tp_j_b (g := g) (T := T) f 1 op p h.2.2.2.1
  unfold tpB at hb
  have hT := h.2.1.2.1
  refine g_aload_n dX10_either_0 rfl ?_
  refine g_cV0v dX10_either_1 ml_X10_218 mi_X10_both mv_X10_both h.1.1 ⟨_, rfl, rfl⟩ (Nat.le_of_ble_eq_true rfl) rfl (by omega) ?_
  refine IH (d := d - 1) (by omega) (by omega) hop h hN (fun hr w1 r1 => ?_) (fun hr w1 b1 => ?_)
  · have h1 := h.go r1 hb.2
    rw [j_go (by decide) hr, show (if (0 : Nat) = 2 then 1 else 120) = 120 from rfl] at kA kB
    exact l_X10_either IH (by omega) (by omega) hop 120 _ _ w1 (by omega) h1 (by omega) (fun q w' r' => kA q w' (r1.tr r')) (fun q w' b' => kB q w' (r1.bad b' (by omega)))
  · have h1 : moO w1 := h.1.same b1.1
    have hf1 : w_i w1 57 16 = nI (tp_j g T f 1 op p).2.1 := b1.2.2.1
    refine g_aload_n dX10_either_4 rfl ?_
    refine g_geti dX10_either_5 fl_X10_172 h1.1 ?_
    rw [hf1]
    refine g_if_ge (tgt := 44) dX10_either_8 (by decide) (fun zc8 => ?_) (fun zc8 => ?_)
    · refine g_vret dX10_either_44 rfl ⟨rfl, ?_⟩
      obtain ⟨q1, q2⟩ := j_bad (by decide) hr
      rw [q1] at kB
      exact kB q2 w1 b1
    · exact absurd (show (0 : Int32) ≤ nI (tp_j g T f 1 op p).2.1 from nI_pos' (by omega)) zc8
set_option maxHeartbeats 4000000 in
theorem s_X10_both {T f : Nat} {g : Nat → Int32} (IH : prC T g f 2) : prC T g (f + 1) 1 := by
  intro d op p N w k hf hd hop h hN kA kB
  show gx_C 0 0 d mX10_both [.ref 57] w (Qv k)
  refine gx_C_of' (L := [.ref 57]) (by decide +kernel) rfl (Nat.le_of_ble_eq_true rfl) ?_
  have hb := tp_j_b (g := g) (T := T) f 2 op p h.2.2.2.1
  unfold tpB at hb
  have hT := h.2.1.2.1
  refine g_aload_n dX10_both_0 rfl ?_
  refine g_cV0v dX10_both_1 ml_X10_215 mi_X10_compared mv_X10_compared h.1.1 ⟨_, rfl, rfl⟩ (Nat.le_of_ble_eq_true rfl) rfl (by omega) ?_
  refine IH (d := d - 1) (by omega) (by omega) hop h hN (fun hr w1 r1 => ?_) (fun hr w1 b1 => ?_)
  · have h1 := h.go r1 hb.2
    rw [j_go (by decide) hr, show (if (1 : Nat) = 2 then 1 else 120) = 120 from rfl] at kA kB
    exact l_X10_both IH (by omega) (by omega) hop 120 _ _ w1 (by omega) h1 (by omega) (fun q w' r' => kA q w' (r1.tr r')) (fun q w' b' => kB q w' (r1.bad b' (by omega)))
  · have h1 : moO w1 := h.1.same b1.1
    have hf1 : w_i w1 57 16 = nI (tp_j g T f 2 op p).2.1 := b1.2.2.1
    refine g_aload_n dX10_both_4 rfl ?_
    refine g_geti dX10_both_5 fl_X10_172 h1.1 ?_
    rw [hf1]
    refine g_if_ge (tgt := 44) dX10_both_8 (by decide) (fun zc8 => ?_) (fun zc8 => ?_)
    · refine g_vret dX10_both_44 rfl ⟨rfl, ?_⟩
      obtain ⟨q1, q2⟩ := j_bad (by decide) hr
      rw [q1] at kB
      exact kB q2 w1 b1
    · exact absurd (show (0 : Int32) ≤ nI (tp_j g T f 2 op p).2.1 from nI_pos' (by omega)) zc8
set_option maxHeartbeats 4000000 in
theorem s_X10_sum {T f : Nat} {g : Nat → Int32} (IH : prC T g f 4) : prC T g (f + 1) 3 := by
  intro d op p N w k hf hd hop h hN kA kB
  show gx_C 0 0 d mX10_sum [.ref 57] w (Qv k)
  refine gx_C_of' (L := [.ref 57, .retAddr 0]) (by decide +kernel) rfl (Nat.le_of_ble_eq_true rfl) ?_
  have hb := tp_j_b (g := g) (T := T) f 4 op p h.2.2.2.1
  unfold tpB at hb
  have hT := h.2.1.2.1
  refine g_aload_n dX10_sum_0 rfl ?_
  refine g_cV0v dX10_sum_1 ml_X10_209 mi_X10_product mv_X10_product h.1.1 ⟨_, rfl, rfl⟩ (Nat.le_of_ble_eq_true rfl) rfl (by omega) ?_
  refine IH (d := d - 1) (by omega) (by omega) hop h hN (fun hr w1 r1 => ?_) (fun hr w1 b1 => ?_)
  · have h1 := h.go r1 hb.2
    rw [j_go (by decide) hr, show (if (3 : Nat) = 2 then 1 else 120) = 120 from rfl] at kA kB
    exact l_X10_sum IH (by omega) (by omega) hop 120 _ _ (.retAddr 0) w1 (by omega) h1 (by omega) (fun q w' r' => kA q w' (r1.tr r')) (fun q w' b' => kB q w' (r1.bad b' (by omega)))
  · have h1 : moO w1 := h.1.same b1.1
    have hf1 : w_i w1 57 16 = nI (tp_j g T f 4 op p).2.1 := b1.2.2.1
    refine g_aload_n dX10_sum_4 rfl ?_
    refine g_geti dX10_sum_5 fl_X10_172 h1.1 ?_
    rw [hf1]
    refine g_if_ge (tgt := 57) dX10_sum_8 (by decide) (fun zc8 => ?_) (fun zc8 => ?_)
    · refine g_vret dX10_sum_57 rfl ⟨rfl, ?_⟩
      obtain ⟨q1, q2⟩ := j_bad (by decide) hr
      rw [q1] at kB
      exact kB q2 w1 b1
    · exact absurd (show (0 : Int32) ≤ nI (tp_j g T f 4 op p).2.1 from nI_pos' (by omega)) zc8
set_option maxHeartbeats 4000000 in
theorem s_X10_product {T f : Nat} {g : Nat → Int32} (IH : prC T g f 5) : prC T g (f + 1) 4 := by
  intro d op p N w k hf hd hop h hN kA kB
  show gx_C 0 0 d mX10_product [.ref 57] w (Qv k)
  refine gx_C_of' (L := [.ref 57, .retAddr 0]) (by decide +kernel) rfl (Nat.le_of_ble_eq_true rfl) ?_
  have hb := tp_j_b (g := g) (T := T) f 5 op p h.2.2.2.1
  unfold tpB at hb
  have hT := h.2.1.2.1
  refine g_aload_n dX10_product_0 rfl ?_
  refine g_cV0v dX10_product_1 ml_X10_200 mi_X10_operand mv_X10_operand h.1.1 ⟨_, rfl, rfl⟩ (Nat.le_of_ble_eq_true rfl) rfl (by omega) ?_
  refine IH (d := d - 1) (by omega) (by omega) hop h hN (fun hr w1 r1 => ?_) (fun hr w1 b1 => ?_)
  · have h1 := h.go r1 hb.2
    rw [j_go (by decide) hr, show (if (4 : Nat) = 2 then 1 else 120) = 120 from rfl] at kA kB
    exact l_X10_product IH (by omega) (by omega) hop 120 _ _ (.retAddr 0) w1 (by omega) h1 (by omega) (fun q w' r' => kA q w' (r1.tr r')) (fun q w' b' => kB q w' (r1.bad b' (by omega)))
  · have h1 : moO w1 := h.1.same b1.1
    have hf1 : w_i w1 57 16 = nI (tp_j g T f 5 op p).2.1 := b1.2.2.1
    refine g_aload_n dX10_product_4 rfl ?_
    refine g_geti dX10_product_5 fl_X10_172 h1.1 ?_
    rw [hf1]
    refine g_if_ge (tgt := 66) dX10_product_8 (by decide) (fun zc8 => ?_) (fun zc8 => ?_)
    · refine g_vret dX10_product_66 rfl ⟨rfl, ?_⟩
      obtain ⟨q1, q2⟩ := j_bad (by decide) hr
      rw [q1] at kB
      exact kB q2 w1 b1
    · exact absurd (show (0 : Int32) ≤ nI (tp_j g T f 5 op p).2.1 from nI_pos' (by omega)) zc8
set_option maxHeartbeats 4000000 in
theorem s_X10_compared {T f : Nat} {g : Nat → Int32} (IH : prC T g f 3) : prC T g (f + 1) 2 := by
  intro d op p N w k hf hd hop h hN kA kB
  show gx_C 0 0 d mX10_compared [.ref 57] w (Qv k)
  refine gx_C_of' (L := [.ref 57, .retAddr 0]) (by decide +kernel) rfl (Nat.le_of_ble_eq_true rfl) ?_
  have hb := tp_j_b (g := g) (T := T) f 3 op p h.2.2.2.1
  unfold tpB at hb
  have hT := h.2.1.2.1
  refine g_aload_n dX10_compared_0 rfl ?_
  refine g_cV0v dX10_compared_1 ml_X10_212 mi_X10_sum mv_X10_sum h.1.1 ⟨_, rfl, rfl⟩ (Nat.le_of_ble_eq_true rfl) rfl (by omega) ?_
  refine IH (d := d - 1) (by omega) (by omega) hop h hN (fun hr w1 r1 => ?_) (fun hr w1 b1 => ?_)
  · have h1 := h.go r1 hb.2
    rw [j_go (by decide) hr, show (if (2 : Nat) = 2 then 1 else 120) = 1 from rfl] at kA kB
    refine g_aload_n dX10_compared_4 rfl ?_
    refine g_cV0i dX10_compared_5 ml_X10_184 mi_X10_look mv_X10_look h1.1.1 ⟨_, rfl, rfl⟩ (Nat.le_of_ble_eq_true rfl) rfl (by omega) ?_
    refine c_X10_look (by omega) h1.1 h1.2.1 h1.2.2.1 h1.2.2.2.1 ?_
    refine g_istore_n dX10_compared_8 (Nat.le_of_ble_eq_true rfl) rfl ?_
    refine g_aload_n dX10_compared_9 rfl ?_
    refine g_geti dX10_compared_10 fl_X10_172 h1.1.1 ?_
    rw [h1.2.2.2.2.1]
    refine g_if_ge (tgt := 34) dX10_compared_13 (by decide) (fun zc13 => ?_) (fun zc13 => ?_)
    · refine g_vret dX10_compared_34 rfl ⟨rfl, ?_⟩
      exact absurd zc13 (by decide)
    · refine g_iload_n dX10_compared_16 rfl ?_
      refine g_bipush (v := 60) dX10_compared_17 rfl ?_
      refine g_icmp_eq (tgt := 35) dX10_compared_19 (by decide) (fun zc19 => ?_) (fun zc19 => ?_)
      · have hh : tp_h g T (tp_j g T f 3 op p).2.1 = nI 60 := (lk_c h.2.1 _ (by decide)).mp zc19
        have hj : tp_jn 2 (tp_h g T (tp_j g T f 3 op p).2.1) = true := by rw [hh]; decide
        have hlt : (tp_j g T f 3 op p).2.1 < T := tp_lt (tp_jn_ne hj)
        have h2 := h1.hr (p' := (tp_j g T f 3 op p).2.1 + 1) (by omega)
        have hb2 := tp_j_b (g := g) (T := T) f 3 op ((tp_j g T f 3 op p).2.1 + 1) (by omega)
        unfold tpB at hb2
        rw [zc19]
        refine g_aload_n dX10_compared_35 rfl ?_
        refine g_dup dX10_compared_36 rfl ?_
        refine g_geti dX10_compared_37 fl_X10_169 h1.1.1 ?_
        refine g_iconst (v := 1) dX10_compared_40 rfl ?_
        refine g_iadd dX10_compared_41 ?_
        rw [h1.at1]
        refine g_puti dX10_compared_42 fl_X10_169 ft_10_15 h1.1.1 ?_
        refine g_aload_n dX10_compared_45 rfl ?_
        refine g_cV0v dX10_compared_46 ml_X10_212 mi_X10_sum mv_X10_sum h1.1.1 ⟨_, rfl, rfl⟩ (Nat.le_of_ble_eq_true rfl) rfl (by omega) ?_
        refine IH (d := d - 1) (by omega) (by omega) hop h2 (by omega) (fun hr2 w3 r3 => ?_) (fun hr2 w3 b3 => ?_)
        · have h3 := h2.go r3 hb2.2
          refine g_aload_n dX10_compared_49 rfl ?_
          refine g_iload_n dX10_compared_50 rfl ?_
          refine g_iconst (v := 0) dX10_compared_51 rfl ?_
          refine g_cV2v dX10_compared_52 ml_X10_188 mi_X10_addStep mv_X10_addStep h3.1.1 ⟨_, rfl, rfl⟩ (Nat.le_of_ble_eq_true rfl) rfl (by omega) ?_
          refine c_X10_addStep (c := 60) (N := (N + (tp_j g T f 3 op p).2.2.length) + (tp_j g T f 3 op ((tp_j g T f 3 op p).2.1 + 1)).2.2.length) (by omega) h3.1 h3.2.2.2.2.2.2 (by omega) (by decide) ?_
          refine g_vret dX10_compared_55 rfl ⟨rfl, ?_⟩
          have r4 : prR w3 (adW w3 ((N + (tp_j g T f 3 op p).2.2.length) + (tp_j g T f 3 op ((tp_j g T f 3 op p).2.1 + 1)).2.2.length) (nI 60) 0) ((N + (tp_j g T f 3 op p).2.2.length) + (tp_j g T f 3 op ((tp_j g T f 3 op p).2.1 + 1)).2.2.length) (tp_j g T f 3 op ((tp_j g T f 3 op p).2.1 + 1)).2.1 [(nI 60, 0)] := h3.sg (by omega) (by decide)
          rw [lp_go hj hr2, hh] at kA
          have r5 := ((r1.tr h1.mv).tr' r3 (by simp) rfl).tr' r4 (by simp only [List.length_append, List.length_nil]; omega) rfl
          refine kA rfl _ ?_
          have r6 := r5
          simp only [List.append_nil, List.append_assoc] at r6
          exact r6
        · have h3 : moO w3 := h2.1.same b3.1
          refine g_aload_n dX10_compared_49 rfl ?_
          refine g_iload_n dX10_compared_50 rfl ?_
          refine g_iconst (v := 0) dX10_compared_51 rfl ?_
          refine g_cV2v dX10_compared_52 ml_X10_188 mi_X10_addStep mv_X10_addStep h3.1 ⟨_, rfl, rfl⟩ (Nat.le_of_ble_eq_true rfl) rfl (by omega) ?_
          refine c_addB (c := 60) (p := (tp_j g T f 3 op p).2.1) (N := (N + (tp_j g T f 3 op p).2.2.length)) h1.1 h1.s1 b3 (by omega) (by omega) (by decide) (fun w4 b4 => ?_)
          refine g_vret dX10_compared_55 rfl ⟨rfl, ?_⟩
          obtain ⟨q1, q2⟩ := lp_bad (z := 0) (by decide) hj hr2
          have e1 : (tp_ap (tp_j g T f 3 op p).2.2 (tp_lp g T (tp_j g T f 3 op) 2 (0 + 1) (tp_j g T f 3 op p).2.1)).2.1 = (tp_lp g T (tp_j g T f 3 op) 2 (0 + 1) (tp_j g T f 3 op p).2.1).2.1 := rfl
          rw [show (1 : Nat) = 0 + 1 from rfl, e1, q1] at kB
          exact kB q2 w4 (r1.bad b4 (by omega))
      · refine g_iload_n dX10_compared_22 rfl ?_
        refine g_bipush (v := 61) dX10_compared_23 rfl ?_
        refine g_icmp_eq (tgt := 35) dX10_compared_25 (by decide) (fun zc25 => ?_) (fun zc25 => ?_)
        · have hh : tp_h g T (tp_j g T f 3 op p).2.1 = nI 61 := (lk_c h.2.1 _ (by decide)).mp zc25
          have hj : tp_jn 2 (tp_h g T (tp_j g T f 3 op p).2.1) = true := by rw [hh]; decide
          have hlt : (tp_j g T f 3 op p).2.1 < T := tp_lt (tp_jn_ne hj)
          have h2 := h1.hr (p' := (tp_j g T f 3 op p).2.1 + 1) (by omega)
          have hb2 := tp_j_b (g := g) (T := T) f 3 op ((tp_j g T f 3 op p).2.1 + 1) (by omega)
          unfold tpB at hb2
          rw [zc25]
          refine g_aload_n dX10_compared_35 rfl ?_
          refine g_dup dX10_compared_36 rfl ?_
          refine g_geti dX10_compared_37 fl_X10_169 h1.1.1 ?_
          refine g_iconst (v := 1) dX10_compared_40 rfl ?_
          refine g_iadd dX10_compared_41 ?_
          rw [h1.at1]
          refine g_puti dX10_compared_42 fl_X10_169 ft_10_15 h1.1.1 ?_
          refine g_aload_n dX10_compared_45 rfl ?_
          refine g_cV0v dX10_compared_46 ml_X10_212 mi_X10_sum mv_X10_sum h1.1.1 ⟨_, rfl, rfl⟩ (Nat.le_of_ble_eq_true rfl) rfl (by omega) ?_
          refine IH (d := d - 1) (by omega) (by omega) hop h2 (by omega) (fun hr2 w3 r3 => ?_) (fun hr2 w3 b3 => ?_)
          · have h3 := h2.go r3 hb2.2
            refine g_aload_n dX10_compared_49 rfl ?_
            refine g_iload_n dX10_compared_50 rfl ?_
            refine g_iconst (v := 0) dX10_compared_51 rfl ?_
            refine g_cV2v dX10_compared_52 ml_X10_188 mi_X10_addStep mv_X10_addStep h3.1.1 ⟨_, rfl, rfl⟩ (Nat.le_of_ble_eq_true rfl) rfl (by omega) ?_
            refine c_X10_addStep (c := 61) (N := (N + (tp_j g T f 3 op p).2.2.length) + (tp_j g T f 3 op ((tp_j g T f 3 op p).2.1 + 1)).2.2.length) (by omega) h3.1 h3.2.2.2.2.2.2 (by omega) (by decide) ?_
            refine g_vret dX10_compared_55 rfl ⟨rfl, ?_⟩
            have r4 : prR w3 (adW w3 ((N + (tp_j g T f 3 op p).2.2.length) + (tp_j g T f 3 op ((tp_j g T f 3 op p).2.1 + 1)).2.2.length) (nI 61) 0) ((N + (tp_j g T f 3 op p).2.2.length) + (tp_j g T f 3 op ((tp_j g T f 3 op p).2.1 + 1)).2.2.length) (tp_j g T f 3 op ((tp_j g T f 3 op p).2.1 + 1)).2.1 [(nI 61, 0)] := h3.sg (by omega) (by decide)
            rw [lp_go hj hr2, hh] at kA
            have r5 := ((r1.tr h1.mv).tr' r3 (by simp) rfl).tr' r4 (by simp only [List.length_append, List.length_nil]; omega) rfl
            refine kA rfl _ ?_
            have r6 := r5
            simp only [List.append_nil, List.append_assoc] at r6
            exact r6
          · have h3 : moO w3 := h2.1.same b3.1
            refine g_aload_n dX10_compared_49 rfl ?_
            refine g_iload_n dX10_compared_50 rfl ?_
            refine g_iconst (v := 0) dX10_compared_51 rfl ?_
            refine g_cV2v dX10_compared_52 ml_X10_188 mi_X10_addStep mv_X10_addStep h3.1 ⟨_, rfl, rfl⟩ (Nat.le_of_ble_eq_true rfl) rfl (by omega) ?_
            refine c_addB (c := 61) (p := (tp_j g T f 3 op p).2.1) (N := (N + (tp_j g T f 3 op p).2.2.length)) h1.1 h1.s1 b3 (by omega) (by omega) (by decide) (fun w4 b4 => ?_)
            refine g_vret dX10_compared_55 rfl ⟨rfl, ?_⟩
            obtain ⟨q1, q2⟩ := lp_bad (z := 0) (by decide) hj hr2
            have e1 : (tp_ap (tp_j g T f 3 op p).2.2 (tp_lp g T (tp_j g T f 3 op) 2 (0 + 1) (tp_j g T f 3 op p).2.1)).2.1 = (tp_lp g T (tp_j g T f 3 op) 2 (0 + 1) (tp_j g T f 3 op p).2.1).2.1 := rfl
            rw [show (1 : Nat) = 0 + 1 from rfl, e1, q1] at kB
            exact kB q2 w4 (r1.bad b4 (by omega))
        · refine g_iload_n dX10_compared_28 rfl ?_
          refine g_bipush (v := 62) dX10_compared_29 rfl ?_
          refine g_icmp_eq (tgt := 35) dX10_compared_31 (by decide) (fun zc31 => ?_) (fun zc31 => ?_)
          · have hh : tp_h g T (tp_j g T f 3 op p).2.1 = nI 62 := (lk_c h.2.1 _ (by decide)).mp zc31
            have hj : tp_jn 2 (tp_h g T (tp_j g T f 3 op p).2.1) = true := by rw [hh]; decide
            have hlt : (tp_j g T f 3 op p).2.1 < T := tp_lt (tp_jn_ne hj)
            have h2 := h1.hr (p' := (tp_j g T f 3 op p).2.1 + 1) (by omega)
            have hb2 := tp_j_b (g := g) (T := T) f 3 op ((tp_j g T f 3 op p).2.1 + 1) (by omega)
            unfold tpB at hb2
            rw [zc31]
            refine g_aload_n dX10_compared_35 rfl ?_
            refine g_dup dX10_compared_36 rfl ?_
            refine g_geti dX10_compared_37 fl_X10_169 h1.1.1 ?_
            refine g_iconst (v := 1) dX10_compared_40 rfl ?_
            refine g_iadd dX10_compared_41 ?_
            rw [h1.at1]
            refine g_puti dX10_compared_42 fl_X10_169 ft_10_15 h1.1.1 ?_
            refine g_aload_n dX10_compared_45 rfl ?_
            refine g_cV0v dX10_compared_46 ml_X10_212 mi_X10_sum mv_X10_sum h1.1.1 ⟨_, rfl, rfl⟩ (Nat.le_of_ble_eq_true rfl) rfl (by omega) ?_
            refine IH (d := d - 1) (by omega) (by omega) hop h2 (by omega) (fun hr2 w3 r3 => ?_) (fun hr2 w3 b3 => ?_)
            · have h3 := h2.go r3 hb2.2
              refine g_aload_n dX10_compared_49 rfl ?_
              refine g_iload_n dX10_compared_50 rfl ?_
              refine g_iconst (v := 0) dX10_compared_51 rfl ?_
              refine g_cV2v dX10_compared_52 ml_X10_188 mi_X10_addStep mv_X10_addStep h3.1.1 ⟨_, rfl, rfl⟩ (Nat.le_of_ble_eq_true rfl) rfl (by omega) ?_
              refine c_X10_addStep (c := 62) (N := (N + (tp_j g T f 3 op p).2.2.length) + (tp_j g T f 3 op ((tp_j g T f 3 op p).2.1 + 1)).2.2.length) (by omega) h3.1 h3.2.2.2.2.2.2 (by omega) (by decide) ?_
              refine g_vret dX10_compared_55 rfl ⟨rfl, ?_⟩
              have r4 : prR w3 (adW w3 ((N + (tp_j g T f 3 op p).2.2.length) + (tp_j g T f 3 op ((tp_j g T f 3 op p).2.1 + 1)).2.2.length) (nI 62) 0) ((N + (tp_j g T f 3 op p).2.2.length) + (tp_j g T f 3 op ((tp_j g T f 3 op p).2.1 + 1)).2.2.length) (tp_j g T f 3 op ((tp_j g T f 3 op p).2.1 + 1)).2.1 [(nI 62, 0)] := h3.sg (by omega) (by decide)
              rw [lp_go hj hr2, hh] at kA
              have r5 := ((r1.tr h1.mv).tr' r3 (by simp) rfl).tr' r4 (by simp only [List.length_append, List.length_nil]; omega) rfl
              refine kA rfl _ ?_
              have r6 := r5
              simp only [List.append_nil, List.append_assoc] at r6
              exact r6
            · have h3 : moO w3 := h2.1.same b3.1
              refine g_aload_n dX10_compared_49 rfl ?_
              refine g_iload_n dX10_compared_50 rfl ?_
              refine g_iconst (v := 0) dX10_compared_51 rfl ?_
              refine g_cV2v dX10_compared_52 ml_X10_188 mi_X10_addStep mv_X10_addStep h3.1 ⟨_, rfl, rfl⟩ (Nat.le_of_ble_eq_true rfl) rfl (by omega) ?_
              refine c_addB (c := 62) (p := (tp_j g T f 3 op p).2.1) (N := (N + (tp_j g T f 3 op p).2.2.length)) h1.1 h1.s1 b3 (by omega) (by omega) (by decide) (fun w4 b4 => ?_)
              refine g_vret dX10_compared_55 rfl ⟨rfl, ?_⟩
              obtain ⟨q1, q2⟩ := lp_bad (z := 0) (by decide) hj hr2
              have e1 : (tp_ap (tp_j g T f 3 op p).2.2 (tp_lp g T (tp_j g T f 3 op) 2 (0 + 1) (tp_j g T f 3 op p).2.1)).2.1 = (tp_lp g T (tp_j g T f 3 op) 2 (0 + 1) (tp_j g T f 3 op p).2.1).2.1 := rfl
              rw [show (1 : Nat) = 0 + 1 from rfl, e1, q1] at kB
              exact kB q2 w4 (r1.bad b4 (by omega))
          · refine g_vret dX10_compared_34 rfl ⟨rfl, ?_⟩
            have n60 : ¬ tp_h g T (tp_j g T f 3 op p).2.1 = 60 := fun q => zc19 ((lk_c h.2.1 _ (c := 60) (by decide)).mpr q)
            have n61 : ¬ tp_h g T (tp_j g T f 3 op p).2.1 = 61 := fun q => zc25 ((lk_c h.2.1 _ (c := 61) (by decide)).mpr q)
            have n62 : ¬ tp_h g T (tp_j g T f 3 op p).2.1 = 62 := fun q => zc31 ((lk_c h.2.1 _ (c := 62) (by decide)).mpr q)
            have hj : tp_jn 2 (tp_h g T (tp_j g T f 3 op p).2.1) = false := by show (decide _ || (decide _ || decide _)) = false; rw [decide_eq_false n60, decide_eq_false n61, decide_eq_false n62]; rfl
            rw [lp_no hj] at kA
            refine kA rfl w1 ?_
            show prR w w1 N (tp_j g T f 3 op p).2.1 ((tp_j g T f 3 op p).2.2 ++ [])
            rw [List.append_nil]
            exact r1
  · have h1o : moO w1 := h.1.same b1.1
    have h1t : prT w1 T g := h.2.1.same b1.1 (by simp) (by simp)
    refine g_aload_n dX10_compared_4 rfl ?_
    refine g_cV0i dX10_compared_5 ml_X10_184 mi_X10_look mv_X10_look h1o.1 ⟨_, rfl, rfl⟩ (Nat.le_of_ble_eq_true rfl) rfl (by omega) ?_
    refine c_X10_look (by omega) h1o h1t b1.2.1 hb.2 ?_
    refine g_istore_n dX10_compared_8 (Nat.le_of_ble_eq_true rfl) rfl ?_
    refine g_aload_n dX10_compared_9 rfl ?_
    refine g_geti dX10_compared_10 fl_X10_172 h1o.1 ?_
    rw [b1.2.2.1]
    refine g_if_ge (tgt := 34) dX10_compared_13 (by decide) (fun zc13 => ?_) (fun zc13 => ?_)
    · refine g_vret dX10_compared_34 rfl ⟨rfl, ?_⟩
      obtain ⟨q1, q2⟩ := j_bad (by decide) hr
      rw [q1] at kB
      exact kB q2 w1 b1
    · exact absurd (show (0 : Int32) ≤ nI (tp_j g T f 3 op p).2.1 from nI_pos' (by omega)) zc13

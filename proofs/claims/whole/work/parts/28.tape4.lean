theorem tp_opn_of {s : Int32} (h : s = 40 ∨ s = 33 ∨ s = 45) : tp_opn s = true := by
  rcases h with rfl | rfl | rfl <;> decide
/-! Tape: the reader, by induction -/
set_option maxHeartbeats 8000000 in
theorem l_X6_readJoined {d f l T lv op M : Nat} {g : Nat → Int32} {k : Int32 → gx_W → Prop} (IH : tpJC l T g f) (hf : (6 - op) * 6 + (5 - lv) ≤ f) (hd7 : 3 * f + 7 ≤ d) (hlv : lv < 5) (hop : op ≤ 6) (hM : M ≤ 120) : ∀ (z i p N : Nat) (x6 : Value) (w : gx_W), i + z = M → tpI w l T g p N → N ≤ p + 1 → ((tp_lp g T (tp_j g T f (lv + 1) op) lv z p).1 = true → ∀ w', tpR w w' l N (tp_lp g T (tp_j g T f (lv + 1) op) lv z p).2.1 (tp_lp g T (tp_j g T f (lv + 1) op) lv z p).2.2 → k 1 w') → ((tp_lp g T (tp_j g T f (lv + 1) op) lv z p).1 = false → ∀ w', tpR w w' l N (tp_lp g T (tp_j g T f (lv + 1) op) lv z p).2.1 (tp_lp g T (tp_j g T f (lv + 1) op) lv z p).2.2 → k 0 w') → gx_G 0 0 d mX6_readJoined (Qi k) 42 [.ref 7, .ref l, .int (nI lv), .int (nI op), .int (nI M), .int (nI i), x6] [] w := by
  intro z
  induction z with
  | zero =>
    intro i p N x6 w hi h hN kt kf
    have e : i = M := by omega
    subst e
    refine g_iload dX6_readJoined_42 rfl ?_
    refine g_iload dX6_readJoined_44 rfl ?_
    refine g_icmp_ge (tgt := 103) dX6_readJoined_46 (by decide) (fun zc46 => ?_) (fun zc46 => ?_)
    · refine g_iconst (v := 1) dX6_readJoined_103 rfl ?_
      refine g_zret dX6_readJoined_104 rfl (Or.inr rfl) ⟨_, rfl, ?_⟩
      exact kt rfl w h.rf
    · exact absurd (Int32.le_refl _) zc46
  | succ z ih =>
    intro i p N x6 w hi h hN kt kf
    have hT := h.1.2.2.1
    have hp := h.2.2.2.1
    refine g_iload dX6_readJoined_42 rfl ?_
    refine g_iload dX6_readJoined_44 rfl ?_
    refine g_icmp_ge (tgt := 103) dX6_readJoined_46 (by decide) (fun zc46 => ?_) (fun zc46 => ?_)
    · refine g_iconst (v := 1) dX6_readJoined_103 rfl ?_
      refine g_zret dX6_readJoined_104 rfl (Or.inr rfl) ⟨_, rfl, ?_⟩
      exact absurd zc46 (nI_ge (by omega) (by omega))
    · refine g_iload_n dX6_readJoined_49 rfl ?_
      refine g_aload_n dX6_readJoined_50 rfl ?_
      refine g_cV0i dX6_readJoined_51 ml_X6_36 mi_X6_here mv_X6_here h.1.1.1 ⟨_, rfl, rfl⟩ (Nat.le_of_ble_eq_true rfl) rfl (by omega) ?_
      refine c_X6_here (by omega) h.1 h.2.2.1 h.2.2.2.1 ?_
      refine g_cS2i dX6_readJoined_54 ml_X6_52 mi_X6_joins ms_X6_joins (Nat.le_of_ble_eq_true rfl) rfl (by omega) ?_
      refine c_X6_joins (by omega) hlv (fun e54 => ?_) (fun e54 => ?_)
      · refine g_if_eq (tgt := 103) dX6_readJoined_57 (by decide) (fun q => absurd q (by decide)) (fun _ => ?_)
        refine g_aload_n dX6_readJoined_60 rfl ?_
        refine g_cV0i dX6_readJoined_61 ml_X6_36 mi_X6_here mv_X6_here h.1.1.1 ⟨_, rfl, rfl⟩ (Nat.le_of_ble_eq_true rfl) rfl (by omega) ?_
        refine c_X6_here (by omega) h.1 h.2.2.1 h.2.2.2.1 ?_
        refine g_istore dX6_readJoined_64 (Nat.le_of_ble_eq_true rfl) rfl ?_
        refine g_aload_n dX6_readJoined_66 rfl ?_
        refine g_dup dX6_readJoined_67 rfl ?_
        refine g_geti dX6_readJoined_68 fl_X6_26 h.1.1.1 ?_
        refine g_iconst (v := 1) dX6_readJoined_71 rfl ?_
        refine g_iadd dX6_readJoined_72 ?_
        refine g_puti dX6_readJoined_73 fl_X6_26 ft_6_2 h.1.1.1 ?_
        rw [h.up]
        have hlt := tp_lt (tp_jn_ne e54)
        have r := h.mv
        have h := h.step r (by omega) (by simp only [List.length_nil]; omega)
        refine g_aload_n dX6_readJoined_76 rfl ?_
        refine g_aload_n dX6_readJoined_77 rfl ?_
        refine g_iload_n dX6_readJoined_78 rfl ?_
        refine g_iconst (v := 1) dX6_readJoined_79 rfl ?_
        refine g_iadd dX6_readJoined_80 ?_
        rw [show (nI lv : Int32) + 1 = nI (lv + 1) from (nI_succ lv).symm]
        refine g_iload_n dX6_readJoined_81 rfl ?_
        refine g_cV3i dX6_readJoined_82 ml_X6_40 mi_X6_readJoined mv_X6_readJoined h.1.1.1 ⟨_, rfl, rfl⟩ (Nat.le_of_ble_eq_true rfl) rfl (by omega) ?_
        refine IH (lv := lv + 1) (by omega) (by omega) (by omega) hop h (by simp only [List.length_nil]; omega) (fun e82 w1 r1 => ?_) (fun e82 w1 r1 => ?_)
        · refine g_if_ne (tgt := 90) dX6_readJoined_85 (by decide) (fun _ => ?_) (fun q => absurd q (by decide))
          have b := tp_j_b (g := g) (T := T) f (lv + 1) op (p + 1) (by omega)
          simp only [List.length_nil, Nat.add_zero] at h r1
          have h := h.step r1 b.2 (by have := b.1; have := b.2; omega)
          refine g_aload_n dX6_readJoined_90 rfl ?_
          refine g_iload dX6_readJoined_91 rfl ?_
          refine g_iconst (v := 0) dX6_readJoined_93 rfl ?_
          refine g_cV2v dX6_readJoined_94 ml_X6_44 mi_X4_add mv_X4_add h.2.1.1 ⟨_, rfl, rfl⟩ (Nat.le_of_ble_eq_true rfl) rfl (by omega) ?_
          refine c_adds h (by have := b.1; have := b.2; omega) (fun w2 r2 => ?_)
          have h := h.step r2 b.2 (by have := b.1; have := b.2; simp only [List.length_cons, List.length_nil]; omega)
          refine g_iinc dX6_readJoined_97 rfl rfl ?_
          refine g_goto (tgt := 42) dX6_readJoined_100 (by decide) ?_
          rw [nI_1']
          rw [show tp_lp g T (tp_j g T f (lv + 1) op) lv (z + 1) p = ((tp_lp g T (tp_j g T f (lv + 1) op) lv z (tp_j g T f (lv + 1) op (p + 1)).2.1).1, (tp_lp g T (tp_j g T f (lv + 1) op) lv z (tp_j g T f (lv + 1) op (p + 1)).2.1).2.1, (tp_j g T f (lv + 1) op (p + 1)).2.2 ++ (tp_h g T p, 0) :: (tp_lp g T (tp_j g T f (lv + 1) op) lv z (tp_j g T f (lv + 1) op (p + 1)).2.1).2.2) from (if_pos e54).trans (if_pos e82)] at kt kf
          refine ih (i + 1) _ _ _ _ (by omega) h (by have := b.1; simp only [List.length_cons, List.length_nil]; omega) (fun e w' r' => kt e w' ?_) (fun e w' r' => kf e w' ?_)
          · exact ((r.tr' r1 rfl rfl).tr' r2 rfl rfl).tr' r' (by simp only [List.length_append, List.length_cons, List.length_nil]; omega) (by simp)
          · exact ((r.tr' r1 rfl rfl).tr' r2 rfl rfl).tr' r' (by simp only [List.length_append, List.length_cons, List.length_nil]; omega) (by simp)
        · refine g_if_ne (tgt := 90) dX6_readJoined_85 (by decide) (fun q => absurd q (by decide)) (fun _ => ?_)
          refine g_iconst (v := 0) dX6_readJoined_88 rfl ?_
          refine g_zret dX6_readJoined_89 rfl (Or.inl rfl) ⟨_, rfl, ?_⟩
          rw [show tp_lp g T (tp_j g T f (lv + 1) op) lv (z + 1) p = (false, (tp_j g T f (lv + 1) op (p + 1)).2.1, (tp_j g T f (lv + 1) op (p + 1)).2.2) from (if_pos e54).trans (if_neg (by rw [e82]; decide))] at kf
          exact kf rfl w1 (r.tr' r1 rfl rfl)
      · refine g_if_eq (tgt := 103) dX6_readJoined_57 (by decide) (fun _ => ?_) (fun q => absurd q (by decide))
        refine g_iconst (v := 1) dX6_readJoined_103 rfl ?_
        refine g_zret dX6_readJoined_104 rfl (Or.inr rfl) ⟨_, rfl, ?_⟩
        rw [show tp_lp g T (tp_j g T f (lv + 1) op) lv (z + 1) p = (true, p, []) from if_neg (by rw [e54]; decide)] at kt
        exact kt rfl w h.rf
set_option maxHeartbeats 8000000 in
theorem s_X6_readOperand {l T f : Nat} {g : Nat → Int32} (IJ : tpJC l T g f) (IO : tpOC l T g f) : tpOC l T g (f + 1) := by
  intro d op p N w k hf hd hop h hN kt kf
  have hT := h.1.2.2.1
  have hp := h.2.2.2.1
  rw [show tp_j g T (f + 1) 5 op p = tp_op g T (tp_j g T f) op p from rfl] at kt kf
  refine gx_C_of' (L := [.ref 7, .ref l, .int (nI op), .retAddr 0, .retAddr 0, .retAddr 0]) (by decide +kernel) rfl (Nat.le_of_ble_eq_true rfl) ?_
  refine g_aload_n dX6_readOperand_0 rfl ?_
  refine g_cV0i dX6_readOperand_1 ml_X6_36 mi_X6_here mv_X6_here h.1.1.1 ⟨_, rfl, rfl⟩ (Nat.le_of_ble_eq_true rfl) rfl (by omega) ?_
  refine c_X6_here (by omega) h.1 h.2.2.1 h.2.2.2.1 ?_
  refine g_istore_n dX6_readOperand_4 (Nat.le_of_ble_eq_true rfl) rfl ?_
  refine g_iload_n dX6_readOperand_5 rfl ?_
  refine g_cS1i dX6_readOperand_6 ml_X6_56 mi_X6_isDigit ms_X6_isDigit (Nat.le_of_ble_eq_true rfl) rfl (by omega) ?_
  refine c_X6_isDigit (by omega) (fun e6 => ?_) (fun e6 => ?_)
  · refine g_if_eq (tgt := 19) dX6_readOperand_9 (by decide) (fun q => absurd q (by decide)) (fun _ => ?_)
    refine g_aload_n dX6_readOperand_12 rfl ?_
    refine g_aload_n dX6_readOperand_13 rfl ?_
    refine g_cV1v dX6_readOperand_14 ml_X6_60 mi_X6_readNumber mv_X6_readNumber h.1.1.1 ⟨_, rfl, rfl⟩ (Nat.le_of_ble_eq_true rfl) rfl (by omega) ?_
    refine c_X6_readNumber (by omega) h (by omega) (fun w1 r1 => ?_)
    refine g_iconst (v := 1) dX6_readOperand_17 rfl ?_
    refine g_zret dX6_readOperand_18 rfl (Or.inr rfl) ⟨_, rfl, ?_⟩
    rw [show tp_op g T (tp_j g T f) op p = (true, (tp_num g T 4 p 0).1, [(48, (tp_num g T 4 p 0).2)]) from if_pos e6] at kt
    exact kt rfl w1 r1
  · refine g_if_eq (tgt := 19) dX6_readOperand_9 (by decide) (fun _ => ?_) (fun q => absurd q (by decide))
    refine g_iload_n dX6_readOperand_19 rfl ?_
    refine g_cS1i dX6_readOperand_20 ml_X6_64 mi_X6_nameOf ms_X6_nameOf (Nat.le_of_ble_eq_true rfl) rfl (by omega) ?_
    refine c_X6_nameOf (by omega) ?_
    refine g_istore dX6_readOperand_23 (Nat.le_of_ble_eq_true rfl) rfl ?_
    refine g_iload dX6_readOperand_25 rfl ?_
    refine g_if_lt (tgt := 50) dX6_readOperand_27 (by decide) (fun zc27 => ?_) (fun zc27 => ?_)
    · refine g_iload_n dX6_readOperand_50 rfl ?_
      refine g_bipush (v := 40) dX6_readOperand_51 rfl ?_
      refine g_icmp_eq (tgt := 68) dX6_readOperand_53 (by decide) (fun zc53 => ?_) (fun zc53 => ?_)
      · refine g_iconst (v := 1) dX6_readOperand_68 rfl ?_
        refine g_goto (tgt := 73) dX6_readOperand_69 (by decide) ?_
        refine g_istore dX6_readOperand_73 (Nat.le_of_ble_eq_true rfl) rfl ?_
        refine g_iload dX6_readOperand_75 rfl ?_
        refine g_if_eq (tgt := 86) dX6_readOperand_77 (by decide) (fun q => absurd q (by decide)) (fun _ => ?_)
        refine g_iload_n dX6_readOperand_80 rfl ?_
        refine g_bipush (v := 6) dX6_readOperand_81 rfl ?_
        refine g_icmp_lt (tgt := 88) dX6_readOperand_83 (by decide) (fun zc83 => ?_) (fun zc83 => ?_)
        · refine g_aload_n dX6_readOperand_88 rfl ?_
          refine g_dup dX6_readOperand_89 rfl ?_
          refine g_geti dX6_readOperand_90 fl_X6_26 h.1.1.1 ?_
          refine g_iconst (v := 1) dX6_readOperand_93 rfl ?_
          refine g_iadd dX6_readOperand_94 ?_
          refine g_puti dX6_readOperand_95 fl_X6_26 ft_6_2 h.1.1.1 ?_
          have eop : tp_opn (tp_h g T p) = true := tp_opn_of (by first | exact Or.inl zc53 | exact Or.inr (Or.inl zc59) | exact Or.inr (Or.inr zc65) | exact Or.inr (Or.inr (Classical.not_not.mp zc65)))
          have hop6 : op < 6 := by
            have c := zc83
            rw [pI_lt, nI_toInt (by omega)] at c
            have e : (6 : Int32).toInt = 6 := by decide
            omega
          rw [show tp_op g T (tp_j g T f) op p = (if tp_h g T p = 40 then tp_br g T (tp_j g T f 0 (op + 1) (p + 1)) else tp_sg (tp_h g T p) (tp_j g T f 5 (op + 1) (p + 1))) from (if_neg (by rw [e6]; decide)).trans ((if_neg (fun q => q zc27)).trans (if_pos ⟨eop, hop6⟩))] at kt kf
          rw [h.up]
          have hlt := tp_lt (g := g) (T := T) (p := p) (tp_opn_ne eop)
          have r := h.mv
          have h := h.step r (by omega) (by simp only [List.length_nil]; omega)
          refine g_iload_n dX6_readOperand_98 rfl ?_
          refine g_bipush (v := 40) dX6_readOperand_99 rfl ?_
          refine g_icmp_ne (tgt := 115) dX6_readOperand_101 (by decide) (fun zc101 => ?_) (fun zc101 => ?_)
          · exact absurd zc53 zc101
          · rw [if_pos zc53] at kt kf
            refine g_aload_n dX6_readOperand_104 rfl ?_
            refine g_aload_n dX6_readOperand_105 rfl ?_
            refine g_iload_n dX6_readOperand_106 rfl ?_
            refine g_iconst (v := 1) dX6_readOperand_107 rfl ?_
            refine g_iadd dX6_readOperand_108 ?_
            rw [show (nI op : Int32) + 1 = nI (op + 1) from (nI_succ op).symm]
            refine g_cV2i dX6_readOperand_109 ml_X6_68 mi_X6_readBracket mv_X6_readBracket h.1.1.1 ⟨_, rfl, rfl⟩ (Nat.le_of_ble_eq_true rfl) rfl (by omega) ?_
            refine c_X6_readBracket (Nat.zero_le _) IJ (by omega) (by omega) (by omega) h (by simp only [List.length_nil]; omega) (fun e109 w1 r1 => ?_) (fun e109 w1 r1 => ?_)
            · refine g_goto (tgt := 124) dX6_readOperand_112 (by decide) ?_
              refine g_zret dX6_readOperand_124 rfl (Or.inr rfl) ⟨_, rfl, ?_⟩
              exact kt e109 w1 (r.tr' r1 rfl rfl)
            · refine g_goto (tgt := 124) dX6_readOperand_112 (by decide) ?_
              refine g_zret dX6_readOperand_124 rfl (Or.inl rfl) ⟨_, rfl, ?_⟩
              exact kf e109 w1 (r.tr' r1 rfl rfl)
        · refine g_iconst (v := 0) dX6_readOperand_86 rfl ?_
          refine g_zret dX6_readOperand_87 rfl (Or.inl rfl) ⟨_, rfl, ?_⟩
          have hop6 : 6 ≤ op := by
            have c := zc83
            rw [pI_lt, nI_toInt (by omega)] at c
            have e : (6 : Int32).toInt = 6 := by decide
            omega
          rw [show tp_op g T (tp_j g T f) op p = (false, p, []) from (if_neg (by rw [e6]; decide)).trans ((if_neg (fun q => q zc27)).trans (if_neg (fun q => by have := q.2; omega)))] at kf
          exact kf rfl w h.rf
      · refine g_iload_n dX6_readOperand_56 rfl ?_
        refine g_bipush (v := 33) dX6_readOperand_57 rfl ?_
        refine g_icmp_eq (tgt := 68) dX6_readOperand_59 (by decide) (fun zc59 => ?_) (fun zc59 => ?_)
        · refine g_iconst (v := 1) dX6_readOperand_68 rfl ?_
          refine g_goto (tgt := 73) dX6_readOperand_69 (by decide) ?_
          refine g_istore dX6_readOperand_73 (Nat.le_of_ble_eq_true rfl) rfl ?_
          refine g_iload dX6_readOperand_75 rfl ?_
          refine g_if_eq (tgt := 86) dX6_readOperand_77 (by decide) (fun q => absurd q (by decide)) (fun _ => ?_)
          refine g_iload_n dX6_readOperand_80 rfl ?_
          refine g_bipush (v := 6) dX6_readOperand_81 rfl ?_
          refine g_icmp_lt (tgt := 88) dX6_readOperand_83 (by decide) (fun zc83 => ?_) (fun zc83 => ?_)
          · refine g_aload_n dX6_readOperand_88 rfl ?_
            refine g_dup dX6_readOperand_89 rfl ?_
            refine g_geti dX6_readOperand_90 fl_X6_26 h.1.1.1 ?_
            refine g_iconst (v := 1) dX6_readOperand_93 rfl ?_
            refine g_iadd dX6_readOperand_94 ?_
            refine g_puti dX6_readOperand_95 fl_X6_26 ft_6_2 h.1.1.1 ?_
            have eop : tp_opn (tp_h g T p) = true := tp_opn_of (by first | exact Or.inl zc53 | exact Or.inr (Or.inl zc59) | exact Or.inr (Or.inr zc65) | exact Or.inr (Or.inr (Classical.not_not.mp zc65)))
            have hop6 : op < 6 := by
              have c := zc83
              rw [pI_lt, nI_toInt (by omega)] at c
              have e : (6 : Int32).toInt = 6 := by decide
              omega
            rw [show tp_op g T (tp_j g T f) op p = (if tp_h g T p = 40 then tp_br g T (tp_j g T f 0 (op + 1) (p + 1)) else tp_sg (tp_h g T p) (tp_j g T f 5 (op + 1) (p + 1))) from (if_neg (by rw [e6]; decide)).trans ((if_neg (fun q => q zc27)).trans (if_pos ⟨eop, hop6⟩))] at kt kf
            rw [h.up]
            have hlt := tp_lt (g := g) (T := T) (p := p) (tp_opn_ne eop)
            have r := h.mv
            have h := h.step r (by omega) (by simp only [List.length_nil]; omega)
            refine g_iload_n dX6_readOperand_98 rfl ?_
            refine g_bipush (v := 40) dX6_readOperand_99 rfl ?_
            refine g_icmp_ne (tgt := 115) dX6_readOperand_101 (by decide) (fun zc101 => ?_) (fun zc101 => ?_)
            · rw [if_neg zc101] at kt kf
              refine g_aload_n dX6_readOperand_115 rfl ?_
              refine g_aload_n dX6_readOperand_116 rfl ?_
              refine g_iload_n dX6_readOperand_117 rfl ?_
              refine g_iload_n dX6_readOperand_118 rfl ?_
              refine g_iconst (v := 1) dX6_readOperand_119 rfl ?_
              refine g_iadd dX6_readOperand_120 ?_
              rw [show (nI op : Int32) + 1 = nI (op + 1) from (nI_succ op).symm]
              refine g_cV3i dX6_readOperand_121 ml_X6_71 mi_X6_readSigned mv_X6_readSigned h.1.1.1 ⟨_, rfl, rfl⟩ (Nat.le_of_ble_eq_true rfl) rfl (by omega) ?_
              refine c_X6_readSigned (Nat.zero_le _) IO (by omega) (by omega) (by omega) h (by simp only [List.length_nil]; omega) (fun e121 w1 r1 => ?_) (fun e121 w1 r1 => ?_)
              · refine g_zret dX6_readOperand_124 rfl (Or.inr rfl) ⟨_, rfl, ?_⟩
                exact kt e121 w1 (r.tr' r1 rfl rfl)
              · refine g_zret dX6_readOperand_124 rfl (Or.inl rfl) ⟨_, rfl, ?_⟩
                exact kf e121 w1 (r.tr' r1 rfl rfl)
            · exact absurd (show tp_h g T p = 40 by first | exact zc101 | exact Classical.not_not.mp zc101) (by rw [show tp_h g T p = 33 from zc59]; decide)
          · refine g_iconst (v := 0) dX6_readOperand_86 rfl ?_
            refine g_zret dX6_readOperand_87 rfl (Or.inl rfl) ⟨_, rfl, ?_⟩
            have hop6 : 6 ≤ op := by
              have c := zc83
              rw [pI_lt, nI_toInt (by omega)] at c
              have e : (6 : Int32).toInt = 6 := by decide
              omega
            rw [show tp_op g T (tp_j g T f) op p = (false, p, []) from (if_neg (by rw [e6]; decide)).trans ((if_neg (fun q => q zc27)).trans (if_neg (fun q => by have := q.2; omega)))] at kf
            exact kf rfl w h.rf
        · refine g_iload_n dX6_readOperand_62 rfl ?_
          refine g_bipush (v := 45) dX6_readOperand_63 rfl ?_
          refine g_icmp_ne (tgt := 72) dX6_readOperand_65 (by decide) (fun zc65 => ?_) (fun zc65 => ?_)
          · refine g_iconst (v := 0) dX6_readOperand_72 rfl ?_
            refine g_istore dX6_readOperand_73 (Nat.le_of_ble_eq_true rfl) rfl ?_
            refine g_iload dX6_readOperand_75 rfl ?_
            refine g_if_eq (tgt := 86) dX6_readOperand_77 (by decide) (fun _ => ?_) (fun q => absurd q (by decide))
            refine g_iconst (v := 0) dX6_readOperand_86 rfl ?_
            refine g_zret dX6_readOperand_87 rfl (Or.inl rfl) ⟨_, rfl, ?_⟩
            rw [show tp_op g T (tp_j g T f) op p = (false, p, []) from (if_neg (by rw [e6]; decide)).trans ((if_neg (fun q => q zc27)).trans (if_neg (fun q => by
              have q1 := q.1
              simp [tp_opn] at q1
              rcases q1 with q1 | q1 | q1
              · exact zc53 q1
              · exact zc59 q1
              · exact zc65 q1)))] at kf
            exact kf rfl w h.rf
          · refine g_iconst (v := 1) dX6_readOperand_68 rfl ?_
            refine g_goto (tgt := 73) dX6_readOperand_69 (by decide) ?_
            refine g_istore dX6_readOperand_73 (Nat.le_of_ble_eq_true rfl) rfl ?_
            refine g_iload dX6_readOperand_75 rfl ?_
            refine g_if_eq (tgt := 86) dX6_readOperand_77 (by decide) (fun q => absurd q (by decide)) (fun _ => ?_)
            refine g_iload_n dX6_readOperand_80 rfl ?_
            refine g_bipush (v := 6) dX6_readOperand_81 rfl ?_
            refine g_icmp_lt (tgt := 88) dX6_readOperand_83 (by decide) (fun zc83 => ?_) (fun zc83 => ?_)
            · refine g_aload_n dX6_readOperand_88 rfl ?_
              refine g_dup dX6_readOperand_89 rfl ?_
              refine g_geti dX6_readOperand_90 fl_X6_26 h.1.1.1 ?_
              refine g_iconst (v := 1) dX6_readOperand_93 rfl ?_
              refine g_iadd dX6_readOperand_94 ?_
              refine g_puti dX6_readOperand_95 fl_X6_26 ft_6_2 h.1.1.1 ?_
              have eop : tp_opn (tp_h g T p) = true := tp_opn_of (by first | exact Or.inl zc53 | exact Or.inr (Or.inl zc59) | exact Or.inr (Or.inr zc65) | exact Or.inr (Or.inr (Classical.not_not.mp zc65)))
              have hop6 : op < 6 := by
                have c := zc83
                rw [pI_lt, nI_toInt (by omega)] at c
                have e : (6 : Int32).toInt = 6 := by decide
                omega
              rw [show tp_op g T (tp_j g T f) op p = (if tp_h g T p = 40 then tp_br g T (tp_j g T f 0 (op + 1) (p + 1)) else tp_sg (tp_h g T p) (tp_j g T f 5 (op + 1) (p + 1))) from (if_neg (by rw [e6]; decide)).trans ((if_neg (fun q => q zc27)).trans (if_pos ⟨eop, hop6⟩))] at kt kf
              rw [h.up]
              have hlt := tp_lt (g := g) (T := T) (p := p) (tp_opn_ne eop)
              have r := h.mv
              have h := h.step r (by omega) (by simp only [List.length_nil]; omega)
              refine g_iload_n dX6_readOperand_98 rfl ?_
              refine g_bipush (v := 40) dX6_readOperand_99 rfl ?_
              refine g_icmp_ne (tgt := 115) dX6_readOperand_101 (by decide) (fun zc101 => ?_) (fun zc101 => ?_)
              · rw [if_neg zc101] at kt kf
                refine g_aload_n dX6_readOperand_115 rfl ?_
                refine g_aload_n dX6_readOperand_116 rfl ?_
                refine g_iload_n dX6_readOperand_117 rfl ?_
                refine g_iload_n dX6_readOperand_118 rfl ?_
                refine g_iconst (v := 1) dX6_readOperand_119 rfl ?_
                refine g_iadd dX6_readOperand_120 ?_
                rw [show (nI op : Int32) + 1 = nI (op + 1) from (nI_succ op).symm]
                refine g_cV3i dX6_readOperand_121 ml_X6_71 mi_X6_readSigned mv_X6_readSigned h.1.1.1 ⟨_, rfl, rfl⟩ (Nat.le_of_ble_eq_true rfl) rfl (by omega) ?_
                refine c_X6_readSigned (Nat.zero_le _) IO (by omega) (by omega) (by omega) h (by simp only [List.length_nil]; omega) (fun e121 w1 r1 => ?_) (fun e121 w1 r1 => ?_)
                · refine g_zret dX6_readOperand_124 rfl (Or.inr rfl) ⟨_, rfl, ?_⟩
                  exact kt e121 w1 (r.tr' r1 rfl rfl)
                · refine g_zret dX6_readOperand_124 rfl (Or.inl rfl) ⟨_, rfl, ?_⟩
                  exact kf e121 w1 (r.tr' r1 rfl rfl)
              · exact absurd (show tp_h g T p = 40 by first | exact zc101 | exact Classical.not_not.mp zc101) (by rw [show tp_h g T p = 45 from (by first | exact zc65 | exact Classical.not_not.mp zc65)]; decide)
            · refine g_iconst (v := 0) dX6_readOperand_86 rfl ?_
              refine g_zret dX6_readOperand_87 rfl (Or.inl rfl) ⟨_, rfl, ?_⟩
              have hop6 : 6 ≤ op := by
                have c := zc83
                rw [pI_lt, nI_toInt (by omega)] at c
                have e : (6 : Int32).toInt = 6 := by decide
                omega
              rw [show tp_op g T (tp_j g T f) op p = (false, p, []) from (if_neg (by rw [e6]; decide)).trans ((if_neg (fun q => q zc27)).trans (if_neg (fun q => by have := q.2; omega)))] at kf
              exact kf rfl w h.rf
    · refine g_aload_n dX6_readOperand_30 rfl ?_
      refine g_dup dX6_readOperand_31 rfl ?_
      refine g_geti dX6_readOperand_32 fl_X6_26 h.1.1.1 ?_
      refine g_iconst (v := 1) dX6_readOperand_35 rfl ?_
      refine g_iadd dX6_readOperand_36 ?_
      refine g_puti dX6_readOperand_37 fl_X6_26 ft_6_2 h.1.1.1 ?_
      rw [h.up]
      have hlt := tp_lt (g := g) (T := T) (p := p) (tp_nm_ne zc27)
      have r := h.mv
      have h := h.step r (by omega) (by simp only [List.length_nil]; omega)
      refine g_aload_n dX6_readOperand_40 rfl ?_
      refine g_bipush (v := 110) dX6_readOperand_41 rfl ?_
      refine g_iload dX6_readOperand_43 rfl ?_
      refine g_cV2v dX6_readOperand_45 ml_X6_44 mi_X4_add mv_X4_add h.2.1.1 ⟨_, rfl, rfl⟩ (Nat.le_of_ble_eq_true rfl) rfl (by omega) ?_
      refine c_adds h (by simp only [List.length_nil]; omega) (fun w1 r1 => ?_)
      refine g_iconst (v := 1) dX6_readOperand_48 rfl ?_
      refine g_zret dX6_readOperand_49 rfl (Or.inr rfl) ⟨_, rfl, ?_⟩
      rw [show tp_op g T (tp_j g T f) op p = (true, p + 1, [(110, tp_nm (tp_h g T p))]) from (if_neg (by rw [e6]; decide)).trans (if_pos zc27)] at kt
      exact kt rfl w1 (r.tr' r1 rfl rfl)
set_option maxHeartbeats 8000000 in
theorem s_X6_readJoined {l T f : Nat} {g : Nat → Int32} (IJ : tpJC l T g f) (IO : tpOC l T g (f + 1)) : tpJC l T g (f + 1) := by
  intro d lv op p N w k hf hd hlv hop h hN kt kf
  have hT := h.1.2.2.1
  have hp := h.2.2.2.1
  refine gx_C_of' (L := [.ref 7, .ref l, .int (nI lv), .int (nI op), .retAddr 0, .retAddr 0, .retAddr 0]) (by decide +kernel) rfl (Nat.le_of_ble_eq_true rfl) ?_
  refine g_iload_n dX6_readJoined_0 rfl ?_
  refine g_iconst (v := 5) dX6_readJoined_1 rfl ?_
  refine g_icmp_lt (tgt := 12) dX6_readJoined_2 (by decide) (fun zc2 => ?_) (fun zc2 => ?_)
  · have hlv5 : lv < 5 := by
      have c := zc2
      rw [pI_lt, nI_toInt (by omega)] at c
      have e : (5 : Int32).toInt = 5 := by decide
      omega
    refine g_aload_n dX6_readJoined_12 rfl ?_
    refine g_aload_n dX6_readJoined_13 rfl ?_
    refine g_iload_n dX6_readJoined_14 rfl ?_
    refine g_iconst (v := 1) dX6_readJoined_15 rfl ?_
    refine g_iadd dX6_readJoined_16 ?_
    rw [show (nI lv : Int32) + 1 = nI (lv + 1) from (nI_succ lv).symm]
    refine g_iload_n dX6_readJoined_17 rfl ?_
    refine g_cV3i dX6_readJoined_18 ml_X6_40 mi_X6_readJoined mv_X6_readJoined h.1.1.1 ⟨_, rfl, rfl⟩ (Nat.le_of_ble_eq_true rfl) rfl (by omega) ?_
    refine IJ (lv := lv + 1) (by omega) (by omega) (by omega) hop h hN (fun e18 w1 r1 => ?_) (fun e18 w1 r1 => ?_)
    · refine g_if_ne (tgt := 26) dX6_readJoined_21 (by decide) (fun _ => ?_) (fun q => absurd q (by decide))
      have b := tp_j_b (g := g) (T := T) f (lv + 1) op p hp
      have h := h.step r1 b.2 (by have := b.1; have := b.2; omega)
      refine g_iload_n dX6_readJoined_26 rfl ?_
      refine g_iconst (v := 2) dX6_readJoined_27 rfl ?_
      refine g_icmp_ne (tgt := 35) dX6_readJoined_28 (by decide) (fun zc28 => ?_) (fun zc28 => ?_)
      · refine g_bipush (v := 120) dX6_readJoined_35 rfl ?_
        refine g_istore dX6_readJoined_37 (Nat.le_of_ble_eq_true rfl) rfl ?_
        refine g_iconst (v := 0) dX6_readJoined_39 rfl ?_
        refine g_istore dX6_readJoined_40 (Nat.le_of_ble_eq_true rfl) rfl ?_
        have em : (if lv = 2 then 1 else 120) = 120 := (if_neg (fun q => zc28 (by rw [q]; rfl)))
        rw [show tp_j g T (f + 1) lv op p = tp_ap (tp_j g T f (lv + 1) op p).2.2 (tp_lp g T (tp_j g T f (lv + 1) op) lv (if lv = 2 then 1 else 120) (tp_j g T f (lv + 1) op p).2.1) from (if_neg (by omega)).trans (if_pos e18), em] at kt kf
        exact l_X6_readJoined (M := 120) IJ (by omega) (by omega) hlv5 hop (by decide) 120 0 _ _ _ _ (by omega) h (by have := b.1; omega) (fun e w' r' => kt e w' (r1.tr' r' rfl rfl)) (fun e w' r' => kf e w' (r1.tr' r' rfl rfl))
      · refine g_iconst (v := 1) dX6_readJoined_31 rfl ?_
        refine g_goto (tgt := 37) dX6_readJoined_32 (by decide) ?_
        refine g_istore dX6_readJoined_37 (Nat.le_of_ble_eq_true rfl) rfl ?_
        refine g_iconst (v := 0) dX6_readJoined_39 rfl ?_
        refine g_istore dX6_readJoined_40 (Nat.le_of_ble_eq_true rfl) rfl ?_
        have em : (if lv = 2 then 1 else 120) = 1 := (if_pos (pI_inj (a := lv) (b := 2) (by omega) (by decide) (by first | exact zc28 | exact Classical.not_not.mp zc28)))
        rw [show tp_j g T (f + 1) lv op p = tp_ap (tp_j g T f (lv + 1) op p).2.2 (tp_lp g T (tp_j g T f (lv + 1) op) lv (if lv = 2 then 1 else 120) (tp_j g T f (lv + 1) op p).2.1) from (if_neg (by omega)).trans (if_pos e18), em] at kt kf
        exact l_X6_readJoined (M := 1) IJ (by omega) (by omega) hlv5 hop (by decide) 1 0 _ _ _ _ (by omega) h (by have := b.1; omega) (fun e w' r' => kt e w' (r1.tr' r' rfl rfl)) (fun e w' r' => kf e w' (r1.tr' r' rfl rfl))
    · refine g_if_ne (tgt := 26) dX6_readJoined_21 (by decide) (fun q => absurd q (by decide)) (fun _ => ?_)
      refine g_iconst (v := 0) dX6_readJoined_24 rfl ?_
      refine g_zret dX6_readJoined_25 rfl (Or.inl rfl) ⟨_, rfl, ?_⟩
      rw [show tp_j g T (f + 1) lv op p = tp_j g T f (lv + 1) op p from (if_neg (by omega)).trans (if_neg (by rw [e18]; decide))] at kf
      exact kf e18 w1 r1
  · have e5 : lv = 5 := by
      have c := zc2
      rw [pI_lt, nI_toInt (by omega)] at c
      have e : (5 : Int32).toInt = 5 := by decide
      omega
    subst e5
    refine g_aload_n dX6_readJoined_5 rfl ?_
    refine g_aload_n dX6_readJoined_6 rfl ?_
    refine g_iload_n dX6_readJoined_7 rfl ?_
    refine g_cV2i dX6_readJoined_8 ml_X6_48 mi_X6_readOperand mv_X6_readOperand h.1.1.1 ⟨_, rfl, rfl⟩ (Nat.le_of_ble_eq_true rfl) rfl (by omega) ?_
    refine IO (by omega) (by omega) hop h hN (fun e8 w1 r1 => ?_) (fun e8 w1 r1 => ?_)
    · refine g_zret dX6_readJoined_11 rfl (Or.inr rfl) ⟨_, rfl, ?_⟩
      exact kt e8 w1 r1
    · refine g_zret dX6_readJoined_11 rfl (Or.inl rfl) ⟨_, rfl, ?_⟩
      exact kf e8 w1 r1
theorem tp_all {l T : Nat} {g : Nat → Int32} : ∀ f, tpJC l T g f ∧ tpOC l T g f := by
  intro f
  induction f with
  | zero => exact ⟨fun h1 _ h2 h3 => absurd h1 (by omega), fun h1 _ h3 => absurd h1 (by omega)⟩
  | succ f ih =>
    have hO : tpOC l T g (f + 1) := s_X6_readOperand ih.1 ih.2
    exact ⟨s_X6_readJoined ih.1 hO, hO⟩

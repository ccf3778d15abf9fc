/-! The reference: its reader, operands -/
theorem op_dig {g : Nat → Int32} {T op p : Nat} {rc : Nat → Nat → Nat → tpT} (h : tp_dg (tp_h g T p) = true) : tp_op g T rc op p = (true, (tp_num g T 4 p 0).1, [(48, (tp_num g T 4 p 0).2)]) := if_pos h
theorem op_nam {g : Nat → Int32} {T op p : Nat} {rc : Nat → Nat → Nat → tpT} (h0 : tp_dg (tp_h g T p) = false) (h : ¬ tp_nm (tp_h g T p) < 0) : tp_op g T rc op p = (true, p + 1, [(110, tp_nm (tp_h g T p))]) := by
  unfold tp_op
  rw [if_neg (by rw [h0]; decide), if_pos h]
theorem op_sgn {g : Nat → Int32} {T op p : Nat} {rc : Nat → Nat → Nat → tpT} (h : tp_h g T p = 33 ∨ tp_h g T p = 45) (ho : op < 6) : tp_op g T rc op p = tp_sg (tp_h g T p) (rc 5 (op + 1) (p + 1)) := by
  unfold tp_op
  have e1 : tp_dg (tp_h g T p) = false := by rcases h with q | q <;> rw [q] <;> decide
  have e2 : tp_nm (tp_h g T p) < 0 := by rcases h with q | q <;> rw [q] <;> decide
  have e3 : tp_opn (tp_h g T p) = true := by rcases h with q | q <;> rw [q] <;> decide
  have e4 : ¬ tp_h g T p = 40 := by rcases h with q | q <;> rw [q] <;> decide
  rw [if_neg (by rw [e1]; decide), if_neg (fun q => q e2), if_pos ⟨e3, ho⟩, if_neg e4]
theorem op_brk {g : Nat → Int32} {T op p : Nat} {rc : Nat → Nat → Nat → tpT} (h : tp_h g T p = 40) (ho : op < 6) : tp_op g T rc op p = tp_br g T (rc 0 (op + 1) (p + 1)) := by
  unfold tp_op
  rw [if_neg (by rw [h]; decide), if_neg (by rw [h]; decide), if_pos ⟨by rw [h]; decide, ho⟩, if_pos h]
theorem op_full {g : Nat → Int32} {T p : Nat} {rc : Nat → Nat → Nat → tpT} (h : tp_h g T p = 33 ∨ tp_h g T p = 45 ∨ tp_h g T p = 40) : tp_op g T rc 6 p = (false, p, []) := by
  unfold tp_op
  have e1 : tp_dg (tp_h g T p) = false := by rcases h with q | q | q <;> rw [q] <;> decide
  have e2 : tp_nm (tp_h g T p) < 0 := by rcases h with q | q | q <;> rw [q] <;> decide
  rw [if_neg (by rw [e1]; decide), if_neg (fun q => q e2), if_neg (fun q => absurd q.2 (by decide))]
theorem op_none {g : Nat → Int32} {T op p : Nat} {rc : Nat → Nat → Nat → tpT} (h0 : tp_dg (tp_h g T p) = false) (h1 : tp_nm (tp_h g T p) < 0) (h2 : ¬ tp_h g T p = 33) (h3 : ¬ tp_h g T p = 45) (h4 : ¬ tp_h g T p = 40) : tp_op g T rc op p = (false, p, []) := by
  unfold tp_op
  have e : tp_opn (tp_h g T p) = false := by
    unfold tp_opn
    rw [decide_eq_false h2, decide_eq_false h3, decide_eq_false h4]
    rfl
  rw [if_neg (by rw [h0]; decide), if_neg (fun q => q h1), if_neg (fun q => absurd (e.symm.trans q.1) (by decide))]
theorem nm_dg : ∀ m, m < 58 → 48 ≤ m → tp_nm (nI m) < 0 := by decide +kernel
theorem dg_nm {s : Int32} (h : ¬ tp_nm s < 0) : tp_dg s = false := by
  cases e : tp_dg s with
  | false => rfl
  | true =>
    obtain ⟨h1, h2⟩ := tp_dg_iff.mp e
    obtain ⟨m, hm, em⟩ := nI_of2 (M := 57) (n := 57) (by decide) (fun z => absurd (Int32.le_trans h1 (Int32.le_of_lt z)) (by decide)) h2
    rw [em] at h1 h
    rw [show (48 : Int32) = nI 48 from rfl, nI_leI (by decide) (by omega)] at h1
    exact absurd (nm_dg m (by omega) h1) h
abbrev opW (w : gx_W) (op p : Nat) : gx_W := s_i (s_i w 57 17 (nI (op + 1))) 57 15 (nI (p + 1))
theorem prI.op {w : gx_W} {T p op N : Nat} {g : Nat → Int32} (h : prI w T g p op N) (hp : p < T) : prI (opW w op p) T g (p + 1) (op + 1) N := ⟨h.1, h.2.1, by rw [wi_si, if_pos ⟨rfl, rfl⟩], hp, h.2.2.2.2.1, by rw [wi_si, if_neg (by decide), wi_si, if_pos ⟨rfl, rfl⟩], h.2.2.2.2.2.2⟩
theorem prR.op {w w' : gx_W} {T p op N p' : Nat} {g : Nat → Int32} {L : List stS} (h : prI w T g p op N) (r : prR (opW w op p) w' N p' L) : prR w (s_i w' 57 17 (nI op)) N p' L := by
  obtain ⟨a1, a2, a3, a4, a5, a6, a7⟩ := r
  refine ⟨((((same.rf.si (by simp)).si (by simp)).tr a1).si (by simp)), ?_, ?_, ?_, ?_, a6, a7⟩
  · rw [wi_si, if_neg (by decide)]; exact a2
  · rw [wi_si, if_neg (by decide)]; exact a3
  · rw [wi_si, if_pos ⟨rfl, rfl⟩]; exact h.2.2.2.2.2.1.symm
  · rw [wi_si, if_neg (by decide)]; exact a5
theorem prB.op {w w' : gx_W} {p op N F : Nat} {x : Int32} (b : prB (opW w op p) w' (p + 1) N F) : prB (opW w op p) (s_i w' 57 17 x) (p + 1) N F := by
  obtain ⟨b1, b2, b3, N', b4, b5, b6⟩ := b
  refine ⟨b1.si (by simp), ?_, ?_, N', ?_, b5, b6⟩
  · rw [wi_si, if_neg (by decide)]; exact b2
  · rw [wi_si, if_neg (by decide)]; exact b3
  · rw [wi_si, if_neg (by decide)]; exact b4
theorem opW_s {w : gx_W} {op p : Nat} : same [68, 69] prF w (opW w op p) ∧ lowK w (opW w op p) := ⟨(same.rf.si (by simp)).si (by simp), fun _ _ => ⟨rfl, rfl⟩⟩
theorem prB.wr {w : gx_W} {T p op N : Nat} {g : Nat → Int32} (h : prI w T g p op N) : prB w (s_i w 57 16 (nI p)) p N p := ⟨same.rf.si (by simp), h.2.2.1, by rw [wi_si, if_pos ⟨rfl, rfl⟩], N, h.2.2.2.2.2.2, by omega, fun _ _ => ⟨rfl, rfl⟩⟩
theorem prR.b {w w' w'' : gx_W} {T p op N p' : Nat} {g : Nat → Int32} {L : List stS} (h : prI w T g p op N) (r : prR (opW w op p) w' N p' L) (b : prB w' w'' p' (N + L.length) p') (hp : p + 1 + L.length ≤ p') : prB w w'' p N p' := by
  obtain ⟨b1, b2, b3, N', b4, b5, b6⟩ := b
  exact ⟨opW_s.1.tr (r.1.tr b1), b2, b3, N', b4, by omega, opW_s.2.tr (r.low.tr b6)⟩
theorem prB.up {w w' : gx_W} {p op N F : Nat} (b : prB (opW w op p) w' (p + 1) N F) : prB w w' p N F := by
  obtain ⟨b1, b2, b3, N', b4, b5, b6⟩ := b
  exact ⟨opW_s.1.tr b1, b2, b3, N', b4, by omega, opW_s.2.tr b6⟩
theorem j_op {g : Nat → Int32} {T f lv op p : Nat} (hl : 5 ≤ lv) : tp_j g T (f + 1) lv op p = tp_op g T (tp_j g T f) op p := by
  show (if 5 ≤ lv then _ else if _ then _ else _) = _
  rw [if_pos hl]
set_option maxHeartbeats 4000000 in
theorem s_X10_operand {T f : Nat} {g : Nat → Int32} (I5 : prC T g f 5) (I0 : prC T g f 0) : prC T g (f + 1) 5 := by
  intro d op p N w k hf hd hop h hN kA kB
  show gx_C 0 0 d mX10_operand [.ref 57] w (Qv k)
  have e0 : tp_j g T (f + 1) 5 op p = tp_op g T (tp_j g T f) op p := j_op (Nat.le_refl 5)
  rw [e0] at kA kB
  refine gx_C_of' (L := [.ref 57, .retAddr 0]) (by decide +kernel) rfl (Nat.le_of_ble_eq_true rfl) ?_
  have hT := h.2.1.2.1
  have hpT := h.2.2.2.1
  refine g_aload_n dX10_operand_0 rfl ?_
  refine g_cV0i dX10_operand_1 ml_X10_184 mi_X10_look mv_X10_look h.1.1 ⟨_, rfl, rfl⟩ (Nat.le_of_ble_eq_true rfl) rfl (by omega) ?_
  refine c_X10_look (by omega) h.1 h.2.1 h.2.2.1 hpT ?_
  refine g_istore_n dX10_operand_4 (Nat.le_of_ble_eq_true rfl) rfl ?_
  refine g_iload_n dX10_operand_5 rfl ?_
  refine g_cS1i dX10_operand_6 ml_X10_192 mi_X10_nameOf ms_X10_nameOf (Nat.le_of_ble_eq_true rfl) rfl (by omega) ?_
  refine c_X10_nameOf (by omega) ?_
  refine g_if_lt (tgt := 34) dX10_operand_9 (by decide) (fun zc9 => ?_) (fun zc9 => ?_)
  · refine g_iload_n dX10_operand_34 rfl ?_
    refine g_bipush (v := 33) dX10_operand_35 rfl ?_
    refine g_icmp_eq (tgt := 46) dX10_operand_37 (by decide) (fun zc37 => ?_) (fun zc37 => ?_)
    · have hh : tp_h g T p = 33 := (lk_c h.2.1 p (c := 33) (by decide)).mp zc37
      have hlt : p < T := tp_lt (by rw [hh]; decide)
      refine g_aload_n dX10_operand_46 rfl ?_
      refine g_cV0i dX10_operand_47 ml_X10_196 mi_X10_opens mv_X10_opens h.1.1 ⟨_, rfl, rfl⟩ (Nat.le_of_ble_eq_true rfl) rfl (by omega) ?_
      refine c_X10_opens (by omega) h hop (fun h6 => ?_) (fun h6 => ?_)
      · refine g_if_ne (tgt := 54) dX10_operand_50 (by decide) (fun q => absurd q (by decide)) (fun _ => ?_)
        refine g_vret dX10_operand_53 rfl ⟨rfl, ?_⟩
        subst h6
        rw [op_full (by rw [hh]; decide)] at kB
        exact kB (Or.inl rfl) _ (prB.wr h)
      · refine g_if_ne (tgt := 54) dX10_operand_50 (by decide) (fun _ => ?_) (fun q => absurd q (by decide))
        have h2 := h.op hlt
        refine g_aload_n dX10_operand_54 rfl ?_
        refine g_cV0v dX10_operand_55 ml_X10_200 mi_X10_operand mv_X10_operand h2.1.1 ⟨_, rfl, rfl⟩ (Nat.le_of_ble_eq_true rfl) rfl (by omega) ?_
        refine I5 (d := d - 1) (by omega) (by omega) (by omega) h2 (by omega) (fun hr w3 r3 => ?_) (fun hr w3 b3 => ?_)
        · have hb := tp_j_b (g := g) (T := T) f 5 (op + 1) (p + 1) (by omega)
          unfold tpB at hb
          have h3 := h2.go r3 hb.2
          refine g_aload_n dX10_operand_58 rfl ?_
          refine g_dup dX10_operand_59 rfl ?_
          refine g_geti dX10_operand_60 fl_X10_178 h3.1.1 ?_
          rw [h3.2.2.2.2.2.1]
          refine g_iconst (v := 1) dX10_operand_63 rfl ?_
          refine g_isub dX10_operand_64 ?_
          rw [show nI (op + 1) - 1 = nI op from nI_pred op]
          refine g_puti dX10_operand_65 fl_X10_178 ft_10_17 h3.1.1 ?_
          refine g_aload_n dX10_operand_68 rfl ?_
          refine g_iload_n dX10_operand_69 rfl ?_
          refine g_bipush (v := 33) dX10_operand_70 rfl ?_
          refine g_icmp_ne (tgt := 79) dX10_operand_72 (by decide) (fun zc72 => ?_) (fun zc72 => ?_)
          · exact absurd zc37 zc72
          · refine g_iconst (v := 3) dX10_operand_75 rfl ?_
            refine g_goto (tgt := 80) dX10_operand_76 (by decide) ?_
            refine g_iconst (v := 0) dX10_operand_80 rfl ?_
            refine g_cV2v dX10_operand_81 ml_X10_188 mi_X10_addStep mv_X10_addStep h3.1.1 ⟨_, rfl, rfl⟩ (Nat.le_of_ble_eq_true rfl) rfl (by omega) ?_
            refine c_X10_addStep (c := 3) (N := N + (tp_j g T f 5 (op + 1) (p + 1)).2.2.length) (by omega) h3.1 h3.2.2.2.2.2.2 (by omega) (by decide) ?_
            refine g_goto (tgt := 154) dX10_operand_84 (by decide) ?_
            refine g_vret dX10_operand_154 rfl ⟨rfl, ?_⟩
            have r4 := prR.op h r3
            have h4 : prI (s_i w3 57 17 (nI op)) T g (tp_j g T f 5 (op + 1) (p + 1)).2.1 op (N + (tp_j g T f 5 (op + 1) (p + 1)).2.2.length) := h.go r4 hb.2
            have r5 : prR (s_i w3 57 17 (nI op)) (adW (s_i w3 57 17 (nI op)) (N + (tp_j g T f 5 (op + 1) (p + 1)).2.2.length) (nI 3) 0) (N + (tp_j g T f 5 (op + 1) (p + 1)).2.2.length) (tp_j g T f 5 (op + 1) (p + 1)).2.1 [(33, 0)] := ad_R h4 rfl
            rw [op_sgn (by rw [hh]; decide) h6, hh, show tp_sg 33 (tp_j g T f 5 (op + 1) (p + 1)) = (true, (tp_j g T f 5 (op + 1) (p + 1)).2.1, (tp_j g T f 5 (op + 1) (p + 1)).2.2 ++ [(33, 0)]) from if_pos hr] at kA
            exact kA rfl _ (r4.tr r5)
        · have hb := tp_j_b (g := g) (T := T) f 5 (op + 1) (p + 1) (by omega)
          unfold tpB at hb
          have h3 : moO w3 := h2.1.same b3.1
          refine g_aload_n dX10_operand_58 rfl ?_
          refine g_dup dX10_operand_59 rfl ?_
          refine g_geti dX10_operand_60 fl_X10_178 h3.1 ?_
          refine g_iconst (v := 1) dX10_operand_63 rfl ?_
          refine g_isub dX10_operand_64 ?_
          refine g_puti dX10_operand_65 fl_X10_178 ft_10_17 h3.1 ?_
          refine g_aload_n dX10_operand_68 rfl ?_
          refine g_iload_n dX10_operand_69 rfl ?_
          refine g_bipush (v := 33) dX10_operand_70 rfl ?_
          refine g_icmp_ne (tgt := 79) dX10_operand_72 (by decide) (fun zc72 => ?_) (fun zc72 => ?_)
          · exact absurd zc37 zc72
          · refine g_iconst (v := 3) dX10_operand_75 rfl ?_
            refine g_goto (tgt := 80) dX10_operand_76 (by decide) ?_
            refine g_iconst (v := 0) dX10_operand_80 rfl ?_
            refine g_cV2v dX10_operand_81 ml_X10_188 mi_X10_addStep mv_X10_addStep h3.1 ⟨_, rfl, rfl⟩ (Nat.le_of_ble_eq_true rfl) rfl (by omega) ?_
            refine c_addB (c := 3) (p := p) (N := N) (F := (tp_j g T f 5 (op + 1) (p + 1)).2.1) h.1 opW_s b3.op hN (by omega) (by decide) (fun w4 b4 => ?_)
            refine g_goto (tgt := 154) dX10_operand_84 (by decide) ?_
            refine g_vret dX10_operand_154 rfl ⟨rfl, ?_⟩
            rw [op_sgn (by rw [hh]; decide) h6, hh] at kB
            have e1 : (tp_sg 33 (tp_j g T f 5 (op + 1) (p + 1))).2.1 = (tp_j g T f 5 (op + 1) (p + 1)).2.1 ∧ ((tp_j g T f 5 (op + 1) (p + 1)).1 = false → (tp_sg 33 (tp_j g T f 5 (op + 1) (p + 1))).1 = false) := by
              unfold tp_sg
              split
              · rename_i q; exact ⟨rfl, fun y => absurd (q.symm.trans y) (by decide)⟩
              · exact ⟨rfl, fun _ => rfl⟩
            rw [e1.1] at kB
            exact kB (hr.imp e1.2 id) w4 b4
    · refine g_iload_n dX10_operand_40 rfl ?_
      refine g_bipush (v := 45) dX10_operand_41 rfl ?_
      refine g_icmp_ne (tgt := 87) dX10_operand_43 (by decide) (fun zc43 => ?_) (fun zc43 => ?_)
      · refine g_iload_n dX10_operand_87 rfl ?_
        refine g_bipush (v := 40) dX10_operand_88 rfl ?_
        refine g_icmp_ne (tgt := 150) dX10_operand_90 (by decide) (fun zc90 => ?_) (fun zc90 => ?_)
        · have n33 : ¬ tp_h g T p = 33 := fun q => zc37 ((lk_c h.2.1 p (c := 33) (by decide)).mpr q)
          have n45 : ¬ tp_h g T p = 45 := fun q => zc43 ((lk_c h.2.1 p (c := 45) (by decide)).mpr q)
          have n40 : ¬ tp_h g T p = 40 := fun q => zc90 ((lk_c h.2.1 p (c := 40) (by decide)).mpr q)
          have hm : tp_nm (tp_h g T p) < 0 := by rw [← lk_nm h.2.1]; exact zc9
          refine g_aload_n dX10_operand_150 rfl ?_
          refine g_cV0v dX10_operand_151 ml_X10_206 mi_X10_figure mv_X10_figure h.1.1 ⟨_, rfl, rfl⟩ (Nat.le_of_ble_eq_true rfl) rfl (by omega) ?_
          refine c_X10_figure (by omega) h hN (fun a1 a2 w1 r1 => ?_) (fun F hF w1 b1 => ?_)
          · refine g_vret dX10_operand_154 rfl ⟨rfl, ?_⟩
            rw [op_dig a1] at kA
            exact kA rfl w1 r1
          · refine g_vret dX10_operand_154 rfl ⟨rfl, ?_⟩
            rcases hF with ⟨q1, q2⟩ | ⟨q1, q2, q3⟩
            · rw [op_none q1 hm n33 n45 n40] at kB
              subst q2
              exact kB (Or.inl rfl) w1 b1
            · rw [op_dig q1] at kB
              subst q2
              exact kB (Or.inr q3) w1 b1
        · have hh : tp_h g T p = 40 := (lk_c h.2.1 p (c := 40) (by decide)).mp zc90
          have hlt : p < T := tp_lt (by rw [hh]; decide)
          refine g_aload_n dX10_operand_93 rfl ?_
          refine g_cV0i dX10_operand_94 ml_X10_196 mi_X10_opens mv_X10_opens h.1.1 ⟨_, rfl, rfl⟩ (Nat.le_of_ble_eq_true rfl) rfl (by omega) ?_
          refine c_X10_opens (by omega) h hop (fun h6 => ?_) (fun h6 => ?_)
          · refine g_if_ne (tgt := 101) dX10_operand_97 (by decide) (fun q => absurd q (by decide)) (fun _ => ?_)
            refine g_vret dX10_operand_100 rfl ⟨rfl, ?_⟩
            subst h6
            rw [op_full (by rw [hh]; decide)] at kB
            exact kB (Or.inl rfl) _ (prB.wr h)
          · refine g_if_ne (tgt := 101) dX10_operand_97 (by decide) (fun _ => ?_) (fun q => absurd q (by decide))
            have h2 := h.op hlt
            refine g_aload_n dX10_operand_101 rfl ?_
            refine g_cV0v dX10_operand_102 ml_X10_203 mi_X10_either mv_X10_either h2.1.1 ⟨_, rfl, rfl⟩ (Nat.le_of_ble_eq_true rfl) rfl (by omega) ?_
            refine I0 (d := d - 1) (by omega) (by omega) (by omega) h2 (by omega) (fun hr w3 r3 => ?_) (fun hr w3 b3 => ?_)
            · have hb := tp_j_b (g := g) (T := T) f 0 (op + 1) (p + 1) (by omega)
              unfold tpB at hb
              have h3 := h2.go r3 hb.2
              refine g_aload_n dX10_operand_105 rfl ?_
              refine g_geti dX10_operand_106 fl_X10_172 h3.1.1 ?_
              rw [h3.2.2.2.2.1]
              refine g_if_lt (tgt := 113) dX10_operand_109 (by decide) (fun zc109 => ?_) (fun zc109 => ?_)
              · refine g_aload_n dX10_operand_113 rfl ?_
                refine g_cV0i dX10_operand_114 ml_X10_184 mi_X10_look mv_X10_look h3.1.1 ⟨_, rfl, rfl⟩ (Nat.le_of_ble_eq_true rfl) rfl (by omega) ?_
                refine c_X10_look (by omega) h3.1 h3.2.1 h3.2.2.1 h3.2.2.2.1 ?_
                refine g_bipush (v := 41) dX10_operand_117 rfl ?_
                refine g_icmp_eq (tgt := 127) dX10_operand_119 (by decide) (fun zc119 => ?_) (fun zc119 => ?_)
                · refine g_aload_n dX10_operand_127 rfl ?_
                  refine g_dup dX10_operand_128 rfl ?_
                  refine g_geti dX10_operand_129 fl_X10_169 h3.1.1 ?_
                  refine g_iconst (v := 1) dX10_operand_132 rfl ?_
                  refine g_iadd dX10_operand_133 ?_
                  rw [h3.at1]
                  refine g_puti dX10_operand_134 fl_X10_169 ft_10_15 h3.1.1 ?_
                  refine g_aload_n dX10_operand_137 rfl ?_
                  refine g_dup dX10_operand_138 rfl ?_
                  refine g_geti dX10_operand_139 fl_X10_178 h3.1.1 ?_
                  rw [show w_i (s_i w3 57 15 (nI ((tp_j g T f 0 (op + 1) (p + 1)).2.1 + 1))) 57 17 = nI (op + 1) from h3.2.2.2.2.2.1]
                  refine g_iconst (v := 1) dX10_operand_142 rfl ?_
                  refine g_isub dX10_operand_143 ?_
                  rw [show nI (op + 1) - 1 = nI op from nI_pred op]
                  refine g_puti dX10_operand_144 fl_X10_178 ft_10_17 h3.1.1 ?_
                  refine g_goto (tgt := 154) dX10_operand_147 (by decide) ?_
                  refine g_vret dX10_operand_154 rfl ⟨rfl, ?_⟩
                  have h41 : tp_h g T (tp_j g T f 0 (op + 1) (p + 1)).2.1 = 41 := (lk_c h.2.1 _ (c := 41) (by decide)).mp zc119
                  have hlt2 : (tp_j g T f 0 (op + 1) (p + 1)).2.1 < T := tp_lt (by rw [h41]; decide)
                  rw [op_brk hh h6] at kA
                  have e1 : tp_br g T (tp_j g T f 0 (op + 1) (p + 1)) = (true, (tp_j g T f 0 (op + 1) (p + 1)).2.1 + 1, (tp_j g T f 0 (op + 1) (p + 1)).2.2) := if_pos ⟨hr, h41⟩
                  rw [e1] at kA
                  have r4 := prR.op h (r3.tr' h3.mv rfl (List.append_nil _).symm)
                  exact kA rfl _ r4
                · refine g_aload_n dX10_operand_122 rfl ?_
                  refine g_cV0v dX10_operand_123 ml_X10_181 mi_X10_wrong mv_X10_wrong h3.1.1 ⟨_, rfl, rfl⟩ (Nat.le_of_ble_eq_true rfl) rfl (by omega) ?_
                  refine c_X10_wrong (by omega) h3.1 h3.2.2.2.2.1 h3.2.2.1 ?_
                  refine g_vret dX10_operand_126 rfl ⟨rfl, ?_⟩
                  rw [op_brk hh h6] at kB
                  have e1 : tp_br g T (tp_j g T f 0 (op + 1) (p + 1)) = (false, (tp_j g T f 0 (op + 1) (p + 1)).2.1, (tp_j g T f 0 (op + 1) (p + 1)).2.2) := by
                    unfold tp_br
                    exact if_neg (fun q => zc119 ((lk_c h.2.1 _ (c := 41) (by decide)).mpr q.2))
                  rw [e1] at kB
                  exact kB (Or.inl rfl) _ (prR.b h r3 (prB.wr h3) hb.1)
              · refine g_vret dX10_operand_112 rfl ⟨rfl, ?_⟩
                exact absurd zc109 (by decide)
            · have hb := tp_j_b (g := g) (T := T) f 0 (op + 1) (p + 1) (by omega)
              unfold tpB at hb
              have h3 : moO w3 := h2.1.same b3.1
              refine g_aload_n dX10_operand_105 rfl ?_
              refine g_geti dX10_operand_106 fl_X10_172 h3.1 ?_
              rw [b3.2.2.1]
              refine g_if_lt (tgt := 113) dX10_operand_109 (by decide) (fun zc109 => ?_) (fun zc109 => ?_)
              · exact absurd zc109 (nI_pos (by omega))
              · refine g_vret dX10_operand_112 rfl ⟨rfl, ?_⟩
                rw [op_brk hh h6] at kB
                have e1 : tp_br g T (tp_j g T f 0 (op + 1) (p + 1)) = (false, (tp_j g T f 0 (op + 1) (p + 1)).2.1, (tp_j g T f 0 (op + 1) (p + 1)).2.2) := by
                  unfold tp_br
                  refine if_neg (fun q => ?_)
                  rcases hr with y | y
                  · exact absurd (y.symm.trans q.1) (by decide)
                  · rw [q.2] at y; exact absurd y (by decide)
                rw [e1] at kB
                exact kB (Or.inl rfl) w3 b3.up
      · have hh : tp_h g T p = 45 := (lk_c h.2.1 p (c := 45) (by decide)).mp zc43
        have hlt : p < T := tp_lt (by rw [hh]; decide)
        refine g_aload_n dX10_operand_46 rfl ?_
        refine g_cV0i dX10_operand_47 ml_X10_196 mi_X10_opens mv_X10_opens h.1.1 ⟨_, rfl, rfl⟩ (Nat.le_of_ble_eq_true rfl) rfl (by omega) ?_
        refine c_X10_opens (by omega) h hop (fun h6 => ?_) (fun h6 => ?_)
        · refine g_if_ne (tgt := 54) dX10_operand_50 (by decide) (fun q => absurd q (by decide)) (fun _ => ?_)
          refine g_vret dX10_operand_53 rfl ⟨rfl, ?_⟩
          subst h6
          rw [op_full (by rw [hh]; decide)] at kB
          exact kB (Or.inl rfl) _ (prB.wr h)
        · refine g_if_ne (tgt := 54) dX10_operand_50 (by decide) (fun _ => ?_) (fun q => absurd q (by decide))
          have h2 := h.op hlt
          refine g_aload_n dX10_operand_54 rfl ?_
          refine g_cV0v dX10_operand_55 ml_X10_200 mi_X10_operand mv_X10_operand h2.1.1 ⟨_, rfl, rfl⟩ (Nat.le_of_ble_eq_true rfl) rfl (by omega) ?_
          refine I5 (d := d - 1) (by omega) (by omega) (by omega) h2 (by omega) (fun hr w3 r3 => ?_) (fun hr w3 b3 => ?_)
          · have hb := tp_j_b (g := g) (T := T) f 5 (op + 1) (p + 1) (by omega)
            unfold tpB at hb
            have h3 := h2.go r3 hb.2
            refine g_aload_n dX10_operand_58 rfl ?_
            refine g_dup dX10_operand_59 rfl ?_
            refine g_geti dX10_operand_60 fl_X10_178 h3.1.1 ?_
            rw [h3.2.2.2.2.2.1]
            refine g_iconst (v := 1) dX10_operand_63 rfl ?_
            refine g_isub dX10_operand_64 ?_
            rw [show nI (op + 1) - 1 = nI op from nI_pred op]
            refine g_puti dX10_operand_65 fl_X10_178 ft_10_17 h3.1.1 ?_
            refine g_aload_n dX10_operand_68 rfl ?_
            refine g_iload_n dX10_operand_69 rfl ?_
            refine g_bipush (v := 33) dX10_operand_70 rfl ?_
            refine g_icmp_ne (tgt := 79) dX10_operand_72 (by decide) (fun zc72 => ?_) (fun zc72 => ?_)
            · refine g_iconst (v := 4) dX10_operand_79 rfl ?_
              refine g_iconst (v := 0) dX10_operand_80 rfl ?_
              refine g_cV2v dX10_operand_81 ml_X10_188 mi_X10_addStep mv_X10_addStep h3.1.1 ⟨_, rfl, rfl⟩ (Nat.le_of_ble_eq_true rfl) rfl (by omega) ?_
              refine c_X10_addStep (c := 4) (N := N + (tp_j g T f 5 (op + 1) (p + 1)).2.2.length) (by omega) h3.1 h3.2.2.2.2.2.2 (by omega) (by decide) ?_
              refine g_goto (tgt := 154) dX10_operand_84 (by decide) ?_
              refine g_vret dX10_operand_154 rfl ⟨rfl, ?_⟩
              have r4 := prR.op h r3
              have h4 : prI (s_i w3 57 17 (nI op)) T g (tp_j g T f 5 (op + 1) (p + 1)).2.1 op (N + (tp_j g T f 5 (op + 1) (p + 1)).2.2.length) := h.go r4 hb.2
              have r5 : prR (s_i w3 57 17 (nI op)) (adW (s_i w3 57 17 (nI op)) (N + (tp_j g T f 5 (op + 1) (p + 1)).2.2.length) (nI 4) 0) (N + (tp_j g T f 5 (op + 1) (p + 1)).2.2.length) (tp_j g T f 5 (op + 1) (p + 1)).2.1 [(126, 0)] := ad_R h4 rfl
              rw [op_sgn (by rw [hh]; decide) h6, hh, show tp_sg 45 (tp_j g T f 5 (op + 1) (p + 1)) = (true, (tp_j g T f 5 (op + 1) (p + 1)).2.1, (tp_j g T f 5 (op + 1) (p + 1)).2.2 ++ [(126, 0)]) from if_pos hr] at kA
              exact kA rfl _ (r4.tr r5)
            · exact absurd (zc43.symm.trans zc72) (by decide)
          · have hb := tp_j_b (g := g) (T := T) f 5 (op + 1) (p + 1) (by omega)
            unfold tpB at hb
            have h3 : moO w3 := h2.1.same b3.1
            refine g_aload_n dX10_operand_58 rfl ?_
            refine g_dup dX10_operand_59 rfl ?_
            refine g_geti dX10_operand_60 fl_X10_178 h3.1 ?_
            refine g_iconst (v := 1) dX10_operand_63 rfl ?_
            refine g_isub dX10_operand_64 ?_
            refine g_puti dX10_operand_65 fl_X10_178 ft_10_17 h3.1 ?_
            refine g_aload_n dX10_operand_68 rfl ?_
            refine g_iload_n dX10_operand_69 rfl ?_
            refine g_bipush (v := 33) dX10_operand_70 rfl ?_
            refine g_icmp_ne (tgt := 79) dX10_operand_72 (by decide) (fun zc72 => ?_) (fun zc72 => ?_)
            · refine g_iconst (v := 4) dX10_operand_79 rfl ?_
              refine g_iconst (v := 0) dX10_operand_80 rfl ?_
              refine g_cV2v dX10_operand_81 ml_X10_188 mi_X10_addStep mv_X10_addStep h3.1 ⟨_, rfl, rfl⟩ (Nat.le_of_ble_eq_true rfl) rfl (by omega) ?_
              refine c_addB (c := 4) (p := p) (N := N) (F := (tp_j g T f 5 (op + 1) (p + 1)).2.1) h.1 opW_s b3.op hN (by omega) (by decide) (fun w4 b4 => ?_)
              refine g_goto (tgt := 154) dX10_operand_84 (by decide) ?_
              refine g_vret dX10_operand_154 rfl ⟨rfl, ?_⟩
              rw [op_sgn (by rw [hh]; decide) h6, hh] at kB
              have e1 : (tp_sg 45 (tp_j g T f 5 (op + 1) (p + 1))).2.1 = (tp_j g T f 5 (op + 1) (p + 1)).2.1 ∧ ((tp_j g T f 5 (op + 1) (p + 1)).1 = false → (tp_sg 45 (tp_j g T f 5 (op + 1) (p + 1))).1 = false) := by
                unfold tp_sg
                split
                · rename_i q; exact ⟨rfl, fun y => absurd (q.symm.trans y) (by decide)⟩
                · exact ⟨rfl, fun _ => rfl⟩
              rw [e1.1] at kB
              exact kB (hr.imp e1.2 id) w4 b4
            · exact absurd (zc43.symm.trans zc72) (by decide)
  · refine g_aload_n dX10_operand_12 rfl ?_
    refine g_iconst (v := 2) dX10_operand_13 rfl ?_
    refine g_iload_n dX10_operand_14 rfl ?_
    refine g_cS1i dX10_operand_15 ml_X10_192 mi_X10_nameOf ms_X10_nameOf (Nat.le_of_ble_eq_true rfl) rfl (by omega) ?_
    refine c_X10_nameOf (by omega) ?_
    refine g_cV2v dX10_operand_18 ml_X10_188 mi_X10_addStep mv_X10_addStep h.1.1 ⟨_, rfl, rfl⟩ (Nat.le_of_ble_eq_true rfl) rfl (by omega) ?_
    refine c_X10_addStep (c := 2) (N := N) (by omega) h.1 h.2.2.2.2.2.2 (by omega) (by decide) ?_
    refine g_aload_n dX10_operand_21 rfl ?_
    refine g_dup dX10_operand_22 rfl ?_
    refine g_geti dX10_operand_23 fl_X10_169 h.1.1 ?_
    refine g_iconst (v := 1) dX10_operand_26 rfl ?_
    refine g_iadd dX10_operand_27 ?_
    refine g_puti dX10_operand_28 fl_X10_169 ft_10_15 h.1.1 ?_
    refine g_goto (tgt := 154) dX10_operand_31 (by decide) ?_
    refine g_vret dX10_operand_154 rfl ⟨rfl, ?_⟩
    have hm : ¬ tp_nm (tp_h g T p) < 0 := by rw [← lk_nm h.2.1]; exact Int32.not_lt.mpr (Int32.not_lt.mp zc9)
    have hlt := tp_lt (tp_nm_ne hm)
    have r1 : prR w (adW w N (nI 2) (tp_nm (lk g T p))) N p [(110, tp_nm (lk g T p))] := ad_R h rfl
    have h1 := h.go r1 hpT
    rw [op_nam (dg_nm hm) hm] at kA
    rw [show w_i (adW w N (nI 2) (tp_nm (lk g T p))) 57 15 + 1 = nI (p + 1) from h1.at1]
    refine kA rfl _ ?_
    rw [← lk_nm h.2.1]
    exact r1.tr' h1.mv rfl rfl
theorem pr_all {T : Nat} {g : Nat → Int32} : ∀ f, ∀ lv, lv ≤ 5 → prC T g f lv := by
  intro f
  induction f with
  | zero =>
    intro lv hl d op p N w k hf
    exact absurd hf (by omega)
  | succ f ih =>
    intro lv hl
    rcases (by omega : lv = 0 ∨ lv = 1 ∨ lv = 2 ∨ lv = 3 ∨ lv = 4 ∨ lv = 5) with e | e | e | e | e | e <;> subst e
    · exact s_X10_either (ih 1 (by decide))
    · exact s_X10_both (ih 2 (by decide))
    · exact s_X10_compared (ih 3 (by decide))
    · exact s_X10_sum (ih 4 (by decide))
    · exact s_X10_product (ih 5 (by decide))
    · exact s_X10_operand (ih 5 (by decide)) (ih 0 (by decide))
theorem c_either {d T p N : Nat} {g : Nat → Int32} {w : gx_W} {k : gx_W → Prop} (hd : 45 ≤ d) (h : prI w T g p 0 N) (hN : N ≤ p) (kA : (tp_e g T p).1 = true → ∀ w', prR w w' N (tp_e g T p).2.1 (tp_e g T p).2.2 → k w') (kB : ((tp_e g T p).1 = false ∨ tp_dg (tp_h g T (tp_e g T p).2.1) = true) → ∀ w', prB w w' p N (tp_e g T p).2.1 → k w') : gx_C 0 0 d mX10_either [.ref 57] w (Qv k) := pr_all 42 0 (by decide) (d := d) (op := 0) (p := p) (N := N) (by decide) (by omega) (by decide) h hN kA kB

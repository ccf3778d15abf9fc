/-! The reference: figure -/
theorem prI.hr {w : gx_W} {T p op N p' : Nat} {g : Nat → Int32} (h : prI w T g p op N) (hp : p' ≤ T) : prI (s_i w 57 15 (nI p')) T g p' op N := ⟨h.1, h.2.1, by rw [wi_si, if_pos ⟨rfl, rfl⟩], hp, h.2.2.2.2.1, h.2.2.2.2.2.1, h.2.2.2.2.2.2⟩
theorem si_si {w : gx_W} {k j : Nat} {u v : Int32} : s_i (s_i w k j u) k j v = s_i w k j v := by
  unfold s_i
  show (w.1, va_up (va_up w.2.1 k (va_up (w.2.1 k) j u)) k (va_up (va_up w.2.1 k (va_up (w.2.1 k) j u) k) j v), w.2.2) = _
  rw [va_up_up, va_up_at, va_up_up]
theorem si_id {w : gx_W} {k j : Nat} {v : Int32} (h : w_i w k j = v) : s_i w k j v = w := by
  have e1 : va_up (w.2.1 k) j v = w.2.1 k := by
    funext i
    unfold va_up
    by_cases q : i = j
    · rw [if_pos q, q]; exact h.symm
    · rw [if_neg q]
  have e2 : va_up w.2.1 k (w.2.1 k) = w.2.1 := by
    funext i
    unfold va_up
    by_cases q : i = k
    · rw [if_pos q, q]
    · rw [if_neg q]
  unfold s_i
  rw [e1, e2]
theorem c_inD {d : Nat} {w : gx_W} {v : Int32} {k : Int32 → gx_W → Prop} (kt : tp_dg v = true → k 1 w) (kf : tp_dg v = false → k 0 w) : gx_C 0 0 d mX10_in [.int v, .int 48, .int 57] w (Qi k) := by
  refine c_X10_in (Nat.zero_le _) (fun h1 h2 => kt (tp_dg_iff.mpr ⟨h1, h2⟩)) (fun h => kf ?_)
  cases e : tp_dg v with
  | false => rfl
  | true => exact absurd (tp_dg_iff.mp e) h
theorem l_X10_figure {d T op N : Nat} {g : Nat → Int32} {w : gx_W} {k : gx_W → Prop} (hd : 1 ≤ d) : ∀ (z i p : Nat) (v : Int32), i + z = 4 → prI (s_i w 57 15 (nI p)) T g p op N → (gx_G 0 0 d mX10_figure (Qv k) 52 [.ref 57, .int (tp_num g T z p v).2, .int (nI (i + ((tp_num g T z p v).1 - p)))] [] (s_i w 57 15 (nI (tp_num g T z p v).1))) → gx_G 0 0 d mX10_figure (Qv k) 4 [.ref 57, .int v, .int (nI i)] [] (s_i w 57 15 (nI p)) := by
  intro z
  induction z with
  | zero =>
    intro i p v hi h kk
    have e : i = 4 := by omega
    subst e
    refine g_iload_n dX10_figure_4 rfl ?_
    refine g_iconst (v := 4) dX10_figure_5 rfl ?_
    refine g_icmp_ge (tgt := 52) dX10_figure_6 (by decide) (fun zc6 => ?_) (fun zc6 => ?_)
    · have e : (tp_num g T 0 p v).1 - p = 0 := Nat.sub_self p
      rw [e] at kk
      exact kk
    · exact absurd (by decide) zc6
  | succ z ih =>
    intro i p v hi h kk
    have hpT := h.2.2.2.1
    have hT := h.2.1.2.1
    refine g_iload_n dX10_figure_4 rfl ?_
    refine g_iconst (v := 4) dX10_figure_5 rfl ?_
    refine g_icmp_ge (tgt := 52) dX10_figure_6 (by decide) (fun zc6 => ?_) (fun zc6 => ?_)
    · exact absurd zc6 (nI_ge (b := 4) (by omega) (by decide))
    · refine g_aload_n dX10_figure_9 rfl ?_
      refine g_cV0i dX10_figure_10 ml_X10_184 mi_X10_look mv_X10_look h.1.1 ⟨_, rfl, rfl⟩ (Nat.le_of_ble_eq_true rfl) rfl (by omega) ?_
      refine c_X10_look (by omega) h.1 h.2.1 h.2.2.1 h.2.2.2.1 ?_
      refine g_bipush (v := 48) dX10_figure_13 rfl ?_
      refine g_bipush (v := 57) dX10_figure_15 rfl ?_
      refine g_cS3i dX10_figure_17 ml_X10_124 mi_X10_in ms_X10_in (Nat.le_of_ble_eq_true rfl) rfl (by omega) ?_
      refine c_inD (fun hyes => ?_) (fun hno => ?_)
      · refine g_if_eq (tgt := 52) dX10_figure_20 (by decide) (fun q => absurd q (by decide)) (fun _ => ?_)
        refine g_bipush (v := 10) dX10_figure_23 rfl ?_
        refine g_iload_n dX10_figure_25 rfl ?_
        refine g_imul dX10_figure_26 ?_
        refine g_aload_n dX10_figure_27 rfl ?_
        refine g_cV0i dX10_figure_28 ml_X10_184 mi_X10_look mv_X10_look h.1.1 ⟨_, rfl, rfl⟩ (Nat.le_of_ble_eq_true rfl) rfl (by omega) ?_
        refine c_X10_look (by omega) h.1 h.2.1 h.2.2.1 h.2.2.2.1 ?_
        refine g_iadd dX10_figure_31 ?_
        refine g_bipush (v := 48) dX10_figure_32 rfl ?_
        refine g_isub dX10_figure_34 ?_
        refine g_istore_n dX10_figure_35 (Nat.le_of_ble_eq_true rfl) rfl ?_
        refine g_iinc dX10_figure_36 rfl rfl ?_
        refine g_aload_n dX10_figure_39 rfl ?_
        refine g_dup dX10_figure_40 rfl ?_
        refine g_geti dX10_figure_41 fl_X10_169 h.1.1 ?_
        rw [show w_i (s_i w 57 15 (nI p)) 57 15 = nI p from h.2.2.1]
        refine g_iconst (v := 1) dX10_figure_44 rfl ?_
        refine g_iadd dX10_figure_45 ?_
        rw [nI_1]
        refine g_puti dX10_figure_46 fl_X10_169 ft_10_15 h.1.1 ?_
        refine g_goto (tgt := 4) dX10_figure_49 (by decide) ?_
        have hdg : tp_dg (tp_h g T p) = true := by rw [← lk_dg h.2.1]; exact hyes
        have hlt := tp_lt (tp_dg_ne hdg)
        rw [si_si, nI_1', lk_val h.2.1 p hdg]
        have e : tp_num g T (z + 1) p v = tp_num g T z (p + 1) (10 * v + tp_h g T p - 48) := if_pos hdg
        rw [e] at kk
        have hb := tp_num_b (g := g) (T := T) z (p + 1) (10 * v + tp_h g T p - 48) (by omega)
        rw [show i + ((tp_num g T z (p + 1) (10 * v + tp_h g T p - 48)).1 - p) = i + 1 + ((tp_num g T z (p + 1) (10 * v + tp_h g T p - 48)).1 - (p + 1)) by omega] at kk
        have h2 : prI (s_i w 57 15 (nI (p + 1))) T g (p + 1) op N := by
          have := h.hr (p' := p + 1) (by omega)
          rw [si_si] at this
          exact this
        exact ih (i + 1) (p + 1) _ (by omega) h2 kk
      · refine g_if_eq (tgt := 52) dX10_figure_20 (by decide) (fun _ => ?_) (fun q => absurd q (by decide))
        have e : tp_num g T (z + 1) p v = (p, v) := if_neg (by rw [← lk_dg h.2.1, hno]; decide)
        rw [e, show p - p = 0 from Nat.sub_self p] at kk
        exact kk
theorem ad_same {w : gx_W} {N : Nat} {a v : Int32} : same [68, 69] [(57, 18)] w (adW w N a v) := ((same.rf.sa (by simp)).sa (by simp)).si (by simp)
theorem ad_18 {w : gx_W} {N : Nat} {a v : Int32} : w_i (adW w N a v) 57 18 = nI (N + 1) := by
  unfold adW
  rw [wi_si, if_pos ⟨rfl, rfl⟩]
theorem ad_R {w : gx_W} {T p op N : Nat} {g : Nat → Int32} {a v : Int32} {s : stS} (h : prI w T g p op N) (hs : mpS s = (a, v)) : prR w (adW w N a v) N p [s] := by
  refine ⟨ad_same.wk (by simp) (by simp), (ad_same.2.1 57 15 (by simp)).trans h.2.2.1, ad_same.2.1 57 16 (by simp), ad_same.2.1 57 17 (by simp), ad_18, ?_, ?_⟩
  · show _ = va_up (w_a w 68) (130 + N) (mpS s).1
    rw [hs]
    rfl
  · show _ = va_up (w_a w 69) (130 + N) (mpS s).2
    rw [hs]
    rfl
theorem ad_low {w : gx_W} {N : Nat} {a v : Int32} : lowK w (adW w N a v) := fun j hj => ⟨by show va_up (w_a w 68) (130 + N) a j = _; exact va_up_row (by omega), by show va_up (w_a w 69) (130 + N) v j = _; exact va_up_row (by omega)⟩
/-- a step more behind a fault -/
theorem ad_B {w w' : gx_W} {p N F N' : Nat} {a v : Int32} (hs : same [68, 69] prF w w') (h1 : w_i w' 57 15 = nI F) (h2 : w_i w' 57 16 = nI F) (hN : N' + 1 + p ≤ F + 1 + N) (hk : lowK w w') : prB w (adW w' N' a v) p N F := ⟨hs.tr (ad_same.wk (by simp) (by simp)), (ad_same.2.1 57 15 (by simp)).trans h1, (ad_same.2.1 57 16 (by simp)).trans h2, N' + 1, ad_18, hN, hk.tr ad_low⟩
theorem c_X10_figure {d : Nat} {w : gx_W} {T p op N : Nat} {g : Nat → Int32} {k : gx_W → Prop} (hd : 2 ≤ d) (h : prI w T g p op N) (hN : N ≤ p) (kA : tp_dg (tp_h g T p) = true → tp_dg (tp_h g T (tp_num g T 4 p 0).1) = false → ∀ w', prR w w' N (tp_num g T 4 p 0).1 [(48, (tp_num g T 4 p 0).2)] → k w') (kB : ∀ F, ((tp_dg (tp_h g T p) = false ∧ F = p) ∨ (tp_dg (tp_h g T p) = true ∧ F = (tp_num g T 4 p 0).1 ∧ tp_dg (tp_h g T F) = true)) → ∀ w', prB w w' p N F → k w') : gx_C 0 0 d mX10_figure [.ref 57] w (Qv k) := by
  refine gx_C_of' (L := [.ref 57, .retAddr 0, .retAddr 0]) (by decide +kernel) rfl (Nat.le_of_ble_eq_true rfl) ?_
  refine g_iconst (v := 0) dX10_figure_0 rfl ?_
  refine g_istore_n dX10_figure_1 (Nat.le_of_ble_eq_true rfl) rfl ?_
  refine g_iconst (v := 0) dX10_figure_2 rfl ?_
  refine g_istore_n dX10_figure_3 (Nat.le_of_ble_eq_true rfl) rfl ?_
  have h0 : prI (s_i w 57 15 (nI p)) T g p op N := h.hr h.2.2.2.1
  have e0 : s_i w 57 15 (nI p) = w := si_id h.2.2.1
  have K := fun kk2 => l_X10_figure (d := d) (k := k) (T := T) (g := g) (op := op) (N := N) (w := w) (by omega) 4 0 p 0 rfl h0 kk2
  rw [e0] at K
  refine K ?_
  have hb := tp_num_b (g := g) (T := T) 4 p 0 h.2.2.2.1
  have hT := h.2.1.2.1
  have h1 : prI (s_i w 57 15 (nI (tp_num g T 4 p 0).1)) T g (tp_num g T 4 p 0).1 op N := h.hr hb.2
  rw [Nat.zero_add]
  refine g_iload_n dX10_figure_52 rfl ?_
  refine g_if_eq (tgt := 70) dX10_figure_53 (by decide) (fun zc53 => ?_) (fun zc53 => ?_)
  · refine g_aload_n dX10_figure_70 rfl ?_
    refine g_cV0v dX10_figure_71 ml_X10_181 mi_X10_wrong mv_X10_wrong h1.1.1 ⟨_, rfl, rfl⟩ (Nat.le_of_ble_eq_true rfl) rfl (by omega) ?_
    refine c_X10_wrong (by omega) h1.1 h1.2.2.2.2.1 h1.2.2.1 ?_
    refine g_aload_n dX10_figure_74 rfl ?_
    refine g_iconst (v := 1) dX10_figure_75 rfl ?_
    refine g_iload_n dX10_figure_76 rfl ?_
    refine g_cV2v dX10_figure_77 ml_X10_188 mi_X10_addStep mv_X10_addStep h1.1.1 ⟨_, rfl, rfl⟩ (Nat.le_of_ble_eq_true rfl) rfl (by omega) ?_
    refine c_X10_addStep (c := 1) (N := N) (by omega) h1.1 h1.2.2.2.2.2.2 (by omega) (by decide) ?_
    refine g_vret dX10_figure_80 rfl ⟨rfl, ?_⟩
    have hz : (tp_num g T 4 p 0).1 = p := by
      have := pI_inj (a := (tp_num g T 4 p 0).1 - p) (b := 0) (by omega) (by omega) zc53
      omega
    refine kB (tp_num g T 4 p 0).1 (Or.inl ⟨?_, hz⟩) _ (ad_B ((same.rf.si (by simp)).si (by simp)) (by rw [wi_si, if_neg (by decide), wi_si, if_pos ⟨rfl, rfl⟩]) (by rw [wi_si, if_pos ⟨rfl, rfl⟩]) (by omega) (fun _ _ => ⟨rfl, rfl⟩))
    cases e : tp_dg (tp_h g T p) with
    | false => rfl
    | true =>
      have := tp_num_b1 (v := 0) h.2.2.2.1 e
      omega
  · refine g_aload_n dX10_figure_56 rfl ?_
    refine g_cV0i dX10_figure_57 ml_X10_184 mi_X10_look mv_X10_look h1.1.1 ⟨_, rfl, rfl⟩ (Nat.le_of_ble_eq_true rfl) rfl (by omega) ?_
    refine c_X10_look (by omega) h1.1 h1.2.1 h1.2.2.1 h1.2.2.2.1 ?_
    refine g_bipush (v := 48) dX10_figure_60 rfl ?_
    refine g_bipush (v := 57) dX10_figure_62 rfl ?_
    refine g_cS3i dX10_figure_64 ml_X10_124 mi_X10_in ms_X10_in (Nat.le_of_ble_eq_true rfl) rfl (by omega) ?_
    refine c_inD (fun hyes => ?_) (fun hno => ?_)
    · refine g_if_eq (tgt := 74) dX10_figure_67 (by decide) (fun q => absurd q (by decide)) (fun _ => ?_)
      refine g_aload_n dX10_figure_70 rfl ?_
      refine g_cV0v dX10_figure_71 ml_X10_181 mi_X10_wrong mv_X10_wrong h1.1.1 ⟨_, rfl, rfl⟩ (Nat.le_of_ble_eq_true rfl) rfl (by omega) ?_
      refine c_X10_wrong (by omega) h1.1 h1.2.2.2.2.1 h1.2.2.1 ?_
      refine g_aload_n dX10_figure_74 rfl ?_
      refine g_iconst (v := 1) dX10_figure_75 rfl ?_
      refine g_iload_n dX10_figure_76 rfl ?_
      refine g_cV2v dX10_figure_77 ml_X10_188 mi_X10_addStep mv_X10_addStep h1.1.1 ⟨_, rfl, rfl⟩ (Nat.le_of_ble_eq_true rfl) rfl (by omega) ?_
      refine c_X10_addStep (c := 1) (N := N) (by omega) h1.1 h1.2.2.2.2.2.2 (by omega) (by decide) ?_
      refine g_vret dX10_figure_80 rfl ⟨rfl, ?_⟩
      have hdg : tp_dg (tp_h g T p) = true := by
        cases e : tp_dg (tp_h g T p) with
        | true => rfl
        | false => exact absurd (show nI ((tp_num g T 4 p 0).1 - p) = 0 from by rw [show (tp_num g T 4 p 0) = (p, 0) from if_neg (by rw [e]; decide)]; show nI (p - p) = 0; rw [Nat.sub_self]; rfl) zc53
      refine kB (tp_num g T 4 p 0).1 (Or.inr ⟨hdg, rfl, by rw [← lk_dg h.2.1]; exact hyes⟩) _ (ad_B ((same.rf.si (by simp)).si (by simp)) (by rw [wi_si, if_neg (by decide), wi_si, if_pos ⟨rfl, rfl⟩]) (by rw [wi_si, if_pos ⟨rfl, rfl⟩]) (by omega) (fun _ _ => ⟨rfl, rfl⟩))
    · refine g_if_eq (tgt := 74) dX10_figure_67 (by decide) (fun _ => ?_) (fun q => absurd q (by decide))
      refine g_aload_n dX10_figure_74 rfl ?_
      refine g_iconst (v := 1) dX10_figure_75 rfl ?_
      refine g_iload_n dX10_figure_76 rfl ?_
      refine g_cV2v dX10_figure_77 ml_X10_188 mi_X10_addStep mv_X10_addStep h1.1.1 ⟨_, rfl, rfl⟩ (Nat.le_of_ble_eq_true rfl) rfl (by omega) ?_
      refine c_X10_addStep (c := 1) (N := N) (by omega) h1.1 h1.2.2.2.2.2.2 (by omega) (by decide) ?_
      refine g_vret dX10_figure_80 rfl ⟨rfl, ?_⟩
      have hdg : tp_dg (tp_h g T p) = true := by
        cases e : tp_dg (tp_h g T p) with
        | true => rfl
        | false => exact absurd (show nI ((tp_num g T 4 p 0).1 - p) = 0 from by rw [show (tp_num g T 4 p 0) = (p, 0) from if_neg (by rw [e]; decide)]; show nI (p - p) = 0; rw [Nat.sub_self]; rfl) zc53
      refine kA hdg (by rw [← lk_dg h.2.1]; exact hno) _ ?_
      have r1 : prR w (s_i w 57 15 (nI (tp_num g T 4 p 0).1)) N (tp_num g T 4 p 0).1 [] := ⟨same.rf.si (by simp), by rw [wi_si, if_pos ⟨rfl, rfl⟩], rfl, rfl, h.2.2.2.2.2.2, rfl, rfl⟩
      exact r1.tr' (ad_R (s := (48, (tp_num g T 4 p 0).2)) h1 rfl) rfl rfl

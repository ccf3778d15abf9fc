/-! The reference: its reader, levels -/
def mPr : Nat → gx_M
  | 0 => mX10_either
  | 1 => mX10_both
  | 2 => mX10_compared
  | 3 => mX10_sum
  | 4 => mX10_product
  | _ => mX10_operand
def prC (T : Nat) (g : Nat → Int32) (f lv : Nat) : Prop := ∀ {d op p N : Nat} {w : gx_W} {k : gx_W → Prop}, (6 - op) * 6 + (6 - lv) ≤ f → f + 3 ≤ d → op ≤ 6 → prI w T g p op N → N ≤ p → ((tp_j g T f lv op p).1 = true → ∀ w', prR w w' N (tp_j g T f lv op p).2.1 (tp_j g T f lv op p).2.2 → k w') → (((tp_j g T f lv op p).1 = false ∨ tp_dg (tp_h g T (tp_j g T f lv op p).2.1) = true) → ∀ w', prB w w' p N (tp_j g T f lv op p).2.1 → k w') → gx_C 0 0 d (mPr lv) [.ref 57] w (Qv k)
theorem tp_dg_jn : ∀ lv, lv < 5 → ∀ m, m < 58 → 48 ≤ m → tp_jn lv (nI m) = false := by decide +kernel
theorem jn_dg {lv : Nat} {s : Int32} (hl : lv < 5) (h : tp_dg s = true) : tp_jn lv s = false := by
  obtain ⟨h1, h2⟩ := tp_dg_iff.mp h
  obtain ⟨m, hm, e⟩ := nI_of2 (M := 57) (n := 57) (by decide) (fun z => absurd (Int32.le_trans h1 (Int32.le_of_lt z)) (by decide)) h2
  rw [e]
  refine tp_dg_jn lv hl m (by omega) ?_
  rw [e, show (48 : Int32) = nI 48 from rfl, nI_leI (by decide) (by omega)] at h1
  exact h1
theorem lp_no {g : Nat → Int32} {T lv : Nat} {rc : Nat → tpT} {p : Nat} (h : tp_jn lv (tp_h g T p) = false) : ∀ z, tp_lp g T rc lv z p = (true, p, []) := by
  intro z
  cases z with
  | zero => rfl
  | succ z => exact if_neg (by rw [h]; decide)
theorem lp_go {g : Nat → Int32} {T lv : Nat} {rc : Nat → tpT} {p z : Nat} (h : tp_jn lv (tp_h g T p) = true) (hr : (rc (p + 1)).1 = true) : tp_lp g T rc lv (z + 1) p = ((tp_lp g T rc lv z (rc (p + 1)).2.1).1, (tp_lp g T rc lv z (rc (p + 1)).2.1).2.1, (rc (p + 1)).2.2 ++ (tp_h g T p, 0) :: (tp_lp g T rc lv z (rc (p + 1)).2.1).2.2) := by
  show (if _ then (if _ then _ else _) else _) = _
  rw [if_pos h, if_pos hr]
theorem lp_bad {g : Nat → Int32} {T lv : Nat} {rc : Nat → tpT} {p z : Nat} (hl : lv < 5) (h : tp_jn lv (tp_h g T p) = true) (hB : (rc (p + 1)).1 = false ∨ tp_dg (tp_h g T (rc (p + 1)).2.1) = true) : (tp_lp g T rc lv (z + 1) p).2.1 = (rc (p + 1)).2.1 ∧ ((tp_lp g T rc lv (z + 1) p).1 = false ∨ tp_dg (tp_h g T (rc (p + 1)).2.1) = true) := by
  cases e : (rc (p + 1)).1 with
  | true =>
    have hd : tp_dg (tp_h g T (rc (p + 1)).2.1) = true := by
      rcases hB with q | q
      · rw [e] at q; cases q
      · exact q
    rw [lp_go h e, lp_no (jn_dg hl hd)]
    exact ⟨rfl, Or.inr hd⟩
  | false =>
    have e2 : tp_lp g T rc lv (z + 1) p = (false, (rc (p + 1)).2.1, (rc (p + 1)).2.2) := by
      show (if _ then (if _ then _ else _) else _) = _
      rw [if_pos h, if_neg (by rw [e]; decide)]
    rw [e2]
    exact ⟨rfl, Or.inl rfl⟩
theorem j_go {g : Nat → Int32} {T f lv op p : Nat} (hl : lv < 5) (h : (tp_j g T f (lv + 1) op p).1 = true) : tp_j g T (f + 1) lv op p = tp_ap (tp_j g T f (lv + 1) op p).2.2 (tp_lp g T (tp_j g T f (lv + 1) op) lv (if lv = 2 then 1 else 120) (tp_j g T f (lv + 1) op p).2.1) := by
  show (if 5 ≤ lv then _ else if _ then _ else _) = _
  rw [if_neg (by omega), if_pos h]
theorem j_bad {g : Nat → Int32} {T f lv op p : Nat} (hl : lv < 5) (hB : (tp_j g T f (lv + 1) op p).1 = false ∨ tp_dg (tp_h g T (tp_j g T f (lv + 1) op p).2.1) = true) : (tp_j g T (f + 1) lv op p).2.1 = (tp_j g T f (lv + 1) op p).2.1 ∧ ((tp_j g T (f + 1) lv op p).1 = false ∨ tp_dg (tp_h g T (tp_j g T f (lv + 1) op p).2.1) = true) := by
  cases e : (tp_j g T f (lv + 1) op p).1 with
  | true =>
    have hd : tp_dg (tp_h g T (tp_j g T f (lv + 1) op p).2.1) = true := by
      rcases hB with q | q
      · rw [e] at q; cases q
      · exact q
    rw [j_go hl e, lp_no (jn_dg hl hd)]
    exact ⟨rfl, Or.inr hd⟩
  | false =>
    have e2 : tp_j g T (f + 1) lv op p = tp_j g T f (lv + 1) op p := by
      show (if 5 ≤ lv then _ else if _ then _ else _) = _
      rw [if_neg (by omega), if_neg (by rw [e]; decide)]
    rw [e2]
    exact ⟨rfl, Or.inl e⟩
theorem prR.bad' {w w' w'' : gx_W} {N N' p p' F : Nat} {L : List stS} (h : prR w w' N p' L) (h' : prB w' w'' p' N' F) (e : N' = N + L.length) (hp : p + L.length ≤ p') : prB w w'' p N F := by
  subst e
  exact h.bad h' hp
theorem c_addB {d c p N F : Nat} {w1 w2 w3 : gx_W} {v : Int32} {k : gx_W → Prop} (hO : moO w1) (hs : same [68, 69] prF w1 w2 ∧ lowK w1 w2) (hB : prB w2 w3 (p + 1) N F) (hN : N ≤ p) (hF : F ≤ 120) (hc : c < 128) (kk : ∀ w', prB w1 w' p N F → k w') : gx_C 0 0 d mX10_addStep [.ref 57, .int (nI c), .int v] w3 (Qv k) := by
  obtain ⟨b1, b2, b3, N', b4, b5, b6⟩ := hB
  exact c_X10_addStep (Nat.zero_le _) (hO.same (hs.1.tr b1)) b4 (by omega) hc (kk _ (ad_B (hs.1.tr b1) b2 b3 (by omega) (hs.2.tr b6)))
theorem prI.at1 {w : gx_W} {T p op N : Nat} {g : Nat → Int32} (h : prI w T g p op N) : w_i w 57 15 + 1 = nI (p + 1) := by
  rw [h.2.2.1, nI_1]
theorem prI.s1 {w : gx_W} {T p op N : Nat} {g : Nat → Int32} (_ : prI w T g p op N) : same [68, 69] prF w (s_i w 57 15 (nI (p + 1))) ∧ lowK w (s_i w 57 15 (nI (p + 1))) := ⟨same.rf.si (by simp), fun _ _ => ⟨rfl, rfl⟩⟩
theorem prI.sg {w : gx_W} {T p op N c : Nat} {g : Nat → Int32} (h : prI w T g p op N) (hN : N < 130) (hc : mpS (nI c, 0) = (nI c, 0)) : prR w (adW w N (nI c) 0) N p [(nI c, 0)] := ad_R h hc
set_option maxHeartbeats 4000000 in
theorem l_X10_either {d f T op : Nat} {g : Nat → Int32} {k : gx_W → Prop} (IH : prC T g f 1) (hf : (6 - op) * 6 + (6 - 1) ≤ f) (hd : f + 4 ≤ d) (hop : op ≤ 6) : ∀ (z p N : Nat) (w : gx_W), T ≤ p + z → prI w T g p op N → N ≤ p → ((tp_lp g T (tp_j g T f 1 op) 0 z p).1 = true → ∀ w', prR w w' N (tp_lp g T (tp_j g T f 1 op) 0 z p).2.1 (tp_lp g T (tp_j g T f 1 op) 0 z p).2.2 → k w') → (((tp_lp g T (tp_j g T f 1 op) 0 z p).1 = false ∨ tp_dg (tp_h g T (tp_lp g T (tp_j g T f 1 op) 0 z p).2.1) = true) → ∀ w', prB w w' p N (tp_lp g T (tp_j g T f 1 op) 0 z p).2.1 → k w') → gx_G 0 0 d mX10_either (Qv k) 4 [.ref 57] [] w := by
  intro z
  induction z with
  | zero =>
    intro p N w hz h hN kA kB
    have hpT := h.2.2.2.1
    have hm1 : tp_h g T p = -1 := if_neg (by omega)
    have nc : ∀ c : Nat, c < 128 → ¬ lk g T p = nI c := fun c hc q => by
      have := (lk_c h.2.1 p hc).mp q
      rw [hm1] at this
      have := congrArg Int32.toInt this
      rw [nI_toInt (by omega), show (-1 : Int32).toInt = -1 by decide] at this
      omega
    refine g_aload_n dX10_either_4 rfl ?_
    refine g_geti dX10_either_5 fl_X10_172 h.1.1 ?_
    rw [h.2.2.2.2.1]
    refine g_if_ge (tgt := 44) dX10_either_8 (by decide) (fun zc8 => ?_) (fun zc8 => ?_)
    · refine g_vret dX10_either_44 rfl ⟨rfl, ?_⟩
      exact kA rfl w h.rf
    · refine g_aload_n dX10_either_11 rfl ?_
      refine g_cV0i dX10_either_12 ml_X10_184 mi_X10_look mv_X10_look h.1.1 ⟨_, rfl, rfl⟩ (Nat.le_of_ble_eq_true rfl) rfl (by omega) ?_
      refine c_X10_look (by omega) h.1 h.2.1 h.2.2.1 h.2.2.2.1 ?_
      refine g_bipush (v := 124) dX10_either_15 rfl ?_
      refine g_icmp_ne (tgt := 44) dX10_either_17 (by decide) (fun zc17 => ?_) (fun zc17 => ?_)
      · refine g_vret dX10_either_44 rfl ⟨rfl, ?_⟩
        exact kA rfl w h.rf
      · exact absurd zc17 (nc 124 (by decide))
  | succ z ih =>
    intro p N w hz h hN kA kB
    have hpT := h.2.2.2.1
    have hT := h.2.1.2.1
    refine g_aload_n dX10_either_4 rfl ?_
    refine g_geti dX10_either_5 fl_X10_172 h.1.1 ?_
    rw [h.2.2.2.2.1]
    refine g_if_ge (tgt := 44) dX10_either_8 (by decide) (fun zc8 => ?_) (fun zc8 => ?_)
    · refine g_vret dX10_either_44 rfl ⟨rfl, ?_⟩
      exact absurd zc8 (by decide)
    · refine g_aload_n dX10_either_11 rfl ?_
      refine g_cV0i dX10_either_12 ml_X10_184 mi_X10_look mv_X10_look h.1.1 ⟨_, rfl, rfl⟩ (Nat.le_of_ble_eq_true rfl) rfl (by omega) ?_
      refine c_X10_look (by omega) h.1 h.2.1 h.2.2.1 h.2.2.2.1 ?_
      refine g_bipush (v := 124) dX10_either_15 rfl ?_
      refine g_icmp_ne (tgt := 44) dX10_either_17 (by decide) (fun zc17 => ?_) (fun zc17 => ?_)
      · refine g_vret dX10_either_44 rfl ⟨rfl, ?_⟩
        have n124 : ¬ tp_h g T p = 124 := fun q => zc17 ((lk_c h.2.1 p (c := 124) (by decide)).mpr q)
        have hj : tp_jn 0 (tp_h g T p) = false := decide_eq_false n124
        rw [lp_no hj] at kA
        exact kA rfl w h.rf
      · have hh : tp_h g T p = nI 124 := (lk_c h.2.1 p (by decide)).mp zc17
        have hj : tp_jn 0 (tp_h g T p) = true := by rw [hh]; decide
        have hlt : p < T := tp_lt (tp_jn_ne hj)
        have h2 : prI (s_i w 57 15 (nI (p + 1))) T g (p + 1) op N := h.hr (by omega)
        refine g_aload_n dX10_either_20 rfl ?_
        refine g_dup dX10_either_21 rfl ?_
        refine g_geti dX10_either_22 fl_X10_169 h.1.1 ?_
        refine g_iconst (v := 1) dX10_either_25 rfl ?_
        refine g_iadd dX10_either_26 ?_
        rw [h.at1]
        refine g_puti dX10_either_27 fl_X10_169 ft_10_15 h.1.1 ?_
        refine g_aload_n dX10_either_30 rfl ?_
        refine g_cV0v dX10_either_31 ml_X10_218 mi_X10_both mv_X10_both h.1.1 ⟨_, rfl, rfl⟩ (Nat.le_of_ble_eq_true rfl) rfl (by omega) ?_
        refine IH (d := d - 1) (p := p + 1) (N := N) (by omega) (by omega) hop h2 (by omega) (fun hr w3 r3 => ?_) (fun hr w3 b3 => ?_)
        · have hb := tp_j_b (g := g) (T := T) f 1 op (p + 1) (by omega)
          unfold tpB at hb
          have h3 := h2.go r3 hb.2
          refine g_aload_n dX10_either_34 rfl ?_
          refine g_bipush (v := 124) dX10_either_35 rfl ?_
          refine g_iconst (v := 0) dX10_either_37 rfl ?_
          refine g_cV2v dX10_either_38 ml_X10_188 mi_X10_addStep mv_X10_addStep h3.1.1 ⟨_, rfl, rfl⟩ (Nat.le_of_ble_eq_true rfl) rfl (by omega) ?_
          refine c_X10_addStep (c := 124) (N := N + (tp_j g T f 1 op (p + 1)).2.2.length) (by omega) h3.1 h3.2.2.2.2.2.2 (by omega) (by decide) ?_
          refine g_goto (tgt := 4) dX10_either_41 (by decide) ?_
          have r4 : prR w3 (adW w3 (N + (tp_j g T f 1 op (p + 1)).2.2.length) (nI 124) 0) (N + (tp_j g T f 1 op (p + 1)).2.2.length) (tp_j g T f 1 op (p + 1)).2.1 [(nI 124, 0)] := h3.sg (by omega) (by decide)
          have h4 := h3.go r4 hb.2
          rw [lp_go hj hr] at kA kB
          rw [hh] at kA kB
          have r5 := (h.mv.tr r3).tr r4
          refine ih (tp_j g T f 1 op (p + 1)).2.1 (N + (tp_j g T f 1 op (p + 1)).2.2.length + 1) _ (by omega) h4 (by omega) (fun q w' r' => kA q w' (r5.tr' r' ?_ ?_)) (fun q w' b' => kB q w' (r5.bad' (p := p) b' ?_ ?_))
          · simp only [List.length_append, List.length_cons, List.length_nil]; omega
          · simp only [List.nil_append, List.append_assoc, List.cons_append]
          · simp only [List.length_append, List.length_cons, List.length_nil]; omega
          · simp only [List.length_append, List.length_cons, List.length_nil]; omega
        · have hb := tp_j_b (g := g) (T := T) f 1 op (p + 1) (by omega)
          unfold tpB at hb
          have h3 : moO w3 := h2.1.same b3.1
          refine g_aload_n dX10_either_34 rfl ?_
          refine g_bipush (v := 124) dX10_either_35 rfl ?_
          refine g_iconst (v := 0) dX10_either_37 rfl ?_
          refine g_cV2v dX10_either_38 ml_X10_188 mi_X10_addStep mv_X10_addStep h3.1 ⟨_, rfl, rfl⟩ (Nat.le_of_ble_eq_true rfl) rfl (by omega) ?_
          refine c_addB (c := 124) (p := p) (N := N) h.1 h.s1 b3 hN (by omega) (by decide) (fun w4 b4 => ?_)
          have h4 : moO w4 := h.1.same b4.1
          have hf4 : w_i w4 57 16 = nI (tp_j g T f 1 op (p + 1)).2.1 := b4.2.2.1
          refine g_goto (tgt := 4) dX10_either_41 (by decide) ?_
          refine g_aload_n dX10_either_4 rfl ?_
          refine g_geti dX10_either_5 fl_X10_172 h4.1 ?_
          rw [hf4]
          refine g_if_ge (tgt := 44) dX10_either_8 (by decide) (fun zc8 => ?_) (fun zc8 => ?_)
          · refine g_vret dX10_either_44 rfl ⟨rfl, ?_⟩
            obtain ⟨q1, q2⟩ := lp_bad (z := z) (by decide) hj hr
            rw [q1] at kB
            exact kB q2 w4 b4
          · exact absurd (show (0 : Int32) ≤ nI (tp_j g T f 1 op (p + 1)).2.1 from nI_pos' (by omega)) zc8
set_option maxHeartbeats 4000000 in
theorem l_X10_both {d f T op : Nat} {g : Nat → Int32} {k : gx_W → Prop} (IH : prC T g f 2) (hf : (6 - op) * 6 + (6 - 2) ≤ f) (hd : f + 4 ≤ d) (hop : op ≤ 6) : ∀ (z p N : Nat) (w : gx_W), T ≤ p + z → prI w T g p op N → N ≤ p → ((tp_lp g T (tp_j g T f 2 op) 1 z p).1 = true → ∀ w', prR w w' N (tp_lp g T (tp_j g T f 2 op) 1 z p).2.1 (tp_lp g T (tp_j g T f 2 op) 1 z p).2.2 → k w') → (((tp_lp g T (tp_j g T f 2 op) 1 z p).1 = false ∨ tp_dg (tp_h g T (tp_lp g T (tp_j g T f 2 op) 1 z p).2.1) = true) → ∀ w', prB w w' p N (tp_lp g T (tp_j g T f 2 op) 1 z p).2.1 → k w') → gx_G 0 0 d mX10_both (Qv k) 4 [.ref 57] [] w := by
  intro z
  induction z with
  | zero =>
    intro p N w hz h hN kA kB
    have hpT := h.2.2.2.1
    have hm1 : tp_h g T p = -1 := if_neg (by omega)
    have nc : ∀ c : Nat, c < 128 → ¬ lk g T p = nI c := fun c hc q => by
      have := (lk_c h.2.1 p hc).mp q
      rw [hm1] at this
      have := congrArg Int32.toInt this
      rw [nI_toInt (by omega), show (-1 : Int32).toInt = -1 by decide] at this
      omega
    refine g_aload_n dX10_both_4 rfl ?_
    refine g_geti dX10_both_5 fl_X10_172 h.1.1 ?_
    rw [h.2.2.2.2.1]
    refine g_if_ge (tgt := 44) dX10_both_8 (by decide) (fun zc8 => ?_) (fun zc8 => ?_)
    · refine g_vret dX10_both_44 rfl ⟨rfl, ?_⟩
      exact kA rfl w h.rf
    · refine g_aload_n dX10_both_11 rfl ?_
      refine g_cV0i dX10_both_12 ml_X10_184 mi_X10_look mv_X10_look h.1.1 ⟨_, rfl, rfl⟩ (Nat.le_of_ble_eq_true rfl) rfl (by omega) ?_
      refine c_X10_look (by omega) h.1 h.2.1 h.2.2.1 h.2.2.2.1 ?_
      refine g_bipush (v := 38) dX10_both_15 rfl ?_
      refine g_icmp_ne (tgt := 44) dX10_both_17 (by decide) (fun zc17 => ?_) (fun zc17 => ?_)
      · refine g_vret dX10_both_44 rfl ⟨rfl, ?_⟩
        exact kA rfl w h.rf
      · exact absurd zc17 (nc 38 (by decide))
  | succ z ih =>
    intro p N w hz h hN kA kB
    have hpT := h.2.2.2.1
    have hT := h.2.1.2.1
    refine g_aload_n dX10_both_4 rfl ?_
    refine g_geti dX10_both_5 fl_X10_172 h.1.1 ?_
    rw [h.2.2.2.2.1]
    refine g_if_ge (tgt := 44) dX10_both_8 (by decide) (fun zc8 => ?_) (fun zc8 => ?_)
    · refine g_vret dX10_both_44 rfl ⟨rfl, ?_⟩
      exact absurd zc8 (by decide)
    · refine g_aload_n dX10_both_11 rfl ?_
      refine g_cV0i dX10_both_12 ml_X10_184 mi_X10_look mv_X10_look h.1.1 ⟨_, rfl, rfl⟩ (Nat.le_of_ble_eq_true rfl) rfl (by omega) ?_
      refine c_X10_look (by omega) h.1 h.2.1 h.2.2.1 h.2.2.2.1 ?_
      refine g_bipush (v := 38) dX10_both_15 rfl ?_
      refine g_icmp_ne (tgt := 44) dX10_both_17 (by decide) (fun zc17 => ?_) (fun zc17 => ?_)
      · refine g_vret dX10_both_44 rfl ⟨rfl, ?_⟩
        have n38 : ¬ tp_h g T p = 38 := fun q => zc17 ((lk_c h.2.1 p (c := 38) (by decide)).mpr q)
        have hj : tp_jn 1 (tp_h g T p) = false := decide_eq_false n38
        rw [lp_no hj] at kA
        exact kA rfl w h.rf
      · have hh : tp_h g T p = nI 38 := (lk_c h.2.1 p (by decide)).mp zc17
        have hj : tp_jn 1 (tp_h g T p) = true := by rw [hh]; decide
        have hlt : p < T := tp_lt (tp_jn_ne hj)
        have h2 : prI (s_i w 57 15 (nI (p + 1))) T g (p + 1) op N := h.hr (by omega)
        refine g_aload_n dX10_both_20 rfl ?_
        refine g_dup dX10_both_21 rfl ?_
        refine g_geti dX10_both_22 fl_X10_169 h.1.1 ?_
        refine g_iconst (v := 1) dX10_both_25 rfl ?_
        refine g_iadd dX10_both_26 ?_
        rw [h.at1]
        refine g_puti dX10_both_27 fl_X10_169 ft_10_15 h.1.1 ?_
        refine g_aload_n dX10_both_30 rfl ?_
        refine g_cV0v dX10_both_31 ml_X10_215 mi_X10_compared mv_X10_compared h.1.1 ⟨_, rfl, rfl⟩ (Nat.le_of_ble_eq_true rfl) rfl (by omega) ?_
        refine IH (d := d - 1) (p := p + 1) (N := N) (by omega) (by omega) hop h2 (by omega) (fun hr w3 r3 => ?_) (fun hr w3 b3 => ?_)
        · have hb := tp_j_b (g := g) (T := T) f 2 op (p + 1) (by omega)
          unfold tpB at hb
          have h3 := h2.go r3 hb.2
          refine g_aload_n dX10_both_34 rfl ?_
          refine g_bipush (v := 38) dX10_both_35 rfl ?_
          refine g_iconst (v := 0) dX10_both_37 rfl ?_
          refine g_cV2v dX10_both_38 ml_X10_188 mi_X10_addStep mv_X10_addStep h3.1.1 ⟨_, rfl, rfl⟩ (Nat.le_of_ble_eq_true rfl) rfl (by omega) ?_
          refine c_X10_addStep (c := 38) (N := N + (tp_j g T f 2 op (p + 1)).2.2.length) (by omega) h3.1 h3.2.2.2.2.2.2 (by omega) (by decide) ?_
          refine g_goto (tgt := 4) dX10_both_41 (by decide) ?_
          have r4 : prR w3 (adW w3 (N + (tp_j g T f 2 op (p + 1)).2.2.length) (nI 38) 0) (N + (tp_j g T f 2 op (p + 1)).2.2.length) (tp_j g T f 2 op (p + 1)).2.1 [(nI 38, 0)] := h3.sg (by omega) (by decide)
          have h4 := h3.go r4 hb.2
          rw [lp_go hj hr] at kA kB
          rw [hh] at kA kB
          have r5 := (h.mv.tr r3).tr r4
          refine ih (tp_j g T f 2 op (p + 1)).2.1 (N + (tp_j g T f 2 op (p + 1)).2.2.length + 1) _ (by omega) h4 (by omega) (fun q w' r' => kA q w' (r5.tr' r' ?_ ?_)) (fun q w' b' => kB q w' (r5.bad' (p := p) b' ?_ ?_))
          · simp only [List.length_append, List.length_cons, List.length_nil]; omega
          · simp only [List.nil_append, List.append_assoc, List.cons_append]
          · simp only [List.length_append, List.length_cons, List.length_nil]; omega
          · simp only [List.length_append, List.length_cons, List.length_nil]; omega
        · have hb := tp_j_b (g := g) (T := T) f 2 op (p + 1) (by omega)
          unfold tpB at hb
          have h3 : moO w3 := h2.1.same b3.1
          refine g_aload_n dX10_both_34 rfl ?_
          refine g_bipush (v := 38) dX10_both_35 rfl ?_
          refine g_iconst (v := 0) dX10_both_37 rfl ?_
          refine g_cV2v dX10_both_38 ml_X10_188 mi_X10_addStep mv_X10_addStep h3.1 ⟨_, rfl, rfl⟩ (Nat.le_of_ble_eq_true rfl) rfl (by omega) ?_
          refine c_addB (c := 38) (p := p) (N := N) h.1 h.s1 b3 hN (by omega) (by decide) (fun w4 b4 => ?_)
          have h4 : moO w4 := h.1.same b4.1
          have hf4 : w_i w4 57 16 = nI (tp_j g T f 2 op (p + 1)).2.1 := b4.2.2.1
          refine g_goto (tgt := 4) dX10_both_41 (by decide) ?_
          refine g_aload_n dX10_both_4 rfl ?_
          refine g_geti dX10_both_5 fl_X10_172 h4.1 ?_
          rw [hf4]
          refine g_if_ge (tgt := 44) dX10_both_8 (by decide) (fun zc8 => ?_) (fun zc8 => ?_)
          · refine g_vret dX10_both_44 rfl ⟨rfl, ?_⟩
            obtain ⟨q1, q2⟩ := lp_bad (z := z) (by decide) hj hr
            rw [q1] at kB
            exact kB q2 w4 b4
          · exact absurd (show (0 : Int32) ≤ nI (tp_j g T f 2 op (p + 1)).2.1 from nI_pos' (by omega)) zc8
set_option maxHeartbeats 4000000 in
theorem l_X10_sum {d f T op : Nat} {g : Nat → Int32} {k : gx_W → Prop} (IH : prC T g f 4) (hf : (6 - op) * 6 + (6 - 4) ≤ f) (hd : f + 4 ≤ d) (hop : op ≤ 6) : ∀ (z p N : Nat) (x1 : Value) (w : gx_W), T ≤ p + z → prI w T g p op N → N ≤ p → ((tp_lp g T (tp_j g T f 4 op) 3 z p).1 = true → ∀ w', prR w w' N (tp_lp g T (tp_j g T f 4 op) 3 z p).2.1 (tp_lp g T (tp_j g T f 4 op) 3 z p).2.2 → k w') → (((tp_lp g T (tp_j g T f 4 op) 3 z p).1 = false ∨ tp_dg (tp_h g T (tp_lp g T (tp_j g T f 4 op) 3 z p).2.1) = true) → ∀ w', prB w w' p N (tp_lp g T (tp_j g T f 4 op) 3 z p).2.1 → k w') → gx_G 0 0 d mX10_sum (Qv k) 4 [.ref 57, x1] [] w := by
  intro z
  induction z with
  | zero =>
    intro p N x1 w hz h hN kA kB
    have hpT := h.2.2.2.1
    have hm1 : tp_h g T p = -1 := if_neg (by omega)
    have nc : ∀ c : Nat, c < 128 → ¬ lk g T p = nI c := fun c hc q => by
      have := (lk_c h.2.1 p hc).mp q
      rw [hm1] at this
      have := congrArg Int32.toInt this
      rw [nI_toInt (by omega), show (-1 : Int32).toInt = -1 by decide] at this
      omega
    refine g_aload_n dX10_sum_4 rfl ?_
    refine g_geti dX10_sum_5 fl_X10_172 h.1.1 ?_
    rw [h.2.2.2.2.1]
    refine g_if_ge (tgt := 57) dX10_sum_8 (by decide) (fun zc8 => ?_) (fun zc8 => ?_)
    · refine g_vret dX10_sum_57 rfl ⟨rfl, ?_⟩
      exact kA rfl w h.rf
    · refine g_aload_n dX10_sum_11 rfl ?_
      refine g_cV0i dX10_sum_12 ml_X10_184 mi_X10_look mv_X10_look h.1.1 ⟨_, rfl, rfl⟩ (Nat.le_of_ble_eq_true rfl) rfl (by omega) ?_
      refine c_X10_look (by omega) h.1 h.2.1 h.2.2.1 h.2.2.2.1 ?_
      refine g_bipush (v := 43) dX10_sum_15 rfl ?_
      refine g_icmp_eq (tgt := 29) dX10_sum_17 (by decide) (fun zc17 => ?_) (fun zc17 => ?_)
      · exact absurd zc17 (nc 43 (by decide))
      · refine g_aload_n dX10_sum_20 rfl ?_
        refine g_cV0i dX10_sum_21 ml_X10_184 mi_X10_look mv_X10_look h.1.1 ⟨_, rfl, rfl⟩ (Nat.le_of_ble_eq_true rfl) rfl (by omega) ?_
        refine c_X10_look (by omega) h.1 h.2.1 h.2.2.1 h.2.2.2.1 ?_
        refine g_bipush (v := 45) dX10_sum_24 rfl ?_
        refine g_icmp_ne (tgt := 57) dX10_sum_26 (by decide) (fun zc26 => ?_) (fun zc26 => ?_)
        · refine g_vret dX10_sum_57 rfl ⟨rfl, ?_⟩
          exact kA rfl w h.rf
        · exact absurd zc26 (nc 45 (by decide))
  | succ z ih =>
    intro p N x1 w hz h hN kA kB
    have hpT := h.2.2.2.1
    have hT := h.2.1.2.1
    refine g_aload_n dX10_sum_4 rfl ?_
    refine g_geti dX10_sum_5 fl_X10_172 h.1.1 ?_
    rw [h.2.2.2.2.1]
    refine g_if_ge (tgt := 57) dX10_sum_8 (by decide) (fun zc8 => ?_) (fun zc8 => ?_)
    · refine g_vret dX10_sum_57 rfl ⟨rfl, ?_⟩
      exact absurd zc8 (by decide)
    · refine g_aload_n dX10_sum_11 rfl ?_
      refine g_cV0i dX10_sum_12 ml_X10_184 mi_X10_look mv_X10_look h.1.1 ⟨_, rfl, rfl⟩ (Nat.le_of_ble_eq_true rfl) rfl (by omega) ?_
      refine c_X10_look (by omega) h.1 h.2.1 h.2.2.1 h.2.2.2.1 ?_
      refine g_bipush (v := 43) dX10_sum_15 rfl ?_
      refine g_icmp_eq (tgt := 29) dX10_sum_17 (by decide) (fun zc17 => ?_) (fun zc17 => ?_)
      · have hh : tp_h g T p = nI 43 := (lk_c h.2.1 p (by decide)).mp zc17
        have hj : tp_jn 3 (tp_h g T p) = true := by rw [hh]; decide
        have hlt : p < T := tp_lt (tp_jn_ne hj)
        have h2 : prI (s_i w 57 15 (nI (p + 1))) T g (p + 1) op N := h.hr (by omega)
        refine g_aload_n dX10_sum_29 rfl ?_
        refine g_cV0i dX10_sum_30 ml_X10_184 mi_X10_look mv_X10_look h.1.1 ⟨_, rfl, rfl⟩ (Nat.le_of_ble_eq_true rfl) rfl (by omega) ?_
        refine c_X10_look (by omega) h.1 h.2.1 h.2.2.1 h.2.2.2.1 ?_
        rw [show lk g T p = nI 43 from zc17]
        refine g_istore_n dX10_sum_33 (Nat.le_of_ble_eq_true rfl) rfl ?_
        refine g_aload_n dX10_sum_34 rfl ?_
        refine g_dup dX10_sum_35 rfl ?_
        refine g_geti dX10_sum_36 fl_X10_169 h.1.1 ?_
        refine g_iconst (v := 1) dX10_sum_39 rfl ?_
        refine g_iadd dX10_sum_40 ?_
        rw [h.at1]
        refine g_puti dX10_sum_41 fl_X10_169 ft_10_15 h.1.1 ?_
        refine g_aload_n dX10_sum_44 rfl ?_
        refine g_cV0v dX10_sum_45 ml_X10_209 mi_X10_product mv_X10_product h.1.1 ⟨_, rfl, rfl⟩ (Nat.le_of_ble_eq_true rfl) rfl (by omega) ?_
        refine IH (d := d - 1) (p := p + 1) (N := N) (by omega) (by omega) hop h2 (by omega) (fun hr w3 r3 => ?_) (fun hr w3 b3 => ?_)
        · have hb := tp_j_b (g := g) (T := T) f 4 op (p + 1) (by omega)
          unfold tpB at hb
          have h3 := h2.go r3 hb.2
          refine g_aload_n dX10_sum_48 rfl ?_
          refine g_iload_n dX10_sum_49 rfl ?_
          refine g_iconst (v := 0) dX10_sum_50 rfl ?_
          refine g_cV2v dX10_sum_51 ml_X10_188 mi_X10_addStep mv_X10_addStep h3.1.1 ⟨_, rfl, rfl⟩ (Nat.le_of_ble_eq_true rfl) rfl (by omega) ?_
          refine c_X10_addStep (c := 43) (N := N + (tp_j g T f 4 op (p + 1)).2.2.length) (by omega) h3.1 h3.2.2.2.2.2.2 (by omega) (by decide) ?_
          refine g_goto (tgt := 4) dX10_sum_54 (by decide) ?_
          have r4 : prR w3 (adW w3 (N + (tp_j g T f 4 op (p + 1)).2.2.length) (nI 43) 0) (N + (tp_j g T f 4 op (p + 1)).2.2.length) (tp_j g T f 4 op (p + 1)).2.1 [(nI 43, 0)] := h3.sg (by omega) (by decide)
          have h4 := h3.go r4 hb.2
          rw [lp_go hj hr] at kA kB
          rw [hh] at kA kB
          have r5 := (h.mv.tr r3).tr r4
          refine ih (tp_j g T f 4 op (p + 1)).2.1 (N + (tp_j g T f 4 op (p + 1)).2.2.length + 1) _ _ (by omega) h4 (by omega) (fun q w' r' => kA q w' (r5.tr' r' ?_ ?_)) (fun q w' b' => kB q w' (r5.bad' (p := p) b' ?_ ?_))
          · simp only [List.length_append, List.length_cons, List.length_nil]; omega
          · simp only [List.nil_append, List.append_assoc, List.cons_append]
          · simp only [List.length_append, List.length_cons, List.length_nil]; omega
          · simp only [List.length_append, List.length_cons, List.length_nil]; omega
        · have hb := tp_j_b (g := g) (T := T) f 4 op (p + 1) (by omega)
          unfold tpB at hb
          have h3 : moO w3 := h2.1.same b3.1
          refine g_aload_n dX10_sum_48 rfl ?_
          refine g_iload_n dX10_sum_49 rfl ?_
          refine g_iconst (v := 0) dX10_sum_50 rfl ?_
          refine g_cV2v dX10_sum_51 ml_X10_188 mi_X10_addStep mv_X10_addStep h3.1 ⟨_, rfl, rfl⟩ (Nat.le_of_ble_eq_true rfl) rfl (by omega) ?_
          refine c_addB (c := 43) (p := p) (N := N) h.1 h.s1 b3 hN (by omega) (by decide) (fun w4 b4 => ?_)
          have h4 : moO w4 := h.1.same b4.1
          have hf4 : w_i w4 57 16 = nI (tp_j g T f 4 op (p + 1)).2.1 := b4.2.2.1
          refine g_goto (tgt := 4) dX10_sum_54 (by decide) ?_
          refine g_aload_n dX10_sum_4 rfl ?_
          refine g_geti dX10_sum_5 fl_X10_172 h4.1 ?_
          rw [hf4]
          refine g_if_ge (tgt := 57) dX10_sum_8 (by decide) (fun zc8 => ?_) (fun zc8 => ?_)
          · refine g_vret dX10_sum_57 rfl ⟨rfl, ?_⟩
            obtain ⟨q1, q2⟩ := lp_bad (z := z) (by decide) hj hr
            rw [q1] at kB
            exact kB q2 w4 b4
          · exact absurd (show (0 : Int32) ≤ nI (tp_j g T f 4 op (p + 1)).2.1 from nI_pos' (by omega)) zc8
      · refine g_aload_n dX10_sum_20 rfl ?_
        refine g_cV0i dX10_sum_21 ml_X10_184 mi_X10_look mv_X10_look h.1.1 ⟨_, rfl, rfl⟩ (Nat.le_of_ble_eq_true rfl) rfl (by omega) ?_
        refine c_X10_look (by omega) h.1 h.2.1 h.2.2.1 h.2.2.2.1 ?_
        refine g_bipush (v := 45) dX10_sum_24 rfl ?_
        refine g_icmp_ne (tgt := 57) dX10_sum_26 (by decide) (fun zc26 => ?_) (fun zc26 => ?_)
        · refine g_vret dX10_sum_57 rfl ⟨rfl, ?_⟩
          have n43 : ¬ tp_h g T p = 43 := fun q => zc17 ((lk_c h.2.1 p (c := 43) (by decide)).mpr q)
          have n45 : ¬ tp_h g T p = 45 := fun q => zc26 ((lk_c h.2.1 p (c := 45) (by decide)).mpr q)
          have hj : tp_jn 3 (tp_h g T p) = false := by show (decide _ || decide _) = false; rw [decide_eq_false n43, decide_eq_false n45]; rfl
          rw [lp_no hj] at kA
          exact kA rfl w h.rf
        · have hh : tp_h g T p = nI 45 := (lk_c h.2.1 p (by decide)).mp zc26
          have hj : tp_jn 3 (tp_h g T p) = true := by rw [hh]; decide
          have hlt : p < T := tp_lt (tp_jn_ne hj)
          have h2 : prI (s_i w 57 15 (nI (p + 1))) T g (p + 1) op N := h.hr (by omega)
          refine g_aload_n dX10_sum_29 rfl ?_
          refine g_cV0i dX10_sum_30 ml_X10_184 mi_X10_look mv_X10_look h.1.1 ⟨_, rfl, rfl⟩ (Nat.le_of_ble_eq_true rfl) rfl (by omega) ?_
          refine c_X10_look (by omega) h.1 h.2.1 h.2.2.1 h.2.2.2.1 ?_
          rw [show lk g T p = nI 45 from zc26]
          refine g_istore_n dX10_sum_33 (Nat.le_of_ble_eq_true rfl) rfl ?_
          refine g_aload_n dX10_sum_34 rfl ?_
          refine g_dup dX10_sum_35 rfl ?_
          refine g_geti dX10_sum_36 fl_X10_169 h.1.1 ?_
          refine g_iconst (v := 1) dX10_sum_39 rfl ?_
          refine g_iadd dX10_sum_40 ?_
          rw [h.at1]
          refine g_puti dX10_sum_41 fl_X10_169 ft_10_15 h.1.1 ?_
          refine g_aload_n dX10_sum_44 rfl ?_
          refine g_cV0v dX10_sum_45 ml_X10_209 mi_X10_product mv_X10_product h.1.1 ⟨_, rfl, rfl⟩ (Nat.le_of_ble_eq_true rfl) rfl (by omega) ?_
          refine IH (d := d - 1) (p := p + 1) (N := N) (by omega) (by omega) hop h2 (by omega) (fun hr w3 r3 => ?_) (fun hr w3 b3 => ?_)
          · have hb := tp_j_b (g := g) (T := T) f 4 op (p + 1) (by omega)
            unfold tpB at hb
            have h3 := h2.go r3 hb.2
            refine g_aload_n dX10_sum_48 rfl ?_
            refine g_iload_n dX10_sum_49 rfl ?_
            refine g_iconst (v := 0) dX10_sum_50 rfl ?_
            refine g_cV2v dX10_sum_51 ml_X10_188 mi_X10_addStep mv_X10_addStep h3.1.1 ⟨_, rfl, rfl⟩ (Nat.le_of_ble_eq_true rfl) rfl (by omega) ?_
            refine c_X10_addStep (c := 45) (N := N + (tp_j g T f 4 op (p + 1)).2.2.length) (by omega) h3.1 h3.2.2.2.2.2.2 (by omega) (by decide) ?_
            refine g_goto (tgt := 4) dX10_sum_54 (by decide) ?_
            have r4 : prR w3 (adW w3 (N + (tp_j g T f 4 op (p + 1)).2.2.length) (nI 45) 0) (N + (tp_j g T f 4 op (p + 1)).2.2.length) (tp_j g T f 4 op (p + 1)).2.1 [(nI 45, 0)] := h3.sg (by omega) (by decide)
            have h4 := h3.go r4 hb.2
            rw [lp_go hj hr] at kA kB
            rw [hh] at kA kB
            have r5 := (h.mv.tr r3).tr r4
            refine ih (tp_j g T f 4 op (p + 1)).2.1 (N + (tp_j g T f 4 op (p + 1)).2.2.length + 1) _ _ (by omega) h4 (by omega) (fun q w' r' => kA q w' (r5.tr' r' ?_ ?_)) (fun q w' b' => kB q w' (r5.bad' (p := p) b' ?_ ?_))
            · simp only [List.length_append, List.length_cons, List.length_nil]; omega
            · simp only [List.nil_append, List.append_assoc, List.cons_append]
            · simp only [List.length_append, List.length_cons, List.length_nil]; omega
            · simp only [List.length_append, List.length_cons, List.length_nil]; omega
          · have hb := tp_j_b (g := g) (T := T) f 4 op (p + 1) (by omega)
            unfold tpB at hb
            have h3 : moO w3 := h2.1.same b3.1
            refine g_aload_n dX10_sum_48 rfl ?_
            refine g_iload_n dX10_sum_49 rfl ?_
            refine g_iconst (v := 0) dX10_sum_50 rfl ?_
            refine g_cV2v dX10_sum_51 ml_X10_188 mi_X10_addStep mv_X10_addStep h3.1 ⟨_, rfl, rfl⟩ (Nat.le_of_ble_eq_true rfl) rfl (by omega) ?_
            refine c_addB (c := 45) (p := p) (N := N) h.1 h.s1 b3 hN (by omega) (by decide) (fun w4 b4 => ?_)
            have h4 : moO w4 := h.1.same b4.1
            have hf4 : w_i w4 57 16 = nI (tp_j g T f 4 op (p + 1)).2.1 := b4.2.2.1
            refine g_goto (tgt := 4) dX10_sum_54 (by decide) ?_
            refine g_aload_n dX10_sum_4 rfl ?_
            refine g_geti dX10_sum_5 fl_X10_172 h4.1 ?_
            rw [hf4]
            refine g_if_ge (tgt := 57) dX10_sum_8 (by decide) (fun zc8 => ?_) (fun zc8 => ?_)
            · refine g_vret dX10_sum_57 rfl ⟨rfl, ?_⟩
              obtain ⟨q1, q2⟩ := lp_bad (z := z) (by decide) hj hr
              rw [q1] at kB
              exact kB q2 w4 b4
            · exact absurd (show (0 : Int32) ≤ nI (tp_j g T f 4 op (p + 1)).2.1 from nI_pos' (by omega)) zc8
set_option maxHeartbeats 4000000 in
theorem l_X10_product {d f T op : Nat} {g : Nat → Int32} {k : gx_W → Prop} (IH : prC T g f 5) (hf : (6 - op) * 6 + (6 - 5) ≤ f) (hd : f + 4 ≤ d) (hop : op ≤ 6) : ∀ (z p N : Nat) (x1 : Value) (w : gx_W), T ≤ p + z → prI w T g p op N → N ≤ p → ((tp_lp g T (tp_j g T f 5 op) 4 z p).1 = true → ∀ w', prR w w' N (tp_lp g T (tp_j g T f 5 op) 4 z p).2.1 (tp_lp g T (tp_j g T f 5 op) 4 z p).2.2 → k w') → (((tp_lp g T (tp_j g T f 5 op) 4 z p).1 = false ∨ tp_dg (tp_h g T (tp_lp g T (tp_j g T f 5 op) 4 z p).2.1) = true) → ∀ w', prB w w' p N (tp_lp g T (tp_j g T f 5 op) 4 z p).2.1 → k w') → gx_G 0 0 d mX10_product (Qv k) 4 [.ref 57, x1] [] w := by
  intro z
  induction z with
  | zero =>
    intro p N x1 w hz h hN kA kB
    have hpT := h.2.2.2.1
    have hm1 : tp_h g T p = -1 := if_neg (by omega)
    have nc : ∀ c : Nat, c < 128 → ¬ lk g T p = nI c := fun c hc q => by
      have := (lk_c h.2.1 p hc).mp q
      rw [hm1] at this
      have := congrArg Int32.toInt this
      rw [nI_toInt (by omega), show (-1 : Int32).toInt = -1 by decide] at this
      omega
    refine g_aload_n dX10_product_4 rfl ?_
    refine g_geti dX10_product_5 fl_X10_172 h.1.1 ?_
    rw [h.2.2.2.2.1]
    refine g_if_ge (tgt := 66) dX10_product_8 (by decide) (fun zc8 => ?_) (fun zc8 => ?_)
    · refine g_vret dX10_product_66 rfl ⟨rfl, ?_⟩
      exact kA rfl w h.rf
    · refine g_aload_n dX10_product_11 rfl ?_
      refine g_cV0i dX10_product_12 ml_X10_184 mi_X10_look mv_X10_look h.1.1 ⟨_, rfl, rfl⟩ (Nat.le_of_ble_eq_true rfl) rfl (by omega) ?_
      refine c_X10_look (by omega) h.1 h.2.1 h.2.2.1 h.2.2.2.1 ?_
      refine g_bipush (v := 42) dX10_product_15 rfl ?_
      refine g_icmp_eq (tgt := 38) dX10_product_17 (by decide) (fun zc17 => ?_) (fun zc17 => ?_)
      · exact absurd zc17 (nc 42 (by decide))
      · refine g_aload_n dX10_product_20 rfl ?_
        refine g_cV0i dX10_product_21 ml_X10_184 mi_X10_look mv_X10_look h.1.1 ⟨_, rfl, rfl⟩ (Nat.le_of_ble_eq_true rfl) rfl (by omega) ?_
        refine c_X10_look (by omega) h.1 h.2.1 h.2.2.1 h.2.2.2.1 ?_
        refine g_bipush (v := 47) dX10_product_24 rfl ?_
        refine g_icmp_eq (tgt := 38) dX10_product_26 (by decide) (fun zc26 => ?_) (fun zc26 => ?_)
        · exact absurd zc26 (nc 47 (by decide))
        · refine g_aload_n dX10_product_29 rfl ?_
          refine g_cV0i dX10_product_30 ml_X10_184 mi_X10_look mv_X10_look h.1.1 ⟨_, rfl, rfl⟩ (Nat.le_of_ble_eq_true rfl) rfl (by omega) ?_
          refine c_X10_look (by omega) h.1 h.2.1 h.2.2.1 h.2.2.2.1 ?_
          refine g_bipush (v := 37) dX10_product_33 rfl ?_
          refine g_icmp_ne (tgt := 66) dX10_product_35 (by decide) (fun zc35 => ?_) (fun zc35 => ?_)
          · refine g_vret dX10_product_66 rfl ⟨rfl, ?_⟩
            exact kA rfl w h.rf
          · exact absurd zc35 (nc 37 (by decide))
  | succ z ih =>
    intro p N x1 w hz h hN kA kB
    have hpT := h.2.2.2.1
    have hT := h.2.1.2.1
    refine g_aload_n dX10_product_4 rfl ?_
    refine g_geti dX10_product_5 fl_X10_172 h.1.1 ?_
    rw [h.2.2.2.2.1]
    refine g_if_ge (tgt := 66) dX10_product_8 (by decide) (fun zc8 => ?_) (fun zc8 => ?_)
    · refine g_vret dX10_product_66 rfl ⟨rfl, ?_⟩
      exact absurd zc8 (by decide)
    · refine g_aload_n dX10_product_11 rfl ?_
      refine g_cV0i dX10_product_12 ml_X10_184 mi_X10_look mv_X10_look h.1.1 ⟨_, rfl, rfl⟩ (Nat.le_of_ble_eq_true rfl) rfl (by omega) ?_
      refine c_X10_look (by omega) h.1 h.2.1 h.2.2.1 h.2.2.2.1 ?_
      refine g_bipush (v := 42) dX10_product_15 rfl ?_
      refine g_icmp_eq (tgt := 38) dX10_product_17 (by decide) (fun zc17 => ?_) (fun zc17 => ?_)
      · have hh : tp_h g T p = nI 42 := (lk_c h.2.1 p (by decide)).mp zc17
        have hj : tp_jn 4 (tp_h g T p) = true := by rw [hh]; decide
        have hlt : p < T := tp_lt (tp_jn_ne hj)
        have h2 : prI (s_i w 57 15 (nI (p + 1))) T g (p + 1) op N := h.hr (by omega)
        refine g_aload_n dX10_product_38 rfl ?_
        refine g_cV0i dX10_product_39 ml_X10_184 mi_X10_look mv_X10_look h.1.1 ⟨_, rfl, rfl⟩ (Nat.le_of_ble_eq_true rfl) rfl (by omega) ?_
        refine c_X10_look (by omega) h.1 h.2.1 h.2.2.1 h.2.2.2.1 ?_
        rw [show lk g T p = nI 42 from zc17]
        refine g_istore_n dX10_product_42 (Nat.le_of_ble_eq_true rfl) rfl ?_
        refine g_aload_n dX10_product_43 rfl ?_
        refine g_dup dX10_product_44 rfl ?_
        refine g_geti dX10_product_45 fl_X10_169 h.1.1 ?_
        refine g_iconst (v := 1) dX10_product_48 rfl ?_
        refine g_iadd dX10_product_49 ?_
        rw [h.at1]
        refine g_puti dX10_product_50 fl_X10_169 ft_10_15 h.1.1 ?_
        refine g_aload_n dX10_product_53 rfl ?_
        refine g_cV0v dX10_product_54 ml_X10_200 mi_X10_operand mv_X10_operand h.1.1 ⟨_, rfl, rfl⟩ (Nat.le_of_ble_eq_true rfl) rfl (by omega) ?_
        refine IH (d := d - 1) (p := p + 1) (N := N) (by omega) (by omega) hop h2 (by omega) (fun hr w3 r3 => ?_) (fun hr w3 b3 => ?_)
        · have hb := tp_j_b (g := g) (T := T) f 5 op (p + 1) (by omega)
          unfold tpB at hb
          have h3 := h2.go r3 hb.2
          refine g_aload_n dX10_product_57 rfl ?_
          refine g_iload_n dX10_product_58 rfl ?_
          refine g_iconst (v := 0) dX10_product_59 rfl ?_
          refine g_cV2v dX10_product_60 ml_X10_188 mi_X10_addStep mv_X10_addStep h3.1.1 ⟨_, rfl, rfl⟩ (Nat.le_of_ble_eq_true rfl) rfl (by omega) ?_
          refine c_X10_addStep (c := 42) (N := N + (tp_j g T f 5 op (p + 1)).2.2.length) (by omega) h3.1 h3.2.2.2.2.2.2 (by omega) (by decide) ?_
          refine g_goto (tgt := 4) dX10_product_63 (by decide) ?_
          have r4 : prR w3 (adW w3 (N + (tp_j g T f 5 op (p + 1)).2.2.length) (nI 42) 0) (N + (tp_j g T f 5 op (p + 1)).2.2.length) (tp_j g T f 5 op (p + 1)).2.1 [(nI 42, 0)] := h3.sg (by omega) (by decide)
          have h4 := h3.go r4 hb.2
          rw [lp_go hj hr] at kA kB
          rw [hh] at kA kB
          have r5 := (h.mv.tr r3).tr r4
          refine ih (tp_j g T f 5 op (p + 1)).2.1 (N + (tp_j g T f 5 op (p + 1)).2.2.length + 1) _ _ (by omega) h4 (by omega) (fun q w' r' => kA q w' (r5.tr' r' ?_ ?_)) (fun q w' b' => kB q w' (r5.bad' (p := p) b' ?_ ?_))
          · simp only [List.length_append, List.length_cons, List.length_nil]; omega
          · simp only [List.nil_append, List.append_assoc, List.cons_append]
          · simp only [List.length_append, List.length_cons, List.length_nil]; omega
          · simp only [List.length_append, List.length_cons, List.length_nil]; omega
        · have hb := tp_j_b (g := g) (T := T) f 5 op (p + 1) (by omega)
          unfold tpB at hb
          have h3 : moO w3 := h2.1.same b3.1
          refine g_aload_n dX10_product_57 rfl ?_
          refine g_iload_n dX10_product_58 rfl ?_
          refine g_iconst (v := 0) dX10_product_59 rfl ?_
          refine g_cV2v dX10_product_60 ml_X10_188 mi_X10_addStep mv_X10_addStep h3.1 ⟨_, rfl, rfl⟩ (Nat.le_of_ble_eq_true rfl) rfl (by omega) ?_
          refine c_addB (c := 42) (p := p) (N := N) h.1 h.s1 b3 hN (by omega) (by decide) (fun w4 b4 => ?_)
          have h4 : moO w4 := h.1.same b4.1
          have hf4 : w_i w4 57 16 = nI (tp_j g T f 5 op (p + 1)).2.1 := b4.2.2.1
          refine g_goto (tgt := 4) dX10_product_63 (by decide) ?_
          refine g_aload_n dX10_product_4 rfl ?_
          refine g_geti dX10_product_5 fl_X10_172 h4.1 ?_
          rw [hf4]
          refine g_if_ge (tgt := 66) dX10_product_8 (by decide) (fun zc8 => ?_) (fun zc8 => ?_)
          · refine g_vret dX10_product_66 rfl ⟨rfl, ?_⟩
            obtain ⟨q1, q2⟩ := lp_bad (z := z) (by decide) hj hr
            rw [q1] at kB
            exact kB q2 w4 b4
          · exact absurd (show (0 : Int32) ≤ nI (tp_j g T f 5 op (p + 1)).2.1 from nI_pos' (by omega)) zc8
      · refine g_aload_n dX10_product_20 rfl ?_
        refine g_cV0i dX10_product_21 ml_X10_184 mi_X10_look mv_X10_look h.1.1 ⟨_, rfl, rfl⟩ (Nat.le_of_ble_eq_true rfl) rfl (by omega) ?_
        refine c_X10_look (by omega) h.1 h.2.1 h.2.2.1 h.2.2.2.1 ?_
        refine g_bipush (v := 47) dX10_product_24 rfl ?_
        refine g_icmp_eq (tgt := 38) dX10_product_26 (by decide) (fun zc26 => ?_) (fun zc26 => ?_)
        · have hh : tp_h g T p = nI 47 := (lk_c h.2.1 p (by decide)).mp zc26
          have hj : tp_jn 4 (tp_h g T p) = true := by rw [hh]; decide
          have hlt : p < T := tp_lt (tp_jn_ne hj)
          have h2 : prI (s_i w 57 15 (nI (p + 1))) T g (p + 1) op N := h.hr (by omega)
          refine g_aload_n dX10_product_38 rfl ?_
          refine g_cV0i dX10_product_39 ml_X10_184 mi_X10_look mv_X10_look h.1.1 ⟨_, rfl, rfl⟩ (Nat.le_of_ble_eq_true rfl) rfl (by omega) ?_
          refine c_X10_look (by omega) h.1 h.2.1 h.2.2.1 h.2.2.2.1 ?_
          rw [show lk g T p = nI 47 from zc26]
          refine g_istore_n dX10_product_42 (Nat.le_of_ble_eq_true rfl) rfl ?_
          refine g_aload_n dX10_product_43 rfl ?_
          refine g_dup dX10_product_44 rfl ?_
          refine g_geti dX10_product_45 fl_X10_169 h.1.1 ?_
          refine g_iconst (v := 1) dX10_product_48 rfl ?_
          refine g_iadd dX10_product_49 ?_
          rw [h.at1]
          refine g_puti dX10_product_50 fl_X10_169 ft_10_15 h.1.1 ?_
          refine g_aload_n dX10_product_53 rfl ?_
          refine g_cV0v dX10_product_54 ml_X10_200 mi_X10_operand mv_X10_operand h.1.1 ⟨_, rfl, rfl⟩ (Nat.le_of_ble_eq_true rfl) rfl (by omega) ?_
          refine IH (d := d - 1) (p := p + 1) (N := N) (by omega) (by omega) hop h2 (by omega) (fun hr w3 r3 => ?_) (fun hr w3 b3 => ?_)
          · have hb := tp_j_b (g := g) (T := T) f 5 op (p + 1) (by omega)
            unfold tpB at hb
            have h3 := h2.go r3 hb.2
            refine g_aload_n dX10_product_57 rfl ?_
            refine g_iload_n dX10_product_58 rfl ?_
            refine g_iconst (v := 0) dX10_product_59 rfl ?_
            refine g_cV2v dX10_product_60 ml_X10_188 mi_X10_addStep mv_X10_addStep h3.1.1 ⟨_, rfl, rfl⟩ (Nat.le_of_ble_eq_true rfl) rfl (by omega) ?_
            refine c_X10_addStep (c := 47) (N := N + (tp_j g T f 5 op (p + 1)).2.2.length) (by omega) h3.1 h3.2.2.2.2.2.2 (by omega) (by decide) ?_
            refine g_goto (tgt := 4) dX10_product_63 (by decide) ?_
            have r4 : prR w3 (adW w3 (N + (tp_j g T f 5 op (p + 1)).2.2.length) (nI 47) 0) (N + (tp_j g T f 5 op (p + 1)).2.2.length) (tp_j g T f 5 op (p + 1)).2.1 [(nI 47, 0)] := h3.sg (by omega) (by decide)
            have h4 := h3.go r4 hb.2
            rw [lp_go hj hr] at kA kB
            rw [hh] at kA kB
            have r5 := (h.mv.tr r3).tr r4
            refine ih (tp_j g T f 5 op (p + 1)).2.1 (N + (tp_j g T f 5 op (p + 1)).2.2.length + 1) _ _ (by omega) h4 (by omega) (fun q w' r' => kA q w' (r5.tr' r' ?_ ?_)) (fun q w' b' => kB q w' (r5.bad' (p := p) b' ?_ ?_))
            · simp only [List.length_append, List.length_cons, List.length_nil]; omega
            · simp only [List.nil_append, List.append_assoc, List.cons_append]
            · simp only [List.length_append, List.length_cons, List.length_nil]; omega
            · simp only [List.length_append, List.length_cons, List.length_nil]; omega
          · have hb := tp_j_b (g := g) (T := T) f 5 op (p + 1) (by omega)
            unfold tpB at hb
            have h3 : moO w3 := h2.1.same b3.1
            refine g_aload_n dX10_product_57 rfl ?_
            refine g_iload_n dX10_product_58 rfl ?_
            refine g_iconst (v := 0) dX10_product_59 rfl ?_
            refine g_cV2v dX10_product_60 ml_X10_188 mi_X10_addStep mv_X10_addStep h3.1 ⟨_, rfl, rfl⟩ (Nat.le_of_ble_eq_true rfl) rfl (by omega) ?_
            refine c_addB (c := 47) (p := p) (N := N) h.1 h.s1 b3 hN (by omega) (by decide) (fun w4 b4 => ?_)
            have h4 : moO w4 := h.1.same b4.1
            have hf4 : w_i w4 57 16 = nI (tp_j g T f 5 op (p + 1)).2.1 := b4.2.2.1
            refine g_goto (tgt := 4) dX10_product_63 (by decide) ?_
            refine g_aload_n dX10_product_4 rfl ?_
            refine g_geti dX10_product_5 fl_X10_172 h4.1 ?_
            rw [hf4]
            refine g_if_ge (tgt := 66) dX10_product_8 (by decide) (fun zc8 => ?_) (fun zc8 => ?_)
            · refine g_vret dX10_product_66 rfl ⟨rfl, ?_⟩
              obtain ⟨q1, q2⟩ := lp_bad (z := z) (by decide) hj hr
              rw [q1] at kB
              exact kB q2 w4 b4
            · exact absurd (show (0 : Int32) ≤ nI (tp_j g T f 5 op (p + 1)).2.1 from nI_pos' (by omega)) zc8
        · refine g_aload_n dX10_product_29 rfl ?_
          refine g_cV0i dX10_product_30 ml_X10_184 mi_X10_look mv_X10_look h.1.1 ⟨_, rfl, rfl⟩ (Nat.le_of_ble_eq_true rfl) rfl (by omega) ?_
          refine c_X10_look (by omega) h.1 h.2.1 h.2.2.1 h.2.2.2.1 ?_
          refine g_bipush (v := 37) dX10_product_33 rfl ?_
          refine g_icmp_ne (tgt := 66) dX10_product_35 (by decide) (fun zc35 => ?_) (fun zc35 => ?_)
          · refine g_vret dX10_product_66 rfl ⟨rfl, ?_⟩
            have n42 : ¬ tp_h g T p = 42 := fun q => zc17 ((lk_c h.2.1 p (c := 42) (by decide)).mpr q)
            have n47 : ¬ tp_h g T p = 47 := fun q => zc26 ((lk_c h.2.1 p (c := 47) (by decide)).mpr q)
            have n37 : ¬ tp_h g T p = 37 := fun q => zc35 ((lk_c h.2.1 p (c := 37) (by decide)).mpr q)
            have hj : tp_jn 4 (tp_h g T p) = false := by show (decide _ || (decide _ || decide _)) = false; rw [decide_eq_false n42, decide_eq_false n47, decide_eq_false n37]; rfl
            rw [lp_no hj] at kA
            exact kA rfl w h.rf
          · have hh : tp_h g T p = nI 37 := (lk_c h.2.1 p (by decide)).mp zc35
            have hj : tp_jn 4 (tp_h g T p) = true := by rw [hh]; decide
            have hlt : p < T := tp_lt (tp_jn_ne hj)
            have h2 : prI (s_i w 57 15 (nI (p + 1))) T g (p + 1) op N := h.hr (by omega)
            refine g_aload_n dX10_product_38 rfl ?_
            refine g_cV0i dX10_product_39 ml_X10_184 mi_X10_look mv_X10_look h.1.1 ⟨_, rfl, rfl⟩ (Nat.le_of_ble_eq_true rfl) rfl (by omega) ?_
            refine c_X10_look (by omega) h.1 h.2.1 h.2.2.1 h.2.2.2.1 ?_
            rw [show lk g T p = nI 37 from zc35]
            refine g_istore_n dX10_product_42 (Nat.le_of_ble_eq_true rfl) rfl ?_
            refine g_aload_n dX10_product_43 rfl ?_
            refine g_dup dX10_product_44 rfl ?_
            refine g_geti dX10_product_45 fl_X10_169 h.1.1 ?_
            refine g_iconst (v := 1) dX10_product_48 rfl ?_
            refine g_iadd dX10_product_49 ?_
            rw [h.at1]
            refine g_puti dX10_product_50 fl_X10_169 ft_10_15 h.1.1 ?_
            refine g_aload_n dX10_product_53 rfl ?_
            refine g_cV0v dX10_product_54 ml_X10_200 mi_X10_operand mv_X10_operand h.1.1 ⟨_, rfl, rfl⟩ (Nat.le_of_ble_eq_true rfl) rfl (by omega) ?_
            refine IH (d := d - 1) (p := p + 1) (N := N) (by omega) (by omega) hop h2 (by omega) (fun hr w3 r3 => ?_) (fun hr w3 b3 => ?_)
            · have hb := tp_j_b (g := g) (T := T) f 5 op (p + 1) (by omega)
              unfold tpB at hb
              have h3 := h2.go r3 hb.2
              refine g_aload_n dX10_product_57 rfl ?_
              refine g_iload_n dX10_product_58 rfl ?_
              refine g_iconst (v := 0) dX10_product_59 rfl ?_
              refine g_cV2v dX10_product_60 ml_X10_188 mi_X10_addStep mv_X10_addStep h3.1.1 ⟨_, rfl, rfl⟩ (Nat.le_of_ble_eq_true rfl) rfl (by omega) ?_
              refine c_X10_addStep (c := 37) (N := N + (tp_j g T f 5 op (p + 1)).2.2.length) (by omega) h3.1 h3.2.2.2.2.2.2 (by omega) (by decide) ?_
              refine g_goto (tgt := 4) dX10_product_63 (by decide) ?_
              have r4 : prR w3 (adW w3 (N + (tp_j g T f 5 op (p + 1)).2.2.length) (nI 37) 0) (N + (tp_j g T f 5 op (p + 1)).2.2.length) (tp_j g T f 5 op (p + 1)).2.1 [(nI 37, 0)] := h3.sg (by omega) (by decide)
              have h4 := h3.go r4 hb.2
              rw [lp_go hj hr] at kA kB
              rw [hh] at kA kB
              have r5 := (h.mv.tr r3).tr r4
              refine ih (tp_j g T f 5 op (p + 1)).2.1 (N + (tp_j g T f 5 op (p + 1)).2.2.length + 1) _ _ (by omega) h4 (by omega) (fun q w' r' => kA q w' (r5.tr' r' ?_ ?_)) (fun q w' b' => kB q w' (r5.bad' (p := p) b' ?_ ?_))
              · simp only [List.length_append, List.length_cons, List.length_nil]; omega
              · simp only [List.nil_append, List.append_assoc, List.cons_append]
              · simp only [List.length_append, List.length_cons, List.length_nil]; omega
              · simp only [List.length_append, List.length_cons, List.length_nil]; omega
            · have hb := tp_j_b (g := g) (T := T) f 5 op (p + 1) (by omega)
              unfold tpB at hb
              have h3 : moO w3 := h2.1.same b3.1
              refine g_aload_n dX10_product_57 rfl ?_
              refine g_iload_n dX10_product_58 rfl ?_
              refine g_iconst (v := 0) dX10_product_59 rfl ?_
              refine g_cV2v dX10_product_60 ml_X10_188 mi_X10_addStep mv_X10_addStep h3.1 ⟨_, rfl, rfl⟩ (Nat.le_of_ble_eq_true rfl) rfl (by omega) ?_
              refine c_addB (c := 37) (p := p) (N := N) h.1 h.s1 b3 hN (by omega) (by decide) (fun w4 b4 => ?_)
              have h4 : moO w4 := h.1.same b4.1
              have hf4 : w_i w4 57 16 = nI (tp_j g T f 5 op (p + 1)).2.1 := b4.2.2.1
              refine g_goto (tgt := 4) dX10_product_63 (by decide) ?_
              refine g_aload_n dX10_product_4 rfl ?_
              refine g_geti dX10_product_5 fl_X10_172 h4.1 ?_
              rw [hf4]
              refine g_if_ge (tgt := 66) dX10_product_8 (by decide) (fun zc8 => ?_) (fun zc8 => ?_)
              · refine g_vret dX10_product_66 rfl ⟨rfl, ?_⟩
                obtain ⟨q1, q2⟩ := lp_bad (z := z) (by decide) hj hr
                rw [q1] at kB
                exact kB q2 w4 b4
              · exact absurd (show (0 : Int32) ≤ nI (tp_j g T f 5 op (p + 1)).2.1 from nI_pos' (by omega)) zc8

/-! The reference: who has a comer -/
theorem sa_id {w : gx_W} {r : Nat} {F : Nat → Int32} (h : F = w_a w r) : s_a w r F = w := by
  subst h
  unfold s_a
  rw [show va_up w.2.2.2.1 r (w_a w r) = w.2.2.2.1 from by funext j; unfold va_up; split <;> simp_all [w_a]]
def lwE (w : gx_W) (N : Nat) (sg va : Nat → Int32) : Prop := ∃ (M : Nat) (te le : Nat → Nat), M ≤ 61 ∧ w_a w 70 0 = nI M ∧ (∀ l, l < M → w_a w 71 l = nI (te l)) ∧ (∀ l, l < M → w_a w 72 l = nI (le l)) ∧ (∀ l, l < M → te l ≤ 130) ∧ (∀ l, l < M → le l ≤ 130) ∧ lnR sg va (w_a w 68) (w_a w 69) te le N M 0 0 0
def lwM (w : gx_W) (N : Nat) (sg va : Nat → Int32) : Prop := (N = 0 → w_i w 57 26 = 0) ∧ (0 < N → ¬ w_i w 57 26 = 0 ∧ lwE w N sg va)
theorem lwE.cg {w w' : gx_W} {N : Nat} {sg va : Nat → Int32} (h : lwE w N sg va) (h1 : w_a w' 68 = w_a w 68) (h2 : w_a w' 69 = w_a w 69) (h3 : w_a w' 70 = w_a w 70) (h4 : w_a w' 71 = w_a w 71) (h5 : w_a w' 72 = w_a w 72) : lwE w' N sg va := by
  unfold lwE
  rw [h1, h2, h3, h4, h5]
  exact h
theorem lwM.same {R : List Nat} {F : List (Nat × Nat)} {w w' : gx_W} {N : Nat} {sg va : Nat → Int32} (h : lwM w N sg va) (hs : same R F w w') (hF : (57, 26) ∉ F) (hR : ∀ k, 68 ≤ k → k ≤ 72 → k ∉ R) : lwM w' N sg va := by
  have e := fun k h1 h2 => (hs.2.2.2.1 k (hR k h1 h2)).1
  refine ⟨fun q => (hs.2.1 57 26 hF).trans (h.1 q), fun q => ⟨by rw [hs.2.1 57 26 hF]; exact (h.2 q).1, (h.2 q).2.cg (e 68 (by decide) (by decide)) (e 69 (by decide) (by decide)) (e 70 (by decide) (by decide)) (e 71 (by decide) (by decide)) (e 72 (by decide) (by decide))⟩⟩
def bnd (f : Nat → Int32) (n : Nat) : Prop := ∀ m, m < n → (-300 ≤ (f m).toInt ∧ (f m).toInt ≤ 300) ∧ (-300 ≤ (f (6 + m)).toInt ∧ (f (6 + m)).toInt ≤ 300) ∧ (-300 ≤ (f (18 + m)).toInt ∧ (f (18 + m)).toInt ≤ 300)
def mxT (w : gx_W) (f : Nat → Int32) (n : Nat) : Prop := mxN w f n ∧ ∀ j, j < n → w_a w 75 j = f (18 + j)
def mxD (w : gx_W) (f : Nat → Int32) (n : Nat) : Prop := mxN w f n ∧ ∀ j, j < n → w_a w 61 j = f (18 + j)
def moT (w : gx_W) (f : Nat → Int32) (n N : Nat) (sg va : Nat → Int32) : Prop := moO w ∧ mxT w f n ∧ lwM w N sg va ∧ bnd f n
theorem moT.same {w w' : gx_W} {f : Nat → Int32} {n N : Nat} {sg va : Nat → Int32} (h : moT w f n N sg va) {R : List Nat} {F : List (Nat × Nat)} (hs : same R F w w') (hF : (57, 26) ∉ F ∧ (57, 1) ∉ F) (hR : ∀ k, k ∈ R → k = 73 ∨ k = 74 ∨ 76 ≤ k) : moT w' f n N sg va := by
  have hn : ∀ k, k < 73 → k ∉ R := fun k h1 h2 => by have := hR k h2; omega
  refine ⟨h.1.same hs, ⟨h.2.1.1.same hs hF.2 ⟨hn 58 (by decide), hn 59 (by decide), hn 60 (by decide), hn 62 (by decide)⟩, fun j hj => ?_⟩, h.2.2.1.same hs hF.1 (fun k h1 h2 => hn k (by omega)), h.2.2.2⟩
  rw [(hs.2.2.2.1 75 (fun q => by have := hR 75 q; omega)).1]
  exact h.2.1.2 j hj
theorem c_X10_gives {d : Nat} {w : gx_W} {N : Nat} {sg va nm : Nat → Int32} {k : Int32 → gx_W → Prop} (hd : 2 ≤ d) (h : moO w) (hE : lwE w N sg va) (hf : ∀ j, j < 6 → w_a w 73 j = nm j) (kk : ∀ P', k (lw_run sg va nm N 0 false []) (s_a w 74 P')) : gx_C 0 0 d mX10_gives [.ref 57, .int 0] w (Qi k) := by
  refine gx_C_of' (L := [.ref 57, .int 0, .retAddr 0, .retAddr 0]) (by decide +kernel) rfl (Nat.le_of_ble_eq_true rfl) ?_
  refine g_iconst (v := 0) dX10_gives_0 rfl ?_
  refine g_istore_n dX10_gives_1 (Nat.le_of_ble_eq_true rfl) rfl ?_
  refine g_bipush (v := 61) dX10_gives_2 rfl ?_
  refine g_iload_n dX10_gives_4 rfl ?_
  refine g_imul dX10_gives_5 ?_
  refine g_istore_n dX10_gives_6 (Nat.le_of_ble_eq_true rfl) rfl ?_
  obtain ⟨M, te, le, hM, h70, h71, h72, hte, hle, hln⟩ := hE
  have hG := ln_same nm M 0 0 0 hln
  rw [Nat.sub_zero] at hG
  have K := l_X10_gives (d := d) hd h hM h70 h71 h72 hf hte hle kk M 0 0 (w_a w 74) (Nat.zero_add _) (by decide) hG
  rw [sa_id rfl] at K
  exact K
theorem l_X10_layNow {d n : Nat} {w : gx_W} {k : gx_W → Prop} (h : moO w) (hn : w_i w 57 1 = nI n) (hn6 : n ≤ 6) (kk : k (s_a w 75 (fun j => if j < n then w_a w 61 j else w_a w 75 j))) : ∀ z i : Nat, i + z = n → gx_G 0 0 d mX10_layNow (Qv k) 2 [.ref 57, .int (nI i)] [] (s_a w 75 (fun j => if j < i then w_a w 61 j else w_a w 75 j)) := by
  intro z
  induction z with
  | zero =>
    intro i hi
    have e : i = n := by omega
    subst e
    have en : w_i (s_a w 75 (fun j => if j < i then w_a w 61 j else w_a w 75 j)) 57 1 = nI i := hn
    refine g_iload_n dX10_layNow_2 rfl ?_
    refine g_aload_n dX10_layNow_3 rfl ?_
    refine g_geti dX10_layNow_4 fl_X10_121 h.1 ?_
    rw [en]
    refine g_icmp_ge (tgt := 28) dX10_layNow_7 (by decide) (fun zc7 => ?_) (fun zc7 => ?_)
    · refine g_vret dX10_layNow_28 rfl ⟨rfl, ?_⟩
      exact kk
    · exact absurd (Int32.le_refl _) zc7
  | succ z ih =>
    intro i hi
    have en : w_i (s_a w 75 (fun j => if j < i then w_a w 61 j else w_a w 75 j)) 57 1 = nI n := hn
    refine g_iload_n dX10_layNow_2 rfl ?_
    refine g_aload_n dX10_layNow_3 rfl ?_
    refine g_geti dX10_layNow_4 fl_X10_121 h.1 ?_
    rw [en]
    refine g_icmp_ge (tgt := 28) dX10_layNow_7 (by decide) (fun zc7 => ?_) (fun zc7 => ?_)
    · refine g_vret dX10_layNow_28 rfl ⟨rfl, ?_⟩
      exact absurd zc7 (nI_ge (by omega) (by omega))
    · refine g_aload_n dX10_layNow_10 rfl ?_
      refine g_getr dX10_layNow_11 fl_X10_65 h.1 (moR_75 h) ?_
      refine g_iload_n dX10_layNow_14 rfl ?_
      refine g_aload_n dX10_layNow_15 rfl ?_
      refine g_getr dX10_layNow_16 fl_X10_21 h.1 (moR_61 h) ?_
      refine g_iload_n dX10_layNow_19 rfl ?_
      refine g_iald dX10_layNow_20 (moA_61 h) (vp_in_nI (by omega) (by decide)) ?_
      rw [nI_n (by omega), wa_sa, if_neg (by decide)]
      refine g_iast dX10_layNow_21 (moA_75 h) (vp_in_nI (by omega) (by decide)) ?_
      rw [nI_n (by omega), wa_sat, sa_sa]
      have eF : va_up (fun j => if j < i then w_a w 61 j else w_a w 75 j) i (w_a w 61 i) = (fun j => if j < i + 1 then w_a w 61 j else w_a w 75 j) := by
        funext j
        rw [up_at]
        by_cases q : j = i
        · rw [if_pos q, if_pos (by omega), q]
        · rw [if_neg q]
          by_cases q2 : j < i
          · rw [if_pos q2, if_pos (by omega)]
          · rw [if_neg q2, if_neg (by omega)]
      rw [eF]
      refine g_iinc dX10_layNow_22 rfl rfl ?_
      refine g_goto (tgt := 2) dX10_layNow_25 (by decide) ?_
      rw [nI_1']
      exact ih (i + 1) (by omega)
theorem c_X10_layNow {d : Nat} {w : gx_W} {f : Nat → Int32} {n N : Nat} {sg va : Nat → Int32} {k : gx_W → Prop} (hd : 0 ≤ d) (h : moO w) (hx : mxD w f n) (hl : lwM w N sg va) (hb : bnd f n) (kk : ∀ w', same [75] [] w w' → moT w' f n N sg va → k w') : gx_C 0 0 d mX10_layNow [.ref 57] w (Qv k) := by
  refine gx_C_of' (L := [.ref 57, .retAddr 0]) (by decide +kernel) rfl (Nat.le_of_ble_eq_true rfl) ?_
  refine g_iconst (v := 0) dX10_layNow_0 rfl ?_
  refine g_istore_n dX10_layNow_1 (Nat.le_of_ble_eq_true rfl) rfl ?_
  have K := fun kk2 => l_X10_layNow (d := d) (k := k) h hx.1.1 hx.1.2.1 kk2 n 0 (Nat.zero_add _)
  rw [sa_id (show (fun j => if j < 0 then w_a w 61 j else w_a w 75 j) = w_a w 75 from by funext j; exact if_neg (Nat.not_lt_zero _))] at K
  refine K ?_
  have hs : same [75] [] w (s_a w 75 (fun j => if j < n then w_a w 61 j else w_a w 75 j)) := same.rf.sa (by simp)
  refine kk _ hs ⟨h.same hs, ⟨hx.1.same hs (by simp) (by simp), fun j hj => ?_⟩, hl.same hs (by simp) (fun k h1 h2 => by simp; omega), hb⟩
  rw [wa_sat, if_pos hj]
  exact hx.2 j hj
theorem c_X10_runsBy {d : Nat} {w : gx_W} {f : Nat → Int32} {n c : Nat} {k : Int32 → gx_W → Prop} (hd : 2 ≤ d) (h : moO w) (hx : mxN w f n) (hc : c < 100) (kt : cr_runs f n c = true → k 1 w) (kf : cr_runs f n c = false → k 0 w) : gx_C 0 0 d mX10_runsBy [.ref 57, .int (nI c)] w (Qi k) := by
  refine gx_C_of' (L := [.ref 57, .int (nI c)]) (by decide +kernel) rfl (Nat.le_of_ble_eq_true rfl) ?_
  refine g_iload_n dX10_runsBy_0 rfl ?_
  refine g_bipush (v := 10) dX10_runsBy_1 rfl ?_
  refine g_idiv dX10_runsBy_3 (by decide) ?_
  rw [pI_div10 hc]
  refine g_aload_n dX10_runsBy_4 rfl ?_
  refine g_getr dX10_runsBy_5 fl_X10_24 h.1 (moR_62 h) ?_
  refine g_iconst (v := 0) dX10_runsBy_8 rfl ?_
  refine g_iald dX10_runsBy_9 (moA_62 h) (vp_in_nI (n := 0) (by decide) (by decide)) ?_
  rw [show (0 : Int32).toNatClampNeg = 0 from rfl, show w_a w 62 0 = f 24 from hx.2.2.2.2.2 0 (by decide)]
  refine g_icmp_lt (tgt := 30) dX10_runsBy_10 (by decide) (fun zc10 => ?_) (fun zc10 => ?_)
  · refine g_iconst (v := 0) dX10_runsBy_30 rfl ?_
    refine g_zret dX10_runsBy_31 rfl (Or.inl rfl) ⟨_, rfl, ?_⟩
    exact kf (by unfold cr_runs; rw [decide_eq_false (show ¬ f 24 ≤ nI (c / 10) from Int32.not_le.mpr zc10)]; rfl)
  · refine g_aload_n dX10_runsBy_13 rfl ?_
    refine g_aload_n dX10_runsBy_14 rfl ?_
    refine g_getr dX10_runsBy_15 fl_X10_24 h.1 (moR_62 h) ?_
    refine g_iconst (v := 1) dX10_runsBy_18 rfl ?_
    refine g_iald dX10_runsBy_19 (moA_62 h) (vp_in_nI (n := 1) (by decide) (by decide)) ?_
    rw [show (1 : Int32).toNatClampNeg = 1 from rfl, show w_a w 62 1 = f 25 from hx.2.2.2.2.2 1 (by decide)]
    refine g_cV1i dX10_runsBy_20 ml_X10_128 mi_X10_isRoad mv_X10_isRoad h.1 ⟨_, rfl, rfl⟩ (Nat.le_of_ble_eq_true rfl) rfl (by omega) ?_
    refine c_X10_isRoad (by omega) h hx.1 hx.2.1 (fun m em hm => ?_) (fun nx => ?_)
    · refine g_if_eq (tgt := 30) dX10_runsBy_23 (by decide) (fun q => absurd q (by decide)) (fun _ => ?_)
      refine g_iconst (v := 1) dX10_runsBy_26 rfl ?_
      refine g_goto (tgt := 31) dX10_runsBy_27 (by decide) ?_
      refine g_zret dX10_runsBy_31 rfl (Or.inr rfl) ⟨_, rfl, ?_⟩
      exact kt (by unfold cr_runs; rw [decide_eq_true (show f 24 ≤ nI (c / 10) from Int32.not_lt.mp zc10), decide_eq_true ((pI_road hx.2.1).mpr ⟨m, hm, em⟩)]; rfl)
    · refine g_if_eq (tgt := 30) dX10_runsBy_23 (by decide) (fun _ => ?_) (fun q => absurd q (by decide))
      refine g_iconst (v := 0) dX10_runsBy_30 rfl ?_
      refine g_zret dX10_runsBy_31 rfl (Or.inl rfl) ⟨_, rfl, ?_⟩
      exact kf (by unfold cr_runs; rw [decide_eq_false (show ¬ (0 ≤ f 25 ∧ f 25 < nI n) from fun q => by obtain ⟨m, hm, em⟩ := (pI_road hx.2.1).mp q; exact nx m hm em), Bool.and_false])
theorem rf_hold (x : Int32) : (if x < -999 then (-999 : Int32) else if 999 < x then 999 else x) = cr_hold x := by
  unfold cr_hold
  have e1 : (-999 : Int32).toInt = -999 := by decide
  have e2 : (999 : Int32).toInt = 999 := by decide
  have h1 : x < -999 ↔ x.toInt < -999 := by rw [pI_lt, e1]
  have h2 : 999 < x ↔ 999 < x.toInt := by rw [pI_lt, e2]
  have h3 : (999 : Int32) > x ↔ x.toInt < 999 := by rw [pI_gt, e2]
  have h4 : (-999 : Int32) < x ↔ -999 < x.toInt := by rw [pI_lt, e1]
  have h5 : (-999 : Int32) < 999 := by decide
  by_cases a : x < -999
  · have := h1.mp a
    rw [if_pos a, if_pos (h3.mpr (by omega)), if_neg (fun q => by have := h4.mp q; omega)]
  · have := (not_congr h1).mp a
    rw [if_neg a]
    by_cases b : 999 < x
    · have := h2.mp b
      rw [if_pos b, if_neg (show ¬ (999 : Int32) > x from fun q => by have := h3.mp q; omega), if_pos h5]
    · have := (not_congr h2).mp b
      rw [if_neg b]
      by_cases c : (999 : Int32) > x
      · rw [if_pos c]
        by_cases e : (-999 : Int32) < x
        · rw [if_pos e]
        · have := (not_congr h4).mp e
          rw [if_neg e, pI_eq, e1]; omega
      · have := (not_congr h3).mp c
        rw [if_neg c, if_pos h5, pI_eq, e2]; omega
theorem rf_plain {a b c : Int32} {p : Nat} (hp : p < 10) (ha : -300 ≤ a.toInt ∧ a.toInt ≤ 300) (hb : -300 ≤ b.toInt ∧ b.toInt ≤ 300) (hc : -300 ≤ c.toInt ∧ c.toInt ≤ 300) : ¬ a + b + c - nI p < -999 ∧ ¬ a + b + c - nI p > 999 := by
  have e1 : (-999 : Int32).toInt = -999 := by decide
  have e2 : (999 : Int32).toInt = 999 := by decide
  have ep := nI_toInt (n := p) (by omega)
  have e3 : (a + b).toInt = a.toInt + b.toInt := pI_add (by omega) (by omega)
  have e4 : (a + b + c).toInt = a.toInt + b.toInt + c.toInt := by rw [pI_add (by omega) (by omega), e3]
  have e5 : (a + b + c - nI p).toInt = a.toInt + b.toInt + c.toInt - p := by rw [pI_sub (by omega) (by omega), e4, ep]
  rw [pI_lt, pI_gt, e1, e2, e5]
  omega
set_option maxHeartbeats 4000000 in
theorem c_X10_wants {d : Nat} {w : gx_W} {f : Nat → Int32} {n N m c : Nat} {sg va : Nat → Int32} {k : Int32 → gx_W → Prop} (hd : 3 ≤ d) (h : moT w f n N sg va) (hm : m < n) (hc : c < 100) (kk : ∀ w', same [73, 74] [] w w' → k (cr_want N sg va f m c) w') : gx_C 0 0 d mX10_wants [.ref 57, .int (nI m), .int (nI c)] w (Qi k) := by
  refine gx_C_of' (L := [.ref 57, .int (nI m), .int (nI c), .retAddr 0]) (by decide +kernel) rfl (Nat.le_of_ble_eq_true rfl) ?_
  have hx := h.2.1.1
  have hw := h.2.1.2
  have hn6 := hx.2.1
  refine g_aload_n dX10_wants_0 rfl ?_
  refine g_getr dX10_wants_1 fl_X10_9 h.1.1 (moR_58 h.1) ?_
  refine g_iload_n dX10_wants_4 rfl ?_
  refine g_iald dX10_wants_5 (moA_58 h.1) (vp_in_nI (by omega) (by decide)) ?_
  rw [nI_n (show m < 2 ^ 31 by omega), hx.2.2.1 m hm]
  refine g_aload_n dX10_wants_6 rfl ?_
  refine g_getr dX10_wants_7 fl_X10_65 h.1.1 (moR_75 h.1) ?_
  refine g_iload_n dX10_wants_10 rfl ?_
  refine g_iald dX10_wants_11 (moA_75 h.1) (vp_in_nI (by omega) (by decide)) ?_
  rw [nI_n (show m < 2 ^ 31 by omega), hw m hm]
  refine g_iadd dX10_wants_12 ?_
  refine g_aload_n dX10_wants_13 rfl ?_
  refine g_getr dX10_wants_14 fl_X10_15 h.1.1 (moR_59 h.1) ?_
  refine g_iload_n dX10_wants_17 rfl ?_
  refine g_iald dX10_wants_18 (moA_59 h.1) (vp_in_nI (by omega) (by decide)) ?_
  rw [nI_n (show m < 2 ^ 31 by omega), hx.2.2.2.1 m hm]
  refine g_iadd dX10_wants_19 ?_
  refine g_iload_n dX10_wants_20 rfl ?_
  refine g_bipush (v := 10) dX10_wants_21 rfl ?_
  refine g_idiv dX10_wants_23 (by decide) ?_
  rw [pI_div10 hc]
  refine g_isub dX10_wants_24 ?_
  refine g_istore_n dX10_wants_25 (Nat.le_of_ble_eq_true rfl) rfl ?_
  refine g_aload_n dX10_wants_26 rfl ?_
  refine g_geti dX10_wants_27 fl_X10_233 h.1.1 ?_
  refine g_if_eq (tgt := 102) dX10_wants_30 (by decide) (fun zc30 => ?_) (fun zc30 => ?_)
  · have hN0 : N = 0 := by
      rcases Nat.eq_zero_or_pos N with q | q
      · exact q
      · exact absurd zc30 (h.2.2.1.2 q).1
    refine g_iload_n dX10_wants_102 rfl ?_
    refine g_sipush (v := -999) dX10_wants_103 rfl ?_
    refine g_icmp_ge (tgt := 115) dX10_wants_106 (by decide) (fun zc106 => ?_) (fun zc106 => ?_)
    · refine g_iload_n dX10_wants_115 rfl ?_
      refine g_sipush (v := 999) dX10_wants_116 rfl ?_
      refine g_icmp_le (tgt := 128) dX10_wants_119 (by decide) (fun zc119 => ?_) (fun zc119 => ?_)
      · refine g_iload_n dX10_wants_128 rfl ?_
        refine g_iret dX10_wants_129 rfl ⟨_, rfl, ?_⟩
        have K := kk w same.rf
        unfold cr_want at K
        rw [if_pos hN0] at K
        exact K
      · refine g_sipush (v := 999) dX10_wants_122 rfl ?_
        refine g_goto (tgt := 129) dX10_wants_125 (by decide) ?_
        refine g_iret dX10_wants_129 rfl ⟨_, rfl, ?_⟩
        have hP := rf_plain (p := c / 10) (by omega) (h.2.2.2 m hm).1 (h.2.2.2 m hm).2.2 (h.2.2.2 m hm).2.1
        exact absurd (Int32.not_le.mp zc119) hP.2
    · refine g_sipush (v := -999) dX10_wants_109 rfl ?_
      refine g_goto (tgt := 129) dX10_wants_112 (by decide) ?_
      refine g_iret dX10_wants_129 rfl ⟨_, rfl, ?_⟩
      have hP := rf_plain (p := c / 10) (by omega) (h.2.2.2 m hm).1 (h.2.2.2 m hm).2.2 (h.2.2.2 m hm).2.1
      exact absurd (Int32.not_le.mp zc106) hP.1
  · have hN1 : 0 < N := by
      rcases Nat.eq_zero_or_pos N with q | q
      · exact absurd (h.2.2.1.1 q) zc30
      · exact q
    refine g_aload_n dX10_wants_33 rfl ?_
    refine g_getr dX10_wants_34 fl_X10_59 h.1.1 (moR_73 h.1) ?_
    refine g_iconst (v := 0) dX10_wants_37 rfl ?_
    refine g_aload_n dX10_wants_38 rfl ?_
    refine g_getr dX10_wants_39 fl_X10_9 h.1.1 (moR_58 h.1) ?_
    refine g_iload_n dX10_wants_42 rfl ?_
    refine g_iald dX10_wants_43 (moA_58 h.1) (vp_in_nI (by omega) (by decide)) ?_
    rw [nI_n (show m < 2 ^ 31 by omega), hx.2.2.1 m hm]
    refine g_iast dX10_wants_44 (moA_73 h.1) (vp_in_nI (n := 0) (by decide) (by decide)) ?_
    rw [show (0 : Int32).toNatClampNeg = 0 from rfl]
    refine g_aload_n dX10_wants_45 rfl ?_
    refine g_getr dX10_wants_46 fl_X10_59 h.1.1 (moR_73 h.1) ?_
    refine g_iconst (v := 1) dX10_wants_49 rfl ?_
    refine g_aload_n dX10_wants_50 rfl ?_
    refine g_getr dX10_wants_51 fl_X10_65 h.1.1 (moR_75 h.1) ?_
    refine g_iload_n dX10_wants_54 rfl ?_
    refine g_iald dX10_wants_55 (moA_75 h.1) (vp_in_nI (by omega) (by decide)) ?_
    rw [nI_n (show m < 2 ^ 31 by omega), wa_sa, if_neg (by decide), hw m hm]
    refine g_iast dX10_wants_56 (moA_73 h.1) (vp_in_nI (n := 1) (by decide) (by decide)) ?_
    rw [show (1 : Int32).toNatClampNeg = 1 from rfl, wa_sat, sa_sa]
    refine g_aload_n dX10_wants_57 rfl ?_
    refine g_getr dX10_wants_58 fl_X10_59 h.1.1 (moR_73 h.1) ?_
    refine g_iconst (v := 2) dX10_wants_61 rfl ?_
    refine g_aload_n dX10_wants_62 rfl ?_
    refine g_getr dX10_wants_63 fl_X10_15 h.1.1 (moR_59 h.1) ?_
    refine g_iload_n dX10_wants_66 rfl ?_
    refine g_iald dX10_wants_67 (moA_59 h.1) (vp_in_nI (by omega) (by decide)) ?_
    rw [nI_n (show m < 2 ^ 31 by omega), wa_sa, if_neg (by decide), hx.2.2.2.1 m hm]
    refine g_iast dX10_wants_68 (moA_73 h.1) (vp_in_nI (n := 2) (by decide) (by decide)) ?_
    rw [show (2 : Int32).toNatClampNeg = 2 from rfl, wa_sat, sa_sa]
    refine g_aload_n dX10_wants_69 rfl ?_
    refine g_getr dX10_wants_70 fl_X10_59 h.1.1 (moR_73 h.1) ?_
    refine g_iconst (v := 3) dX10_wants_73 rfl ?_
    refine g_iload_n dX10_wants_74 rfl ?_
    refine g_bipush (v := 10) dX10_wants_75 rfl ?_
    refine g_idiv dX10_wants_77 (by decide) ?_
    rw [pI_div10 hc]
    refine g_iast dX10_wants_78 (moA_73 h.1) (vp_in_nI (n := 3) (by decide) (by decide)) ?_
    rw [show (3 : Int32).toNatClampNeg = 3 from rfl, wa_sat, sa_sa]
    refine g_aload_n dX10_wants_79 rfl ?_
    refine g_getr dX10_wants_80 fl_X10_59 h.1.1 (moR_73 h.1) ?_
    refine g_iconst (v := 4) dX10_wants_83 rfl ?_
    refine g_iload_n dX10_wants_84 rfl ?_
    refine g_bipush (v := 10) dX10_wants_85 rfl ?_
    refine g_irem dX10_wants_87 (by decide) ?_
    rw [pI_rem10 hc]
    refine g_iast dX10_wants_88 (moA_73 h.1) (vp_in_nI (n := 4) (by decide) (by decide)) ?_
    rw [show (4 : Int32).toNatClampNeg = 4 from rfl, wa_sat, sa_sa]
    refine g_aload_n dX10_wants_89 rfl ?_
    refine g_getr dX10_wants_90 fl_X10_59 h.1.1 (moR_73 h.1) ?_
    refine g_iconst (v := 5) dX10_wants_93 rfl ?_
    refine g_iload_n dX10_wants_94 rfl ?_
    refine g_iast dX10_wants_95 (moA_73 h.1) (vp_in_nI (n := 5) (by decide) (by decide)) ?_
    rw [show (5 : Int32).toNatClampNeg = 5 from rfl, wa_sat, sa_sa]
    refine g_aload_n dX10_wants_96 rfl ?_
    refine g_iconst (v := 0) dX10_wants_97 rfl ?_
    refine g_cV1i dX10_wants_98 ml_X10_237 mi_X10_gives mv_X10_gives h.1.1 ⟨_, rfl, rfl⟩ (Nat.le_of_ble_eq_true rfl) rfl (by omega) ?_
    refine c_X10_gives (N := N) (sg := sg) (va := va) (nm := lw_nm (f m) (f (18 + m)) (f (6 + m)) (nI (c / 10)) (nI (c % 10)) (nI m)) (by omega) (h.1.same (same.rf.sa (R := [73]) (F := []) (by simp))) ((h.2.2.1.2 hN1).2.cg (by rw [wa_sa, if_neg (by decide)]) (by rw [wa_sa, if_neg (by decide)]) (by rw [wa_sa, if_neg (by decide)]) (by rw [wa_sa, if_neg (by decide)]) (by rw [wa_sa, if_neg (by decide)])) (fun j hj => by rw [wa_sat]; rcases (by omega : j = 0 ∨ j = 1 ∨ j = 2 ∨ j = 3 ∨ j = 4 ∨ j = 5) with e | e | e | e | e | e <;> subst e <;> rfl) (fun P2 => ?_)
    refine g_istore_n dX10_wants_101 (Nat.le_of_ble_eq_true rfl) rfl ?_
    refine g_iload_n dX10_wants_102 rfl ?_
    refine g_sipush (v := -999) dX10_wants_103 rfl ?_
    refine g_icmp_ge (tgt := 115) dX10_wants_106 (by decide) (fun zc106 => ?_) (fun zc106 => ?_)
    · refine g_iload_n dX10_wants_115 rfl ?_
      refine g_sipush (v := 999) dX10_wants_116 rfl ?_
      refine g_icmp_le (tgt := 128) dX10_wants_119 (by decide) (fun zc119 => ?_) (fun zc119 => ?_)
      · refine g_iload_n dX10_wants_128 rfl ?_
        refine g_iret dX10_wants_129 rfl ⟨_, rfl, ?_⟩
        have eW : cr_want N sg va f m c = cr_hold (lw_run sg va (lw_nm (f m) (f (18 + m)) (f (6 + m)) (nI (c / 10)) (nI (c % 10)) (nI m)) N 0 false []) := if_neg (by omega)
        have K := kk _ ((same.rf.sa (R := [73, 74]) (F := []) (w := w) (k := 73) (f := (va_up (va_up (va_up (va_up (va_up (va_up (w_a w 73) 0 (f m)) 1 (f (18 + m))) 2 (f (6 + m))) 3 (nI (c / 10))) 4 (nI (c % 10))) 5 (nI m))) (by simp)).sa (k := 74) (f := P2) (by simp))
        rw [eW, ← rf_hold] at K
        rw [if_neg (Int32.not_lt.mpr zc106), if_neg (Int32.not_lt.mpr zc119)] at K
        exact K
      · refine g_sipush (v := 999) dX10_wants_122 rfl ?_
        refine g_goto (tgt := 129) dX10_wants_125 (by decide) ?_
        refine g_iret dX10_wants_129 rfl ⟨_, rfl, ?_⟩
        have eW : cr_want N sg va f m c = cr_hold (lw_run sg va (lw_nm (f m) (f (18 + m)) (f (6 + m)) (nI (c / 10)) (nI (c % 10)) (nI m)) N 0 false []) := if_neg (by omega)
        have K := kk _ ((same.rf.sa (R := [73, 74]) (F := []) (w := w) (k := 73) (f := (va_up (va_up (va_up (va_up (va_up (va_up (w_a w 73) 0 (f m)) 1 (f (18 + m))) 2 (f (6 + m))) 3 (nI (c / 10))) 4 (nI (c % 10))) 5 (nI m))) (by simp)).sa (k := 74) (f := P2) (by simp))
        rw [eW, ← rf_hold] at K
        rw [if_neg (Int32.not_lt.mpr zc106), if_pos (Int32.not_le.mp zc119)] at K
        exact K
    · refine g_sipush (v := -999) dX10_wants_109 rfl ?_
      refine g_goto (tgt := 129) dX10_wants_112 (by decide) ?_
      refine g_iret dX10_wants_129 rfl ⟨_, rfl, ?_⟩
      have eW : cr_want N sg va f m c = cr_hold (lw_run sg va (lw_nm (f m) (f (18 + m)) (f (6 + m)) (nI (c / 10)) (nI (c % 10)) (nI m)) N 0 false []) := if_neg (by omega)
      have K := kk _ ((same.rf.sa (R := [73, 74]) (F := []) (w := w) (k := 73) (f := (va_up (va_up (va_up (va_up (va_up (va_up (w_a w 73) 0 (f m)) 1 (f (18 + m))) 2 (f (6 + m))) 3 (nI (c / 10))) 4 (nI (c % 10))) 5 (nI m))) (by simp)).sa (k := 74) (f := P2) (by simp))
      rw [eW, ← rf_hold] at K
      rw [if_pos (Int32.not_le.mp zc106)] at K
      exact K

/-! CrossroadsChoose: whatever -/
def me_all (N : Nat) (sg va f : Nat → Int32) (n p : Nat) (x : Int32) : Bool := (List.range 10).all (fun j => decide (cr_has N sg va f n (10 * p + j) = x))
theorem me_all_iff {N : Nat} {sg va f : Nat → Int32} {n p : Nat} {x : Int32} : me_all N sg va f n p x = true ↔ ∀ j, j < 10 → cr_has N sg va f n (10 * p + j) = x := by
  simp only [me_all, List.all_eq_true, List.mem_range, decide_eq_true_eq]
theorem c_hasAllF {d n l N p : Nat} {w w1 : gx_W} {f : Nat → Int32} {x : Int32} {k : Int32 → gx_W → Prop} (hd : 6 ≤ d) (h : thF w w1 n l N f) (hp : p < 10) (k1 : me_all N (w_a w (l + 1)) (w_a w (l + 2)) f n p x = true → ∀ w', thF w w' n l N f → k 1 w') (k2 : me_all N (w_a w (l + 1)) (w_a w (l + 2)) f n p x = false → ∀ w', thF w w' n l N f → k 0 w') : gx_C 0 0 d mX2_hasAllOf [.ref 43, .int x, .int (nI p)] w1 (Qi k) := by
  have hn : n ≤ 6 := h.2.2.1.1.1.2.2
  have go : ∀ w', same [l + 3, l + 4] [(l, 5)] w1 w' → thF w w' n l N f := fun w' hs => by
    have hj := isCk.junk h.2.2.1.2 hs
    refine h.go (hj.wk (by simp) (by simp)) (fun j hj2 => ?_)
    rw [(hj.2.2.2.1 44 (by decide)).1]
    exact h.2.2.2 j hj2
  refine c_X2_hasAllOf hd h.2.2.1.1 hp (fun w' hs q => k1 (me_all_iff.mpr (fun j hj => ?_)) w' (go w' hs)) (fun w' hs q => k2 ?_ w' (go w' hs))
  · have := q j hj
    rw [h.rows.1, h.rows.2, cr_has_congr h.2.2.2 hn] at this
    exact this
  · obtain ⟨j, hj, q⟩ := q
    rw [h.rows.1, h.rows.2, cr_has_congr h.2.2.2 hn] at q
    cases e : me_all N (w_a w (l + 1)) (w_a w (l + 2)) f n p x with
    | false => rfl
    | true => exact absurd (me_all_iff.mp e j hj) q
def me_wh (N : Nat) (sg va : Nat → Int32) (n p q : Nat) : Nat → Nat → (Nat → Int32) → Int32
  | 0, _, _ => -2
  | z + 1, t, f => if me_all N sg va (va_up f (6 + q) (nI t)) n p (nI q) = true then nI t else me_wh N sg va n p q z (t + 1) (va_up f (6 + q) (nI t))
set_option maxHeartbeats 4000000 in
theorem l_X9_whatever {d n l N q p : Nat} {w : gx_W} {k : Int32 → gx_W → Prop} (hd : 8 ≤ d) (hT : isT w) (h : clO w) (hq : q < n) (hp : p < 10) : ∀ (z t : Nat) (f : Nat → Int32) (w1 : gx_W), t + z = 10 → thF w w1 n l N f → (∀ w', sam TR TG [(43, 2)] w w' → k (me_wh N (w_a w (l + 1)) (w_a w (l + 2)) n p q z t f) w') → gx_G 0 0 d mX9_whatever (Qi k) 40 [.ref 6, .int (nI q), .int (nI p), .int (nI t)] [] w1 := by
  intro z
  induction z with
  | zero =>
    intro t f w1 hi hI kk
    have e : t = 10 := by omega
    subst e
    have hT2 : w1.1[2]? = some (30, 8) := (hT.sam hI.1 (by simp) 2 (by decide) (by decide)).1
    have hv2 : w_a w1 2 = fun j => (gx_tab 2).getD j 0 := (hT.sam hI.1 (by simp) 2 (by decide) (by decide)).2
    refine g_iload_n dX9_whatever_40 rfl ?_
    refine g_gets (a := 2) dX9_whatever_41 gs_X9_138 (by decide) (by decide) ?_
    refine g_iconst (v := 1) dX9_whatever_44 rfl ?_
    refine g_rald dX9_whatever_45 (by decide) hT2 (by first | assumption | exact vp_in_iff.mpr (by decide)) ?_
    rw [hv2]
    refine g_icmp_gt (tgt := 85) dX9_whatever_46 (by decide) (fun zc46 => ?_) (fun zc46 => ?_)
    · refine g_bipush (v := -2) dX9_whatever_85 rfl ?_
      refine g_iret dX9_whatever_87 rfl ⟨_, rfl, ?_⟩
      exact kk w1 hI.1
    · exact absurd (by decide) zc46
  | succ z ih =>
    intro t f w1 hi hI kk
    have hT2 : w1.1[2]? = some (30, 8) := (hT.sam hI.1 (by simp) 2 (by decide) (by decide)).1
    have hv2 : w_a w1 2 = fun j => (gx_tab 2).getD j 0 := (hT.sam hI.1 (by simp) 2 (by decide) (by decide)).2
    refine g_iload_n dX9_whatever_40 rfl ?_
    refine g_gets (a := 2) dX9_whatever_41 gs_X9_138 (by decide) (by decide) ?_
    refine g_iconst (v := 1) dX9_whatever_44 rfl ?_
    refine g_rald dX9_whatever_45 (by decide) hT2 (by first | assumption | exact vp_in_iff.mpr (by decide)) ?_
    rw [hv2]
    refine g_icmp_gt (tgt := 85) dX9_whatever_46 (by decide) (fun zc46 => ?_) (fun zc46 => ?_)
    · refine g_bipush (v := -2) dX9_whatever_85 rfl ?_
      refine g_iret dX9_whatever_87 rfl ⟨_, rfl, ?_⟩
      exact absurd (show nI 9 < nI t from zc46) (by rw [pI_lt, nI_toInt (by omega), nI_toInt (by omega)]; omega)
    · refine g_aload_n dX9_whatever_49 rfl ?_
      refine g_getr dX9_whatever_50 fl_X9_74 (clO_th h hI.1).1 (clO_th h hI.1).2.1.2.1 ?_
      refine g_getr dX9_whatever_53 fl_X9_165 hI.2.1.1 hI.2.1.2.1 ?_
      refine g_iload_n dX9_whatever_56 rfl ?_
      refine g_iconst (v := 1) dX9_whatever_57 rfl ?_
      refine g_iload_n dX9_whatever_58 rfl ?_
      refine g_cV3v dX9_whatever_59 ml_X9_121 mi_X2_become mv_X2_become hI.2.2.1.1.1.1.1 ⟨_, rfl, rfl⟩ (Nat.le_of_ble_eq_true rfl) rfl (by omega) ?_
      refine c_becomeF (y := 1) (by omega) hI hq (by decide) rfl (fun w2 hI => ?_)
      refine g_aload_n dX9_whatever_62 rfl ?_
      refine g_getr dX9_whatever_63 fl_X9_74 (clO_th h hI.1).1 (clO_th h hI.1).2.1.2.1 ?_
      refine g_getr dX9_whatever_66 fl_X9_165 hI.2.1.1 hI.2.1.2.1 ?_
      refine g_iload_n dX9_whatever_69 rfl ?_
      refine g_iload_n dX9_whatever_70 rfl ?_
      refine g_cV2i dX9_whatever_71 ml_X9_239 mi_X2_hasAllOf mv_X2_hasAllOf hI.2.2.1.1.1.1.1 ⟨_, rfl, rfl⟩ (Nat.le_of_ble_eq_true rfl) rfl (by omega) ?_
      refine c_hasAllF (by omega) hI hp (fun e w3 hI => ?_) (fun e w3 hI => ?_)
      · refine g_if_eq (tgt := 79) dX9_whatever_74 (by decide) (fun q => absurd q (by decide)) (fun _ => ?_)
        refine g_iload_n dX9_whatever_77 rfl ?_
        refine g_iret dX9_whatever_78 rfl ⟨_, rfl, ?_⟩
        rw [show me_wh N (w_a w (l + 1)) (w_a w (l + 2)) n p q (z + 1) t f = nI t from if_pos e] at kk
        exact kk w3 hI.1
      · refine g_if_eq (tgt := 79) dX9_whatever_74 (by decide) (fun _ => ?_) (fun q => absurd q (by decide))
        refine g_iinc dX9_whatever_79 rfl rfl ?_
        refine g_goto (tgt := 40) dX9_whatever_82 (by decide) ?_
        rw [show me_wh N (w_a w (l + 1)) (w_a w (l + 2)) n p q (z + 1) t f = me_wh N (w_a w (l + 1)) (w_a w (l + 2)) n p q z (t + 1) (va_up f (6 + q) (nI t)) from if_neg (by rw [e]; decide)] at kk
        rw [nI_1']
        exact ih (t + 1) _ w3 (by omega) hI kk
theorem c_X9_whatever {d : Nat} {w : gx_W} {n l N : Nat} {x y : Int32} {k : Int32 → gx_W → Prop} (hd : 8 ≤ d) (hT : isT w) (h : clO w) (hc : isCk w 37 38 n l N) (ho : thO w) (h43 : isCr w 43 44) (k1 : (∀ q, q < n → x ≠ nI q) → k (-1) w) (k2 : (∀ p, p < 10 → y ≠ nI p) → k (-1) w) (kk : ∀ q p, x = nI q → q < n → y = nI p → p < 10 → ∀ w', sam TR TG [(43, 2)] w w' → k (me_wh N (w_a w (l + 1)) (w_a w (l + 2)) n p q 10 0 (w_a w 38)) w') : gx_C 0 0 d mX9_whatever [.ref 6, .int x, .int y] w (Qi k) := by
  refine gx_C_of' (L := [.ref 6, .int x, .int y, .retAddr 0]) (by decide +kernel) rfl (Nat.le_of_ble_eq_true rfl) ?_
  refine g_aload_n dX9_whatever_0 rfl ?_
  refine g_getr dX9_whatever_1 fl_X9_67 h.1 h.2.1.1 ?_
  refine g_iload_n dX9_whatever_4 rfl ?_
  refine g_cV1i dX9_whatever_5 ml_X9_141 mi_X2_isRoad mv_X2_isRoad hc.1.1.1.1 ⟨_, rfl, rfl⟩ (Nat.le_of_ble_eq_true rfl) rfl (by omega) ?_
  refine c_X2_isRoad (by omega) hc.1.1 (fun q e hq => ?_) (fun hn => ?_)
  · refine g_if_eq (tgt := 21) dX9_whatever_8 (by decide) (fun q => absurd q (by decide)) (fun _ => ?_)
    refine g_iload_n dX9_whatever_11 rfl ?_
    refine g_if_lt (tgt := 21) dX9_whatever_12 (by decide) (fun zc12 => ?_) (fun zc12 => ?_)
    · refine g_iconst (v := -1) dX9_whatever_21 rfl ?_
      refine g_iret dX9_whatever_22 rfl ⟨_, rfl, ?_⟩
      refine k2 (fun p hp e => ?_)
      first
        | (rw [e] at zc12; exact absurd zc12 (nI_pos (by omega)))
        | (refine absurd ?_ zc18
           rw [e, pI_le, nI_toInt (by omega)]
           have e6 : (9 : Int32).toInt = 9 := by decide
           omega)
    · refine g_iload_n dX9_whatever_15 rfl ?_
      refine g_bipush (v := 9) dX9_whatever_16 rfl ?_
      refine g_icmp_le (tgt := 23) dX9_whatever_18 (by decide) (fun zc18 => ?_) (fun zc18 => ?_)
      · obtain ⟨p, hp, ey⟩ : ∃ p, p < 10 ∧ y = nI p := pI_ex (n := 10) zc12 (by
          have c : y ≤ 9 := zc18
          rw [pI_le] at c
          have e : (9 : Int32).toInt = 9 := by decide
          omega)
        refine g_aload_n dX9_whatever_23 rfl ?_
        refine g_getr dX9_whatever_24 fl_X9_74 h.1 h.2.1.2.1 ?_
        refine g_aload_n dX9_whatever_27 rfl ?_
        refine g_getr dX9_whatever_28 fl_X9_67 h.1 h.2.1.1 ?_
        refine g_cV1v dX9_whatever_31 ml_X9_184 mi_X7_begin mv_X7_begin ho.1 ⟨_, rfl, rfl⟩ (Nat.le_of_ble_eq_true rfl) rfl (by omega) ?_
        refine c_beginI (by omega) ho h43 hc (fun w1 I1 => ?_)
        have hT1 : w1.1[1]? = some (30, 8) := (hT.sam I1.1 (by simp) 1 (by decide) (by decide)).1
        have hv1 : w_a w1 1 = fun j => (gx_tab 1).getD j 0 := (hT.sam I1.1 (by simp) 1 (by decide) (by decide)).2
        refine g_gets (a := 1) dX9_whatever_34 gs_X9_135 (by decide) (by decide) ?_
        refine g_iconst (v := 1) dX9_whatever_37 rfl ?_
        refine g_rald dX9_whatever_38 (by decide) hT1 (by first | assumption | exact vp_in_iff.mpr (by decide)) ?_
        rw [hv1]
        refine g_istore_n dX9_whatever_39 (Nat.le_of_ble_eq_true rfl) rfl ?_
        subst e
        subst ey
        exact l_X9_whatever hd hT h hq hp 10 0 _ w1 rfl I1.F (kk q p rfl hq rfl hp)
      · refine g_iconst (v := -1) dX9_whatever_21 rfl ?_
        refine g_iret dX9_whatever_22 rfl ⟨_, rfl, ?_⟩
        refine k2 (fun p hp e => ?_)
        first
          | (rw [e] at zc12; exact absurd zc12 (nI_pos (by omega)))
          | (refine absurd ?_ zc18
             rw [e, pI_le, nI_toInt (by omega)]
             have e6 : (9 : Int32).toInt = 9 := by decide
             omega)
  · refine g_if_eq (tgt := 21) dX9_whatever_8 (by decide) (fun _ => ?_) (fun q => absurd q (by decide))
    refine g_iconst (v := -1) dX9_whatever_21 rfl ?_
    refine g_iret dX9_whatever_22 rfl ⟨_, rfl, ?_⟩
    exact k1 hn

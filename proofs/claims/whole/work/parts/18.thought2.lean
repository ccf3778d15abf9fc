/-! Thought: begin, waitAs, unlikeness -/
/-- what begin leaves: the crossing in thought is as now, nobody had anybody -/
def thN (w w' : gx_W) (n l : Nat) : Prop := sam TR ((43, 1) :: TF) [(43, 2)] w w' ∧ w_i w' 43 1 = nI n ∧ w_r w' 43 2 = some l ∧ (∀ j, j < 28 → w_a w' 44 j = w_a w 38 j) ∧ (∀ j, j < 6 → w_a w' 40 j = 0) ∧ (∀ j, j < 6 → w_a w' 41 j = -2) ∧ (∀ j, j < 6 → w_a w' 42 j = w_a w 38 (18 + j)) ∧ w_i w' 39 4 = 0 ∧ w_i w' 39 5 = -2 ∧ w_i w' 39 6 = 0
theorem sam.rf {R : List Nat} {F E : List (Nat × Nat)} {w : gx_W} : sam R F E w w := ⟨rfl, fun _ _ _ => rfl, fun _ _ _ => rfl, fun _ _ => ⟨rfl, rfl⟩, rfl⟩
theorem sam.si {R : List Nat} {F E : List (Nat × Nat)} {w w' : gx_W} {k j : Nat} {v : Int32} (h : sam R F E w w') (hm : (k, j) ∈ F) : sam R F E w (s_i w' k j v) := by
  refine ⟨h.1, fun k' j' q => ?_, h.2.2.1, h.2.2.2.1, h.2.2.2.2⟩
  rw [wi_si, if_neg (fun z => q (by rw [z.1, z.2]; exact hm))]
  exact h.2.1 k' j' q
theorem sam.sa {R : List Nat} {F E : List (Nat × Nat)} {w w' : gx_W} {k : Nat} {f : Nat → Int32} (h : sam R F E w w') (hm : k ∈ R) : sam R F E w (s_a w' k f) := by
  refine ⟨h.1, h.2.1, h.2.2.1, fun k' q => ⟨?_, (h.2.2.2.1 k' q).2⟩, h.2.2.2.2⟩
  rw [wa_sa, if_neg (fun z => q (by rw [z]; exact hm))]
  exact (h.2.2.2.1 k' q).1
theorem wr_sr {w : gx_W} {k j : Nat} {v : Option Nat} (k' j' : Nat) : w_r (s_r w k j v) k' j' = if k' = k ∧ j' = j then v else w_r w k' j' := by
  show va_up w.2.2.1 k (va_up (w.2.2.1 k) j v) k' j' = _
  by_cases e : k' = k
  · subst e
    rw [va_up_at]
    by_cases e2 : j' = j
    · subst e2; rw [va_up_at, if_pos ⟨rfl, rfl⟩]
    · rw [va_up_row e2, if_neg (fun z => e2 z.2)]; rfl
  · rw [va_up_row e, if_neg (fun z => e z.1)]; rfl
theorem sam.sr {R : List Nat} {F E : List (Nat × Nat)} {w w' : gx_W} {k j : Nat} {v : Option Nat} (h : sam R F E w w') (hm : (k, j) ∈ E) : sam R F E w (s_r w' k j v) := by
  refine ⟨h.1, h.2.1, fun k' j' q => ?_, h.2.2.2.1, h.2.2.2.2⟩
  rw [wr_sr, if_neg (fun z => q (by rw [z.1, z.2]; exact hm))]
  exact h.2.2.1 k' j' q
theorem wa_sr {w : gx_W} {k j : Nat} {v : Option Nat} : w_a (s_r w k j v) = w_a w := rfl
theorem wi_sr {w : gx_W} {k j : Nat} {v : Option Nat} : w_i (s_r w k j v) = w_i w := rfl
theorem cpy_in {f g : Nat → Int32} {sp dp n j : Nat} (h1 : dp ≤ j) (h2 : j < dp + n) : va_cpy f g sp dp n j = f (sp + (j - dp)) := if_pos ⟨h1, h2⟩
set_option maxHeartbeats 8000000 in
theorem c_X7_begin {d : Nat} {w : gx_W} {n l N : Nat} {k : gx_W → Prop} (hd : 2 ≤ d) (h : thO w) (h43 : isCr w 43 44) (hn : isCk w 37 38 n l N) (kk : ∀ w', thN w w' n l → k w') : gx_C 0 0 d mX7_begin [.ref 39, .ref 37] w (Qv k) := by
  refine gx_C_of' (L := [.ref 39, .ref 37]) (by decide +kernel) rfl (Nat.le_of_ble_eq_true rfl) ?_
  refine g_aload_n dX7_begin_0 rfl ?_
  refine g_getr dX7_begin_1 fl_X7_26 h.1 h.2.1 ?_
  refine g_aload_n dX7_begin_4 rfl ?_
  refine g_cV1v dX7_begin_5 ml_X7_30 mi_X2_copy mv_X2_copy h43.1 ⟨_, rfl, rfl⟩ (Nat.le_of_ble_eq_true rfl) rfl (by omega) ?_
  refine c_X2_copy (by omega) h43 hn.1.1 hn.1.2.1 ?_
  refine g_aload_n dX7_begin_8 rfl ?_
  refine g_getr dX7_begin_9 fl_X7_9 h.1 h.2.2.1.1 ?_
  refine g_iconst (v := 0) dX7_begin_12 rfl ?_
  refine g_cS2v dX7_begin_13 ml_X7_34 mi_J7_fill_53178 ms_J7_fill_53178 (Nat.le_of_ble_eq_true rfl) rfl (by omega) ?_
  refine c_J7_fill_53178 (by omega) (N := 6) (by decide) h.2.2.1.2 ?_
  refine g_aload_n dX7_begin_16 rfl ?_
  refine g_getr dX7_begin_17 fl_X7_15 h.1 h.2.2.2.1.1 ?_
  refine g_bipush (v := -2) dX7_begin_20 rfl ?_
  refine g_cS2v dX7_begin_22 ml_X7_34 mi_J7_fill_53178 ms_J7_fill_53178 (Nat.le_of_ble_eq_true rfl) rfl (by omega) ?_
  refine c_J7_fill_53178 (by omega) (N := 6) (by decide) h.2.2.2.1.2 ?_
  have h33 : isCn (s_a (s_a (s_r (s_i (s_a w 44 (va_cpy (w_a w 38) (w_a w 44) 0 0 28)) 43 1 (nI n)) 43 2 (some l)) 40 (fun j => if j < 6 then 0 else w_a (s_r (s_i (s_a w 44 (va_cpy (w_a w 38) (w_a w 44) 0 0 28)) 43 1 (nI n)) 43 2 (some l)) 40 j)) 41 (fun j => if j < 6 then -2 else w_a (s_a (s_r (s_i (s_a w 44 (va_cpy (w_a w 38) (w_a w 44) 0 0 28)) 43 1 (nI n)) 43 2 (some l)) 40 (fun j => if j < 6 then 0 else w_a (s_r (s_i (s_a w 44 (va_cpy (w_a w 38) (w_a w 44) 0 0 28)) 43 1 (nI n)) 43 2 (some l)) 40 j)) 41 j)) 43 44 n := by
    refine ⟨⟨h43.1, ?_, h43.2.2⟩, ?_, hn.1.1.2.2⟩
    · simp only [wr_sa, wr_sr, wr_si]
      rw [if_neg (by decide)]
      exact h43.2.1
    · simp only [wi_sa, wi_sr, wi_si, and_self, if_true]
  refine g_aload_n dX7_begin_25 rfl ?_
  refine g_getr dX7_begin_26 fl_X7_26 h.1 h.2.1 ?_
  refine g_aload_n dX7_begin_29 rfl ?_
  refine g_getr dX7_begin_30 fl_X7_18 h.1 h.2.2.2.2.1 ?_
  refine g_cV1v dX7_begin_33 ml_X7_40 mi_X2_giveWaits mv_X2_giveWaits h43.1 ⟨_, rfl, rfl⟩ (Nat.le_of_ble_eq_true rfl) rfl (by omega) ?_
  refine c_X2_giveWaits (by omega) h33 h.2.2.2.2.2 ?_
  refine g_aload_n dX7_begin_36 rfl ?_
  refine g_iconst (v := 0) dX7_begin_37 rfl ?_
  refine g_puti dX7_begin_38 fl_X7_44 ft_7_4 h.1 ?_
  refine g_aload_n dX7_begin_41 rfl ?_
  refine g_bipush (v := -2) dX7_begin_42 rfl ?_
  refine g_puti dX7_begin_44 fl_X7_48 ft_7_5 h.1 ?_
  refine g_aload_n dX7_begin_47 rfl ?_
  refine g_iconst (v := 0) dX7_begin_48 rfl ?_
  refine g_puti dX7_begin_49 fl_X7_51 ft_7_6 h.1 ?_
  refine g_vret dX7_begin_52 rfl ⟨rfl, ?_⟩
  refine kk _ ⟨?_, ?_, ?_, ?_, ?_, ?_, ?_, ?_, ?_, ?_⟩
  · refine sam.si (sam.si (sam.si (sam.sa (sam.sa (sam.sa (sam.sr (sam.si (sam.sa sam.rf ?_) ?_) ?_) ?_) ?_) ?_) ?_) ?_) ?_ <;> simp
  · simp only [wi_si, wi_sa, wi_sr, and_self, if_true, if_false, Nat.reduceEqDiff, and_false, false_and]
  · simp only [wr_si, wr_sa, wr_sr, and_self, if_true]
  · intro j hj
    simp only [wa_si, wa_sa, wa_sr, if_true, if_false, Nat.reduceEqDiff]
    rw [cpy_in (Nat.zero_le _) (by omega)]
    simp
  · intro j hj
    simp only [wa_si, wa_sa, wa_sr, if_true, if_false, Nat.reduceEqDiff, hj]
  · intro j hj
    simp only [wa_si, wa_sa, wa_sr, if_true, if_false, Nat.reduceEqDiff, hj]
  · intro j hj
    simp only [wa_si, wa_sa, wa_sr, if_true, if_false, Nat.reduceEqDiff]
    rw [cpy_in (Nat.zero_le _) (by omega), cpy_in (Nat.zero_le _) (by omega)]
    simp
  · simp only [wi_si, and_self, if_true, if_false, Nat.reduceEqDiff, and_false, false_and, reduceCtorEq]
  · simp only [wi_si, and_self, if_true, if_false, Nat.reduceEqDiff, and_false, false_and, reduceCtorEq]
  · simp only [wi_si, and_self, if_true, if_false, Nat.reduceEqDiff, and_false, false_and, reduceCtorEq]
set_option maxHeartbeats 4000000 in
theorem l_X7_waitAs {d n : Nat} {w : gx_W} {k : gx_W → Prop} (hd : 2 ≤ d) (h : thO w) (hc : isCn w 43 44 n) (hn : isCn w 37 38 n) (kk : k (s_a w 44 (fun j => if 18 ≤ j ∧ j < 18 + n then w_a w 38 j else w_a w 44 j))) : ∀ z i : Nat, i + z = n → gx_G 0 0 d mX7_waitAs (Qv k) 2 [.ref 39, .ref 37, .int (nI i)] [] (s_a w 44 (fun j => if 18 ≤ j ∧ j < 18 + i then w_a w 38 j else w_a w 44 j)) := by
  intro z
  induction z with
  | zero =>
    intro i hi
    have e : i = n := by omega
    subst e
    refine g_iload_n dX7_waitAs_2 rfl ?_
    refine g_aload_n dX7_waitAs_3 rfl ?_
    refine g_getr dX7_waitAs_4 fl_X7_26 h.1 h.2.1 ?_
    refine g_geti dX7_waitAs_7 fl_X7_54 hc.1.1 ?_
    refine g_icmp_ge (tgt := 34) dX7_waitAs_10 (by decide) (fun _ => ?_) (fun q => absurd (Int32.le_refl _) (by rw [wi_sa, hc.2.1] at q; exact q))
    exact g_vret dX7_waitAs_34 rfl ⟨rfl, kk⟩
  | succ z ih =>
    intro i hi
    have hb := hc.2.2
    have hlt : i < n := by omega
    have hw : isCn (s_a w 44 (fun j => if 18 ≤ j ∧ j < 18 + i then w_a w 38 j else w_a w 44 j)) 43 44 n := hc
    have hwn : isCn (s_a w 44 (fun j => if 18 ≤ j ∧ j < 18 + i then w_a w 38 j else w_a w 44 j)) 37 38 n := hn
    refine g_iload_n dX7_waitAs_2 rfl ?_
    refine g_aload_n dX7_waitAs_3 rfl ?_
    refine g_getr dX7_waitAs_4 fl_X7_26 h.1 h.2.1 ?_
    refine g_geti dX7_waitAs_7 fl_X7_54 hc.1.1 ?_
    refine g_icmp_ge (tgt := 34) dX7_waitAs_10 (by decide) (fun zc10 => ?_) (fun zc10 => ?_)
    · refine g_vret dX7_waitAs_34 rfl ⟨rfl, ?_⟩
      exact absurd zc10 (by rw [wi_sa, hc.2.1]; exact nI_ge hlt (by omega))
    · refine g_aload_n dX7_waitAs_13 rfl ?_
      refine g_getr dX7_waitAs_14 fl_X7_26 h.1 h.2.1 ?_
      refine g_iload_n dX7_waitAs_17 rfl ?_
      refine g_iconst (v := 3) dX7_waitAs_18 rfl ?_
      refine g_aload_n dX7_waitAs_19 rfl ?_
      refine g_iload_n dX7_waitAs_20 rfl ?_
      refine g_iconst (v := 3) dX7_waitAs_21 rfl ?_
      refine g_cV2i dX7_waitAs_22 ml_X7_57 mi_X2_number mv_X2_number hn.1.1 ⟨_, rfl, rfl⟩ (Nat.le_of_ble_eq_true rfl) rfl (by omega) ?_
      refine c_number_r (q := 3) (m := i) (by omega) hwn (by decide) hlt rfl rfl ?_
      refine g_cV3v dX7_waitAs_25 ml_X7_61 mi_X2_become mv_X2_become hc.1.1 ⟨_, rfl, rfl⟩ (Nat.le_of_ble_eq_true rfl) rfl (by omega) ?_
      refine c_become_r (q := 3) (m := i) (by omega) hw (by decide) hlt rfl rfl ?_
      refine g_iinc dX7_waitAs_28 rfl rfl ?_
      refine g_goto (tgt := 2) dX7_waitAs_31 (by decide) ?_
      rw [s_a_a, nI_1', show 3 * 6 + i = 18 + i by omega, wa_sa, if_pos rfl, wa_sa, if_neg (show ¬ (38 : Nat) = 44 by decide)]
      have e : va_up (fun j => if 18 ≤ j ∧ j < 18 + i then w_a w 38 j else w_a w 44 j) (18 + i) (w_a w 38 (18 + i)) = fun j => if 18 ≤ j ∧ j < 18 + (i + 1) then w_a w 38 j else w_a w 44 j := by
        funext j
        by_cases q : j = 18 + i
        · subst q
          rw [va_up_at, if_pos (show 18 ≤ 18 + i ∧ 18 + i < 18 + (i + 1) by omega)]
        · rw [va_up_row q]
          by_cases q2 : 18 ≤ j ∧ j < 18 + i
          · rw [if_pos q2, if_pos (show 18 ≤ j ∧ j < 18 + (i + 1) by omega)]
          · rw [if_neg q2, if_neg (show ¬ (18 ≤ j ∧ j < 18 + (i + 1)) by omega)]
      rw [e]
      exact ih (i + 1) (by omega)
theorem c_X7_waitAs {d : Nat} {w : gx_W} {n : Nat} {k : gx_W → Prop} (hd : 2 ≤ d) (h : thO w) (hc : isCn w 43 44 n) (hn : isCn w 37 38 n) (kk : k (s_a w 44 (fun j => if 18 ≤ j ∧ j < 18 + n then w_a w 38 j else w_a w 44 j))) : gx_C 0 0 d mX7_waitAs [.ref 39, .ref 37] w (Qv k) := by
  refine gx_C_of' (L := [.ref 39, .ref 37, .retAddr 0]) (by decide +kernel) rfl (Nat.le_of_ble_eq_true rfl) ?_
  refine g_iconst (v := 0) dX7_waitAs_0 rfl ?_
  refine g_istore_n dX7_waitAs_1 (Nat.le_of_ble_eq_true rfl) rfl ?_
  have e2 : (fun j => if 18 ≤ j ∧ j < 18 + 0 then w_a w 38 j else w_a w 44 j) = w_a w 44 := funext fun j => if_neg (by omega)
  have K := l_X7_waitAs hd h hc hn kk n 0 (by omega)
  rw [e2, s_a_self] at K
  exact K
def mnI (x y : Int32) : Int32 := if x > y then y else x
def th_max (f : Nat → Int32) : Nat → Int32
  | 0 => f 0
  | i + 1 => mxI (th_max f i) (f (i + 1))
def th_min (f : Nat → Int32) : Nat → Int32
  | 0 => f 0
  | i + 1 => mnI (th_min f i) (f (i + 1))
set_option maxHeartbeats 4000000 in
theorem l_X7_unlikeness {d n : Nat} {w : gx_W} {k : Int32 → gx_W → Prop} (hd : 1 ≤ d) (h : thO w) (hc : isCn w 43 44 (n + 1)) (kk : k (th_max (w_a w 40) n - th_min (w_a w 40) n) w) : ∀ z i : Nat, i + z = n → gx_G 0 0 d mX7_unlikeness (Qi k) 28 [.ref 39, .int (th_max (w_a w 40) i), .int (th_min (w_a w 40) i), .int (nI (i + 1))] [] w := by
  intro z
  induction z with
  | zero =>
    intro i hi
    have e : i = n := by omega
    subst e
    refine g_iload_n dX7_unlikeness_28 rfl ?_
    refine g_aload_n dX7_unlikeness_29 rfl ?_
    refine g_getr dX7_unlikeness_30 fl_X7_26 h.1 h.2.1 ?_
    refine g_geti dX7_unlikeness_33 fl_X7_54 hc.1.1 ?_
    refine g_icmp_ge (tgt := 73) dX7_unlikeness_36 (by decide) (fun _ => ?_) (fun q => absurd (Int32.le_refl _) (by rw [hc.2.1] at q; exact q))
    refine g_iload_n dX7_unlikeness_73 rfl ?_
    refine g_iload_n dX7_unlikeness_74 rfl ?_
    refine g_isub dX7_unlikeness_75 ?_
    exact g_iret dX7_unlikeness_76 rfl ⟨_, rfl, kk⟩
  | succ z ih =>
    intro i hi
    have hb := hc.2.2
    have hi6 : vp_in (nI (i + 1)) 6 := vp_in_nI (by omega) (by omega)
    refine g_iload_n dX7_unlikeness_28 rfl ?_
    refine g_aload_n dX7_unlikeness_29 rfl ?_
    refine g_getr dX7_unlikeness_30 fl_X7_26 h.1 h.2.1 ?_
    refine g_geti dX7_unlikeness_33 fl_X7_54 hc.1.1 ?_
    refine g_icmp_ge (tgt := 73) dX7_unlikeness_36 (by decide) (fun zc36 => ?_) (fun zc36 => ?_)
    · refine g_iload_n dX7_unlikeness_73 rfl ?_
      refine g_iload_n dX7_unlikeness_74 rfl ?_
      refine g_isub dX7_unlikeness_75 ?_
      refine g_iret dX7_unlikeness_76 rfl ⟨_, rfl, ?_⟩
      exact absurd zc36 (by rw [hc.2.1]; exact nI_ge (by omega) (by omega))
    · refine g_iload_n dX7_unlikeness_39 rfl ?_
      refine g_bipush (v := 6) dX7_unlikeness_40 rfl ?_
      refine g_icmp_ge (tgt := 73) dX7_unlikeness_42 (by decide) (fun zc42 => ?_) (fun zc42 => ?_)
      · refine g_iload_n dX7_unlikeness_73 rfl ?_
        refine g_iload_n dX7_unlikeness_74 rfl ?_
        refine g_isub dX7_unlikeness_75 ?_
        refine g_iret dX7_unlikeness_76 rfl ⟨_, rfl, ?_⟩
        exact absurd zc42 (nI_ge (b := 6) (by omega) (by decide))
      · refine g_iload_n dX7_unlikeness_45 rfl ?_
        refine g_aload_n dX7_unlikeness_46 rfl ?_
        refine g_getr dX7_unlikeness_47 fl_X7_9 h.1 h.2.2.1.1 ?_
        refine g_iload_n dX7_unlikeness_50 rfl ?_
        refine g_iald dX7_unlikeness_51 h.2.2.1.2 hi6 ?_
        refine g_cS2i dX7_unlikeness_52 ml_X7_76 mi_J9_max_7cf53 ms_J9_max_7cf53 (Nat.le_of_ble_eq_true rfl) rfl (by omega) ?_
        refine c_J9_max_7cf53 (by omega) ?_
        refine g_istore_n dX7_unlikeness_55 (Nat.le_of_ble_eq_true rfl) rfl ?_
        refine g_iload_n dX7_unlikeness_56 rfl ?_
        refine g_aload_n dX7_unlikeness_57 rfl ?_
        refine g_getr dX7_unlikeness_58 fl_X7_9 h.1 h.2.2.1.1 ?_
        refine g_iload_n dX7_unlikeness_61 rfl ?_
        refine g_iald dX7_unlikeness_62 h.2.2.1.2 (by first | assumption | exact vp_in_iff.mpr (by decide)) ?_
        refine g_cS2i dX7_unlikeness_63 ml_X7_81 mi_J9_min_7cf53 ms_J9_min_7cf53 (Nat.le_of_ble_eq_true rfl) rfl (by omega) ?_
        refine c_J9_min_7cf53 (by omega) ?_
        refine g_istore_n dX7_unlikeness_66 (Nat.le_of_ble_eq_true rfl) rfl ?_
        refine g_iinc dX7_unlikeness_67 rfl rfl ?_
        refine g_goto (tgt := 28) dX7_unlikeness_70 (by decide) ?_
        rw [nI_n (by omega), nI_1']
        exact ih (i + 1) (by omega)
theorem c_X7_unlikeness {d : Nat} {w : gx_W} {n : Nat} {k : Int32 → gx_W → Prop} (hd : 1 ≤ d) (h : thO w) (hc : isCn w 43 44 n) (k0 : n = 0 → k 0 w) (kk : ∀ m, n = m + 1 → k (th_max (w_a w 40) m - th_min (w_a w 40) m) w) : gx_C 0 0 d mX7_unlikeness [.ref 39] w (Qi k) := by
  refine gx_C_of' (L := [.ref 39, .retAddr 0, .retAddr 0, .retAddr 0]) (by decide +kernel) rfl (Nat.le_of_ble_eq_true rfl) ?_
  refine g_aload_n dX7_unlikeness_0 rfl ?_
  refine g_getr dX7_unlikeness_1 fl_X7_26 h.1 h.2.1 ?_
  refine g_geti dX7_unlikeness_4 fl_X7_54 hc.1.1 ?_
  refine g_if_ne (tgt := 12) dX7_unlikeness_7 (by decide) (fun zc7 => ?_) (fun zc7 => ?_)
  · refine g_aload_n dX7_unlikeness_12 rfl ?_
    refine g_getr dX7_unlikeness_13 fl_X7_9 h.1 h.2.2.1.1 ?_
    refine g_iconst (v := 0) dX7_unlikeness_16 rfl ?_
    refine g_iald dX7_unlikeness_17 h.2.2.1.2 (by first | assumption | exact vp_in_iff.mpr (by decide)) ?_
    refine g_istore_n dX7_unlikeness_18 (Nat.le_of_ble_eq_true rfl) rfl ?_
    refine g_aload_n dX7_unlikeness_19 rfl ?_
    refine g_getr dX7_unlikeness_20 fl_X7_9 h.1 h.2.2.1.1 ?_
    refine g_iconst (v := 0) dX7_unlikeness_23 rfl ?_
    refine g_iald dX7_unlikeness_24 h.2.2.1.2 (by first | assumption | exact vp_in_iff.mpr (by decide)) ?_
    refine g_istore_n dX7_unlikeness_25 (Nat.le_of_ble_eq_true rfl) rfl ?_
    refine g_iconst (v := 1) dX7_unlikeness_26 rfl ?_
    refine g_istore_n dX7_unlikeness_27 (Nat.le_of_ble_eq_true rfl) rfl ?_
    have hb := hc.2.2
    have e0 : ¬ n = 0 := by
      intro q
      rw [q] at hc
      have c := zc7
      rw [hc.2.1] at c
      exact c rfl
    obtain ⟨m, rfl⟩ : ∃ m, n = m + 1 := ⟨n - 1, by omega⟩
    exact l_X7_unlikeness hd h hc (kk m rfl) m 0 (by omega)
  · refine g_iconst (v := 0) dX7_unlikeness_10 rfl ?_
    refine g_iret dX7_unlikeness_11 rfl ⟨_, rfl, ?_⟩
    have hb := hc.2.2
    have c : w_i w 43 1 = 0 := by
      first
        | exact zc7
        | (have q := zc7
           exact Classical.not_not.mp q)
    rw [hc.2.1] at c
    exact k0 (pI_inj (b := 0) (by omega) (by decide) c)

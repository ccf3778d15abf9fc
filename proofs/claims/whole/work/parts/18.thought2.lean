/-! Thought: begin, waitAs, unlikeness -/
/-- what begin leaves: the crossing in thought is as now, nobody had anybody -/
def thN (w w' : gx_W) (n l : Nat) : Prop := sam TR ((43, 1) :: TF) [(43, 2)] w w' ∧ w_i w' 43 1 = nI n ∧ w_r w' 43 2 = some l ∧ (∀ j, j < 28 → w_a w' 44 j = w_a w 38 j) ∧ (∀ j, j < 6 → w_a w' 40 j = 0) ∧ (∀ j, j < 6 → w_a w' 41 j = -2) ∧ (∀ j, j < 6 → w_a w' 42 j = w_a w 38 (18 + j)) ∧ w_i w' 39 4 = 0 ∧ w_i w' 39 5 = -2 ∧ w_i w' 39 6 = 0
theorem sam.rf {R : List Nat} {F E : List (Nat × Nat)} {w : gx_W} : sam R F E w w := ⟨rfl, fun _ _ _ => rfl, fun _ _ _ => rfl, fun _ _ => ⟨rfl, rfl⟩, rfl⟩
theorem sam.si {R : List Nat} {F E : List (Nat × Nat)} {w w' : gx_W} {k j : Nat} {v : Int32} (h : sam R F E w w') (hm : (k, j) ∈ F) : sam R F E w (s_i w' k j v) := by
  refine ⟨h.1, fun k' j' q => ?_, h.2.2.1, h.2.2.2.1, h.2.2.2.2⟩
  rw [wi_si, if_neg (fun z => q (by rw [z.1, z.2]; exact hm))]
  exact h.2.1 k' j' q
theorem sam.sa {R : List Nat} {F E : List (Nat × Nat)} {w w' : gx_W} {k : Nat} {f : Nat → Int32} (h : sam R F E w w') (hm : k ∈ R) : sam R F E w (s_a w' k f) := by
  refine ⟨h.1, h.2.1, h.2.2.1, fun k' q => ⟨?_, (h.2.2.2.1 k' q).2⟩, h.2.2.2.2⟩
  rw [wa_sa, if_neg (fun z => q (by rw [z]; exact hm))]
  exact (h.2.2.2.1 k' q).1
theorem wr_sr {w : gx_W} {k j : Nat} {v : Option Nat} (k' j' : Nat) : w_r (s_r w k j v) k' j' = if k' = k ∧ j' = j then v else w_r w k' j' := by
  show va_up w.2.2.1 k (va_up (w.2.2.1 k) j v) k' j' = _
  by_cases e : k' = k
  · subst e
    rw [va_up_at]
    by_cases e2 : j' = j
    · subst e2; rw [va_up_at, if_pos ⟨rfl, rfl⟩]
    · rw [va_up_row e2, if_neg (fun z => e2 z.2)]; rfl
  · rw [va_up_row e, if_neg (fun z => e z.1)]; rfl
theorem sam.sr {R : List Nat} {F E : List (Nat × Nat)} {w w' : gx_W} {k j : Nat} {v : Option Nat} (h : sam R F E w w') (hm : (k, j) ∈ E) : sam R F E w (s_r w' k j v) := by
  refine ⟨h.1, h.2.1, fun k' j' q => ?_, h.2.2.2.1, h.2.2.2.2⟩
  rw [wr_sr, if_neg (fun z => q (by rw [z.1, z.2]; exact hm))]
  exact h.2.2.1 k' j' q
theorem wa_sr {w : gx_W} {k j : Nat} {v : Option Nat} : w_a (s_r w k j v) = w_a w := rfl
theorem wi_sr {w : gx_W} {k j : Nat} {v : Option Nat} : w_i (s_r w k j v) = w_i w := rfl
theorem cpy_in {f g : Nat → Int32} {sp dp n j : Nat} (h1 : dp ≤ j) (h2 : j < dp + n) : va_cpy f g sp dp n j = f (sp + (j - dp)) := if_pos ⟨h1, h2⟩
set_option maxHeartbeats 8000000 in
theorem c_X7_begin {d : Nat} {w : gx_W} {n n0 l N : Nat} {k : gx_W → Prop} (hd : 2 ≤ d) (h : thO w) (h43 : isCn w 43 44 n0) (hn : isCk w 37 38 n l N) (kk : ∀ w', thN w w' n l → k w') : gx_C 0 0 d mX7_begin [.ref 39, .ref 37] w (Qv k) := by
  refine gx_C_of' (L := [.ref 39, .ref 37]) (by decide +kernel) rfl (Nat.le_of_ble_eq_true rfl) ?_
  refine g_aload_n dX7_begin_0 rfl ?_
  refine g_getr dX7_begin_1 fl_X7_26 h.1 h.2.1 ?_
  refine g_aload_n dX7_begin_4 rfl ?_
  refine g_cV1v dX7_begin_5 ml_X7_30 mi_X2_copy mv_X2_copy h43.1.1 ⟨_, rfl, rfl⟩ (Nat.le_of_ble_eq_true rfl) rfl (by omega) ?_
  refine c_X2_copy (by omega) h43 hn.1.1 hn.1.2.1 ?_
  refine g_aload_n dX7_begin_8 rfl ?_
  refine g_getr dX7_begin_9 fl_X7_9 h.1 h.2.2.1.1 ?_
  refine g_iconst (v := 0) dX7_begin_12 rfl ?_
  refine g_cS2v dX7_begin_13 ml_X7_34 mi_J7_fill_53178 ms_J7_fill_53178 (Nat.le_of_ble_eq_true rfl) rfl (by omega) ?_
  refine c_J7_fill_53178 (by omega) (N := 6) (by decide) h.2.2.1.2 ?_
  refine g_aload_n dX7_begin_16 rfl ?_
  refine g_getr dX7_begin_17 fl_X7_15 h.1 h.2.2.2.1.1 ?_
  refine g_bipush (v := -2) dX7_begin_20 rfl ?_
  refine g_cS2v dX7_begin_22 ml_X7_34 mi_J7_fill_53178 ms_J7_fill_53178 (Nat.le_of_ble_eq_true rfl) rfl (by omega) ?_
  refine c_J7_fill_53178 (by omega) (N := 6) (by decide) h.2.2.2.1.2 ?_
  have h33 : isCn (s_a (s_a (s_r (s_i (s_a w 44 (va_cpy (w_a w 38) (w_a w 44) 0 0 28)) 43 1 (nI n)) 43 2 (some l)) 40 (fun j => if j < 6 then 0 else w_a (s_r (s_i (s_a w 44 (va_cpy (w_a w 38) (w_a w 44) 0 0 28)) 43 1 (nI n)) 43 2 (some l)) 40 j)) 41 (fun j => if j < 6 then -2 else w_a (s_a (s_r (s_i (s_a w 44 (va_cpy (w_a w 38) (w_a w 44) 0 0 28)) 43 1 (nI n)) 43 2 (some l)) 40 (fun j => if j < 6 then 0 else w_a (s_r (s_i (s_a w 44 (va_cpy (w_a w 38) (w_a w 44) 0 0 28)) 43 1 (nI n)) 43 2 (some l)) 40 j)) 41 j)) 43 44 n := by
    refine ⟨⟨h43.1.1, ?_, h43.1.2.2⟩, ?_, hn.1.1.2.2⟩
    · simp only [wr_sa, wr_sr, wr_si]
      rw [if_neg (by decide)]
      exact h43.1.2.1
    · simp only [wi_sa, wi_sr, wi_si, and_self, if_true]
  refine g_aload_n dX7_begin_25 rfl ?_
  refine g_getr dX7_begin_26 fl_X7_26 h.1 h.2.1 ?_
  refine g_aload_n dX7_begin_29 rfl ?_
  refine g_getr dX7_begin_30 fl_X7_18 h.1 h.2.2.2.2.1 ?_
  refine g_cV1v dX7_begin_33 ml_X7_40 mi_X2_giveWaits mv_X2_giveWaits h43.1.1 ⟨_, rfl, rfl⟩ (Nat.le_of_ble_eq_true rfl) rfl (by omega) ?_
  refine c_X2_giveWaits (by omega) h33 h.2.2.2.2.2 ?_
  refine g_aload_n dX7_begin_36 rfl ?_
  refine g_iconst (v := 0) dX7_begin_37 rfl ?_
  refine g_puti dX7_begin_38 fl_X7_44 ft_7_4 h.1 ?_
  refine g_aload_n dX7_begin_41 rfl ?_
  refine g_bipush (v := -2) dX7_begin_42 rfl ?_
  refine g_puti dX7_begin_44 fl_X7_48 ft_7_5 h.1 ?_
  refine g_aload_n dX7_begin_47 rfl ?_
  refine g_iconst (v := 0) dX7_begin_48 rfl ?_
  refine g_puti dX7_begin_49 fl_X7_51 ft_7_6 h.1 ?_
  refine g_vret dX7_begin_52 rfl ⟨rfl, ?_⟩
  refine kk _ ⟨?_, ?_, ?_, ?_, ?_, ?_, ?_, ?_, ?_, ?_⟩
  · refine sam.si (sam.si (sam.si (sam.sa (sam.sa (sam.sa (sam.sr (sam.si (sam.sa sam.rf ?_) ?_) ?_) ?_) ?_) ?_) ?_) ?_) ?_ <;> simp
  · simp only [wi_si, wi_sa, wi_sr, and_self, if_true, if_false, Nat.reduceEqDiff, and_false, false_and]
  · simp only [wr_si, wr_sa, wr_sr, and_self, if_true]
  · intro j hj
    simp only [wa_si, wa_sa, wa_sr, if_true, if_false, Nat.reduceEqDiff]
    rw [cpy_in (Nat.zero_le _) (by omega)]
    simp
  · intro j hj
    simp only [wa_si, wa_sa, wa_sr, if_true, if_false, Nat.reduceEqDiff, hj]
  · intro j hj
    simp only [wa_si, wa_sa, wa_sr, if_true, if_false, Nat.reduceEqDiff, hj]
  · intro j hj
    simp only [wa_si, wa_sa, wa_sr, if_true, if_false, Nat.reduceEqDiff]
    rw [cpy_in (Nat.zero_le _) (by omega), cpy_in (Nat.zero_le _) (by omega)]
    simp
  · simp only [wi_si, and_self, if_true, if_false, Nat.reduceEqDiff, and_false, false_and, reduceCtorEq]
  · simp only [wi_si, and_self, if_true, if_false, Nat.reduceEqDiff, and_false, false_and, reduceCtorEq]
  · simp only [wi_si, and_self, if_true, if_false, Nat.reduceEqDiff, and_false, false_and, reduceCtorEq]

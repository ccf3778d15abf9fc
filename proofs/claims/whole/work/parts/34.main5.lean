/-! CrossroadsChoose: undo, redo, image, back -/
def imR (w w' : gx_W) (n : Nat) : Prop := same [15, 16] [(14, 2), (14, 3)] w w' ∧ w_i w' 14 2 = 1 ∧ w_i w' 14 3 = nI n ∧ (∀ j, j < 6 → w_a w' 15 j = w_a w 38 (18 + j)) ∧ ∀ j, j < 5 → w_a w' 16 j = w_a w 21 j
def bkR (w w' : gx_W) (m : Nat) : Prop := same [21, 38] [] w w' ∧ (∀ j, w_a w' 38 j = if 18 ≤ j ∧ j < 18 + m then w_a w 15 (j - 18) else w_a w 38 j) ∧ ∀ j, w_a w' 21 j = if j < 5 then w_a w 16 j else w_a w 21 j
theorem c_X9_undo {d : Nat} {w : gx_W} {n D : Nat} {k : Int32 → gx_W → Prop} (hd : 3 ≤ d) (h : clO w) (hg : chO w) (hc : isCn w 37 38 n) (hd4 : w_i w 9 4 = nI D) (hD : D ≤ 40) (hp : ∀ E, D = E + 1 → ∃ p, chOK n (w_a w 10 E) (w_a w 11 E) p) (k0 : D = 0 → k (-5) w) (kk : ∀ E p, D = E + 1 → chOK n (w_a w 10 E) (w_a w 11 E) p → k (nI E) (s_a (s_i w 9 4 (nI E)) 38 (va_up (w_a w 38) p (w_a w 12 E)))) : gx_C 0 0 d mX9_undo [.ref 6] w (Qi k) := by
  refine gx_C_of' (L := [.ref 6]) (by decide +kernel) rfl (Nat.le_of_ble_eq_true rfl) ?_
  refine g_aload_n dX9_undo_0 rfl ?_
  refine g_getr dX9_undo_1 fl_X9_19 h.1 h.2.1.2.2.2.1 ?_
  refine g_aload_n dX9_undo_4 rfl ?_
  refine g_getr dX9_undo_5 fl_X9_67 h.1 h.2.1.1 ?_
  refine g_cV1i dX9_undo_8 ml_X9_277 mi_X1_undone mv_X1_undone hg.1 ⟨_, rfl, rfl⟩ (Nat.le_of_ble_eq_true rfl) rfl (by omega) ?_
  refine c_X1_undone (p := 0) (by omega) hg hc hd4 hD (fun e => ?_) (fun E e => (hp E e).elim (fun p q => ⟨p, q, ?_⟩))
  · refine g_if_eq (tgt := 24) dX9_undo_11 (by decide) (fun _ => ?_) (fun q => absurd q (by decide))
    refine g_bipush (v := -5) dX9_undo_24 rfl ?_
    refine g_iret dX9_undo_26 rfl ⟨_, rfl, ?_⟩
    exact k0 e
  · refine g_if_eq (tgt := 24) dX9_undo_11 (by decide) (fun q => absurd q (by decide)) (fun _ => ?_)
    refine g_aload_n dX9_undo_14 rfl ?_
    refine g_getr dX9_undo_15 fl_X9_19 h.1 h.2.1.2.2.2.1 ?_
    refine g_geti dX9_undo_18 fl_X9_281 hg.1 ?_
    refine g_goto (tgt := 26) dX9_undo_21 (by decide) ?_
    refine g_iret dX9_undo_26 rfl ⟨_, rfl, ?_⟩
    rw [wi_sa, wi_si, if_pos ⟨rfl, rfl⟩]
    exact kk E p e q
theorem c_X9_redo {d : Nat} {w : gx_W} {n D E : Nat} {k : Int32 → gx_W → Prop} (hd : 3 ≤ d) (h : clO w) (hg : chO w) (hc : isCn w 37 38 n) (hd4 : w_i w 9 4 = nI D) (hd5 : w_i w 9 5 = nI E) (hD : D ≤ E) (hE : E ≤ 40) (hp : D < E → ∃ p, chOK n (w_a w 10 D) (w_a w 11 D) p) (k0 : D = E → k (-5) w) (kk : ∀ p, D < E → chOK n (w_a w 10 D) (w_a w 11 D) p → k (nI (E - (D + 1))) (s_i (s_a w 38 (va_up (w_a w 38) p (w_a w 13 D))) 9 4 (nI (D + 1)))) : gx_C 0 0 d mX9_redo [.ref 6] w (Qi k) := by
  refine gx_C_of' (L := [.ref 6]) (by decide +kernel) rfl (Nat.le_of_ble_eq_true rfl) ?_
  refine g_aload_n dX9_redo_0 rfl ?_
  refine g_getr dX9_redo_1 fl_X9_19 h.1 h.2.1.2.2.2.1 ?_
  refine g_aload_n dX9_redo_4 rfl ?_
  refine g_getr dX9_redo_5 fl_X9_67 h.1 h.2.1.1 ?_
  refine g_cV1i dX9_redo_8 ml_X9_284 mi_X1_doneAgain mv_X1_doneAgain hg.1 ⟨_, rfl, rfl⟩ (Nat.le_of_ble_eq_true rfl) rfl (by omega) ?_
  refine c_X1_doneAgain (by omega) hg hc hd4 hd5 hD hE (fun e => ?_) (fun e => (hp e).elim (fun p q => ⟨p, q, ?_⟩))
  · refine g_if_eq (tgt := 32) dX9_redo_11 (by decide) (fun _ => ?_) (fun q => absurd q (by decide))
    refine g_bipush (v := -5) dX9_redo_32 rfl ?_
    refine g_iret dX9_redo_34 rfl ⟨_, rfl, ?_⟩
    exact k0 e
  · refine g_if_eq (tgt := 32) dX9_redo_11 (by decide) (fun q => absurd q (by decide)) (fun _ => ?_)
    refine g_aload_n dX9_redo_14 rfl ?_
    refine g_getr dX9_redo_15 fl_X9_19 h.1 h.2.1.2.2.2.1 ?_
    refine g_geti dX9_redo_18 fl_X9_287 hg.1 ?_
    refine g_aload_n dX9_redo_21 rfl ?_
    refine g_getr dX9_redo_22 fl_X9_19 h.1 h.2.1.2.2.2.1 ?_
    refine g_geti dX9_redo_25 fl_X9_281 hg.1 ?_
    refine g_isub dX9_redo_28 ?_
    refine g_goto (tgt := 34) dX9_redo_29 (by decide) ?_
    refine g_iret dX9_redo_34 rfl ⟨_, rfl, ?_⟩
    rw [wi_si, if_neg (by decide), wi_si, if_pos ⟨rfl, rfl⟩, wi_sa, hd5, pk_sub (by omega)]
    exact kk p e q
theorem c_X9_image {d : Nat} {w : gx_W} {n : Nat} {k : Int32 → gx_W → Prop} (hd : 2 ≤ d) (h : clO w) (hc : isCn w 37 38 n) (kk : ∀ w', imR w w' n → k (w_a w 21 0) w') : gx_C 0 0 d mX9_image [.ref 6] w (Qi k) := by
  refine gx_C_of' (L := [.ref 6]) (by decide +kernel) rfl (Nat.le_of_ble_eq_true rfl) ?_
  refine g_aload_n dX9_image_0 rfl ?_
  refine g_getr dX9_image_1 fl_X9_26 h.1 h.2.1.2.2.2.2.1 ?_
  refine g_iconst (v := 1) dX9_image_4 rfl ?_
  refine g_putz dX9_image_5 fl_X9_262 ft_3_2 (by decide) h.2.2.2.2.2.2.1 ?_
  refine g_aload_n dX9_image_8 rfl ?_
  refine g_getr dX9_image_9 fl_X9_26 h.1 h.2.1.2.2.2.2.1 ?_
  refine g_aload_n dX9_image_12 rfl ?_
  refine g_getr dX9_image_13 fl_X9_67 h.1 h.2.1.1 ?_
  refine g_geti dX9_image_16 fl_X9_196 hc.1.1 ?_
  have e16 : w_i (s_i w 14 2 1) 37 1 = nI n := hc.2.1
  rw [e16]
  refine g_puti dX9_image_19 fl_X9_266 ft_3_3 h.2.2.2.2.2.2.1 ?_
  have hs : same [] [(14, 2), (14, 3)] w (s_i (s_i w 14 2 1) 14 3 (nI n)) := same.si (same.si same.rf (by simp)) (by simp)
  refine g_aload_n dX9_image_22 rfl ?_
  refine g_getr dX9_image_23 fl_X9_67 h.1 h.2.1.1 ?_
  refine g_aload_n dX9_image_26 rfl ?_
  refine g_getr dX9_image_27 fl_X9_26 h.1 h.2.1.2.2.2.2.1 ?_
  refine g_getr dX9_image_30 fl_X9_267 h.2.2.2.2.2.2.1 h.2.2.2.2.2.2.2.1.1 ?_
  refine g_cV1v dX9_image_33 ml_X9_192 mi_X2_giveWaits mv_X2_giveWaits hc.1.1 ⟨_, rfl, rfl⟩ (Nat.le_of_ble_eq_true rfl) rfl (by omega) ?_
  refine c_X2_giveWaits (by omega) (hc.same hs (by simp)) h.2.2.2.2.2.2.2.1.2 ?_
  refine g_aload_n dX9_image_36 rfl ?_
  refine g_getr dX9_image_37 fl_X9_43 h.1 h.2.2.2.1.1 ?_
  refine g_iconst (v := 0) dX9_image_40 rfl ?_
  refine g_aload_n dX9_image_41 rfl ?_
  refine g_getr dX9_image_42 fl_X9_26 h.1 h.2.1.2.2.2.2.1 ?_
  refine g_getr dX9_image_45 fl_X9_270 h.2.2.2.2.2.2.1 h.2.2.2.2.2.2.2.2.1 ?_
  refine g_iconst (v := 0) dX9_image_48 rfl ?_
  refine g_iconst (v := 5) dX9_image_49 rfl ?_
  refine g_copyi dX9_image_50 cp_X9_271 h.2.2.2.1.2 h.2.2.2.2.2.2.2.2.2 (by decide) (by decide) (by decide) (by decide) (by decide) (Nat.le_of_ble_eq_true rfl) rfl (by omega) ?_
  refine g_aload_n dX9_image_53 rfl ?_
  refine g_getr dX9_image_54 fl_X9_43 h.1 h.2.2.2.1.1 ?_
  refine g_iconst (v := 0) dX9_image_57 rfl ?_
  refine g_iald dX9_image_58 h.2.2.2.1.2 (by first | assumption | exact vp_in_iff.mpr (by decide)) ?_
  refine g_iret dX9_image_59 rfl ⟨_, rfl, ?_⟩
  refine kk _ ⟨same.sa (same.sa (same.si (same.si same.rf (by simp)) (by simp)) (by simp)) (by simp), ?_, ?_, fun j hj => ?_, fun j hj => ?_⟩
  · rw [wi_sa, wi_sa, wi_si, if_neg (by decide), wi_si, if_pos ⟨rfl, rfl⟩]
  · rw [wi_sa, wi_sa, wi_si, if_pos ⟨rfl, rfl⟩]
  · rw [wa_sa, if_neg (by decide), wa_sa, if_pos rfl, cpy_in (by omega) (by omega)]; rfl
  · rw [wa_sa, if_pos rfl]
    show va_cpy (w_a w 21) _ 0 0 5 j = _
    rw [cpy_in (Nat.zero_le _) (by omega), Nat.sub_zero, Nat.zero_add]
theorem c_X9_back {d : Nat} {w : gx_W} {n m : Nat} {k : Int32 → gx_W → Prop} (hd : 2 ≤ d) (h : clO w) (hc : isCn w 37 38 n) (hm : w_i w 14 3 = nI m) (hm6 : m ≤ 6) (k0 : w_i w 14 2 = 0 → k (-5) w) (kk : ¬ w_i w 14 2 = 0 → ∀ w', bkR w w' m → k (w_a w 16 0) w') : gx_C 0 0 d mX9_back [.ref 6] w (Qi k) := by
  refine gx_C_of' (L := [.ref 6]) (by decide +kernel) rfl (Nat.le_of_ble_eq_true rfl) ?_
  refine g_aload_n dX9_back_0 rfl ?_
  refine g_getr dX9_back_1 fl_X9_26 h.1 h.2.1.2.2.2.2.1 ?_
  refine g_geti dX9_back_4 fl_X9_262 h.2.2.2.2.2.2.1 ?_
  refine g_if_ne (tgt := 13) dX9_back_7 (by decide) (fun zc7 => ?_) (fun zc7 => ?_)
  · refine g_aload_n dX9_back_13 rfl ?_
    refine g_getr dX9_back_14 fl_X9_67 h.1 h.2.1.1 ?_
    refine g_aload_n dX9_back_17 rfl ?_
    refine g_getr dX9_back_18 fl_X9_26 h.1 h.2.1.2.2.2.2.1 ?_
    refine g_getr dX9_back_21 fl_X9_267 h.2.2.2.2.2.2.1 h.2.2.2.2.2.2.2.1.1 ?_
    refine g_aload_n dX9_back_24 rfl ?_
    refine g_getr dX9_back_25 fl_X9_26 h.1 h.2.1.2.2.2.2.1 ?_
    refine g_geti dX9_back_28 fl_X9_266 h.2.2.2.2.2.2.1 ?_
    rw [hm]
    refine g_cV2v dX9_back_31 ml_X9_203 mi_X2_takeWaits mv_X2_takeWaits hc.1.1 ⟨_, rfl, rfl⟩ (Nat.le_of_ble_eq_true rfl) rfl (by omega) ?_
    refine c_X2_takeWaits (by omega) hc h.2.2.2.2.2.2.2.1.2 hm6 ?_
    refine g_aload_n dX9_back_34 rfl ?_
    refine g_getr dX9_back_35 fl_X9_26 h.1 h.2.1.2.2.2.2.1 ?_
    refine g_getr dX9_back_38 fl_X9_270 h.2.2.2.2.2.2.1 h.2.2.2.2.2.2.2.2.1 ?_
    refine g_iconst (v := 0) dX9_back_41 rfl ?_
    refine g_aload_n dX9_back_42 rfl ?_
    refine g_getr dX9_back_43 fl_X9_43 h.1 h.2.2.2.1.1 ?_
    refine g_iconst (v := 0) dX9_back_46 rfl ?_
    refine g_iconst (v := 5) dX9_back_47 rfl ?_
    refine g_copyi dX9_back_48 cp_X9_271 h.2.2.2.2.2.2.2.2.2 h.2.2.2.1.2 (by decide) (by decide) (by decide) (by decide) (by decide) (Nat.le_of_ble_eq_true rfl) rfl (by omega) ?_
    refine g_aload_n dX9_back_51 rfl ?_
    refine g_getr dX9_back_52 fl_X9_43 h.1 h.2.2.2.1.1 ?_
    refine g_iconst (v := 0) dX9_back_55 rfl ?_
    refine g_iald dX9_back_56 h.2.2.2.1.2 (by first | assumption | exact vp_in_iff.mpr (by decide)) ?_
    refine g_iret dX9_back_57 rfl ⟨_, rfl, ?_⟩
    have e : w_a (s_a (s_a w 38 (va_cpy (w_a w 15) (w_a w 38) 0 18 m)) 21 (va_cpy (w_a w 16) (w_a w 21) 0 0 5)) 21 0 = w_a w 16 0 := by
      rw [wa_sa, if_pos rfl, cpy_in (Nat.zero_le _) (by decide)]
    refine e ▸ kk zc7 _ ⟨same.sa (same.sa same.rf (by simp)) (by simp), fun j => ?_, fun j => ?_⟩
    · rw [wa_sa, if_neg (by decide), wa_sa, if_pos rfl]
      unfold va_cpy
      split
      · rw [Nat.zero_add]
      · rfl
    · rw [wa_sa, if_pos rfl]
      show va_cpy (w_a w 16) (w_a w 21) 0 0 5 j = _
      unfold va_cpy
      by_cases q : j < 5
      · rw [if_pos ⟨Nat.zero_le _, by omega⟩, if_pos q, Nat.zero_add, Nat.sub_zero]
      · rw [if_neg (by omega), if_neg q]
  · refine g_bipush (v := -5) dX9_back_10 rfl ?_
    refine g_iret dX9_back_12 rfl ⟨_, rfl, ?_⟩
    exact k0 (by first | exact zc7 | exact Classical.not_not.mp zc7)

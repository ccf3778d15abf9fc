/-! CrossroadsChoose: thinkDay -/
theorem sh_com_all' (C : Nat → Bool) : ∀ b j, j < sh_com C b → C j = true := by
  intro b
  induction b with
  | zero => intro j h; exact absurd h (Nat.not_lt_zero _)
  | succ b ih =>
    intro j h
    unfold sh_com at h
    split at h
    · rename_i q
      rcases Nat.lt_or_ge j b with z | z
      · exact ih j (by rw [q.1]; exact z)
      · rw [show j = b by omega]; exact q.2
    · exact ih j h
theorem isSn.th {w w' : gx_W} {i ln : Nat} (h : isSn w (45 + 2 * i) (46 + 2 * i) ln) (hs : sam TR TG [(43, 2)] w w') : isSn w' (45 + 2 * i) (46 + 2 * i) ln := by
  obtain ⟨⟨h1, h2, h3⟩, h4, h5⟩ := h
  refine ⟨⟨by rw [hs.1]; exact h1, (hs.2.2.1 _ 0 (by simp)).trans h2, by rw [hs.1]; exact h3⟩, (hs.2.1 _ 4 (by simp; omega)).trans h4, h5⟩
theorem wl_th {w w' : gx_W} {i : Nat} (hs : sam TR TG [(43, 2)] w w') : w_l w' (46 + 2 * i) = w_l w (46 + 2 * i) := (hs.2.2.2.1 (46 + 2 * i) (by simp; omega)).2
theorem isCo_val {x : Int32} (h : isCo x = true) : x = nI x.toNatClampNeg ∧ x.toNatClampNeg < 100 := by
  obtain ⟨c, hc, e⟩ := isCo_ex h
  rw [e, nI_n (by omega)]
  exact ⟨rfl, hc⟩
set_option maxHeartbeats 4000000 in
theorem l_X9_thinkDay {d n l N i ln M : Nat} {w : gx_W} {x2 : Int32} {k : gx_W → Prop} (hd : 7 ≤ d) (hT : isT w) (h : clO w) (hi6 : i < 6) (hsn : isSn w (45 + 2 * i) (46 + 2 * i) ln) (hM : M ≤ ln) (hco : ∀ j, j < M → isCo (w_l w (46 + 2 * i) j).toInt32 = true) (kk : ∀ w', thJ w w' n l N (th_day N (w_a w (l + 1)) (w_a w (l + 2)) n (fun j => (w_l w (46 + 2 * i) j).toInt32.toNatClampNeg) M (th_0 w)) → k w') : ∀ (z j : Nat) (w1 : gx_W), j + z = M → thJ w w1 n l N (th_day N (w_a w (l + 1)) (w_a w (l + 2)) n (fun j => (w_l w (46 + 2 * i) j).toInt32.toNatClampNeg) j (th_0 w)) → gx_G 0 0 d mX9_thinkDay (Qv k) 25 [.ref 6, .ref (45 + 2 * i), .int x2, .int (nI M), .int (nI j)] [] w1 := by
  intro z
  have hln := hsn.2.2
  induction z with
  | zero =>
    intro j w1 hj hI
    have e : j = M := by omega
    subst e
    refine g_iload dX9_thinkDay_25 rfl ?_
    refine g_iload_n dX9_thinkDay_27 rfl ?_
    refine g_icmp_ge (tgt := 51) dX9_thinkDay_28 (by decide) (fun zc28 => ?_) (fun zc28 => ?_)
    · refine g_vret dX9_thinkDay_51 rfl ⟨rfl, ?_⟩
      exact kk w1 hI
    · exact absurd (Int32.le_refl _) zc28
  | succ z ih =>
    intro j w1 hj hI
    refine g_iload dX9_thinkDay_25 rfl ?_
    refine g_iload_n dX9_thinkDay_27 rfl ?_
    refine g_icmp_ge (tgt := 51) dX9_thinkDay_28 (by decide) (fun zc28 => ?_) (fun zc28 => ?_)
    · exact absurd zc28 (nI_ge (by omega) (by omega))
    · refine g_aload_n dX9_thinkDay_31 rfl ?_
      refine g_getr dX9_thinkDay_32 fl_X9_74 (clO_th h hI.1).1 (clO_th h hI.1).2.1.2.1 ?_
      refine g_aload_n dX9_thinkDay_35 rfl ?_
      refine g_iload dX9_thinkDay_36 rfl ?_
      refine g_cV1i dX9_thinkDay_38 ml_X9_108 mi_X5_small mv_X5_small (hsn.th hI.1).1.1 ⟨_, rfl, rfl⟩ (Nat.le_of_ble_eq_true rfl) rfl (by omega) ?_
      refine c_X5_small (by omega) (hsn.th hI.1) (fun x ex hx => ?_) (fun nx => ?_)
      · have ej : j = x := pI_inj (by omega) (by omega) ex
        subst ej
        obtain ⟨hc1, hc2⟩ := isCo_val (hco j (by omega))
        rw [wl_th hI.1, hc1]
        refine g_cV1i dX9_thinkDay_41 ml_X9_207 mi_X7_meet mv_X7_meet hI.2.1.1 ⟨_, rfl, rfl⟩ (Nat.le_of_ble_eq_true rfl) rfl (by omega) ?_
        refine c_meetS (by omega) hT hI hc2 (fun w2 I2 => ?_)
        refine g_pop dX9_thinkDay_44 rfl ?_
        refine g_iinc dX9_thinkDay_45 rfl rfl ?_
        refine g_goto (tgt := 25) dX9_thinkDay_48 (by decide) ?_
        rw [nI_1']
        exact ih (j + 1) w2 (by omega) I2
      · exact absurd (show j < ln by omega) (nx j (by omega) rfl)
theorem c_X9_thinkDay {d : Nat} {w : gx_W} {n l N i m ln : Nat} {k : gx_W → Prop} (hd : 7 ≤ d) (hT : isT w) (h : clO w) (hc : isCk w 37 38 n l N) (ho : thO w) (h43 : isCr w 43 44) (hi6 : i < 6) (hsn : isSn w (45 + 2 * i) (46 + 2 * i) ln) (hm : m ≤ 60) (kk : ∀ w', thJ w w' n l N (th_day N (w_a w (l + 1)) (w_a w (l + 2)) n (fun j => (w_l w (46 + 2 * i) j).toInt32.toNatClampNeg) (sh_com (fun j => isCo (w_l w (46 + 2 * i) j).toInt32) (min m ln)) (th_0 w)) → k w') : gx_C 0 0 d mX9_thinkDay [.ref 6, .ref (45 + 2 * i), .int (nI m)] w (Qv k) := by
  refine gx_C_of' (L := [.ref 6, .ref (45 + 2 * i), .int (nI m), .retAddr 0, .retAddr 0]) (by decide +kernel) rfl (Nat.le_of_ble_eq_true rfl) ?_
  refine g_aload_n dX9_thinkDay_0 rfl ?_
  refine g_getr dX9_thinkDay_1 fl_X9_74 h.1 h.2.1.2.1 ?_
  refine g_aload_n dX9_thinkDay_4 rfl ?_
  refine g_getr dX9_thinkDay_5 fl_X9_67 h.1 h.2.1.1 ?_
  refine g_cV1v dX9_thinkDay_8 ml_X9_184 mi_X7_begin mv_X7_begin ho.1 ⟨_, rfl, rfl⟩ (Nat.le_of_ble_eq_true rfl) rfl (by omega) ?_
  refine c_beginS (by omega) ho h43 hc (fun w1 I1 => ?_)
  refine g_aload_n dX9_thinkDay_11 rfl ?_
  refine g_ifnonnull (tgt := 16) dX9_thinkDay_12 (by decide) ?_
  refine g_aload_n dX9_thinkDay_16 rfl ?_
  refine g_iload_n dX9_thinkDay_17 rfl ?_
  refine g_cV1i dX9_thinkDay_18 ml_X9_222 mi_X5_comers mv_X5_comers (hsn.th I1.1).1.1 ⟨_, rfl, rfl⟩ (Nat.le_of_ble_eq_true rfl) rfl (by omega) ?_
  refine c_X5_comers (by omega) (hsn.th I1.1) hm ?_
  rw [wl_th I1.1]
  refine g_istore_n dX9_thinkDay_21 (Nat.le_of_ble_eq_true rfl) rfl ?_
  refine g_iconst (v := 0) dX9_thinkDay_22 rfl ?_
  refine g_istore dX9_thinkDay_23 (Nat.le_of_ble_eq_true rfl) rfl ?_
  exact l_X9_thinkDay (by omega) hT h hi6 hsn (Nat.le_trans (sh_com_le _ _) (Nat.min_le_right _ _)) (fun j hj => sh_com_all' _ _ j hj) kk _ 0 w1 (Nat.zero_add _) I1

/-! CrossroadsChoose: firstWrong -/
theorem isCn.th2 {w w' : gx_W} {n : Nat} (h : isCn w 37 38 n) (hs : sam TR TG [(43, 2)] w w') : isCn w' 37 38 n := ⟨⟨by rw [hs.1]; exact h.1.1, (hs.2.2.1 37 0 (by simp)).trans h.1.2.1, by rw [hs.1]; exact h.1.2.2⟩, (hs.2.1 37 1 (by simp)).trans h.2.1, h.2.2⟩
theorem nI_half {a : Nat} (h : a < 2 ^ 30) : (nI a + 1) / 2 = nI ((a + 1) / 2) := by
  rw [nI_1, show (2 : Int32) = nI 2 from rfl, pk_div (by omega) (by decide) (by decide)]
theorem nI_2x (a : Nat) : (2 : Int32) * nI a = nI (2 * a) := pk_mul 2 a
theorem pI_road {x : Int32} {n : Nat} (hn : n ≤ 6) : (0 ≤ x ∧ x < nI n) ↔ ∃ m, m < n ∧ x = nI m := by
  constructor
  · rintro ⟨h0, h1⟩
    exact pI_cases (by omega) (by rw [pI_le] at h0; rw [pI_lt]; simpa using h0) h1
  · rintro ⟨m, hm, rfl⟩
    exact ⟨nI_pos' (by omega), nI_lt hm (by omega)⟩
theorem me_ok_iff {N : Nat} {sg va : Nat → Int32} {n : Nat} {C : Nat → Int32} {ln two : Nat} {f : Nat → Int32} (hn : n ≤ 6) : me_ok N sg va n C ln two f = true ↔ (2 * two + 2 ≤ ln ∧ isCo (C (2 * two)) = true ∧ (∃ m, m < n ∧ C (2 * two + 1) = nI m) ∧ cr_has N sg va f n (C (2 * two)).toNatClampNeg = C (2 * two + 1)) := by
  unfold me_ok
  rw [Bool.and_eq_true, Bool.and_eq_true, Bool.and_eq_true, decide_eq_true_iff, decide_eq_true_iff, decide_eq_true_iff, pI_road hn]
  exact ⟨fun q => ⟨q.1.1.1, q.1.1.2, q.1.2, q.2⟩, fun q => ⟨⟨⟨q.1, q.2.1⟩, q.2.2.1⟩, q.2.2.2⟩⟩
theorem me_fw_stop {N : Nat} {sg va : Nat → Int32} {n : Nat} {C : Nat → Int32} {ln two z : Nat} {f : Nat → Int32} (hn : n ≤ 6) (q : ¬ (2 * two + 2 ≤ ln ∧ isCo (C (2 * two)) = true ∧ (∃ m, m < n ∧ C (2 * two + 1) = nI m) ∧ cr_has N sg va f n (C (2 * two)).toNatClampNeg = C (2 * two + 1))) : me_fw N sg va n C ln (z + 1) two f = nI two := if_neg (fun y => q ((me_ok_iff hn).mp y))
theorem me_fw_go {N : Nat} {sg va : Nat → Int32} {n : Nat} {C : Nat → Int32} {ln two z : Nat} {f : Nat → Int32} (hn : n ≤ 6) (q : 2 * two + 2 ≤ ln ∧ isCo (C (2 * two)) = true ∧ (∃ m, m < n ∧ C (2 * two + 1) = nI m) ∧ cr_has N sg va f n (C (2 * two)).toNatClampNeg = C (2 * two + 1)) : me_fw N sg va n C ln (z + 1) two f = me_fw N sg va n C ln z (two + 1) (me_nx N sg va f n (C (2 * two)).toNatClampNeg) := if_pos ((me_ok_iff hn).mpr q)
set_option maxHeartbeats 4000000 in
theorem l_X9_firstWrong {d n l N i ln : Nat} {w : gx_W} {k : Int32 → gx_W → Prop} (hd : 7 ≤ d) (hT : isT w) (h : clO w) (hc : isCk w 37 38 n l N) (hi6 : i < 6) (hsn : isSn w (45 + 2 * i) (46 + 2 * i) ln) : ∀ (z two : Nat) (f : Nat → Int32) (x3 x4 : Value) (w1 : gx_W), x3.category = 1 → two + z = (ln + 1) / 2 → thF w w1 n l N f → (∀ w' f', thF w w' n l N f' → k (me_fw N (w_a w (l + 1)) (w_a w (l + 2)) n (fun j => (w_l w (46 + 2 * i) j).toInt32) ln z two f) w') → gx_G 0 0 d mX9_firstWrong (Qi k) 9 [.ref 6, .ref (45 + 2 * i), .int (nI two), x3, x4] [] w1 := by
  intro z
  have hln := hsn.2.2
  have hn := hc.1.1.2.2
  induction z with
  | zero =>
    intro two f x3 x4 w1 hx3 hj hI kk
    have e : two = (ln + 1) / 2 := by omega
    have e4 : w_i w1 (45 + 2 * i) 4 = nI ln := (hsn.th hI.1).2.1
    subst e
    refine g_iload_n dX9_firstWrong_9 rfl ?_
    refine g_aload_n dX9_firstWrong_10 rfl ?_
    refine g_geti dX9_firstWrong_11 fl_X9_246 (hsn.th hI.1).1.1 ?_
    refine g_iconst (v := 1) dX9_firstWrong_14 rfl ?_
    refine g_iadd dX9_firstWrong_15 ?_
    refine g_iconst (v := 2) dX9_firstWrong_16 rfl ?_
    refine g_idiv dX9_firstWrong_17 (by first | assumption | decide) ?_
    rw [e4, nI_half (by omega)]
    refine g_icmp_ge (tgt := 93) dX9_firstWrong_18 (by decide) (fun zc18 => ?_) (fun zc18 => ?_)
    · refine g_bipush (v := -2) dX9_firstWrong_93 rfl ?_
      refine g_iret dX9_firstWrong_95 rfl ⟨_, rfl, ?_⟩
      exact kk w1 _ hI
    · exact absurd (Int32.le_refl _) zc18
  | succ z ih =>
    intro two f x3 x4 w1 hx3 hj hI kk
    have e4 : w_i w1 (45 + 2 * i) 4 = nI ln := (hsn.th hI.1).2.1
    have ec : isCn w1 37 38 n := hc.1.1.th2 hI.1
    have hl2 := wl_th (i := i) hI.1
    refine g_iload_n dX9_firstWrong_9 rfl ?_
    refine g_aload_n dX9_firstWrong_10 rfl ?_
    refine g_geti dX9_firstWrong_11 fl_X9_246 (hsn.th hI.1).1.1 ?_
    refine g_iconst (v := 1) dX9_firstWrong_14 rfl ?_
    refine g_iadd dX9_firstWrong_15 ?_
    refine g_iconst (v := 2) dX9_firstWrong_16 rfl ?_
    refine g_idiv dX9_firstWrong_17 (by first | assumption | decide) ?_
    rw [e4, nI_half (by omega)]
    refine g_icmp_ge (tgt := 93) dX9_firstWrong_18 (by decide) (fun zc18 => ?_) (fun zc18 => ?_)
    · refine g_bipush (v := -2) dX9_firstWrong_93 rfl ?_
      refine g_iret dX9_firstWrong_95 rfl ⟨_, rfl, ?_⟩
      exact absurd zc18 (nI_ge (by omega) (by omega))
    · refine g_aload_n dX9_firstWrong_21 rfl ?_
      refine g_iconst (v := 2) dX9_firstWrong_22 rfl ?_
      refine g_iload_n dX9_firstWrong_23 rfl ?_
      refine g_imul dX9_firstWrong_24 ?_
      rw [nI_2x]
      refine g_cV1i dX9_firstWrong_25 ml_X9_108 mi_X5_small mv_X5_small (hsn.th hI.1).1.1 ⟨_, rfl, rfl⟩ (Nat.le_of_ble_eq_true rfl) rfl (by omega) ?_
      refine c_X5_small (by omega) (hsn.th hI.1) (fun xv ex hx => ?_) (fun nx => ?_)
      · have exr : xv = 2 * two := (pI_inj (by omega) (by omega) ex).symm
        subst exr
        rw [hl2]
        refine g_istore_n dX9_firstWrong_28 (Nat.le_of_ble_eq_true rfl) rfl ?_
        refine g_aload_n dX9_firstWrong_29 rfl ?_
        refine g_iconst (v := 2) dX9_firstWrong_30 rfl ?_
        refine g_iload_n dX9_firstWrong_31 rfl ?_
        refine g_imul dX9_firstWrong_32 ?_
        refine g_iconst (v := 2) dX9_firstWrong_33 rfl ?_
        rw [nI_2x]
        refine g_cV2i dX9_firstWrong_34 ml_X9_105 mi_X5_hasRoom mv_X5_hasRoom (hsn.th hI.1).1.1 ⟨_, rfl, rfl⟩ (Nat.le_of_ble_eq_true rfl) rfl (by omega) ?_
        refine c_X5_hasRoomN (m := 2) (hsn.th hI.1) (by decide) rfl (fun x2 ex2 hx2 => ?_) (fun nr => ?_)
        · refine g_if_eq (tgt := 47) dX9_firstWrong_37 (by decide) (fun q => absurd q (by decide)) (fun _ => ?_)
          refine g_iload_n dX9_firstWrong_40 rfl ?_
          refine g_cS1i dX9_firstWrong_41 ml_X9_145 mi_X9_isComer ms_X9_isComer (Nat.le_of_ble_eq_true rfl) rfl (by omega) ?_
          refine c_X9_isComer (by omega) (fun hco => ?_) (fun nco => ?_)
          · refine g_if_ne (tgt := 49) dX9_firstWrong_44 (by decide) (fun _ => ?_) (fun q => absurd q (by decide))
            refine g_aload_n dX9_firstWrong_49 rfl ?_
            refine g_iconst (v := 2) dX9_firstWrong_50 rfl ?_
            refine g_iload_n dX9_firstWrong_51 rfl ?_
            refine g_imul dX9_firstWrong_52 ?_
            refine g_iconst (v := 1) dX9_firstWrong_53 rfl ?_
            refine g_iadd dX9_firstWrong_54 ?_
            rw [nI_2x, nI_1]
            refine g_cV1i dX9_firstWrong_55 ml_X9_108 mi_X5_small mv_X5_small (hsn.th hI.1).1.1 ⟨_, rfl, rfl⟩ (Nat.le_of_ble_eq_true rfl) rfl (by omega) ?_
            refine c_X5_small (by omega) (hsn.th hI.1) (fun x5 ex5 hx5 => ?_) (fun nx5 => ?_)
            · have ex5r : x5 = 2 * two + 1 := (pI_inj (by omega) (by omega) ex5).symm
              subst ex5r
              have ex2r : x2 = 2 * two := (pI_inj (by omega) (by omega) ex2).symm
              subst ex2r
              rw [hl2]
              refine g_istore dX9_firstWrong_58 (Nat.le_of_ble_eq_true rfl) rfl ?_
              refine g_aload_n dX9_firstWrong_60 rfl ?_
              refine g_getr dX9_firstWrong_61 fl_X9_67 (clO_th h hI.1).1 (clO_th h hI.1).2.1.1 ?_
              refine g_iload dX9_firstWrong_64 rfl ?_
              refine g_cV1i dX9_firstWrong_66 ml_X9_141 mi_X2_isRoad mv_X2_isRoad ec.1.1 ⟨_, rfl, rfl⟩ (Nat.le_of_ble_eq_true rfl) rfl (by omega) ?_
              refine c_X2_isRoad (by omega) ec (fun m em hm => ?_) (fun nrd => ?_)
              · refine g_if_eq (tgt := 85) dX9_firstWrong_69 (by decide) (fun q => absurd q (by decide)) (fun _ => ?_)
                refine g_aload_n dX9_firstWrong_72 rfl ?_
                refine g_getr dX9_firstWrong_73 fl_X9_74 (clO_th h hI.1).1 (clO_th h hI.1).2.1.2.1 ?_
                refine g_iload_n dX9_firstWrong_76 rfl ?_
                obtain ⟨hc1, hc2⟩ := me_nc (C := (fun j => (w_l w (46 + 2 * i) j).toInt32)) hco
                rw [show (w_l w (46 + 2 * i) (2 * two)).toInt32 = nI (w_l w (46 + 2 * i) (2 * two)).toInt32.toNatClampNeg from hc1]
                refine g_cV1i dX9_firstWrong_77 ml_X9_207 mi_X7_meet mv_X7_meet hI.2.1.1 ⟨_, rfl, rfl⟩ (Nat.le_of_ble_eq_true rfl) rfl (by omega) ?_
                refine c_meetF (by omega) hT hI hc2 (fun w2 hI2 => ?_)
                refine g_iload dX9_firstWrong_80 rfl ?_
                refine g_icmp_eq (tgt := 87) dX9_firstWrong_82 (by decide) (fun zc82 => ?_) (fun zc82 => ?_)
                · refine g_iinc dX9_firstWrong_87 rfl rfl ?_
                  refine g_goto (tgt := 9) dX9_firstWrong_90 (by decide) ?_
                  rw [me_fw_go hn (C := (fun j => (w_l w (46 + 2 * i) j).toInt32)) ⟨hx2, hco, ⟨m, hm, em⟩, zc82⟩] at kk
                  rw [nI_1']
                  exact ih (two + 1) _ _ _ w2 rfl (by omega) hI2 kk
                · refine g_iload_n dX9_firstWrong_85 rfl ?_
                  refine g_iret dX9_firstWrong_86 rfl ⟨_, rfl, ?_⟩
                  rw [me_fw_stop hn (C := (fun j => (w_l w (46 + 2 * i) j).toInt32)) (fun q => zc82 q.2.2.2)] at kk
                  exact kk _ _ hI2
              · refine g_if_eq (tgt := 85) dX9_firstWrong_69 (by decide) (fun _ => ?_) (fun q => absurd q (by decide))
                refine g_iload_n dX9_firstWrong_85 rfl ?_
                refine g_iret dX9_firstWrong_86 rfl ⟨_, rfl, ?_⟩
                rw [me_fw_stop hn (C := (fun j => (w_l w (46 + 2 * i) j).toInt32)) (fun q => by obtain ⟨m, hm, e⟩ := q.2.2.1; exact nrd m hm e)] at kk
                exact kk _ _ hI
            · exact absurd (show 2 * two + 1 < ln by have z2 : x2 = 2 * two := (pI_inj (by omega) (by omega) ex2).symm; omega) (nx5 (2 * two + 1) (by omega) rfl)
          · refine g_if_ne (tgt := 49) dX9_firstWrong_44 (by decide) (fun q => absurd q (by decide)) (fun _ => ?_)
            refine g_iload_n dX9_firstWrong_47 rfl ?_
            refine g_iret dX9_firstWrong_48 rfl ⟨_, rfl, ?_⟩
            rw [me_fw_stop hn (C := (fun j => (w_l w (46 + 2 * i) j).toInt32)) (fun q => nco q.2.1)] at kk
            exact kk _ _ hI
        · refine g_if_eq (tgt := 47) dX9_firstWrong_37 (by decide) (fun _ => ?_) (fun q => absurd q (by decide))
          refine g_iload_n dX9_firstWrong_47 rfl ?_
          refine g_iret dX9_firstWrong_48 rfl ⟨_, rfl, ?_⟩
          rw [me_fw_stop hn (C := (fun j => (w_l w (46 + 2 * i) j).toInt32)) (fun q => nr (2 * two) (by omega) rfl q.1)] at kk
          exact kk _ _ hI
      · exact absurd (show 2 * two < ln by omega) (nx (2 * two) (by omega) rfl)
theorem c_X9_firstWrong {d : Nat} {w : gx_W} {n l N i ln : Nat} {w1 : gx_W} {f : Nat → Int32} {k : Int32 → gx_W → Prop} (hd : 7 ≤ d) (hT : isT w) (h : clO w) (hc : isCk w 37 38 n l N) (hi6 : i < 6) (hsn : isSn w (45 + 2 * i) (46 + 2 * i) ln) (hI : thF w w1 n l N f) (kk : ∀ w' f', thF w w' n l N f' → k (me_fw N (w_a w (l + 1)) (w_a w (l + 2)) n (fun j => (w_l w (46 + 2 * i) j).toInt32) ln ((ln + 1) / 2) 0 f) w') : gx_C 0 0 d mX9_firstWrong [.ref 6, .ref (45 + 2 * i)] w1 (Qi k) := by
  refine gx_C_of' (L := [.ref 6, .ref (45 + 2 * i), .retAddr 0, .retAddr 0, .retAddr 0]) (by decide +kernel) rfl (Nat.le_of_ble_eq_true rfl) ?_
  refine g_aload_n dX9_firstWrong_0 rfl ?_
  refine g_ifnonnull (tgt := 7) dX9_firstWrong_1 (by decide) ?_
  refine g_iconst (v := 0) dX9_firstWrong_7 rfl ?_
  refine g_istore_n dX9_firstWrong_8 (Nat.le_of_ble_eq_true rfl) rfl ?_
  exact l_X9_firstWrong hd hT h hc hi6 hsn ((ln + 1) / 2) 0 f _ _ w1 rfl (Nat.zero_add _) hI kk
theorem c_beginF {d n l N : Nat} {w w1 : gx_W} {k : gx_W → Prop} (hd : 2 ≤ d) (hs : sam TR TG [(43, 2)] w w1) (h : thO w) (h43 : isCr w1 43 44) (hc : isCk w 37 38 n l N) (kk : ∀ w', thF w w' n l N (w_a w 38) → k w') : gx_C 0 0 d mX7_begin [.ref 39, .ref 37] w1 (Qv k) := by
  have hl := hc.2
  have e38 := (hs.2.2.2.1 38 (by decide)).1
  refine c_beginS hd (h.sam hs) h43 (n := n) (l := l) (N := N) ?_ (fun w' I => kk w' ?_)
  · obtain ⟨⟨c1, c2, c3, c4, c5⟩, c6⟩ := hc
    refine ⟨⟨c1.th2 hs, (hs.2.2.1 37 2 (by simp)).trans c2, ?_, (hs.2.1 l 4 (by rcases hl with rfl | rfl <;> decide)).trans c4, c5⟩, c6⟩
    obtain ⟨l1, l2, l3, l4, l5⟩ := c3
    refine ⟨by rw [hs.1]; exact l1, ⟨(hs.2.2.1 l 0 (by rcases hl with rfl | rfl <;> decide)).trans l2.1, by rw [hs.1]; exact l2.2⟩, ⟨(hs.2.2.1 l 1 (by rcases hl with rfl | rfl <;> decide)).trans l3.1, by rw [hs.1]; exact l3.2⟩, ⟨(hs.2.2.1 l 2 (by rcases hl with rfl | rfl <;> decide)).trans l4.1, by rw [hs.1]; exact l4.2⟩, ⟨(hs.2.2.1 l 3 (by rcases hl with rfl | rfl <;> decide)).trans l5.1, by rw [hs.1]; exact l5.2⟩⟩
  · obtain ⟨i1, i2, i3, i4, _⟩ := I
    exact ⟨hs.tr i1, i2, i3, fun j hj => by rw [i4 j hj]; show w_a w1 38 j = _; rw [e38]⟩

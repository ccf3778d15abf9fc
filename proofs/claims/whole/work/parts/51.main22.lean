/-! CrossroadsChoose: shift, sit, fair, drawn -/
theorem nI_ck {p m n : Nat} (hp : p < 2 ^ 31) (hm : m < 2 ^ 31) (h : p + m ≤ n) : (nI p).toNatClampNeg + (nI m).toNatClampNeg ≤ n := by
  rw [nI_n hp, nI_n hm]; exact h
set_option maxHeartbeats 4000000 in
theorem c_X9_shift {d : Nat} {w : gx_W} {ln : Nat → Nat} {x a y b c : Int32} {k : Int32 → gx_W → Prop} (hd : 2 ≤ d) (h : clO w) (hl : ∀ i, i < 6 → isSn w (45 + 2 * i) (46 + 2 * i) (ln i)) (k1 : ((∀ i, i < 6 → x ≠ nI i) ∨ ∀ i, i < 6 → y ≠ nI i) → k (-1) w) (k2 : ∀ i j, x = nI i → i < 6 → y = nI j → j < 6 → (w_i w (45 + 2 * i) 1 = 0 ∨ w_i w (45 + 2 * j) 1 = 0) → k (-11) w) (k4 : ∀ i j, x = nI i → i < 6 → y = nI j → j < 6 → ¬ w_i w (45 + 2 * i) 1 = 0 → ¬ w_i w (45 + 2 * j) 1 = 0 → ¬ (w_i w (45 + 2 * i) 1 = 2 ∧ w_i w (45 + 2 * j) 1 = 2 ∧ w_i w (45 + 2 * i) 3 = w_i w (45 + 2 * j) 3) → k (-12) w) (k5 : ∀ i j, x = nI i → i < 6 → y = nI j → j < 6 → w_i w (45 + 2 * i) 1 = 2 → w_i w (45 + 2 * j) 1 = 2 → w_i w (45 + 2 * i) 3 = w_i w (45 + 2 * j) 3 → (∀ p q m, a = nI p → b = nI q → c = nI m → p + m ≤ ln i → q + m ≤ ln j → False) → k (-13) w) (k6 : ∀ i j, x = nI i → i < 6 → y = nI j → j < 6 → w_i w (45 + 2 * i) 1 = 2 → w_i w (45 + 2 * j) 1 = 2 → w_i w (45 + 2 * i) 3 = w_i w (45 + 2 * j) 3 → ∀ p q m, a = nI p → b = nI q → c = nI m → p + m ≤ ln i → q + m ≤ ln j → k c (s_l w (46 + 2 * j) (va_cpy (w_l w (46 + 2 * i)) (w_l w (46 + 2 * j)) p q m))) : gx_C 0 0 d mX9_shift [.ref 6, .int x, .int a, .int y, .int b, .int c] w (Qi k) := by
  refine gx_C_of' (L := [.ref 6, .int x, .int a, .int y, .int b, .int c, .retAddr 0, .retAddr 0, .retAddr 0]) (by decide +kernel) rfl (Nat.le_of_ble_eq_true rfl) ?_
  refine g_aload_n dX9_shift_0 rfl ?_
  refine g_iload_n dX9_shift_1 rfl ?_
  refine g_iload_n dX9_shift_2 rfl ?_
  refine g_cV2i dX9_shift_3 ml_X9_322 mi_X9_pairRefusal mv_X9_pairRefusal h.1 ⟨_, rfl, rfl⟩ (Nat.le_of_ble_eq_true rfl) rfl (by omega) ?_
  refine c_X9_pairRefusal (by omega) h (fun r1 => ?_) (fun i j e hi e2 hj f1 => ?_) (fun i j e hi e2 hj f1 f2 f3 => ?_) (fun i j e hi e2 hj f1 f2 f3 => ?_)
  · refine g_istore dX9_shift_6 (Nat.le_of_ble_eq_true rfl) rfl ?_
    refine g_aload_n dX9_shift_8 rfl ?_
    refine g_iload_n dX9_shift_9 rfl ?_
    refine g_cV1q dX9_shift_10 ml_X9_91 mi_X9_shelfAt mv_X9_shelfAt h.1 ⟨_, rfl, rfl⟩ (Nat.le_of_ble_eq_true rfl) rfl (by omega) ?_
    refine c_X9_shelfAt (by omega) h (fun a1 y1 g1 => ?_) (fun hn1 => ?_)
    · refine g_astore dX9_shift_13 (Nat.le_of_ble_eq_true rfl) rfl ?_
      refine g_aload_n dX9_shift_15 rfl ?_
      refine g_iload_n dX9_shift_16 rfl ?_
      refine g_cV1q dX9_shift_17 ml_X9_91 mi_X9_shelfAt mv_X9_shelfAt h.1 ⟨_, rfl, rfl⟩ (Nat.le_of_ble_eq_true rfl) rfl (by omega) ?_
      refine c_X9_shelfAt (by omega) h (fun a2 y2 g2 => ?_) (fun hn2 => ?_)
      · refine g_astore dX9_shift_20 (Nat.le_of_ble_eq_true rfl) rfl ?_
        refine g_iload dX9_shift_22 rfl ?_
        refine g_if_ne (tgt := 37) dX9_shift_24 (by decide) (fun _ => ?_) (fun q => absurd q (by decide))
        refine g_iload dX9_shift_37 rfl ?_
        refine g_iret dX9_shift_39 rfl ⟨_, rfl, ?_⟩
        exact k1 r1
      · refine g_astoreN dX9_shift_20 (Nat.le_of_ble_eq_true rfl) rfl ?_
        refine g_iload dX9_shift_22 rfl ?_
        refine g_if_ne (tgt := 37) dX9_shift_24 (by decide) (fun _ => ?_) (fun q => absurd q (by decide))
        refine g_iload dX9_shift_37 rfl ?_
        refine g_iret dX9_shift_39 rfl ⟨_, rfl, ?_⟩
        exact k1 r1
    · refine g_astoreN dX9_shift_13 (Nat.le_of_ble_eq_true rfl) rfl ?_
      refine g_aload_n dX9_shift_15 rfl ?_
      refine g_iload_n dX9_shift_16 rfl ?_
      refine g_cV1q dX9_shift_17 ml_X9_91 mi_X9_shelfAt mv_X9_shelfAt h.1 ⟨_, rfl, rfl⟩ (Nat.le_of_ble_eq_true rfl) rfl (by omega) ?_
      refine c_X9_shelfAt (by omega) h (fun a2 y2 g2 => ?_) (fun hn2 => ?_)
      · refine g_astore dX9_shift_20 (Nat.le_of_ble_eq_true rfl) rfl ?_
        refine g_iload dX9_shift_22 rfl ?_
        refine g_if_ne (tgt := 37) dX9_shift_24 (by decide) (fun _ => ?_) (fun q => absurd q (by decide))
        refine g_iload dX9_shift_37 rfl ?_
        refine g_iret dX9_shift_39 rfl ⟨_, rfl, ?_⟩
        exact k1 r1
      · refine g_astoreN dX9_shift_20 (Nat.le_of_ble_eq_true rfl) rfl ?_
        refine g_iload dX9_shift_22 rfl ?_
        refine g_if_ne (tgt := 37) dX9_shift_24 (by decide) (fun _ => ?_) (fun q => absurd q (by decide))
        refine g_iload dX9_shift_37 rfl ?_
        refine g_iret dX9_shift_39 rfl ⟨_, rfl, ?_⟩
        exact k1 r1
  · refine g_istore dX9_shift_6 (Nat.le_of_ble_eq_true rfl) rfl ?_
    refine g_aload_n dX9_shift_8 rfl ?_
    refine g_iload_n dX9_shift_9 rfl ?_
    refine g_cV1q dX9_shift_10 ml_X9_91 mi_X9_shelfAt mv_X9_shelfAt h.1 ⟨_, rfl, rfl⟩ (Nat.le_of_ble_eq_true rfl) rfl (by omega) ?_
    refine c_X9_shelfAt (by omega) h (fun a1 y1 g1 => ?_) (fun hn1 => ?_)
    · refine g_astore dX9_shift_13 (Nat.le_of_ble_eq_true rfl) rfl ?_
      refine g_aload_n dX9_shift_15 rfl ?_
      refine g_iload_n dX9_shift_16 rfl ?_
      refine g_cV1q dX9_shift_17 ml_X9_91 mi_X9_shelfAt mv_X9_shelfAt h.1 ⟨_, rfl, rfl⟩ (Nat.le_of_ble_eq_true rfl) rfl (by omega) ?_
      refine c_X9_shelfAt (by omega) h (fun a2 y2 g2 => ?_) (fun hn2 => ?_)
      · refine g_astore dX9_shift_20 (Nat.le_of_ble_eq_true rfl) rfl ?_
        refine g_iload dX9_shift_22 rfl ?_
        refine g_if_ne (tgt := 37) dX9_shift_24 (by decide) (fun _ => ?_) (fun q => absurd q (by decide))
        refine g_iload dX9_shift_37 rfl ?_
        refine g_iret dX9_shift_39 rfl ⟨_, rfl, ?_⟩
        exact k2 i j e hi e2 hj f1
      · refine g_astoreN dX9_shift_20 (Nat.le_of_ble_eq_true rfl) rfl ?_
        refine g_iload dX9_shift_22 rfl ?_
        refine g_if_ne (tgt := 37) dX9_shift_24 (by decide) (fun _ => ?_) (fun q => absurd q (by decide))
        refine g_iload dX9_shift_37 rfl ?_
        refine g_iret dX9_shift_39 rfl ⟨_, rfl, ?_⟩
        exact k2 i j e hi e2 hj f1
    · refine g_astoreN dX9_shift_13 (Nat.le_of_ble_eq_true rfl) rfl ?_
      refine g_aload_n dX9_shift_15 rfl ?_
      refine g_iload_n dX9_shift_16 rfl ?_
      refine g_cV1q dX9_shift_17 ml_X9_91 mi_X9_shelfAt mv_X9_shelfAt h.1 ⟨_, rfl, rfl⟩ (Nat.le_of_ble_eq_true rfl) rfl (by omega) ?_
      refine c_X9_shelfAt (by omega) h (fun a2 y2 g2 => ?_) (fun hn2 => ?_)
      · refine g_astore dX9_shift_20 (Nat.le_of_ble_eq_true rfl) rfl ?_
        refine g_iload dX9_shift_22 rfl ?_
        refine g_if_ne (tgt := 37) dX9_shift_24 (by decide) (fun _ => ?_) (fun q => absurd q (by decide))
        refine g_iload dX9_shift_37 rfl ?_
        refine g_iret dX9_shift_39 rfl ⟨_, rfl, ?_⟩
        exact k2 i j e hi e2 hj f1
      · refine g_astoreN dX9_shift_20 (Nat.le_of_ble_eq_true rfl) rfl ?_
        refine g_iload dX9_shift_22 rfl ?_
        refine g_if_ne (tgt := 37) dX9_shift_24 (by decide) (fun _ => ?_) (fun q => absurd q (by decide))
        refine g_iload dX9_shift_37 rfl ?_
        refine g_iret dX9_shift_39 rfl ⟨_, rfl, ?_⟩
        exact k2 i j e hi e2 hj f1
  · refine g_istore dX9_shift_6 (Nat.le_of_ble_eq_true rfl) rfl ?_
    refine g_aload_n dX9_shift_8 rfl ?_
    refine g_iload_n dX9_shift_9 rfl ?_
    refine g_cV1q dX9_shift_10 ml_X9_91 mi_X9_shelfAt mv_X9_shelfAt h.1 ⟨_, rfl, rfl⟩ (Nat.le_of_ble_eq_true rfl) rfl (by omega) ?_
    refine c_X9_shelfAt (by omega) h (fun a1 y1 g1 => ?_) (fun hn1 => ?_)
    · have q1 : i = a1 := pI_inj (by omega) (by omega) (e.symm.trans y1)
      subst q1
      refine g_astore dX9_shift_13 (Nat.le_of_ble_eq_true rfl) rfl ?_
      refine g_aload_n dX9_shift_15 rfl ?_
      refine g_iload_n dX9_shift_16 rfl ?_
      refine g_cV1q dX9_shift_17 ml_X9_91 mi_X9_shelfAt mv_X9_shelfAt h.1 ⟨_, rfl, rfl⟩ (Nat.le_of_ble_eq_true rfl) rfl (by omega) ?_
      refine c_X9_shelfAt (by omega) h (fun a2 y2 g2 => ?_) (fun hn2 => ?_)
      · have q2 : j = a2 := pI_inj (by omega) (by omega) (e2.symm.trans y2)
        subst q2
        refine g_astore dX9_shift_20 (Nat.le_of_ble_eq_true rfl) rfl ?_
        refine g_iload dX9_shift_22 rfl ?_
        refine g_if_ne (tgt := 37) dX9_shift_24 (by decide) (fun q => absurd q (by decide)) (fun _ => ?_)
        refine g_aload dX9_shift_27 rfl ?_
        refine g_ifnull dX9_shift_29 ?_
        refine g_aload dX9_shift_32 rfl ?_
        refine g_ifnonnull (tgt := 40) dX9_shift_34 (by decide) ?_
        refine g_aload dX9_shift_40 rfl ?_
        refine g_iload_n dX9_shift_42 rfl ?_
        refine g_iload dX9_shift_43 rfl ?_
        refine g_cV2i dX9_shift_45 ml_X9_105 mi_X5_hasRoom mv_X5_hasRoom (hl i hi).1.1 ⟨_, rfl, rfl⟩ (Nat.le_of_ble_eq_true rfl) rfl (by omega) ?_
        refine c_X5_hasRoom (by omega) (hl i hi) (fun p m ep em hp => ?_) (fun nr => ?_)
        · refine g_if_eq (tgt := 63) dX9_shift_48 (by decide) (fun q => absurd q (by decide)) (fun _ => ?_)
          refine g_aload dX9_shift_51 rfl ?_
          refine g_iload dX9_shift_53 rfl ?_
          refine g_iload dX9_shift_55 rfl ?_
          refine g_cV2i dX9_shift_57 ml_X9_105 mi_X5_hasRoom mv_X5_hasRoom (hl j hj).1.1 ⟨_, rfl, rfl⟩ (Nat.le_of_ble_eq_true rfl) rfl (by omega) ?_
          refine c_X5_hasRoom (by omega) (hl j hj) (fun q m2 eq em2 hq => ?_) (fun nr => ?_)
          · refine g_if_ne (tgt := 66) dX9_shift_60 (by decide) (fun _ => ?_) (fun q => absurd q (by decide))
            have hb1 := (hl i hi).2.2
            have hb2 := (hl j hj).2.2
            have q3 : m = m2 := by
              rcases Nat.lt_or_ge m (2 ^ 31) with z1 | z1
              · rcases Nat.lt_or_ge m2 (2 ^ 31) with z2 | z2
                · exact pI_inj z1 z2 (em.symm.trans em2)
                · omega
              · omega
            subst q3
            subst ep eq em2
            refine g_aload dX9_shift_66 rfl ?_
            refine g_getr dX9_shift_68 fl_X9_325 (hl i hi).1.1 (hl i hi).1.2.1 ?_
            refine g_iload_n dX9_shift_71 rfl ?_
            refine g_aload dX9_shift_72 rfl ?_
            refine g_getr dX9_shift_74 fl_X9_325 (hl j hj).1.1 (hl j hj).1.2.1 ?_
            refine g_iload dX9_shift_77 rfl ?_
            refine g_iload dX9_shift_79 rfl ?_
            refine g_copyl dX9_shift_81 cp_X9_271 (hl i hi).1.2.2 (hl j hj).1.2.2 (nI_pos (by omega)) (nI_pos (by omega)) (nI_pos (by omega)) (nI_ck (by omega) (by omega) (Nat.le_trans hp hb1)) (nI_ck (by omega) (by omega) (Nat.le_trans hq hb2)) (Nat.le_of_ble_eq_true rfl) rfl (by omega) ?_
            refine g_iload dX9_shift_84 rfl ?_
            refine g_iret dX9_shift_86 rfl ⟨_, rfl, ?_⟩
            have K := k6 i j e hi e2 hj f1 f2 f3 p q m rfl rfl rfl hp hq
            rw [nI_n (by omega), nI_n (by omega), nI_n (by omega)]
            exact K
          · refine g_if_ne (tgt := 66) dX9_shift_60 (by decide) (fun q => absurd q (by decide)) (fun _ => ?_)
            refine g_bipush (v := -13) dX9_shift_63 rfl ?_
            refine g_iret dX9_shift_65 rfl ⟨_, rfl, ?_⟩
            exact k5 i j e hi e2 hj f1 f2 f3 (fun p q m ep eq em hp hq => nr q m (by have := (hl j hj).2.2; omega) (by have := (hl j hj).2.2; omega) eq em hq)
        · refine g_if_eq (tgt := 63) dX9_shift_48 (by decide) (fun _ => ?_) (fun q => absurd q (by decide))
          refine g_bipush (v := -13) dX9_shift_63 rfl ?_
          refine g_iret dX9_shift_65 rfl ⟨_, rfl, ?_⟩
          exact k5 i j e hi e2 hj f1 f2 f3 (fun p q m ep eq em hp hq => nr p m (by have := (hl i hi).2.2; omega) (by have := (hl i hi).2.2; omega) ep em hp)
      · exact absurd e2 (hn2 j hj)
    · exact absurd e (hn1 i hi)
  · refine g_istore dX9_shift_6 (Nat.le_of_ble_eq_true rfl) rfl ?_
    refine g_aload_n dX9_shift_8 rfl ?_
    refine g_iload_n dX9_shift_9 rfl ?_
    refine g_cV1q dX9_shift_10 ml_X9_91 mi_X9_shelfAt mv_X9_shelfAt h.1 ⟨_, rfl, rfl⟩ (Nat.le_of_ble_eq_true rfl) rfl (by omega) ?_
    refine c_X9_shelfAt (by omega) h (fun a1 y1 g1 => ?_) (fun hn1 => ?_)
    · refine g_astore dX9_shift_13 (Nat.le_of_ble_eq_true rfl) rfl ?_
      refine g_aload_n dX9_shift_15 rfl ?_
      refine g_iload_n dX9_shift_16 rfl ?_
      refine g_cV1q dX9_shift_17 ml_X9_91 mi_X9_shelfAt mv_X9_shelfAt h.1 ⟨_, rfl, rfl⟩ (Nat.le_of_ble_eq_true rfl) rfl (by omega) ?_
      refine c_X9_shelfAt (by omega) h (fun a2 y2 g2 => ?_) (fun hn2 => ?_)
      · refine g_astore dX9_shift_20 (Nat.le_of_ble_eq_true rfl) rfl ?_
        refine g_iload dX9_shift_22 rfl ?_
        refine g_if_ne (tgt := 37) dX9_shift_24 (by decide) (fun _ => ?_) (fun q => absurd q (by decide))
        refine g_iload dX9_shift_37 rfl ?_
        refine g_iret dX9_shift_39 rfl ⟨_, rfl, ?_⟩
        exact k4 i j e hi e2 hj f1 f2 f3
      · refine g_astoreN dX9_shift_20 (Nat.le_of_ble_eq_true rfl) rfl ?_
        refine g_iload dX9_shift_22 rfl ?_
        refine g_if_ne (tgt := 37) dX9_shift_24 (by decide) (fun _ => ?_) (fun q => absurd q (by decide))
        refine g_iload dX9_shift_37 rfl ?_
        refine g_iret dX9_shift_39 rfl ⟨_, rfl, ?_⟩
        exact k4 i j e hi e2 hj f1 f2 f3
    · refine g_astoreN dX9_shift_13 (Nat.le_of_ble_eq_true rfl) rfl ?_
      refine g_aload_n dX9_shift_15 rfl ?_
      refine g_iload_n dX9_shift_16 rfl ?_
      refine g_cV1q dX9_shift_17 ml_X9_91 mi_X9_shelfAt mv_X9_shelfAt h.1 ⟨_, rfl, rfl⟩ (Nat.le_of_ble_eq_true rfl) rfl (by omega) ?_
      refine c_X9_shelfAt (by omega) h (fun a2 y2 g2 => ?_) (fun hn2 => ?_)
      · refine g_astore dX9_shift_20 (Nat.le_of_ble_eq_true rfl) rfl ?_
        refine g_iload dX9_shift_22 rfl ?_
        refine g_if_ne (tgt := 37) dX9_shift_24 (by decide) (fun _ => ?_) (fun q => absurd q (by decide))
        refine g_iload dX9_shift_37 rfl ?_
        refine g_iret dX9_shift_39 rfl ⟨_, rfl, ?_⟩
        exact k4 i j e hi e2 hj f1 f2 f3
      · refine g_astoreN dX9_shift_20 (Nat.le_of_ble_eq_true rfl) rfl ?_
        refine g_iload dX9_shift_22 rfl ?_
        refine g_if_ne (tgt := 37) dX9_shift_24 (by decide) (fun _ => ?_) (fun q => absurd q (by decide))
        refine g_iload dX9_shift_37 rfl ?_
        refine g_iret dX9_shift_39 rfl ⟨_, rfl, ?_⟩
        exact k4 i j e hi e2 hj f1 f2 f3
/-- who has him, when he has sat m times -/
def me_as (N : Nat) (sg va f : Nat → Int32) (n c m : Nat) : Int32 := if cr_runs f n c = true then (if m = 0 then f 25 else -2) else cr_road (cr_want N sg va f · c) n m
theorem me_as_ex {N : Nat} {sg va f : Nat → Int32} {n c m : Nat} (hn : n ≤ 6) : me_as N sg va f n c m = -2 ∨ ∃ t, t < n ∧ me_as N sg va f n c m = nI t := by
  unfold me_as
  by_cases h : cr_runs f n c = true
  · rw [if_pos h]
    by_cases hm : m = 0
    · rw [if_pos hm]
      simp only [cr_runs, Bool.and_eq_true, decide_eq_true_eq] at h
      exact Or.inr ((pI_road hn).mp h.2)
    · rw [if_neg hm]; exact Or.inl rfl
  · rw [if_neg h]
    unfold cr_road
    cases hm : cr_most (cr_want N sg va f · c) (cr_out (cr_dis (cr_want N sg va f · c) n m)) n with
    | none => exact Or.inl rfl
    | some bm =>
      obtain ⟨b, q⟩ := bm
      exact Or.inr ⟨b, cr_most_lt hm, rfl⟩
theorem c_askedJ {d n l N c m : Nat} {w w1 : gx_W} {k : Int32 → gx_W → Prop} (hd : 5 ≤ d) (h : isCk w 37 38 n l N) (hs : same JR JF w w1) (hc : c < 100) (hm : m < n) (kk : ∀ w', same JR JF w w' → k (me_as N (w_a w (l + 1)) (w_a w (l + 2)) (w_a w 38) n c m) w') : gx_C 0 0 d mX2_asked [.ref 37, .int (nI c), .int (nI m)] w1 (Qi k) := by
  obtain ⟨h1, e1, e2, e3⟩ := h.same (by decide) hs
  have hn := h.1.1.2.2
  refine c_X2_asked hd h1.1 hc (nI_pos (by omega)) (fun q1 q2 => ?_) (fun q1 q2 => ?_) (fun q1 w' hs' m' q2 q3 => ?_) (fun q1 w' hs' q2 => absurd rfl (q2 m hm))
  · have K := kk w1 hs
    unfold me_as at K
    rw [← e1, if_pos q1, if_pos (pI_inj (a := m) (b := 0) (by omega) (by omega) q2)] at K
    exact K
  · have K := kk w1 hs
    unfold me_as at K
    rw [← e1, if_pos q1, if_neg (fun z => q2 (by rw [z]; rfl))] at K
    exact K
  · have q4 : m = m' := pI_inj (by omega) (by omega) q2
    subst q4
    have K := kk w' (hs.tr (isCk.junk h.2 hs'))
    unfold me_as at K
    rw [← e1, if_neg (by rw [q1]; decide), ← e2, ← e3] at K
    exact K
/-- the best worth and its sittings, from the m-th on -/
def me_si (A f : Nat → Int32) : Nat → Nat → Int32 → Int32 → Int32 × Int32
  | 0, _, b, s => (b, s)
  | z + 1, m, b, s => if A m < 0 then (b, s) else if b < f (12 + (A m).toNatClampNeg) - nI m * f 26 then me_si A f z (m + 1) (f (12 + (A m).toNatClampNeg) - nI m * f 26) (nI m) else me_si A f z (m + 1) b s
set_option maxHeartbeats 4000000 in
theorem l_X9_sit {d n l N c : Nat} {w : gx_W} {y : Int32} {k : Int32 → gx_W → Prop} (hd : 7 ≤ d) (h : clO w) (hc : isCk w 37 38 n l N) (hco : c < 100) : ∀ (z m : Nat) (b s : Int32) (x6 x7 : Value) (w1 : gx_W), x6.category = 1 → m + z = n → same JR JF w w1 → (∀ w', same JR JF w w' → k (if y = 0 then (me_si (me_as N (w_a w (l + 1)) (w_a w (l + 2)) (w_a w 38) n c) (w_a w 38) z m b s).1 else (me_si (me_as N (w_a w (l + 1)) (w_a w (l + 2)) (w_a w 38) n c) (w_a w 38) z m b s).2) w') → gx_G 0 0 d mX9_sit (Qi k) 38 [.ref 6, .int (nI c), .int y, .int b, .int s, .int (nI m), x6, x7] [] w1 := by
  intro z
  have hn := hc.1.1.2.2
  induction z with
  | zero =>
    intro m b s x6 x7 w1 hx6 hj hs kk
    have em : m = n := by omega
    have hc1 := (hc.1.1.same hs (by decide))
    have e1 : w_i w1 37 1 = nI n := hc1.2.1
    subst em
    refine g_iload dX9_sit_38 rfl ?_
    refine g_aload_n dX9_sit_40 rfl ?_
    refine g_getr dX9_sit_41 fl_X9_67 (h.same hs).1 (h.same hs).2.1.1 ?_
    refine g_geti dX9_sit_44 fl_X9_196 hc1.1.1 ?_
    rw [e1]
    refine g_icmp_ge (tgt := 115) dX9_sit_47 (by decide) (fun zc47 => ?_) (fun zc47 => ?_)
    · refine g_iload_n dX9_sit_115 rfl ?_
      refine g_if_ne (tgt := 123) dX9_sit_116 (by decide) (fun zc116 => ?_) (fun zc116 => ?_)
      · refine g_iload dX9_sit_123 rfl ?_
        refine g_iret dX9_sit_125 rfl ⟨_, rfl, ?_⟩
        have K := kk w1 hs
        rw [if_neg zc116] at K
        exact K
      · refine g_iload_n dX9_sit_119 rfl ?_
        refine g_goto (tgt := 125) dX9_sit_120 (by decide) ?_
        refine g_iret dX9_sit_125 rfl ⟨_, rfl, ?_⟩
        have K := kk w1 hs
        rw [if_pos zc116] at K
        exact K
    · exact absurd (Int32.le_refl _) zc47
  | succ z ih =>
    intro m b s x6 x7 w1 hx6 hj hs kk
    have hc1 := (hc.1.1.same hs (by decide))
    have e1 : w_i w1 37 1 = nI n := hc1.2.1
    refine g_iload dX9_sit_38 rfl ?_
    refine g_aload_n dX9_sit_40 rfl ?_
    refine g_getr dX9_sit_41 fl_X9_67 (h.same hs).1 (h.same hs).2.1.1 ?_
    refine g_geti dX9_sit_44 fl_X9_196 hc1.1.1 ?_
    rw [e1]
    refine g_icmp_ge (tgt := 115) dX9_sit_47 (by decide) (fun zc47 => ?_) (fun zc47 => ?_)
    · refine g_iload_n dX9_sit_115 rfl ?_
      refine g_if_ne (tgt := 123) dX9_sit_116 (by decide) (fun zc116 => ?_) (fun zc116 => ?_)
      · refine g_iload dX9_sit_123 rfl ?_
        refine g_iret dX9_sit_125 rfl ⟨_, rfl, ?_⟩
        exact absurd zc47 (nI_ge (by omega) (by omega))
      · refine g_iload_n dX9_sit_119 rfl ?_
        refine g_goto (tgt := 125) dX9_sit_120 (by decide) ?_
        refine g_iret dX9_sit_125 rfl ⟨_, rfl, ?_⟩
        exact absurd zc47 (nI_ge (by omega) (by omega))
    · refine g_aload_n dX9_sit_50 rfl ?_
      refine g_getr dX9_sit_51 fl_X9_67 (h.same hs).1 (h.same hs).2.1.1 ?_
      refine g_iload_n dX9_sit_54 rfl ?_
      refine g_iload dX9_sit_55 rfl ?_
      refine g_cV2i dX9_sit_57 ml_X9_213 mi_X2_asked mv_X2_asked hc1.1.1 ⟨_, rfl, rfl⟩ (Nat.le_of_ble_eq_true rfl) rfl (by omega) ?_
      refine c_askedJ (by omega) hc hs hco (by omega) (fun w2 hs2 => ?_)
      refine g_istore dX9_sit_60 (Nat.le_of_ble_eq_true rfl) rfl ?_
      refine g_iload dX9_sit_62 rfl ?_
      refine g_if_ge (tgt := 70) dX9_sit_64 (by decide) (fun zc64 => ?_) (fun zc64 => ?_)
      · have e38 : w_a w2 38 = w_a w 38 := (hs2.2.2.2.1 38 (by decide)).1
        obtain ⟨t, ht, et⟩ : ∃ t, t < n ∧ (me_as N (w_a w (l + 1)) (w_a w (l + 2)) (w_a w 38) n c m) = nI t := by
          rcases me_as_ex (N := N) (sg := w_a w (l + 1)) (va := w_a w (l + 2)) (f := w_a w 38) (c := c) (m := m) hn with z3 | z3
          · rw [z3] at zc64; exact absurd zc64 (by decide)
          · exact z3
        have hc2 := (hc.1.1.same hs2 (by decide))
        refine g_aload_n dX9_sit_70 rfl ?_
        refine g_getr dX9_sit_71 fl_X9_67 (h.same hs2).1 (h.same hs2).2.1.1 ?_
        refine g_iload dX9_sit_74 rfl ?_
        refine g_iconst (v := 2) dX9_sit_76 rfl ?_
        rw [et]
        refine g_cV2i dX9_sit_77 ml_X9_112 mi_X2_number mv_X2_number hc2.1.1 ⟨_, rfl, rfl⟩ (Nat.le_of_ble_eq_true rfl) rfl (by omega) ?_
        refine c_number_r (q := 2) (m := t) (by omega) hc2 (by decide) ht rfl rfl ?_
        rw [e38]
        refine g_iload dX9_sit_80 rfl ?_
        refine g_aload_n dX9_sit_82 rfl ?_
        refine g_getr dX9_sit_83 fl_X9_67 (h.same hs2).1 (h.same hs2).2.1.1 ?_
        refine g_iconst (v := 0) dX9_sit_86 rfl ?_
        refine g_bipush (v := 6) dX9_sit_87 rfl ?_
        refine g_cV2i dX9_sit_89 ml_X9_112 mi_X2_number mv_X2_number hc2.1.1 ⟨_, rfl, rfl⟩ (Nat.le_of_ble_eq_true rfl) rfl (by omega) ?_
        refine c_number_g (q := 6) (by omega) hc2 (by decide) (by decide) rfl ?_
        rw [e38]
        refine g_imul dX9_sit_92 ?_
        refine g_isub dX9_sit_93 ?_
        refine g_istore dX9_sit_94 (Nat.le_of_ble_eq_true rfl) rfl ?_
        refine g_iload dX9_sit_96 rfl ?_
        refine g_iload_n dX9_sit_98 rfl ?_
        refine g_icmp_le (tgt := 109) dX9_sit_99 (by decide) (fun zc99 => ?_) (fun zc99 => ?_)
        · refine g_iinc dX9_sit_109 rfl rfl ?_
          refine g_goto (tgt := 38) dX9_sit_112 (by decide) ?_
          rw [show me_si (me_as N (w_a w (l + 1)) (w_a w (l + 2)) (w_a w 38) n c) (w_a w 38) (z + 1) m b s = me_si (me_as N (w_a w (l + 1)) (w_a w (l + 2)) (w_a w 38) n c) (w_a w 38) z (m + 1) b s from by show (if _ then _ else if _ then _ else _) = _; rw [if_neg (show ¬ (me_as N (w_a w (l + 1)) (w_a w (l + 2)) (w_a w 38) n c m) < 0 from by rw [et]; exact nI_pos (by omega)), if_neg (by rw [et, nI_n (by omega)]; exact Int32.not_lt.mpr zc99)]] at kk
          rw [nI_1']
          exact ih (m + 1) _ _ _ _ w2 rfl (by omega) hs2 kk
        · refine g_iload dX9_sit_102 rfl ?_
          refine g_istore_n dX9_sit_104 (Nat.le_of_ble_eq_true rfl) rfl ?_
          refine g_iload dX9_sit_105 rfl ?_
          refine g_istore dX9_sit_107 (Nat.le_of_ble_eq_true rfl) rfl ?_
          refine g_iinc dX9_sit_109 rfl rfl ?_
          refine g_goto (tgt := 38) dX9_sit_112 (by decide) ?_
          rw [show me_si (me_as N (w_a w (l + 1)) (w_a w (l + 2)) (w_a w 38) n c) (w_a w 38) (z + 1) m b s = me_si (me_as N (w_a w (l + 1)) (w_a w (l + 2)) (w_a w 38) n c) (w_a w 38) z (m + 1) (w_a w 38 (12 + t) - nI m * w_a w 38 26) (nI m) from by show (if _ then _ else if _ then _ else _) = _; rw [if_neg (show ¬ (me_as N (w_a w (l + 1)) (w_a w (l + 2)) (w_a w 38) n c m) < 0 from by rw [et]; exact nI_pos (by omega)), if_pos (by rw [et, nI_n (by omega)]; exact Int32.not_le.mp zc99), et, nI_n (by omega)]] at kk
          rw [nI_1']
          exact ih (m + 1) _ _ _ _ w2 rfl (by omega) hs2 kk
      · refine g_goto (tgt := 115) dX9_sit_67 (by decide) ?_
        refine g_iload_n dX9_sit_115 rfl ?_
        refine g_if_ne (tgt := 123) dX9_sit_116 (by decide) (fun zc116 => ?_) (fun zc116 => ?_)
        · refine g_iload dX9_sit_123 rfl ?_
          refine g_iret dX9_sit_125 rfl ⟨_, rfl, ?_⟩
          rw [show me_si (me_as N (w_a w (l + 1)) (w_a w (l + 2)) (w_a w 38) n c) (w_a w 38) (z + 1) m b s = (b, s) from if_pos (Int32.not_le.mp zc64)] at kk
          have K := kk w2 hs2
          rw [if_neg zc116] at K
          exact K
        · refine g_iload_n dX9_sit_119 rfl ?_
          refine g_goto (tgt := 125) dX9_sit_120 (by decide) ?_
          refine g_iret dX9_sit_125 rfl ⟨_, rfl, ?_⟩
          rw [show me_si (me_as N (w_a w (l + 1)) (w_a w (l + 2)) (w_a w 38) n c) (w_a w 38) (z + 1) m b s = (b, s) from if_pos (Int32.not_le.mp zc64)] at kk
          have K := kk w2 hs2
          rw [if_pos zc116] at K
          exact K
set_option maxHeartbeats 4000000 in
theorem c_X9_sit {d : Nat} {w : gx_W} {n l N : Nat} {x y : Int32} {k : Int32 → gx_W → Prop} (hd : 7 ≤ d) (h : clO w) (hc : isCk w 37 38 n l N) (k1 : (∀ c, c < 100 → x ≠ nI c) → k (-2000000000) w) (k2 : (y < 0 ∨ 1 < y) → k (-2000000000) w) (k3 : n = 0 → k (-2000000000) w) (k4 : ∀ c, x = nI c → c < 100 → ¬ y < 0 → ¬ 1 < y → 0 < n → ∀ w', same JR JF w w' → k (if y = 0 then (me_si (me_as N (w_a w (l + 1)) (w_a w (l + 2)) (w_a w 38) n c) (w_a w 38) n 0 (-2000000000) 0).1 else (me_si (me_as N (w_a w (l + 1)) (w_a w (l + 2)) (w_a w 38) n c) (w_a w 38) n 0 (-2000000000) 0).2) w') : gx_C 0 0 d mX9_sit [.ref 6, .int x, .int y] w (Qi k) := by
  refine gx_C_of' (L := [.ref 6, .int x, .int y, .retAddr 0, .retAddr 0, .retAddr 0, .retAddr 0, .retAddr 0]) (by decide +kernel) rfl (Nat.le_of_ble_eq_true rfl) ?_
  refine g_iload_n dX9_sit_0 rfl ?_
  refine g_cS1i dX9_sit_1 ml_X9_145 mi_X9_isComer ms_X9_isComer (Nat.le_of_ble_eq_true rfl) rfl (by omega) ?_
  refine c_isComer (fun c e hco => ?_) (fun nco => ?_)
  · refine g_if_eq (tgt := 26) dX9_sit_4 (by decide) (fun q => absurd q (by decide)) (fun _ => ?_)
    refine g_iload_n dX9_sit_7 rfl ?_
    refine g_if_lt (tgt := 26) dX9_sit_8 (by decide) (fun zc8 => ?_) (fun zc8 => ?_)
    · refine g_ldc dX9_sit_26 ct_X9_116 ?_
      refine g_iret dX9_sit_28 rfl ⟨_, rfl, ?_⟩
      exact k2 (Or.inl zc8)
    · refine g_iload_n dX9_sit_11 rfl ?_
      refine g_iconst (v := 1) dX9_sit_12 rfl ?_
      refine g_icmp_gt (tgt := 26) dX9_sit_13 (by decide) (fun zc13 => ?_) (fun zc13 => ?_)
      · refine g_ldc dX9_sit_26 ct_X9_116 ?_
        refine g_iret dX9_sit_28 rfl ⟨_, rfl, ?_⟩
        exact k2 (Or.inr zc13)
      · refine g_aload_n dX9_sit_16 rfl ?_
        refine g_getr dX9_sit_17 fl_X9_67 h.1 h.2.1.1 ?_
        refine g_geti dX9_sit_20 fl_X9_196 hc.1.1.1.1 ?_
        rw [hc.1.1.2.1]
        refine g_if_ne (tgt := 29) dX9_sit_23 (by decide) (fun zc23 => ?_) (fun zc23 => ?_)
        · refine g_ldc dX9_sit_29 ct_X9_116 ?_
          refine g_istore_n dX9_sit_31 (Nat.le_of_ble_eq_true rfl) rfl ?_
          refine g_iconst (v := 0) dX9_sit_32 rfl ?_
          refine g_istore dX9_sit_33 (Nat.le_of_ble_eq_true rfl) rfl ?_
          refine g_iconst (v := 0) dX9_sit_35 rfl ?_
          refine g_istore dX9_sit_36 (Nat.le_of_ble_eq_true rfl) rfl ?_
          subst e
          exact l_X9_sit (by omega) h hc hco n 0 _ _ (.retAddr 0) (.retAddr 0) w rfl (Nat.zero_add _) same.rf (k4 c rfl hco (Int32.not_lt.mpr (Int32.not_lt.mp zc8)) (Int32.not_lt.mpr (Int32.not_lt.mp zc13)) (Nat.pos_of_ne_zero (fun z => zc23 (by rw [z]; rfl))))
        · refine g_ldc dX9_sit_26 ct_X9_116 ?_
          refine g_iret dX9_sit_28 rfl ⟨_, rfl, ?_⟩
          exact k3 (pI_inj (a := n) (b := 0) (by have := hc.1.1.2.2; omega) (by omega) zc23)
  · refine g_if_eq (tgt := 26) dX9_sit_4 (by decide) (fun _ => ?_) (fun q => absurd q (by decide))
    refine g_ldc dX9_sit_26 ct_X9_116 ?_
    refine g_iret dX9_sit_28 rfl ⟨_, rfl, ?_⟩
    exact k1 nco

/-! Crossing: settle, asked, hasAllOf -/
theorem cr_set0 (f : Nat → Int32) (t : Nat) : cr_set f 0 t = f := by
  funext j
  exact if_neg (by omega)
theorem cr_set_at (f : Nat → Int32) (i t : Nat) : cr_set f i t (18 + i) = f (18 + i) := if_neg (by omega)
theorem cr_set_s (f : Nat → Int32) (i t : Nat) (v : Int32) (hv : v = if i = t then 0 else if f (18 + i) + 1 > 99 then 99 else f (18 + i) + 1) : va_up (cr_set f i t) (18 + i) v = cr_set f (i + 1) t := by
  funext j
  by_cases h : j = 18 + i
  · subst h
    rw [va_up_at, hv]
    unfold cr_set
    rw [if_pos (show 18 ≤ 18 + i ∧ 18 + i < 18 + (i + 1) by omega), show 18 + i - 18 = i by omega]
  · rw [va_up_row h]
    unfold cr_set
    by_cases h2 : 18 ≤ j ∧ j < 18 + i
    · rw [if_pos h2, if_pos (show 18 ≤ j ∧ j < 18 + (i + 1) by omega)]
    · rw [if_neg h2, if_neg (show ¬ (18 ≤ j ∧ j < 18 + (i + 1)) by omega)]
theorem s_a_self {w : gx_W} {k : Nat} : s_a w k (w_a w k) = w := by
  show (w.1, w.2.1, w.2.2.1, va_up w.2.2.2.1 k (w_a w k), w.2.2.2.2) = _
  have e : va_up w.2.2.2.1 k (w_a w k) = w.2.2.2.1 := by
    funext j
    by_cases h : j = k
    · subst h; rw [va_up_at]; rfl
    · rw [va_up_row h]
  rw [e]
theorem isT_ne {w : gx_W} (hT : isT w) {a n k : Nat} (h : w.1[a]? = some (20, n)) (h1 : 1 ≤ k) (h2 : k < 6) : k ≠ a := by
  intro e
  subst e
  have := (hT k h1 h2).1.symm.trans h
  simp at this
set_option maxHeartbeats 4000000 in
theorem l_X2_settle {d r a n t : Nat} {w : gx_W} {k : gx_W → Prop} (hd : 2 ≤ d) (hT : isT w) (h : isCn w r a n) (ht : t < n) (kk : k (s_a w a (cr_set (w_a w a) n t))) : ∀ z i : Nat, i + z = n → ∀ x3 : Value, gx_G 0 0 d mX2_settle (Qv k) 2 [.ref r, .int (nI t), .int (nI i), x3] [] (s_a w a (cr_set (w_a w a) i t)) := by
  intro z
  induction z with
  | zero =>
    intro i hi x3
    have e : i = n := by omega
    subst e
    refine g_iload_n dX2_settle_2 rfl ?_
    refine g_aload_n dX2_settle_3 rfl ?_
    refine g_geti dX2_settle_4 fl_X2_19 h.1.1 ?_
    refine g_icmp_ge (tgt := 49) dX2_settle_7 (by decide) (fun _ => ?_) (fun q => absurd (Int32.le_refl _) (by rw [wi_sa, h.2.1] at q; exact q))
    exact g_vret dX2_settle_49 rfl ⟨rfl, kk⟩
  | succ z ih =>
    intro i hi x3
    have hb := h.2.2
    have hlt : i < n := by omega
    have hT2 : w.1[2]? = some (30, 8) := (hT 2 (by decide) (by decide)).1
    have hv2 : w_a w 2 = fun j => (gx_tab 2).getD j 0 := (hT 2 (by decide) (by decide)).2
    have hne := isT_ne hT h.1.2.2 (k := 2) (by decide) (by decide)
    have hw : isCn (s_a w a (cr_set (w_a w a) i t)) r a n := h
    refine g_iload_n dX2_settle_2 rfl ?_
    refine g_aload_n dX2_settle_3 rfl ?_
    refine g_geti dX2_settle_4 fl_X2_19 h.1.1 ?_
    refine g_icmp_ge (tgt := 49) dX2_settle_7 (by decide) (fun zc7 => ?_) (fun zc7 => ?_)
    · refine g_vret dX2_settle_49 rfl ⟨rfl, ?_⟩
      exact absurd (show w_i (s_a w a (cr_set (w_a w a) i t)) r 1 ≤ nI i from zc7) (by rw [wi_sa, h.2.1]; exact nI_ge hlt (by omega))
    · refine g_iload_n dX2_settle_10 rfl ?_
      refine g_iload_n dX2_settle_11 rfl ?_
      refine g_icmp_ne (tgt := 19) dX2_settle_12 (by decide) (fun zc12 => ?_) (fun zc12 => ?_)
      · refine g_aload_n dX2_settle_19 rfl ?_
        refine g_iload_n dX2_settle_20 rfl ?_
        refine g_iconst (v := 3) dX2_settle_21 rfl ?_
        refine g_cV2i dX2_settle_22 ml_X2_50 mi_X2_number mv_X2_number h.1.1 ⟨_, rfl, rfl⟩ (Nat.le_of_ble_eq_true rfl) rfl (by omega) ?_
        refine c_number_r (q := 3) (m := i) (by omega) hw (by decide) hlt rfl rfl ?_
        refine g_iconst (v := 1) dX2_settle_25 rfl ?_
        refine g_iadd dX2_settle_26 ?_
        refine g_istore_n dX2_settle_27 (Nat.le_of_ble_eq_true rfl) rfl ?_
        refine g_aload_n dX2_settle_28 rfl ?_
        refine g_iload_n dX2_settle_29 rfl ?_
        refine g_iconst (v := 3) dX2_settle_30 rfl ?_
        refine g_iload_n dX2_settle_31 rfl ?_
        refine g_gets (a := 2) dX2_settle_32 gs_X2_79 (by decide) (by decide) ?_
        refine g_iconst (v := 3) dX2_settle_35 rfl ?_
        refine g_rald dX2_settle_36 (by decide) hT2 (by first | assumption | exact vp_in_iff.mpr (by decide)) ?_
        have e99 : w_a (s_a w a (cr_set (w_a w a) i t)) 2 (Int32.toNatClampNeg 3) = 99 := by
          rw [wa_sa, if_neg hne, hv2]
          rfl
        rw [e99]
        refine g_cS2i dX2_settle_37 ml_X2_42 mi_J9_min_7cf53 ms_J9_min_7cf53 (Nat.le_of_ble_eq_true rfl) rfl (by omega) ?_
        refine c_J9_min_7cf53 (by omega) ?_
        refine g_cV3v dX2_settle_40 ml_X2_27 mi_X2_become mv_X2_become h.1.1 ⟨_, rfl, rfl⟩ (Nat.le_of_ble_eq_true rfl) rfl (by omega) ?_
        refine c_become_r (q := 3) (m := i) (by omega) hw (by decide) hlt rfl rfl ?_
        refine g_iinc dX2_settle_43 rfl rfl ?_
        refine g_goto (tgt := 2) dX2_settle_46 (by decide) ?_
        have eit : ¬ i = t := by
          intro q
          exact zc12 (by rw [q])
        have ev : (if cr_set (w_a w a) i t (18 + i) + 1 > (99 : Int32) then (99 : Int32) else cr_set (w_a w a) i t (18 + i) + 1) = if i = t then 0 else if w_a w a (18 + i) + 1 > 99 then 99 else w_a w a (18 + i) + 1 := by
          rw [if_neg eit, cr_set_at]
        rw [nI_1', s_a_a, wa_sa, if_pos rfl, show 3 * 6 + i = 18 + i by omega, cr_set_s _ _ _ _ ev]
        exact ih (i + 1) (by omega) _
      · refine g_iconst (v := 0) dX2_settle_15 rfl ?_
        refine g_goto (tgt := 27) dX2_settle_16 (by decide) ?_
        refine g_istore_n dX2_settle_27 (Nat.le_of_ble_eq_true rfl) rfl ?_
        refine g_aload_n dX2_settle_28 rfl ?_
        refine g_iload_n dX2_settle_29 rfl ?_
        refine g_iconst (v := 3) dX2_settle_30 rfl ?_
        refine g_iload_n dX2_settle_31 rfl ?_
        refine g_gets (a := 2) dX2_settle_32 gs_X2_79 (by decide) (by decide) ?_
        refine g_iconst (v := 3) dX2_settle_35 rfl ?_
        refine g_rald dX2_settle_36 (by decide) hT2 (by first | assumption | exact vp_in_iff.mpr (by decide)) ?_
        have e99 : w_a (s_a w a (cr_set (w_a w a) i t)) 2 (Int32.toNatClampNeg 3) = 99 := by
          rw [wa_sa, if_neg hne, hv2]
          rfl
        rw [e99]
        refine g_cS2i dX2_settle_37 ml_X2_42 mi_J9_min_7cf53 ms_J9_min_7cf53 (Nat.le_of_ble_eq_true rfl) rfl (by omega) ?_
        refine c_J9_min_7cf53 (by omega) ?_
        refine g_cV3v dX2_settle_40 ml_X2_27 mi_X2_become mv_X2_become h.1.1 ⟨_, rfl, rfl⟩ (Nat.le_of_ble_eq_true rfl) rfl (by omega) ?_
        refine c_become_r (q := 3) (m := i) (by omega) hw (by decide) hlt rfl rfl ?_
        refine g_iinc dX2_settle_43 rfl rfl ?_
        refine g_goto (tgt := 2) dX2_settle_46 (by decide) ?_
        have eit : ¬ ¬ i = t := by
          intro q
          exact q (pI_inj (by omega) (by omega) (by simpa using zc12))
        have ev : (if (0 : Int32) > 99 then (99 : Int32) else 0) = if i = t then 0 else if w_a w a (18 + i) + 1 > 99 then 99 else w_a w a (18 + i) + 1 := by
          rw [if_pos (Classical.not_not.mp eit)]; decide
        rw [nI_1', s_a_a, wa_sa, if_pos rfl, show 3 * 6 + i = 18 + i by omega, cr_set_s _ _ _ _ ev]
        exact ih (i + 1) (by omega) _
theorem c_X2_settle {d : Nat} {w : gx_W} {r a n t : Nat} {k : gx_W → Prop} (hd : 2 ≤ d) (hT : isT w) (h : isCn w r a n) (ht : t < n) (kk : k (s_a w a (cr_set (w_a w a) n t))) : gx_C 0 0 d mX2_settle [.ref r, .int (nI t)] w (Qv k) := by
  refine gx_C_of' (L := [.ref r, .int (nI t), .retAddr 0, .retAddr 0]) (by decide +kernel) rfl (Nat.le_of_ble_eq_true rfl) ?_
  refine g_iconst (v := 0) dX2_settle_0 rfl ?_
  refine g_istore_n dX2_settle_1 (Nat.le_of_ble_eq_true rfl) rfl ?_
  have K := l_X2_settle hd hT h ht kk n 0 (by omega) (.retAddr 0)
  rw [cr_set0, s_a_self] at K
  exact K
/-- who is asked, one behind the other -/
def cr_dis (W : Nat → Int32) (n : Nat) : Nat → Int32
  | 0 => 0
  | j + 1 => cr_dis W n j ||| (1 <<< (cr_b (cr_most W (cr_out (cr_dis W n j)) n) &&& 31))
def cr_road (W : Nat → Int32) (n j : Nat) : Int32 := cr_b (cr_most W (cr_out (cr_dis W n j)) n)
theorem cr_most_none {W : Nat → Int32} {out : Nat → Bool} {n : Nat} : cr_most W out n = none ↔ ∀ i, i < n → out i = true := by
  induction n with
  | zero => exact ⟨fun _ i h => by omega, fun _ => rfl⟩
  | succ n ih =>
    constructor
    · intro h i hi
      unfold cr_most at h
      split at h
      · rename_i hn
        split at h
        · rename_i ho
          by_cases e : i = n
          · subst e; exact ho
          · exact ih.mp hn i (by omega)
        · cases h
      · split at h
        · cases h
        · split at h <;> cases h
    · intro h
      have h1 := ih.mpr (fun i hi => h i (by omega))
      unfold cr_most
      rw [h1]
      simp [h n (by omega)]
theorem cr_b_neg {o : Option (Nat × Int32)} (hb : ∀ b m, o = some (b, m) → b < 2 ^ 31) : cr_b o < 0 ↔ o = none := by
  cases o with
  | none => exact ⟨fun _ => rfl, fun _ => by decide⟩
  | some bm =>
    obtain ⟨b, m⟩ := bm
    refine ⟨fun h => absurd h (nI_pos (hb b m rfl)), fun h => by cases h⟩
theorem cr_or1 {a b : Int32} (h : ¬ a &&& 1 = 0) : ¬ (a ||| b) &&& 1 = 0 := by
  intro h2
  apply h
  have e1 := congrArg Int32.toBitVec h2
  rw [Int32.toBitVec_and, Int32.toBitVec_or] at e1
  apply Int32.toBitVec_inj.mp
  rw [Int32.toBitVec_and]
  have key : ∀ x y z : BitVec 32, (x ||| y) &&& z = 0#32 → x &&& z = 0#32 := by
    intro x y z hz
    apply BitVec.eq_of_getLsbD_eq
    intro i hi
    have := congrArg (fun q => q.getLsbD i) hz
    simp only [BitVec.getLsbD_and, BitVec.getLsbD_or, BitVec.getLsbD_zero] at this ⊢
    cases hx : x.getLsbD i <;> cases hzz : z.getLsbD i <;> simp_all
  exact key _ _ _ e1
theorem cr_out_or {a b : Int32} {i : Nat} (h : cr_out a i = true) : cr_out (a ||| b) i = true := by
  unfold cr_out at h ⊢
  simp only [decide_eq_true_eq] at h ⊢
  have e : (a ||| b) >>> (nI i &&& 31) = (a >>> (nI i &&& 31)) ||| (b >>> (nI i &&& 31)) := by
    apply Int32.toBitVec_inj.mp
    rw [Int32.toBitVec_or, Int32.toBitVec_shiftRight, Int32.toBitVec_shiftRight, Int32.toBitVec_shiftRight, Int32.toBitVec_or]
    simp only [BitVec.sshiftRight_eq', BitVec.sshiftRight_or_distrib]
  rw [e]
  exact cr_or1 h
/-- whoever finds no road finds none later -/
theorem cr_road_stop {W : Nat → Int32} {n j m : Nat} (hjm : j ≤ m) (h : cr_most W (cr_out (cr_dis W n j)) n = none) : cr_most W (cr_out (cr_dis W n m)) n = none := by
  induction m with
  | zero =>
    have e : j = 0 := by omega
    rw [← e]
    exact h
  | succ m ih =>
    by_cases e : j = m + 1
    · rw [← e]; exact h
    · have h1 := ih (by omega)
      rw [cr_most_none] at h1 ⊢
      intro i hi
      exact cr_out_or (h1 i hi)
set_option maxHeartbeats 4000000 in
theorem l_X2_asked {d r a n l s v lk lm N c : Nat} {w : gx_W} {x : Int32} {k : Int32 → gx_W → Prop} (hd : 5 ≤ d) (h : isCl w r a n l s v lk lm N) (hc : c < 100) (h1 : ∀ w', same [lk, lm] [(l, 5)] w w' → ∀ m, x = nI m → m < n → k (cr_road (cr_want N (w_a w s) (w_a w v) (w_a w a) · c) n m) w') (h2 : ∀ w', same [lk, lm] [(l, 5)] w w' → (∀ m, m < n → x ≠ nI m) → k (-2) w') (hx : ¬ x < 0) : ∀ z i : Nat, i + z = n → (∀ m, m < i → x ≠ nI m) → ∀ (x5 : Value) (w' : gx_W), same [lk, lm] [(l, 5)] w w' → gx_G 0 0 d mX2_asked (Qi k) 29 [.ref r, .int (nI c), .int x, .int (cr_dis (cr_want N (w_a w s) (w_a w v) (w_a w a) · c) n i), .int (nI i), x5] [] w' := by
  intro z
  induction z with
  | zero =>
    intro i hi hno x5 w' hw
    have e : i = n := by omega
    subst e
    obtain ⟨hl, ha1, hs1, hv1⟩ := h.same hw
    refine g_iload dX2_asked_29 rfl ?_
    refine g_aload_n dX2_asked_31 rfl ?_
    refine g_geti dX2_asked_32 fl_X2_19 hl.1.1.1 ?_
    refine g_icmp_ge (tgt := 73) dX2_asked_35 (by decide) (fun _ => ?_) (fun q => absurd (Int32.le_refl _) (by rw [hl.1.2.1] at q; exact q))
    refine g_bipush (v := -2) dX2_asked_73 rfl ?_
    exact g_iret dX2_asked_75 rfl ⟨_, rfl, h2 w' hw hno⟩
  | succ z ih =>
    intro i hi hno x5 w' hw
    have hn6 := h.1.2.2
    have hlt : i < n := by omega
    obtain ⟨hl, ha1, hs1, hv1⟩ := h.same hw
    refine g_iload dX2_asked_29 rfl ?_
    refine g_aload_n dX2_asked_31 rfl ?_
    refine g_geti dX2_asked_32 fl_X2_19 hl.1.1.1 ?_
    refine g_icmp_ge (tgt := 73) dX2_asked_35 (by decide) (fun zc35 => ?_) (fun zc35 => ?_)
    · refine g_bipush (v := -2) dX2_asked_73 rfl ?_
      refine g_iret dX2_asked_75 rfl ⟨_, rfl, ?_⟩
      exact absurd (show w_i w' r 1 ≤ nI i from zc35) (by rw [hl.1.2.1]; exact nI_ge hlt (by omega))
    · refine g_aload_n dX2_asked_38 rfl ?_
      refine g_iload_n dX2_asked_39 rfl ?_
      refine g_iload_n dX2_asked_40 rfl ?_
      refine g_cV2i dX2_asked_41 ml_X2_69 mi_X2_wanter mv_X2_wanter hl.1.1.1 ⟨_, rfl, rfl⟩ (Nat.le_of_ble_eq_true rfl) rfl (by omega) ?_
      refine c_X2_wanter (by omega) hl hc (fun w41 hs41 => ?_)
      obtain ⟨hl1, ha2, hs2, hv2⟩ := hl.same hs41
      rw [ha1, hs1, hv1]
      have hroad : cr_b (cr_most (cr_want N (w_a w s) (w_a w v) (w_a w a) · c) (cr_out (cr_dis (cr_want N (w_a w s) (w_a w v) (w_a w a) · c) n i)) n) = cr_road (cr_want N (w_a w s) (w_a w v) (w_a w a) · c) n i := rfl
      rw [hroad]
      refine g_istore dX2_asked_44 (Nat.le_of_ble_eq_true rfl) rfl ?_
      refine g_iload dX2_asked_46 rfl ?_
      refine g_iload_n dX2_asked_48 rfl ?_
      refine g_icmp_eq (tgt := 57) dX2_asked_49 (by decide) (fun zc49 => ?_) (fun zc49 => ?_)
      · refine g_iload dX2_asked_57 rfl ?_
        refine g_iret dX2_asked_59 rfl ⟨_, rfl, ?_⟩
        exact h1 w41 (hw.tr hs41) i zc49.symm hlt
      · refine g_iload dX2_asked_52 rfl ?_
        refine g_if_ge (tgt := 60) dX2_asked_54 (by decide) (fun zc54 => ?_) (fun zc54 => ?_)
        · refine g_iload_n dX2_asked_60 rfl ?_
          refine g_iconst (v := 1) dX2_asked_61 rfl ?_
          refine g_iload dX2_asked_62 rfl ?_
          refine g_ishl dX2_asked_64 ?_
          refine g_ior dX2_asked_65 ?_
          refine g_istore_n dX2_asked_66 (Nat.le_of_ble_eq_true rfl) rfl ?_
          refine g_iinc dX2_asked_67 rfl rfl ?_
          refine g_goto (tgt := 29) dX2_asked_70 (by decide) ?_
          rw [nI_1']
          exact ih (i + 1) (by omega) (fun m hm e => by
            by_cases e2 : m = i
            · subst e2; exact zc49 e.symm
            · exact hno m (by omega) e) _ w41 (hw.tr hs41)
        · refine g_iload dX2_asked_57 rfl ?_
          refine g_iret dX2_asked_59 rfl ⟨_, rfl, ?_⟩
          have hneg : cr_road (cr_want N (w_a w s) (w_a w v) (w_a w a) · c) n i < 0 := Int32.not_le.mp zc54
          have hnone := (cr_b_neg (fun b m e => by have := cr_most_lt e; omega)).mp hneg
          have e2 : cr_road (cr_want N (w_a w s) (w_a w v) (w_a w a) · c) n i = -2 := by
            unfold cr_road
            rw [hnone]
            rfl
          rw [e2]
          by_cases hex : ∃ m, m < n ∧ x = nI m
          · obtain ⟨m, m1, m2⟩ := hex
            have hmi : i ≤ m := by
              rcases Nat.lt_or_ge m i with q | q
              · exact absurd m2 (hno m q)
              · exact q
            have K := h1 w41 (hw.tr hs41) m m2 m1
            have e3 : cr_road (cr_want N (w_a w s) (w_a w v) (w_a w a) · c) n m = -2 := by
              unfold cr_road
              rw [cr_road_stop hmi hnone]
              rfl
            rw [e3] at K
            exact K
          · exact h2 w41 (hw.tr hs41) (fun m m1 m2 => hex ⟨m, m1, m2⟩)
theorem c_X2_asked {d : Nat} {w : gx_W} {r a n l s v lk lm N : Nat} {c : Nat} {x : Int32} {k : Int32 → gx_W → Prop} (hd : 5 ≤ d) (h : isCl w r a n l s v lk lm N) (hc : c < 100) (hx : ¬ x < 0) (hr1 : cr_runs (w_a w a) n c = true → x = 0 → k (w_a w a 25) w) (hr2 : cr_runs (w_a w a) n c = true → ¬ x = 0 → k (-2) w) (h1 : cr_runs (w_a w a) n c = false → ∀ w', same [lk, lm] [(l, 5)] w w' → ∀ m, x = nI m → m < n → k (cr_road (cr_want N (w_a w s) (w_a w v) (w_a w a) · c) n m) w') (h2 : cr_runs (w_a w a) n c = false → ∀ w', same [lk, lm] [(l, 5)] w w' → (∀ m, m < n → x ≠ nI m) → k (-2) w') : gx_C 0 0 d mX2_asked [.ref r, .int (nI c), .int x] w (Qi k) := by
  refine gx_C_of' (L := [.ref r, .int (nI c), .int x, .retAddr 0, .retAddr 0, .retAddr 0]) (by decide +kernel) rfl (Nat.le_of_ble_eq_true rfl) ?_
  refine g_aload_n dX2_asked_0 rfl ?_
  refine g_iload_n dX2_asked_1 rfl ?_
  refine g_cV1i dX2_asked_2 ml_X2_66 mi_X2_isRunner mv_X2_isRunner h.1.1.1 ⟨_, rfl, rfl⟩ (Nat.le_of_ble_eq_true rfl) rfl (by omega) ?_
  refine c_X2_isRunner (by omega) h.1 hc (fun e1 => ?_) (fun e1 => ?_)
  · refine g_if_eq (tgt := 24) dX2_asked_5 (by decide) (fun q => absurd q (by decide)) (fun _ => ?_)
    refine g_iload_n dX2_asked_8 rfl ?_
    refine g_if_ne (tgt := 21) dX2_asked_9 (by decide) (fun zc9 => ?_) (fun zc9 => ?_)
    · refine g_bipush (v := -2) dX2_asked_21 rfl ?_
      refine g_iret dX2_asked_23 rfl ⟨_, rfl, ?_⟩
      exact hr2 e1 zc9
    · refine g_aload_n dX2_asked_12 rfl ?_
      refine g_iconst (v := 0) dX2_asked_13 rfl ?_
      refine g_iconst (v := 5) dX2_asked_14 rfl ?_
      refine g_cV2i dX2_asked_15 ml_X2_50 mi_X2_number mv_X2_number h.1.1.1 ⟨_, rfl, rfl⟩ (Nat.le_of_ble_eq_true rfl) rfl (by omega) ?_
      refine c_number_g (q := 5) (by omega) h.1 (by decide) (by decide) rfl ?_
      refine g_goto (tgt := 23) dX2_asked_18 (by decide) ?_
      refine g_iret dX2_asked_23 rfl ⟨_, rfl, ?_⟩
      exact hr1 e1 (by simpa using zc9)
  · refine g_if_eq (tgt := 24) dX2_asked_5 (by decide) (fun _ => ?_) (fun q => absurd q (by decide))
    refine g_iconst (v := 0) dX2_asked_24 rfl ?_
    refine g_istore_n dX2_asked_25 (Nat.le_of_ble_eq_true rfl) rfl ?_
    refine g_iconst (v := 0) dX2_asked_26 rfl ?_
    refine g_istore dX2_asked_27 (Nat.le_of_ble_eq_true rfl) rfl ?_
    exact l_X2_asked hd h hc (h1 e1) (h2 e1) hx n 0 (by omega) (fun m hm => by omega) _ w same.rf
set_option maxHeartbeats 4000000 in
theorem l_X2_hasAllOf {d r a n l s v lk lm N p : Nat} {w : gx_W} {x : Int32} {k : Int32 → gx_W → Prop} (hd : 6 ≤ d) (h : isCl w r a n l s v lk lm N) (hp : p < 10) (h1 : ∀ w', same [lk, lm] [(l, 5)] w w' → (∀ j, j < 10 → cr_has N (w_a w s) (w_a w v) (w_a w a) n (10 * p + j) = x) → k 1 w') (h2 : ∀ w', same [lk, lm] [(l, 5)] w w' → (∃ j, j < 10 ∧ ¬ cr_has N (w_a w s) (w_a w v) (w_a w a) n (10 * p + j) = x) → k 0 w') : ∀ z i : Nat, i + z = 10 → (∀ j, j < i → cr_has N (w_a w s) (w_a w v) (w_a w a) n (10 * p + j) = x) → ∀ (w' : gx_W), same [lk, lm] [(l, 5)] w w' → gx_G 0 0 d mX2_hasAllOf (Qi k) 2 [.ref r, .int x, .int (nI p), .int (nI i)] [] w' := by
  intro z
  induction z with
  | zero =>
    intro i hi hall w' hw
    have e : i = 10 := by omega
    subst e
    refine g_iload_n dX2_hasAllOf_2 rfl ?_
    refine g_bipush (v := 10) dX2_hasAllOf_3 rfl ?_
    refine g_icmp_ge (tgt := 30) dX2_hasAllOf_5 (by decide) (fun _ => ?_) (fun q => absurd (show (10 : Int32) ≤ nI 10 by decide) q)
    refine g_iconst (v := 1) dX2_hasAllOf_30 rfl ?_
    exact g_zret dX2_hasAllOf_31 rfl (Or.inr rfl) ⟨_, rfl, h1 w' hw hall⟩
  | succ z ih =>
    intro i hi hall w' hw
    have hlt : i < 10 := by omega
    obtain ⟨hl, ha1, hs1, hv1⟩ := h.same hw
    have ec : (10 : Int32) * nI p + nI i = nI (10 * p + i) := by
      rw [show (10 : Int32) = nI 10 from rfl, pk_mul, nI_add]
    refine g_iload_n dX2_hasAllOf_2 rfl ?_
    refine g_bipush (v := 10) dX2_hasAllOf_3 rfl ?_
    refine g_icmp_ge (tgt := 30) dX2_hasAllOf_5 (by decide) (fun zc5 => ?_) (fun zc5 => ?_)
    · refine g_iconst (v := 1) dX2_hasAllOf_30 rfl ?_
      refine g_zret dX2_hasAllOf_31 rfl (Or.inr rfl) ⟨_, rfl, ?_⟩
      exact absurd (show (10 : Int32) ≤ nI i from zc5) (nI_ge (b := 10) hlt (by decide))
    · refine g_aload_n dX2_hasAllOf_8 rfl ?_
      refine g_bipush (v := 10) dX2_hasAllOf_9 rfl ?_
      refine g_iload_n dX2_hasAllOf_11 rfl ?_
      refine g_imul dX2_hasAllOf_12 ?_
      refine g_iload_n dX2_hasAllOf_13 rfl ?_
      refine g_iadd dX2_hasAllOf_14 ?_
      rw [ec]
      refine g_cV1i dX2_hasAllOf_15 ml_X2_75 mi_X2_haver mv_X2_haver hl.1.1.1 ⟨_, rfl, rfl⟩ (Nat.le_of_ble_eq_true rfl) rfl (by omega) ?_
      refine c_X2_haver (by omega) hl (show 10 * p + i < 100 by omega) (fun w15 hs15 => ?_)
      rw [ha1, hs1, hv1]
      refine g_iload_n dX2_hasAllOf_18 rfl ?_
      refine g_icmp_eq (tgt := 24) dX2_hasAllOf_19 (by decide) (fun zc19 => ?_) (fun zc19 => ?_)
      · refine g_iinc dX2_hasAllOf_24 rfl rfl ?_
        refine g_goto (tgt := 2) dX2_hasAllOf_27 (by decide) ?_
        rw [nI_1']
        exact ih (i + 1) (by omega) (fun j hj => by
          by_cases e : j = i
          · subst e; exact zc19
          · exact hall j (by omega)) w15 (hw.tr hs15)
      · refine g_iconst (v := 0) dX2_hasAllOf_22 rfl ?_
        refine g_zret dX2_hasAllOf_23 rfl (Or.inl rfl) ⟨_, rfl, ?_⟩
        exact h2 w15 (hw.tr hs15) ⟨i, hlt, zc19⟩
theorem c_X2_hasAllOf {d : Nat} {w : gx_W} {r a n l s v lk lm N : Nat} {p : Nat} {x : Int32} {k : Int32 → gx_W → Prop} (hd : 6 ≤ d) (h : isCl w r a n l s v lk lm N) (hp : p < 10) (h1 : ∀ w', same [lk, lm] [(l, 5)] w w' → (∀ j, j < 10 → cr_has N (w_a w s) (w_a w v) (w_a w a) n (10 * p + j) = x) → k 1 w') (h2 : ∀ w', same [lk, lm] [(l, 5)] w w' → (∃ j, j < 10 ∧ ¬ cr_has N (w_a w s) (w_a w v) (w_a w a) n (10 * p + j) = x) → k 0 w') : gx_C 0 0 d mX2_hasAllOf [.ref r, .int x, .int (nI p)] w (Qi k) := by
  refine gx_C_of' (L := [.ref r, .int x, .int (nI p), .retAddr 0]) (by decide +kernel) rfl (Nat.le_of_ble_eq_true rfl) ?_
  refine g_iconst (v := 0) dX2_hasAllOf_0 rfl ?_
  refine g_istore_n dX2_hasAllOf_1 (Nat.le_of_ble_eq_true rfl) rfl ?_
  exact l_X2_hasAllOf hd h hp h1 h2 10 0 (by omega) (fun j hj => by omega) w same.rf

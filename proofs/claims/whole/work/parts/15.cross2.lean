/-! Crossing: a road is added, copies, who runs, who has whom -/
theorem pI_div10 {c : Nat} (hc : c < 100) : nI c / 10 = nI (c / 10) := by
  have h : ∀ c, c < 100 → nI c / 10 = nI (c / 10) := by decide
  exact h c hc
theorem pI_rem10 {c : Nat} (hc : c < 100) : nI c - nI c / 10 * 10 = nI (c % 10) := by
  have h : ∀ c, c < 100 → nI c - nI c / 10 * 10 = nI (c % 10) := by decide
  exact h c hc
/-- the row behind add -/
def cr_put (f : Nat → Int32) (n : Nat) (x y z : Int32) : Nat → Int32 := va_up (va_up (va_up (va_up f n x) (6 + n) y) (12 + n) z) (18 + n) 0
/-- who runs: pace 10 of him is RUN or more, and there is that road -/
def cr_runs (f : Nat → Int32) (n c : Nat) : Bool := decide (f 24 ≤ nI (c / 10)) && decide (0 ≤ f 25 ∧ f 25 < nI n)
/-- how much a road wants a comer -/
def cr_hold (x : Int32) : Int32 := if (-999 : Int32) < (if (999 : Int32) > x then x else 999) then (if (999 : Int32) > x then x else 999) else -999
def cr_want (N : Nat) (sg va f : Nat → Int32) (m c : Nat) : Int32 := if N = 0 then f m + f (18 + m) + f (6 + m) - nI (c / 10) else cr_hold (lw_run sg va (lw_nm (f m) (f (18 + m)) (f (6 + m)) (nI (c / 10)) (nI (c % 10)) (nI m)) N 0 false [])
/-- who wants most, of those ahead of i that are not out -/
def cr_most (W : Nat → Int32) (out : Nat → Bool) : Nat → Option (Nat × Int32)
  | 0 => none
  | i + 1 => match cr_most W out i with
    | none => if out i then none else some (i, W i)
    | some (b, m) => if out i then some (b, m) else if W i > m then some (i, W i) else some (b, m)
def cr_b (o : Option (Nat × Int32)) : Int32 := match o with
  | none => -2
  | some (b, _) => nI b
def cr_m (o : Option (Nat × Int32)) : Int32 := match o with
  | none => 0
  | some (_, m) => m
theorem cr_most_lt {W : Nat → Int32} {out : Nat → Bool} {i b : Nat} {m : Int32} (h : cr_most W out i = some (b, m)) : b < i := by
  induction i generalizing b m with
  | zero => cases h
  | succ i ih =>
    unfold cr_most at h
    split at h
    · split at h
      · cases h
      · cases h; omega
    · rename_i b' m' h'
      have := ih h'
      split at h
      · cases h; omega
      · split at h
        · cases h; omega
        · cases h; omega
theorem cr_most_out {W : Nat → Int32} {out : Nat → Bool} {i : Nat} (h : out i = true) : cr_most W out (i + 1) = cr_most W out i := by
  conv => lhs; unfold cr_most
  cases hm : cr_most W out i with
  | none => simp [h]
  | some bm => simp [h]
theorem cr_most_take {W : Nat → Int32} {out : Nat → Bool} {i : Nat} (hi : i < 1000) (h : out i = false) (hb : cr_b (cr_most W out i) = -2 ∨ cr_m (cr_most W out i) < W i) : cr_most W out (i + 1) = some (i, W i) := by
  conv => lhs; unfold cr_most
  cases hm : cr_most W out i with
  | none => simp [h]
  | some bm =>
    obtain ⟨b, m⟩ := bm
    have hlt := cr_most_lt hm
    rw [hm] at hb
    rcases hb with hb | hb
    · have e : nI b = -2 := hb
      have e2 := congrArg Int32.toInt e
      rw [nI_toInt (by omega)] at e2
      have e3 : (-2 : Int32).toInt = -2 := by decide
      omega
    · have e : m < W i := hb
      simp [h, e]
theorem cr_most_keep {W : Nat → Int32} {out : Nat → Bool} {i : Nat} (h : out i = false) (hb : ¬ cr_b (cr_most W out i) = -2) (hm : W i ≤ cr_m (cr_most W out i)) : cr_most W out (i + 1) = cr_most W out i := by
  conv => lhs; unfold cr_most
  cases hmo : cr_most W out i with
  | none => rw [hmo] at hb; exact absurd rfl hb
  | some bm =>
    obtain ⟨b, m⟩ := bm
    rw [hmo] at hm
    have e : ¬ W i > m := Int32.not_lt.mpr hm
    simp [h, e]
/-- the crossing, its law told by N steps -/
def isCl (w : gx_W) (r a n l s v lk lm N : Nat) : Prop := isCn w r a n ∧ w_r w r 2 = some l ∧ isLw w l s v lk lm ∧ w_i w l 4 = nI N ∧ N ≤ 128 ∧ (s ≠ lk ∧ s ≠ lm ∧ v ≠ lk ∧ v ≠ lm ∧ lk ≠ lm) ∧ a ≠ lk ∧ a ≠ lm ∧ r ≠ l
theorem isCl.same {w w' : gx_W} {r a n l s v lk lm N : Nat} (h : isCl w r a n l s v lk lm N) (hs : same [lk, lm] [(l, 5)] w w') : isCl w' r a n l s v lk lm N ∧ w_a w' a = w_a w a ∧ w_a w' s = w_a w s ∧ w_a w' v = w_a w v := by
  obtain ⟨h1, h2, h3, h4, h5, h6, h7, h8, h9⟩ := h
  refine ⟨⟨h1.same hs (by simp [h9]), by rw [hs.2.2.1]; exact h2, h3.same hs, (hs.2.1 l 4 (by simp)).trans h4, h5, h6, h7, h8, h9⟩, (hs.2.2.2.1 a (by simp [h7, h8])).1, (hs.2.2.2.1 s (by simp [h6.1, h6.2.1])).1, (hs.2.2.2.1 v (by simp [h6.2.2.1, h6.2.2.2.1])).1⟩
theorem s_a_i {w : gx_W} {a r j : Nat} {f : Nat → Int32} {v : Int32} : s_a (s_i w r j v) a f = s_i (s_a w a f) r j v := rfl
theorem c_X2_add {d : Nat} {w : gx_W} {r a n : Nat} {x y z : Int32} {k : Int32 → gx_W → Prop} (hd : 2 ≤ d) (h : isCn w r a n) (h1 : n < 6 → k (nI n) (s_a (s_i w r 1 (nI (n + 1))) a (cr_put (w_a w a) n x y z))) (h2 : n = 6 → k (-3) w) : gx_C 0 0 d mX2_add [.ref r, .int x, .int y, .int z] w (Qi k) := by
  refine gx_C_of' (L := [.ref r, .int x, .int y, .int z, .retAddr 0]) (by decide +kernel) rfl (Nat.le_of_ble_eq_true rfl) ?_
  refine g_aload_n dX2_add_0 rfl ?_
  refine g_cV0i dX2_add_1 ml_X2_23 mi_X2_isFull mv_X2_isFull h.1.1 ⟨_, rfl, rfl⟩ (Nat.le_of_ble_eq_true rfl) rfl (by omega) ?_
  refine c_X2_isFull (by omega) h (fun e6 => ?_) (fun e6 => ?_)
  · refine g_if_eq (tgt := 10) dX2_add_4 (by decide) (fun q => absurd q (by decide)) (fun _ => ?_)
    refine g_bipush (v := -3) dX2_add_7 rfl ?_
    refine g_iret dX2_add_9 rfl ⟨_, rfl, ?_⟩
    exact h2 e6
  · refine g_if_eq (tgt := 10) dX2_add_4 (by decide) (fun _ => ?_) (fun q => absurd q (by decide))
    refine g_aload_n dX2_add_10 rfl ?_
    refine g_geti dX2_add_11 fl_X2_19 h.1.1 ?_
    refine g_istore dX2_add_14 (Nat.le_of_ble_eq_true rfl) rfl ?_
    refine g_aload_n dX2_add_16 rfl ?_
    refine g_dup dX2_add_17 rfl ?_
    refine g_geti dX2_add_18 fl_X2_19 h.1.1 ?_
    refine g_iconst (v := 1) dX2_add_21 rfl ?_
    refine g_iadd dX2_add_22 ?_
    refine g_puti dX2_add_23 fl_X2_19 ft_2_1 h.1.1 ?_
    have e0 : w_i w r 1 = nI n := h.2.1
    have e1 : w_i w r 1 + 1 = nI (n + 1) := by rw [e0, nI_succ]
    rw [e1]
    have hn1 : isCn (s_i w r 1 (nI (n + 1))) r a (n + 1) := ⟨h.1, by rw [wi_si, if_pos ⟨rfl, rfl⟩], by omega⟩
    refine g_aload_n dX2_add_26 rfl ?_
    refine g_iload dX2_add_27 rfl ?_
    refine g_iconst (v := 0) dX2_add_29 rfl ?_
    refine g_iload_n dX2_add_30 rfl ?_
    refine g_cV3v dX2_add_31 ml_X2_27 mi_X2_become mv_X2_become h.1.1 ⟨_, rfl, rfl⟩ (Nat.le_of_ble_eq_true rfl) rfl (by omega) ?_
    refine c_become_r (q := 0) (m := n) (by omega) hn1 (by decide) (by omega) rfl e0 ?_
    refine g_aload_n dX2_add_34 rfl ?_
    refine g_iload dX2_add_35 rfl ?_
    refine g_iconst (v := 1) dX2_add_37 rfl ?_
    refine g_iload_n dX2_add_38 rfl ?_
    refine g_cV3v dX2_add_39 ml_X2_27 mi_X2_become mv_X2_become h.1.1 ⟨_, rfl, rfl⟩ (Nat.le_of_ble_eq_true rfl) rfl (by omega) ?_
    refine c_become_r (q := 1) (m := n) (by omega) hn1 (by decide) (by omega) rfl e0 ?_
    refine g_aload_n dX2_add_42 rfl ?_
    refine g_iload dX2_add_43 rfl ?_
    refine g_iconst (v := 2) dX2_add_45 rfl ?_
    refine g_iload_n dX2_add_46 rfl ?_
    refine g_cV3v dX2_add_47 ml_X2_27 mi_X2_become mv_X2_become h.1.1 ⟨_, rfl, rfl⟩ (Nat.le_of_ble_eq_true rfl) rfl (by omega) ?_
    refine c_become_r (q := 2) (m := n) (by omega) hn1 (by decide) (by omega) rfl e0 ?_
    refine g_aload_n dX2_add_50 rfl ?_
    refine g_iload dX2_add_51 rfl ?_
    refine g_iconst (v := 3) dX2_add_53 rfl ?_
    refine g_iconst (v := 0) dX2_add_54 rfl ?_
    refine g_cV3v dX2_add_55 ml_X2_27 mi_X2_become mv_X2_become h.1.1 ⟨_, rfl, rfl⟩ (Nat.le_of_ble_eq_true rfl) rfl (by omega) ?_
    refine c_become_r (q := 3) (m := n) (by omega) hn1 (by decide) (by omega) rfl e0 ?_
    refine g_iload dX2_add_58 rfl ?_
    refine g_iret dX2_add_60 rfl ⟨_, rfl, ?_⟩
    have K := h1 e6
    rw [e0]
    simp only [s_a_a, wa_sa, if_true, wa_si]
    have e : va_up (va_up (va_up (va_up (w_a w a) (0 * 6 + n) x) (1 * 6 + n) y) (2 * 6 + n) z) (3 * 6 + n) 0 = cr_put (w_a w a) n x y z := by
      unfold cr_put
      simp only [Nat.zero_mul, Nat.zero_add, Nat.one_mul]
    rw [e]
    exact K
theorem c_X2_copy {d : Nat} {w : gx_W} {r a o b n2 l : Nat} {k : gx_W → Prop} (hd : 1 ≤ d) (h : isCr w r a) (ho : isCn w o b n2) (hl : w_r w o 2 = some l) (kk : k (s_r (s_i (s_a w a (va_cpy (w_a w b) (w_a w a) 0 0 28)) r 1 (nI n2)) r 2 (some l))) : gx_C 0 0 d mX2_copy [.ref r, .ref o] w (Qv k) := by
  refine gx_C_of' (L := [.ref r, .ref o]) (by decide +kernel) rfl (Nat.le_of_ble_eq_true rfl) ?_
  refine g_aload_n dX2_copy_0 rfl ?_
  refine g_getr dX2_copy_1 fl_X2_11 ho.1.1 ho.1.2.1 ?_
  refine g_iconst (v := 0) dX2_copy_4 rfl ?_
  refine g_aload_n dX2_copy_5 rfl ?_
  refine g_getr dX2_copy_6 fl_X2_11 h.1 h.2.1 ?_
  refine g_iconst (v := 0) dX2_copy_9 rfl ?_
  refine g_bipush (v := 28) dX2_copy_10 rfl ?_
  refine g_copyi dX2_copy_12 cp_X2_36 ho.1.2.2 h.2.2 (by decide) (by decide) (by decide) (by decide) (by decide) (Nat.le_of_ble_eq_true rfl) rfl (by omega) ?_
  refine g_aload_n dX2_copy_15 rfl ?_
  refine g_aload_n dX2_copy_16 rfl ?_
  refine g_geti dX2_copy_17 fl_X2_19 ho.1.1 ?_
  refine g_puti dX2_copy_20 fl_X2_19 ft_2_1 h.1 ?_
  refine g_aload_n dX2_copy_23 rfl ?_
  refine g_aload_n dX2_copy_24 rfl ?_
  refine g_getr dX2_copy_25 fl_X2_15 ho.1.1 hl ?_
  refine g_putr dX2_copy_28 fl_X2_15 ft_2_2 rfl (fun h => by cases h) h.1 ?_
  refine g_vret dX2_copy_31 rfl ⟨rfl, ?_⟩
  have e : w_i (s_a w a (va_cpy (w_a w b) (w_a w a) 0 0 28)) o 1 = nI n2 := ho.2.1
  have K := kk
  rw [← e] at K
  exact K
theorem c_X2_giveWaits {d : Nat} {w : gx_W} {r a n : Nat} {b : Nat} {k : gx_W → Prop} (hd : 1 ≤ d) (h : isCn w r a n) (hb6 : w.1[b]? = some (20, 6)) (kk : k (s_a w b (va_cpy (w_a w a) (w_a w b) 18 0 6))) : gx_C 0 0 d mX2_giveWaits [.ref r, .ref b] w (Qv k) := by
  refine gx_C_of' (L := [.ref r, .ref b]) (by decide +kernel) rfl (Nat.le_of_ble_eq_true rfl) ?_
  refine g_aload_n dX2_giveWaits_0 rfl ?_
  refine g_getr dX2_giveWaits_1 fl_X2_11 h.1.1 h.1.2.1 ?_
  refine g_bipush (v := 18) dX2_giveWaits_4 rfl ?_
  refine g_aload_n dX2_giveWaits_6 rfl ?_
  refine g_iconst (v := 0) dX2_giveWaits_7 rfl ?_
  refine g_aload_n dX2_giveWaits_8 rfl ?_
  refine g_alen dX2_giveWaits_9 hb6 (by decide) ?_
  refine g_bipush (v := 6) dX2_giveWaits_10 rfl ?_
  refine g_cS2i dX2_giveWaits_12 ml_X2_42 mi_J9_min_7cf53 ms_J9_min_7cf53 (Nat.le_of_ble_eq_true rfl) rfl (by omega) ?_
  refine c_J9_min_7cf53 (by omega) ?_
  rw [show (if Int32.ofNat 6 > (6 : Int32) then (6 : Int32) else Int32.ofNat 6) = 6 by decide]
  refine g_copyi dX2_giveWaits_15 cp_X2_36 h.1.2.2 hb6 (by decide) (by decide) (by decide) (by decide) (by decide) (Nat.le_of_ble_eq_true rfl) rfl (by omega) ?_
  refine g_vret dX2_giveWaits_18 rfl ⟨rfl, ?_⟩
  exact kk
theorem c_X2_takeWaits {d : Nat} {w : gx_W} {r a n : Nat} {b : Nat} {m : Nat} {k : gx_W → Prop} (hd : 1 ≤ d) (h : isCn w r a n) (hb6 : w.1[b]? = some (20, 6)) (hm : m ≤ 6) (kk : k (s_a w a (va_cpy (w_a w b) (w_a w a) 0 18 m))) : gx_C 0 0 d mX2_takeWaits [.ref r, .ref b, .int (nI m)] w (Qv k) := by
  refine gx_C_of' (L := [.ref r, .ref b, .int (nI m), .retAddr 0]) (by decide +kernel) rfl (Nat.le_of_ble_eq_true rfl) ?_
  refine g_iload_n dX2_takeWaits_0 rfl ?_
  refine g_aload_n dX2_takeWaits_1 rfl ?_
  refine g_alen dX2_takeWaits_2 hb6 (by decide) ?_
  refine g_cS2i dX2_takeWaits_3 ml_X2_42 mi_J9_min_7cf53 ms_J9_min_7cf53 (Nat.le_of_ble_eq_true rfl) rfl (by omega) ?_
  refine c_J9_min_7cf53 (by omega) ?_
  have em : (if nI m > Int32.ofNat 6 then Int32.ofNat 6 else nI m) = nI m := by
    match m, hm with
    | 0, _ => decide
    | 1, _ => decide
    | 2, _ => decide
    | 3, _ => decide
    | 4, _ => decide
    | 5, _ => decide
    | 6, _ => decide
    | z + 7, hz => exact absurd hz (by omega)
  rw [em]
  refine g_bipush (v := 6) dX2_takeWaits_6 rfl ?_
  refine g_cS2i dX2_takeWaits_8 ml_X2_42 mi_J9_min_7cf53 ms_J9_min_7cf53 (Nat.le_of_ble_eq_true rfl) rfl (by omega) ?_
  refine c_J9_min_7cf53 (by omega) ?_
  have em2 : (if nI m > (6 : Int32) then (6 : Int32) else nI m) = nI m := em
  rw [em2]
  refine g_istore_n dX2_takeWaits_11 (Nat.le_of_ble_eq_true rfl) rfl ?_
  refine g_aload_n dX2_takeWaits_12 rfl ?_
  refine g_iconst (v := 0) dX2_takeWaits_13 rfl ?_
  refine g_aload_n dX2_takeWaits_14 rfl ?_
  refine g_getr dX2_takeWaits_15 fl_X2_11 h.1.1 h.1.2.1 ?_
  refine g_bipush (v := 18) dX2_takeWaits_18 rfl ?_
  refine g_iload_n dX2_takeWaits_20 rfl ?_
  refine g_iconst (v := 0) dX2_takeWaits_21 rfl ?_
  refine g_cS2i dX2_takeWaits_22 ml_X2_47 mi_J9_max_7cf53 ms_J9_max_7cf53 (Nat.le_of_ble_eq_true rfl) rfl (by omega) ?_
  refine c_J9_max_7cf53 (by omega) ?_
  have em3 : (if nI m < (0 : Int32) then (0 : Int32) else nI m) = nI m := if_neg (nI_pos (by omega))
  rw [em3]
  refine g_copyi dX2_takeWaits_25 cp_X2_36 hb6 h.1.2.2 (by decide) (by decide) (nI_pos (by omega)) (by rw [nI_n (by omega)]; show 0 + m ≤ 6; omega) (by rw [nI_n (by omega)]; show 18 + m ≤ 28; omega) (Nat.le_of_ble_eq_true rfl) rfl (by omega) ?_
  refine g_vret dX2_takeWaits_28 rfl ⟨rfl, ?_⟩
  rw [nI_n (by omega)]
  exact kk
theorem c_X2_isRunner {d : Nat} {w : gx_W} {r a n : Nat} {c : Nat} {k : Int32 → gx_W → Prop} (hd : 2 ≤ d) (h : isCn w r a n) (hc : c < 100) (kt : cr_runs (w_a w a) n c = true → k 1 w) (kf : cr_runs (w_a w a) n c = false → k 0 w) : gx_C 0 0 d mX2_isRunner [.ref r, .int (nI c)] w (Qi k) := by
  refine gx_C_of' (L := [.ref r, .int (nI c)]) (by decide +kernel) rfl (Nat.le_of_ble_eq_true rfl) ?_
  refine g_iload_n dX2_isRunner_0 rfl ?_
  refine g_bipush (v := 10) dX2_isRunner_1 rfl ?_
  refine g_idiv dX2_isRunner_3 (by first | assumption | decide) ?_
  rw [pI_div10 hc]
  refine g_aload_n dX2_isRunner_4 rfl ?_
  refine g_iconst (v := 0) dX2_isRunner_5 rfl ?_
  refine g_iconst (v := 4) dX2_isRunner_6 rfl ?_
  refine g_cV2i dX2_isRunner_7 ml_X2_50 mi_X2_number mv_X2_number h.1.1 ⟨_, rfl, rfl⟩ (Nat.le_of_ble_eq_true rfl) rfl (by omega) ?_
  refine c_number_g (q := 4) (by omega) h (by decide) (by decide) rfl ?_
  refine g_icmp_lt (tgt := 30) dX2_isRunner_10 (by decide) (fun zc10 => ?_) (fun zc10 => ?_)
  · refine g_iconst (v := 0) dX2_isRunner_30 rfl ?_
    refine g_zret dX2_isRunner_31 rfl (Or.inl rfl) ⟨_, rfl, ?_⟩
    refine kf ?_
    have hb := h.2.2
    rw [Bool.eq_false_iff]
    intro z
    simp only [cr_runs, Bool.and_eq_true, decide_eq_true_eq] at z
    first
      | exact absurd z.1 (Int32.not_le.mpr zc10)
      | (obtain ⟨m, m1, m2⟩ := pI_cases (n := n) (by omega) (Int32.not_lt.mpr z.2.1) z.2.2
         exact e1 m m1 m2)
  · refine g_aload_n dX2_isRunner_13 rfl ?_
    refine g_aload_n dX2_isRunner_14 rfl ?_
    refine g_iconst (v := 0) dX2_isRunner_15 rfl ?_
    refine g_iconst (v := 5) dX2_isRunner_16 rfl ?_
    refine g_cV2i dX2_isRunner_17 ml_X2_50 mi_X2_number mv_X2_number h.1.1 ⟨_, rfl, rfl⟩ (Nat.le_of_ble_eq_true rfl) rfl (by omega) ?_
    refine c_number_g (q := 5) (by omega) h (by decide) (by decide) rfl ?_
    refine g_cV1i dX2_isRunner_20 ml_X2_53 mi_X2_isRoad mv_X2_isRoad h.1.1 ⟨_, rfl, rfl⟩ (Nat.le_of_ble_eq_true rfl) rfl (by omega) ?_
    refine c_X2_isRoad (by omega) h (fun m e1 e2 => ?_) (fun e1 => ?_)
    · refine g_if_eq (tgt := 30) dX2_isRunner_23 (by decide) (fun q => absurd q (by decide)) (fun _ => ?_)
      refine g_iconst (v := 1) dX2_isRunner_26 rfl ?_
      refine g_goto (tgt := 31) dX2_isRunner_27 (by decide) ?_
      refine g_zret dX2_isRunner_31 rfl (Or.inr rfl) ⟨_, rfl, ?_⟩
      refine kt ?_
      have hb := h.2.2
      have g1 : w_a w a 24 ≤ nI (c / 10) := Int32.not_lt.mp (fun z => zc10 z)
      have e1' : w_a w a 25 = nI m := e1
      simp only [cr_runs, Bool.and_eq_true, decide_eq_true_eq]
      refine ⟨g1, ?_, ?_⟩
      · rw [e1']; exact nI_pos' (by omega)
      · rw [e1']; exact nI_lt e2 (by omega)
    · refine g_if_eq (tgt := 30) dX2_isRunner_23 (by decide) (fun _ => ?_) (fun q => absurd q (by decide))
      refine g_iconst (v := 0) dX2_isRunner_30 rfl ?_
      refine g_zret dX2_isRunner_31 rfl (Or.inl rfl) ⟨_, rfl, ?_⟩
      refine kf ?_
      have hb := h.2.2
      rw [Bool.eq_false_iff]
      intro z
      simp only [cr_runs, Bool.and_eq_true, decide_eq_true_eq] at z
      first
        | exact absurd z.1 (Int32.not_le.mpr zc10)
        | (obtain ⟨m, m1, m2⟩ := pI_cases (n := n) (by omega) (Int32.not_lt.mpr z.2.1) z.2.2
           exact e1 m m1 m2)
theorem c_X2_wants {d : Nat} {w : gx_W} {r a n l s v lk lm N : Nat} {m c : Nat} {k : Int32 → gx_W → Prop} (hd : 3 ≤ d) (h : isCl w r a n l s v lk lm N) (hm : m < n) (hc : c < 100) (kk : ∀ w', same [lk, lm] [(l, 5)] w w' → k (cr_want N (w_a w s) (w_a w v) (w_a w a) m c) w') : gx_C 0 0 d mX2_wants [.ref r, .int (nI m), .int (nI c)] w (Qi k) := by
  refine gx_C_of' (L := [.ref r, .int (nI m), .int (nI c), .retAddr 0, .retAddr 0, .retAddr 0, .retAddr 0, .retAddr 0]) (by decide +kernel) rfl (Nat.le_of_ble_eq_true rfl) ?_
  refine g_aload_n dX2_wants_0 rfl ?_
  refine g_iload_n dX2_wants_1 rfl ?_
  refine g_iconst (v := 0) dX2_wants_2 rfl ?_
  refine g_cV2i dX2_wants_3 ml_X2_50 mi_X2_number mv_X2_number h.1.1.1 ⟨_, rfl, rfl⟩ (Nat.le_of_ble_eq_true rfl) rfl (by omega) ?_
  refine c_number_r (q := 0) (by omega) h.1 (by decide) hm rfl rfl ?_
  refine g_istore_n dX2_wants_6 (Nat.le_of_ble_eq_true rfl) rfl ?_
  refine g_aload_n dX2_wants_7 rfl ?_
  refine g_iload_n dX2_wants_8 rfl ?_
  refine g_iconst (v := 3) dX2_wants_9 rfl ?_
  refine g_cV2i dX2_wants_10 ml_X2_50 mi_X2_number mv_X2_number h.1.1.1 ⟨_, rfl, rfl⟩ (Nat.le_of_ble_eq_true rfl) rfl (by omega) ?_
  refine c_number_r (q := 3) (by omega) h.1 (by decide) hm rfl rfl ?_
  refine g_istore dX2_wants_13 (Nat.le_of_ble_eq_true rfl) rfl ?_
  refine g_aload_n dX2_wants_15 rfl ?_
  refine g_iload_n dX2_wants_16 rfl ?_
  refine g_iconst (v := 1) dX2_wants_17 rfl ?_
  refine g_cV2i dX2_wants_18 ml_X2_50 mi_X2_number mv_X2_number h.1.1.1 ⟨_, rfl, rfl⟩ (Nat.le_of_ble_eq_true rfl) rfl (by omega) ?_
  refine c_number_r (q := 1) (by omega) h.1 (by decide) hm rfl rfl ?_
  refine g_istore dX2_wants_21 (Nat.le_of_ble_eq_true rfl) rfl ?_
  refine g_iload_n dX2_wants_23 rfl ?_
  refine g_bipush (v := 10) dX2_wants_24 rfl ?_
  refine g_idiv dX2_wants_26 (by first | assumption | decide) ?_
  rw [pI_div10 hc]
  refine g_istore dX2_wants_27 (Nat.le_of_ble_eq_true rfl) rfl ?_
  refine g_aload_n dX2_wants_29 rfl ?_
  refine g_getr dX2_wants_30 fl_X2_15 h.1.1.1 h.2.1 ?_
  refine g_cV0i dX2_wants_33 ml_X2_57 mi_X4_isTold mv_X4_isTold h.2.2.1.1 ⟨_, rfl, rfl⟩ (Nat.le_of_ble_eq_true rfl) rfl (by omega) ?_
  refine c_X4_isTold (by omega) h.2.2.1 (fun e1 => ?_) (fun e1 => ?_)
  · refine g_if_ne (tgt := 50) dX2_wants_36 (by decide) (fun _ => ?_) (fun q => absurd q (by decide))
    refine g_aload_n dX2_wants_50 rfl ?_
    refine g_getr dX2_wants_51 fl_X2_15 h.1.1.1 h.2.1 ?_
    refine g_iload_n dX2_wants_54 rfl ?_
    refine g_iload dX2_wants_55 rfl ?_
    refine g_iload dX2_wants_57 rfl ?_
    refine g_iload dX2_wants_59 rfl ?_
    refine g_iload_n dX2_wants_61 rfl ?_
    refine g_bipush (v := 10) dX2_wants_62 rfl ?_
    refine g_irem dX2_wants_64 (by first | assumption | decide) ?_
    refine g_iload_n dX2_wants_65 rfl ?_
    rw [pI_rem10 hc]
    rw [show 0 * 6 + m = m by omega, show 1 * 6 + m = 6 + m by omega, show 3 * 6 + m = 18 + m by omega]
    refine g_cV6i dX2_wants_66 ml_X2_62 mi_X4_gives mv_X4_gives h.2.2.1.1 ⟨_, rfl, rfl⟩ (Nat.le_of_ble_eq_true rfl) rfl (by omega) ?_
    refine c_X4_gives (by omega) h.2.2.1 h.2.2.2.1 h.2.2.2.2.1 h.2.2.2.2.2.1 (fun w1 hs1 => ?_)
    refine g_istore dX2_wants_69 (Nat.le_of_ble_eq_true rfl) rfl ?_
    refine g_sipush (v := -999) dX2_wants_71 rfl ?_
    refine g_sipush (v := 999) dX2_wants_74 rfl ?_
    refine g_iload dX2_wants_77 rfl ?_
    refine g_cS2i dX2_wants_79 ml_X2_42 mi_J9_min_7cf53 ms_J9_min_7cf53 (Nat.le_of_ble_eq_true rfl) rfl (by omega) ?_
    refine c_J9_min_7cf53 (by omega) ?_
    refine g_cS2i dX2_wants_82 ml_X2_47 mi_J9_max_7cf53 ms_J9_max_7cf53 (Nat.le_of_ble_eq_true rfl) rfl (by omega) ?_
    refine c_J9_max_7cf53 (by omega) ?_
    refine g_iret dX2_wants_85 rfl ⟨_, rfl, ?_⟩
    have hN : ¬ N = 0 := by
      intro z
      have e := h.2.2.2.1
      rw [z] at e
      rw [e] at e1
      exact absurd e1 (by decide)
    have K := kk w1 hs1
    unfold cr_want at K
    rw [if_neg hN] at K
    exact K
  · refine g_if_ne (tgt := 50) dX2_wants_36 (by decide) (fun q => absurd q (by decide)) (fun _ => ?_)
    refine g_iload_n dX2_wants_39 rfl ?_
    refine g_iload dX2_wants_40 rfl ?_
    refine g_iadd dX2_wants_42 ?_
    refine g_iload dX2_wants_43 rfl ?_
    refine g_iadd dX2_wants_45 ?_
    refine g_iload dX2_wants_46 rfl ?_
    refine g_isub dX2_wants_48 ?_
    refine g_iret dX2_wants_49 rfl ⟨_, rfl, ?_⟩
    have hN : N = 0 := by
      have e := h.2.2.2.1
      have b := h.2.2.2.2.1
      rw [e] at e1
      rcases Nat.eq_zero_or_pos N with z | z
      · exact z
      · exact absurd (nI_lt z (by omega)) e1
    have K := kk w same.rf
    unfold cr_want at K
    rw [if_pos hN] at K
    rw [show 0 * 6 + m = m by omega, show 1 * 6 + m = 6 + m by omega, show 3 * 6 + m = 18 + m by omega]
    exact K
/-- which roads are out, of bits -/
def cr_out (o : Int32) (i : Nat) : Bool := decide (¬ (o >>> (nI i &&& 31)) &&& 1 = 0)
set_option maxHeartbeats 4000000 in
theorem l_X2_wanter {d r a n l s v lk lm N c : Nat} {w : gx_W} {o R : Int32} {k : Int32 → gx_W → Prop} (hd : 4 ≤ d) (h : isCl w r a n l s v lk lm N) (hc : c < 100) : ∀ z i : Nat, i + z = n → ∀ (x6 : Value) (w' : gx_W), same [lk, lm] [(l, 5)] w w' → (∀ w'', same [lk, lm] [(l, 5)] w w'' → k (cr_b (cr_most (cr_want N (w_a w s) (w_a w v) (w_a w a) · c) (cr_out o) n)) w'') → ∀ b m : Int32, b = cr_b (cr_most (cr_want N (w_a w s) (w_a w v) (w_a w a) · c) (cr_out o) i) → m = cr_m (cr_most (cr_want N (w_a w s) (w_a w v) (w_a w a) · c) (cr_out o) i) → gx_G 0 0 d mX2_wanter (Qi k) 9 [.ref r, .int (nI c), .int o, .int b, .int m, .int (nI i), x6] [] w' := by
  intro z
  induction z with
  | zero =>
    intro i hi x6 w' hw kk b m hb hm
    have e : i = n := by omega
    subst e
    obtain ⟨hl, ha1, hs1, hv1⟩ := h.same hw
    refine g_iload dX2_wanter_9 rfl ?_
    refine g_aload_n dX2_wanter_11 rfl ?_
    refine g_geti dX2_wanter_12 fl_X2_19 hl.1.1.1 ?_
    refine g_icmp_ge (tgt := 65) dX2_wanter_15 (by decide) (fun _ => ?_) (fun q => absurd (Int32.le_refl _) (by rw [hl.1.2.1] at q; exact q))
    refine g_iload_n dX2_wanter_65 rfl ?_
    refine g_iret dX2_wanter_66 rfl ⟨_, rfl, ?_⟩
    rw [hb]
    exact kk w' hw
  | succ z ih =>
    intro i hi x6 w' hw kk b m hb hm
    have hn6 := h.1.2.2
    have hlt : i < n := by omega
    obtain ⟨hl, ha1, hs1, hv1⟩ := h.same hw
    refine g_iload dX2_wanter_9 rfl ?_
    refine g_aload_n dX2_wanter_11 rfl ?_
    refine g_geti dX2_wanter_12 fl_X2_19 hl.1.1.1 ?_
    refine g_icmp_ge (tgt := 65) dX2_wanter_15 (by decide) (fun zc15 => ?_) (fun zc15 => ?_)
    · refine g_iload_n dX2_wanter_65 rfl ?_
      refine g_iret dX2_wanter_66 rfl ⟨_, rfl, ?_⟩
      exact absurd (show w_i w' r 1 ≤ nI i from zc15) (by rw [hl.1.2.1]; exact nI_ge hlt (by omega))
    · refine g_iload_n dX2_wanter_18 rfl ?_
      refine g_iload dX2_wanter_19 rfl ?_
      refine g_ishr dX2_wanter_21 ?_
      refine g_iconst (v := 1) dX2_wanter_22 rfl ?_
      refine g_iand dX2_wanter_23 ?_
      refine g_if_eq (tgt := 30) dX2_wanter_24 (by decide) (fun zc24 => ?_) (fun zc24 => ?_)
      · refine g_aload_n dX2_wanter_30 rfl ?_
        refine g_iload dX2_wanter_31 rfl ?_
        refine g_iload_n dX2_wanter_33 rfl ?_
        refine g_cV2i dX2_wanter_34 ml_X2_72 mi_X2_wants mv_X2_wants hl.1.1.1 ⟨_, rfl, rfl⟩ (Nat.le_of_ble_eq_true rfl) rfl (by omega) ?_
        refine c_X2_wants (by omega) hl hlt hc (fun w34 hs34 => ?_)
        obtain ⟨hl1, ha2, hs2, hv2⟩ := hl.same hs34
        rw [ha1, hs1, hv1]
        refine g_istore dX2_wanter_37 (Nat.le_of_ble_eq_true rfl) rfl ?_
        refine g_iload_n dX2_wanter_39 rfl ?_
        refine g_bipush (v := -2) dX2_wanter_40 rfl ?_
        refine g_icmp_eq (tgt := 52) dX2_wanter_42 (by decide) (fun zc42 => ?_) (fun zc42 => ?_)
        · refine g_iload dX2_wanter_52 rfl ?_
          refine g_istore_n dX2_wanter_54 (Nat.le_of_ble_eq_true rfl) rfl ?_
          refine g_iload dX2_wanter_55 rfl ?_
          refine g_istore dX2_wanter_57 (Nat.le_of_ble_eq_true rfl) rfl ?_
          refine g_iinc dX2_wanter_59 rfl rfl ?_
          refine g_goto (tgt := 9) dX2_wanter_62 (by decide) ?_
          rw [nI_1']
          have est := cr_most_take (W := (cr_want N (w_a w s) (w_a w v) (w_a w a) · c)) (out := cr_out o) (by omega) (by simpa [cr_out] using zc24) (Or.inl (hb ▸ zc42))
          refine ih (i + 1) (by omega) _ w34 (hw.tr hs34) kk _ _ ?_ ?_
          · rw [est]; first | exact hb | rfl
          · rw [est]; first | exact hm | rfl
        · refine g_iload dX2_wanter_45 rfl ?_
          refine g_iload dX2_wanter_47 rfl ?_
          refine g_icmp_le (tgt := 59) dX2_wanter_49 (by decide) (fun zc49 => ?_) (fun zc49 => ?_)
          · refine g_iinc dX2_wanter_59 rfl rfl ?_
            refine g_goto (tgt := 9) dX2_wanter_62 (by decide) ?_
            rw [nI_1']
            have est := cr_most_keep (W := (cr_want N (w_a w s) (w_a w v) (w_a w a) · c)) (out := cr_out o) (by simpa [cr_out] using zc24) (hb ▸ zc42) (hm ▸ zc49)
            refine ih (i + 1) (by omega) _ w34 (hw.tr hs34) kk _ _ ?_ ?_
            · rw [est]; first | exact hb | rfl
            · rw [est]; first | exact hm | rfl
          · refine g_iload dX2_wanter_52 rfl ?_
            refine g_istore_n dX2_wanter_54 (Nat.le_of_ble_eq_true rfl) rfl ?_
            refine g_iload dX2_wanter_55 rfl ?_
            refine g_istore dX2_wanter_57 (Nat.le_of_ble_eq_true rfl) rfl ?_
            refine g_iinc dX2_wanter_59 rfl rfl ?_
            refine g_goto (tgt := 9) dX2_wanter_62 (by decide) ?_
            rw [nI_1']
            have est := cr_most_take (W := (cr_want N (w_a w s) (w_a w v) (w_a w a) · c)) (out := cr_out o) (by omega) (by simpa [cr_out] using zc24) (Or.inr (hm ▸ Int32.not_le.mp zc49))
            refine ih (i + 1) (by omega) _ w34 (hw.tr hs34) kk _ _ ?_ ?_
            · rw [est]; first | exact hb | rfl
            · rw [est]; first | exact hm | rfl
      · refine g_goto (tgt := 59) dX2_wanter_27 (by decide) ?_
        refine g_iinc dX2_wanter_59 rfl rfl ?_
        refine g_goto (tgt := 9) dX2_wanter_62 (by decide) ?_
        rw [nI_1']
        have est := cr_most_out (W := (cr_want N (w_a w s) (w_a w v) (w_a w a) · c)) (out := cr_out o) (by simpa [cr_out] using zc24)
        refine ih (i + 1) (by omega) _ w' hw kk _ _ ?_ ?_
        · rw [est]; first | exact hb | rfl
        · rw [est]; first | exact hm | rfl
theorem c_X2_wanter {d : Nat} {w : gx_W} {r a n l s v lk lm N : Nat} {c : Nat} {o : Int32} {k : Int32 → gx_W → Prop} (hd : 4 ≤ d) (h : isCl w r a n l s v lk lm N) (hc : c < 100) (kk : ∀ w', same [lk, lm] [(l, 5)] w w' → k (cr_b (cr_most (cr_want N (w_a w s) (w_a w v) (w_a w a) · c) (cr_out o) n)) w') : gx_C 0 0 d mX2_wanter [.ref r, .int (nI c), .int o] w (Qi k) := by
  refine gx_C_of' (L := [.ref r, .int (nI c), .int o, .retAddr 0, .retAddr 0, .retAddr 0, .retAddr 0]) (by decide +kernel) rfl (Nat.le_of_ble_eq_true rfl) ?_
  refine g_bipush (v := -2) dX2_wanter_0 rfl ?_
  refine g_istore_n dX2_wanter_2 (Nat.le_of_ble_eq_true rfl) rfl ?_
  refine g_iconst (v := 0) dX2_wanter_3 rfl ?_
  refine g_istore dX2_wanter_4 (Nat.le_of_ble_eq_true rfl) rfl ?_
  refine g_iconst (v := 0) dX2_wanter_6 rfl ?_
  refine g_istore dX2_wanter_7 (Nat.le_of_ble_eq_true rfl) rfl ?_
  exact l_X2_wanter (R := 0) hd h hc n 0 (by omega) _ w same.rf kk _ _ rfl rfl
/-- which road has a comer -/
def cr_has (N : Nat) (sg va f : Nat → Int32) (n c : Nat) : Int32 := if cr_runs f n c = true then f 25 else cr_b (cr_most (cr_want N sg va f · c) (fun _ => false) n)
theorem cr_out0 : cr_out 0 = fun _ => false := by
  funext i
  have e : ((0 : Int32) >>> (nI i &&& 31)) &&& 1 = 0 := by
    rw [Int32.zero_shiftRight, Int32.zero_and]
  simp [cr_out, e]
theorem c_X2_haver {d : Nat} {w : gx_W} {r a n l s v lk lm N : Nat} {c : Nat} {k : Int32 → gx_W → Prop} (hd : 5 ≤ d) (h : isCl w r a n l s v lk lm N) (hc : c < 100) (kk : ∀ w', same [lk, lm] [(l, 5)] w w' → k (cr_has N (w_a w s) (w_a w v) (w_a w a) n c) w') : gx_C 0 0 d mX2_haver [.ref r, .int (nI c)] w (Qi k) := by
  refine gx_C_of' (L := [.ref r, .int (nI c)]) (by decide +kernel) rfl (Nat.le_of_ble_eq_true rfl) ?_
  refine g_aload_n dX2_haver_0 rfl ?_
  refine g_iload_n dX2_haver_1 rfl ?_
  refine g_cV1i dX2_haver_2 ml_X2_66 mi_X2_isRunner mv_X2_isRunner h.1.1.1 ⟨_, rfl, rfl⟩ (Nat.le_of_ble_eq_true rfl) rfl (by omega) ?_
  refine c_X2_isRunner (by omega) h.1 hc (fun e1 => ?_) (fun e1 => ?_)
  · refine g_if_eq (tgt := 17) dX2_haver_5 (by decide) (fun q => absurd q (by decide)) (fun _ => ?_)
    refine g_aload_n dX2_haver_8 rfl ?_
    refine g_iconst (v := 0) dX2_haver_9 rfl ?_
    refine g_iconst (v := 5) dX2_haver_10 rfl ?_
    refine g_cV2i dX2_haver_11 ml_X2_50 mi_X2_number mv_X2_number h.1.1.1 ⟨_, rfl, rfl⟩ (Nat.le_of_ble_eq_true rfl) rfl (by omega) ?_
    refine c_number_g (q := 5) (by omega) h.1 (by decide) (by decide) rfl ?_
    refine g_goto (tgt := 23) dX2_haver_14 (by decide) ?_
    refine g_iret dX2_haver_23 rfl ⟨_, rfl, ?_⟩
    have K := kk w same.rf
    unfold cr_has at K
    rw [if_pos e1] at K
    exact K
  · refine g_if_eq (tgt := 17) dX2_haver_5 (by decide) (fun _ => ?_) (fun q => absurd q (by decide))
    refine g_aload_n dX2_haver_17 rfl ?_
    refine g_iload_n dX2_haver_18 rfl ?_
    refine g_iconst (v := 0) dX2_haver_19 rfl ?_
    refine g_cV2i dX2_haver_20 ml_X2_69 mi_X2_wanter mv_X2_wanter h.1.1.1 ⟨_, rfl, rfl⟩ (Nat.le_of_ble_eq_true rfl) rfl (by omega) ?_
    refine c_X2_wanter (by omega) h hc (fun w20 hs20 => ?_)
    refine g_iret dX2_haver_23 rfl ⟨_, rfl, ?_⟩
    have K := kk w20 hs20
    unfold cr_has at K
    rw [if_neg (by rw [e1]; decide)] at K
    rw [cr_out0]
    exact K
/-- the waits behind a road that had somebody -/
def cr_set (f : Nat → Int32) (i t : Nat) : Nat → Int32 := fun j => if 18 ≤ j ∧ j < 18 + i then (if j - 18 = t then 0 else if f j + 1 > 99 then 99 else f j + 1) else f j

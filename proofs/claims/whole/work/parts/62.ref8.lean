/-! The reference: findAsked, goAhead -/
theorem l_X10_findAsked {d n N c : Nat} {w : gx_W} {f sg va : Nat → Int32} {k : gx_W → Prop} (hd : 5 ≤ d) (hc : c < 100) (hr : cr_runs f n c = false) (kk : ∀ w', same [73, 74, 81] [(57, 35)] w w' → w_i w' 57 35 = nI n → (∀ j, j < n → w_a w' 81 j = me_as N sg va f n c j) → k w') : ∀ (z j : Nat) (x3 : Value) (w1 : gx_W), j + z = n → same [73, 74, 81] [(57, 35)] w w1 → moT w1 f n N sg va → w_i w1 57 35 = nI j → (∀ y, y < j → w_a w1 81 y = me_as N sg va f n c y) → gx_G 0 0 d mX10_findAsked (Qv k) 37 [.ref 57, .int (nI c), .int (cr_dis (cr_want N sg va f · c) n j), x3] [] w1 := by
  intro z
  induction z with
  | zero =>
    intro j x3 w1 hj hs h1 hm hv
    have en := h1.2.1.1.1
    have e : j = n := by omega
    subst e
    refine g_aload_n dX10_findAsked_37 rfl ?_
    refine g_geti dX10_findAsked_38 fl_X10_290 h1.1.1 ?_
    refine g_aload_n dX10_findAsked_41 rfl ?_
    refine g_geti dX10_findAsked_42 fl_X10_121 h1.1.1 ?_
    rw [hm, en]
    refine g_icmp_ge (tgt := 84) dX10_findAsked_45 (by decide) (fun zc45 => ?_) (fun zc45 => ?_)
    · refine g_vret dX10_findAsked_84 rfl ⟨rfl, ?_⟩
      exact kk w1 hs hm hv
    · exact absurd (Int32.le_refl _) zc45
  | succ z ih =>
    intro j x3 w1 hj hs h1 hm hv
    have en := h1.2.1.1.1
    have hn6 := h1.2.1.1.2.1
    refine g_aload_n dX10_findAsked_37 rfl ?_
    refine g_geti dX10_findAsked_38 fl_X10_290 h1.1.1 ?_
    refine g_aload_n dX10_findAsked_41 rfl ?_
    refine g_geti dX10_findAsked_42 fl_X10_121 h1.1.1 ?_
    rw [hm, en]
    refine g_icmp_ge (tgt := 84) dX10_findAsked_45 (by decide) (fun zc45 => ?_) (fun zc45 => ?_)
    · refine g_vret dX10_findAsked_84 rfl ⟨rfl, ?_⟩
      exact absurd zc45 (nI_ge (by omega) (by omega))
    · refine g_aload_n dX10_findAsked_48 rfl ?_
      refine g_iload_n dX10_findAsked_49 rfl ?_
      refine g_iload_n dX10_findAsked_50 rfl ?_
      refine g_cV2i dX10_findAsked_51 ml_X10_246 mi_X10_mostOf mv_X10_mostOf h1.1.1 ⟨_, rfl, rfl⟩ (Nat.le_of_ble_eq_true rfl) rfl (by omega) ?_
      refine c_X10_mostOf (by omega) h1 hc (fun w2 hs2 => ?_)
      have h2 := h1.same hs2 (by simp) (by simp)
      have em2 : w_i w2 57 35 = nI j := (hs2.2.1 57 35 (by simp)).trans hm
      refine g_istore_n dX10_findAsked_54 (Nat.le_of_ble_eq_true rfl) rfl ?_
      refine g_aload_n dX10_findAsked_55 rfl ?_
      refine g_getr dX10_findAsked_56 fl_X10_83 h2.1.1 (moR_81 h2.1) ?_
      refine g_aload_n dX10_findAsked_59 rfl ?_
      refine g_geti dX10_findAsked_60 fl_X10_290 h2.1.1 ?_
      rw [em2]
      refine g_iload_n dX10_findAsked_63 rfl ?_
      refine g_iast dX10_findAsked_64 (moA_81 h2.1) (vp_in_nI (by omega) (by decide)) ?_
      rw [nI_n (by omega)]
      refine g_aload_n dX10_findAsked_65 rfl ?_
      refine g_dup dX10_findAsked_66 rfl ?_
      refine g_geti dX10_findAsked_67 fl_X10_290 h2.1.1 ?_
      refine g_iconst (v := 1) dX10_findAsked_70 rfl ?_
      rw [show w_i (s_a w2 81 (va_up (w_a w2 81) j (cr_b (cr_most (cr_want N sg va f · c) (cr_out (cr_dis (cr_want N sg va f · c) n j)) n)))) 57 35 = nI j from em2]
      refine g_iadd dX10_findAsked_71 ?_
      rw [nI_1]
      refine g_puti dX10_findAsked_72 fl_X10_290 ft_10_35 h2.1.1 ?_
      refine g_iload_n dX10_findAsked_75 rfl ?_
      refine g_iconst (v := 1) dX10_findAsked_76 rfl ?_
      refine g_iload_n dX10_findAsked_77 rfl ?_
      refine g_ishl dX10_findAsked_78 ?_
      refine g_ior dX10_findAsked_79 ?_
      refine g_istore_n dX10_findAsked_80 (Nat.le_of_ble_eq_true rfl) rfl ?_
      refine g_goto (tgt := 37) dX10_findAsked_81 (by decide) ?_
      refine ih (j + 1) _ _ (by omega) ((((hs.tr (hs2.wk (by simp) (by simp))).sa (by simp))).si (by simp)) (h2.same ((same.rf.sa (R := [81]) (F := [(57, 35)]) (by simp)).si (by simp)) (by simp) (by simp)) (by rw [wi_si, if_pos ⟨rfl, rfl⟩]) (fun y hy => ?_)
      show w_a (s_a w2 81 (va_up (w_a w2 81) j (cr_b (cr_most (cr_want N sg va f · c) (cr_out (cr_dis (cr_want N sg va f · c) n j)) n)))) 81 y = _
      rw [wa_sat, up_at]
      by_cases q : y = j
      · rw [if_pos q, q]
        unfold me_as
        rw [if_neg (by rw [hr]; decide)]
        rfl
      · rw [if_neg q, (hs2.2.2.2.1 81 (by simp)).1]
        exact hv y (by omega)
theorem c_X10_findAsked {d : Nat} {w : gx_W} {f : Nat → Int32} {n N c : Nat} {sg va : Nat → Int32} {k : gx_W → Prop} (hd : 5 ≤ d) (h : moO w) (hx : mxD w f n) (hl : lwM w N sg va) (hb : bnd f n) (hc : c < 100) (k1 : cr_runs f n c = true → ∀ w', same [73, 74, 75, 81] [(57, 35)] w w' → w_i w' 57 35 = 1 → w_a w' 81 0 = f 25 → k w') (k2 : cr_runs f n c = false → ∀ w', same [73, 74, 75, 81] [(57, 35)] w w' → w_i w' 57 35 = nI n → (∀ j, j < n → w_a w' 81 j = me_as N sg va f n c j) → k w') : gx_C 0 0 d mX10_findAsked [.ref 57, .int (nI c)] w (Qv k) := by
  refine gx_C_of' (L := [.ref 57, .int (nI c), .retAddr 0, .retAddr 0]) (by decide +kernel) rfl (Nat.le_of_ble_eq_true rfl) ?_
  refine g_aload_n dX10_findAsked_0 rfl ?_
  refine g_cV0v dX10_findAsked_1 ml_X10_259 mi_X10_layNow mv_X10_layNow h.1 ⟨_, rfl, rfl⟩ (Nat.le_of_ble_eq_true rfl) rfl (by omega) ?_
  refine c_X10_layNow (by omega) h hx hl hb (fun w1 hs1 h1 => ?_)
  refine g_aload_n dX10_findAsked_4 rfl ?_
  refine g_iconst (v := 0) dX10_findAsked_5 rfl ?_
  refine g_puti dX10_findAsked_6 fl_X10_290 ft_10_35 h1.1.1 ?_
  refine g_iconst (v := 0) dX10_findAsked_9 rfl ?_
  refine g_istore_n dX10_findAsked_10 (Nat.le_of_ble_eq_true rfl) rfl ?_
  refine g_aload_n dX10_findAsked_11 rfl ?_
  refine g_iload_n dX10_findAsked_12 rfl ?_
  refine g_cV1i dX10_findAsked_13 ml_X10_243 mi_X10_runsBy mv_X10_runsBy h1.1.1 ⟨_, rfl, rfl⟩ (Nat.le_of_ble_eq_true rfl) rfl (by omega) ?_
  refine c_X10_runsBy (by omega) h1.1 h1.2.1.1 hc (fun t => ?_) (fun t => ?_)
  · refine g_if_eq (tgt := 37) dX10_findAsked_16 (by decide) (fun q => absurd q (by decide)) (fun _ => ?_)
    refine g_aload_n dX10_findAsked_19 rfl ?_
    refine g_getr dX10_findAsked_20 fl_X10_83 h1.1.1 (moR_81 h1.1) ?_
    refine g_iconst (v := 0) dX10_findAsked_23 rfl ?_
    refine g_aload_n dX10_findAsked_24 rfl ?_
    refine g_getr dX10_findAsked_25 fl_X10_24 h1.1.1 (moR_62 h1.1) ?_
    refine g_iconst (v := 1) dX10_findAsked_28 rfl ?_
    refine g_iald dX10_findAsked_29 (moA_62 h1.1) (vp_in_nI (n := 1) (by decide) (by decide)) ?_
    rw [show (1 : Int32).toNatClampNeg = 1 from rfl, show w_a (s_i w1 57 35 0) 62 1 = f 25 from h1.2.1.1.2.2.2.2.2 1 (by decide)]
    refine g_iast dX10_findAsked_30 (moA_81 h1.1) (vp_in_nI (n := 0) (by decide) (by decide)) ?_
    rw [show (0 : Int32).toNatClampNeg = 0 from rfl]
    refine g_aload_n dX10_findAsked_31 rfl ?_
    refine g_iconst (v := 1) dX10_findAsked_32 rfl ?_
    refine g_puti dX10_findAsked_33 fl_X10_290 ft_10_35 h1.1.1 ?_
    refine g_vret dX10_findAsked_36 rfl ⟨rfl, ?_⟩
    refine k1 t _ ((((hs1.wk (by simp) (by simp)).si (by simp)).sa (by simp)).si (by simp)) (by rw [wi_si, if_pos ⟨rfl, rfl⟩]) ?_
    rw [wa_si, wa_sat]
    exact va_up_at
  · refine g_if_eq (tgt := 37) dX10_findAsked_16 (by decide) (fun _ => ?_) (fun q => absurd q (by decide))
    refine l_X10_findAsked (f := f) (N := N) (sg := sg) (va := va) (w := s_i w1 57 35 0) hd hc t (fun w' hs hm hv => k2 t w' (((hs1.wk (by simp) (by simp)).si (by simp)).tr (hs.wk (by simp) (by simp))) hm hv) n 0 _ _ (Nat.zero_add _) same.rf (h1.same (same.rf.si (F := [(57, 35)]) (R := []) (by simp)) (by simp) (by simp)) (by rw [wi_si, if_pos ⟨rfl, rfl⟩]; rfl) (fun y hy => absurd hy (Nat.not_lt_zero _))
def gR (H : Nat → Int32) (rc : Int32 → Option (List Nat)) : Nat → Nat → Int32 → Option (List Nat)
  | 0, _, _ => none
  | z + 1, c, tr => if cr_out tr (H c).toNatClampNeg = true then gR H rc z (c + 1) tr else match rc (H c) with
    | some l => some (c :: l)
    | none => gR H rc z (c + 1) (tr ||| (1 <<< (H c &&& 31)))
theorem gR_bit : ∀ m, m < 64 → ∀ t, t < 6 → cr_out (nI m) t = m.testBit t := by decide +kernel
theorem gR_or : ∀ m, m < 64 → ∀ t, t < 6 → nI m ||| (1 <<< (nI t &&& 31)) = nI (m ||| 2 ^ t) := by decide +kernel
theorem gR_orlt : ∀ n, n ≤ 6 → ∀ m, m < 2 ^ n → ∀ t, t < n → m ||| 2 ^ t < 2 ^ n := by decide +kernel
theorem gR_all : ∀ n, n ≤ 6 → ∀ t, t < n → (2 ^ n - 1).testBit t = true := by decide +kernel
theorem gR_full {H : Nat → Int32} {rc : Int32 → Option (List Nat)} {n m : Nat} (hH : ∀ c, ∃ t, t < n ∧ H c = nI t) (hn : n ≤ 6) (hm : ∀ t, t < n → cr_out (nI m) t = true) : ∀ z c, gR H rc z c (nI m) = none := by
  intro z
  induction z with
  | zero => intro c; rfl
  | succ z ih =>
    intro c
    obtain ⟨t, ht, e⟩ := hH c
    unfold gR
    rw [e, nI_n (by omega), if_pos (hm t ht)]
    exact ih (c + 1)
theorem p2_le : ∀ n, n ≤ 6 → 2 ^ n ≤ 64 := by decide
theorem gR_eq {H : Nat → Int32} {rc : Int32 → Option (List Nat)} {n : Nat} (hH : ∀ c, ∃ t, t < n ∧ H c = nI t) (hn : n ≤ 6) : ∀ z c m, m < 2 ^ n → me_rl H rc (nI (2 ^ n - 1)) z c (nI m) = gR H rc z c (nI m) := by
  intro z
  have h64 := p2_le n hn
  induction z with
  | zero => intro c m _; rfl
  | succ z ih =>
    intro c m hm
    by_cases q : m = 2 ^ n - 1
    · rw [gR_full hH hn (fun t ht => by rw [q, gR_bit _ (by omega) t (by omega)]; exact gR_all n hn t ht)]
      show (if nI m = nI (2 ^ n - 1) then _ else _) = _
      rw [if_pos (by rw [q])]
    · obtain ⟨t, ht, e⟩ := hH c
      show (if nI m = nI (2 ^ n - 1) then none else if H c < 0 ∨ cr_out (nI m) (H c).toNatClampNeg = true then me_rl H rc (nI (2 ^ n - 1)) z (c + 1) (nI m) else match rc (H c) with
        | some l => some (c :: l)
        | none => me_rl H rc (nI (2 ^ n - 1)) z (c + 1) (nI m ||| (1 <<< (H c &&& 31)))) = (if cr_out (nI m) (H c).toNatClampNeg = true then gR H rc z (c + 1) (nI m) else match rc (H c) with
        | some l => some (c :: l)
        | none => gR H rc z (c + 1) (nI m ||| (1 <<< (H c &&& 31))))
      rw [if_neg (fun y => q (pI_inj (by omega) (by omega) y))]
      by_cases y : cr_out (nI m) (H c).toNatClampNeg = true
      · rw [if_pos (Or.inr y), if_pos y]; exact ih _ _ hm
      · rw [if_neg (by rintro (u | u); exact absurd u (by rw [e]; exact nI_pos (by omega)); exact y u), if_neg y]
        cases rc (H c) with
        | some l => rfl
        | none =>
          show me_rl H rc (nI (2 ^ n - 1)) z (c + 1) _ = _
          rw [e, gR_or m (by omega) t (by omega)]
          exact ih _ _ (gR_orlt n hn m hm t ht)
theorem cr_has_pos {N : Nat} {sg va f : Nat → Int32} {n c : Nat} (hn : n ≤ 6) (h0 : 0 < n) : ∃ t, t < n ∧ cr_has N sg va f n c = nI t := by
  rcases cr_has_cases (N := N) (sg := sg) (va := va) (f := f) (c := c) hn with e | e
  · exfalso
    unfold cr_has at e
    by_cases h : cr_runs f n c = true
    · rw [if_pos h] at e
      simp only [cr_runs, Bool.and_eq_true, decide_eq_true_eq] at h
      rw [e] at h
      exact absurd h.2.1 (by decide)
    · rw [if_neg h] at e
      cases hm : cr_most (cr_want N sg va f · c) (fun _ => false) n with
      | none => exact absurd (cr_most_none.mp hm 0 h0) (by decide)
      | some bm =>
        rw [hm] at e
        have := cr_most_lt (i := n) (b := bm.1) (m := bm.2) hm
        exact nI_m2 (by omega) e
  · exact e
abbrev GR : List Nat := [73, 74, 75, 79, 80]
theorem mxN.unset {w : gx_W} {f : Nat → Int32} {n t : Nat} (h : mxN w (cr_set f n t) n) : mxN w f n := by
  obtain ⟨g1, g2, g3, g4, g5, g6⟩ := h
  exact ⟨g1, g2, fun j hj => by have := g3 j hj; rw [cr_set_lo (by omega)] at this; exact this, fun j hj => by have := g4 j hj; rw [cr_set_lo (by omega)] at this; exact this, fun j hj => by have := g5 j hj; rw [cr_set_lo (by omega)] at this; exact this, fun j hj => by have := g6 j hj; rw [cr_set_lo (by omega)] at this; exact this⟩
def gaC (n N c q z : Nat) (sg va : Nat → Int32) : Prop := ∀ (s d : Nat) (f : Nat → Int32) (w1 : gx_W) (k : Int32 → gx_W → Prop), s + z ≤ 3 → 6 + z ≤ d → moT w1 f n N sg va → (∀ l', me_re N sg va n c q z f = some l' → ∀ w', same GR [] w1 w' → (∀ j v, l'[j]? = some v → w_a w' 80 (s + j) = nI v) → (∀ j, j < s → w_a w' 80 j = w_a w1 80 j) → k 1 w') → (me_re N sg va n c q z f = none → ∀ w', same GR [] w1 w' → moT w' f n N sg va → (∀ j, j < 6 * s → w_a w' 79 j = w_a w1 79 j) → (∀ j, j < s → w_a w' 80 j = w_a w1 80 j) → k 0 w') → gx_C 0 0 d mX10_goAhead [.ref 57, .int (nI q), .int (nI c), .int (nI s), .int (nI (s + z))] w1 (Qi k)
theorem l_X10_goAhead0 {n N c q : Nat} {sg va : Nat → Int32} (hn : n ≤ 6) (hq : q < n) (hc : c < 100) : gaC n N c q 0 sg va := by
  intro s d f w1 k hsz hd hI kt kf
  refine gx_C_of' (L := [.ref 57, .int (nI q), .int (nI c), .int (nI s), .int (nI (s + 0)), .retAddr 0, .retAddr 0, .retAddr 0, .retAddr 0]) (by decide +kernel) rfl (Nat.le_of_ble_eq_true rfl) ?_
  refine g_iload_n dX10_goAhead_0 rfl ?_
  refine g_iload dX10_goAhead_1 rfl ?_
  refine g_icmp_ne (tgt := 21) dX10_goAhead_3 (by decide) (fun zc3 => ?_) (fun zc3 => ?_)
  · exact absurd rfl zc3
  · refine g_aload_n dX10_goAhead_6 rfl ?_
    refine g_iload_n dX10_goAhead_7 rfl ?_
    refine g_cV1i dX10_goAhead_8 ml_X10_249 mi_X10_hasNow mv_X10_hasNow hI.1.1 ⟨_, rfl, rfl⟩ (Nat.le_of_ble_eq_true rfl) rfl (by omega) ?_
    refine c_X10_hasNow (by omega) hI hc (fun w2 hs2 => ?_)
    refine g_iload_n dX10_goAhead_11 rfl ?_
    refine g_icmp_ne (tgt := 19) dX10_goAhead_12 (by decide) (fun zc12 => ?_) (fun zc12 => ?_)
    · refine g_iconst (v := 0) dX10_goAhead_19 rfl ?_
      refine g_zret dX10_goAhead_20 rfl (Or.inl rfl) ⟨_, rfl, ?_⟩
      exact kf (if_neg zc12) w2 (hs2.wk (by simp) (by simp)) (hI.same hs2 (by simp) (by simp)) (fun j _ => by rw [(hs2.2.2.2.1 79 (by simp)).1]) (fun j _ => by rw [(hs2.2.2.2.1 80 (by simp)).1])
    · refine g_iconst (v := 1) dX10_goAhead_15 rfl ?_
      refine g_goto (tgt := 20) dX10_goAhead_16 (by decide) ?_
      refine g_zret dX10_goAhead_20 rfl (Or.inr rfl) ⟨_, rfl, ?_⟩
      exact kt [] (if_pos zc12) w2 (hs2.wk (by simp) (by simp)) (fun j v hv => by simp at hv) (fun j _ => by rw [(hs2.2.2.2.1 80 (by simp)).1])
theorem z6 (i j : Nat) : (6 : Int32) * nI i + nI j = nI (6 * i + j) := by
  rw [show (6 : Int32) * nI i = nI (6 * i) from pk_mul 6 i, nI_add]
def svF (a b : Nat → Int32) (p i : Nat) : Nat → Int32 := fun j => if p ≤ j ∧ j < p + i then b (j - p) else a j
theorem svF_s (a b : Nat → Int32) (p i : Nat) : va_up (svF a b p i) (p + i) (b i) = svF a b p (i + 1) := by
  funext j
  rw [up_at]
  unfold svF
  by_cases q : j = p + i
  · rw [if_pos q, if_pos (show p ≤ j ∧ j < p + (i + 1) from ⟨by omega, by omega⟩), show j - p = i by omega]
  · rw [if_neg q]
    by_cases y : p ≤ j ∧ j < p + i
    · rw [if_pos y, if_pos (show p ≤ j ∧ j < p + (i + 1) from ⟨y.1, by omega⟩)]
    · rw [if_neg y, if_neg (show ¬ (p ≤ j ∧ j < p + (i + 1)) from fun z => y ⟨z.1, by omega⟩)]
theorem svF_0 (a b : Nat → Int32) (p : Nat) : svF a b p 0 = a := by
  funext j
  exact if_neg (by omega)
theorem l_X10_goAhead1 {d n s q c m : Nat} {w : gx_W} {x7 x8 : Value} {k : Int32 → gx_W → Prop} (h : moO w) (hn : w_i w 57 1 = nI n) (hn6 : n ≤ 6) (hs3 : s < 3) (kk : gx_G 0 0 d mX10_goAhead (Qi k) 58 [.ref 57, .int (nI q), .int (nI c), .int (nI s), .int (nI m), .int (nI n), .retAddr 0, x7, x8] [] (s_a w 79 (svF (w_a w 79) (w_a w 75) (6 * s) n))) : ∀ z i : Nat, i + z = n → gx_G 0 0 d mX10_goAhead (Qi k) 24 [.ref 57, .int (nI q), .int (nI c), .int (nI s), .int (nI m), .int (nI i), .retAddr 0, x7, x8] [] (s_a w 79 (svF (w_a w 79) (w_a w 75) (6 * s) i)) := by
  intro z
  induction z with
  | zero =>
    intro i hi
    have e : i = n := by omega
    subst e
    have en : w_i (s_a w 79 (svF (w_a w 79) (w_a w 75) (6 * s) i)) 57 1 = nI i := hn
    refine g_iload dX10_goAhead_24 rfl ?_
    refine g_aload_n dX10_goAhead_26 rfl ?_
    refine g_geti dX10_goAhead_27 fl_X10_121 h.1 ?_
    rw [en]
    refine g_icmp_ge (tgt := 58) dX10_goAhead_30 (by decide) (fun zc30 => ?_) (fun zc30 => ?_)
    · exact kk
    · exact absurd (Int32.le_refl _) zc30
  | succ z ih =>
    intro i hi
    have en : w_i (s_a w 79 (svF (w_a w 79) (w_a w 75) (6 * s) i)) 57 1 = nI n := hn
    refine g_iload dX10_goAhead_24 rfl ?_
    refine g_aload_n dX10_goAhead_26 rfl ?_
    refine g_geti dX10_goAhead_27 fl_X10_121 h.1 ?_
    rw [en]
    refine g_icmp_ge (tgt := 58) dX10_goAhead_30 (by decide) (fun zc30 => ?_) (fun zc30 => ?_)
    · exact absurd zc30 (nI_ge (by omega) (by omega))
    · refine g_aload_n dX10_goAhead_33 rfl ?_
      refine g_getr dX10_goAhead_34 fl_X10_77 h.1 (moR_79 h) ?_
      refine g_bipush (v := 6) dX10_goAhead_37 rfl ?_
      refine g_iload_n dX10_goAhead_39 rfl ?_
      refine g_imul dX10_goAhead_40 ?_
      refine g_iload dX10_goAhead_41 rfl ?_
      refine g_iadd dX10_goAhead_43 ?_
      rw [z6]
      refine g_aload_n dX10_goAhead_44 rfl ?_
      refine g_getr dX10_goAhead_45 fl_X10_65 h.1 (moR_75 h) ?_
      refine g_iload dX10_goAhead_48 rfl ?_
      refine g_iald dX10_goAhead_50 (moA_75 h) (vp_in_nI (by omega) (by decide)) ?_
      rw [nI_n (show i < 2 ^ 31 by omega), wa_sa, if_neg (by decide)]
      refine g_iast dX10_goAhead_51 (moA_79 h) (vp_in_nI (by omega) (by decide)) ?_
      rw [nI_n (show 6 * s + i < 2 ^ 31 by omega), wa_sat, sa_sa, svF_s]
      refine g_iinc dX10_goAhead_52 rfl rfl ?_
      refine g_goto (tgt := 24) dX10_goAhead_55 (by decide) ?_
      rw [nI_1']
      exact ih (i + 1) (by omega)
def rsF (a b : Nat → Int32) (p i : Nat) : Nat → Int32 := fun j => if j < i then b (p + j) else a j
theorem rsF_s (a b : Nat → Int32) (p i : Nat) : va_up (rsF a b p i) i (b (p + i)) = rsF a b p (i + 1) := by
  funext j
  rw [up_at]
  unfold rsF
  by_cases q : j = i
  · rw [if_pos q, if_pos (show j < i + 1 by omega), q]
  · rw [if_neg q]
    by_cases y : j < i
    · rw [if_pos y, if_pos (show j < i + 1 by omega)]
    · rw [if_neg y, if_neg (show ¬ j < i + 1 by omega)]
theorem rsF_0 (a b : Nat → Int32) (p : Nat) : rsF a b p 0 = a := by
  funext j
  exact if_neg (Nat.not_lt_zero _)
theorem l_X10_goAhead2 {d n s q c m : Nat} {w : gx_W} {x5 x6 x7 : Int32} {k : Int32 → gx_W → Prop} (h : moO w) (hn : w_i w 57 1 = nI n) (hn6 : n ≤ 6) (hs3 : s < 3) (kk : gx_G 0 0 d mX10_goAhead (Qi k) 169 [.ref 57, .int (nI q), .int (nI c), .int (nI s), .int (nI m), .int x5, .int x6, .int x7, .int (nI n)] [] (s_a w 75 (rsF (w_a w 75) (w_a w 79) (6 * s) n))) : ∀ z i : Nat, i + z = n → gx_G 0 0 d mX10_goAhead (Qi k) 135 [.ref 57, .int (nI q), .int (nI c), .int (nI s), .int (nI m), .int x5, .int x6, .int x7, .int (nI i)] [] (s_a w 75 (rsF (w_a w 75) (w_a w 79) (6 * s) i)) := by
  intro z
  induction z with
  | zero =>
    intro i hi
    have e : i = n := by omega
    subst e
    have en : w_i (s_a w 75 (rsF (w_a w 75) (w_a w 79) (6 * s) i)) 57 1 = nI i := hn
    refine g_iload dX10_goAhead_135 rfl ?_
    refine g_aload_n dX10_goAhead_137 rfl ?_
    refine g_geti dX10_goAhead_138 fl_X10_121 h.1 ?_
    rw [en]
    refine g_icmp_ge (tgt := 169) dX10_goAhead_141 (by decide) (fun zc141 => ?_) (fun zc141 => ?_)
    · exact kk
    · exact absurd (Int32.le_refl _) zc141
  | succ z ih =>
    intro i hi
    have en : w_i (s_a w 75 (rsF (w_a w 75) (w_a w 79) (6 * s) i)) 57 1 = nI n := hn
    refine g_iload dX10_goAhead_135 rfl ?_
    refine g_aload_n dX10_goAhead_137 rfl ?_
    refine g_geti dX10_goAhead_138 fl_X10_121 h.1 ?_
    rw [en]
    refine g_icmp_ge (tgt := 169) dX10_goAhead_141 (by decide) (fun zc141 => ?_) (fun zc141 => ?_)
    · exact absurd zc141 (nI_ge (by omega) (by omega))
    · refine g_aload_n dX10_goAhead_144 rfl ?_
      refine g_getr dX10_goAhead_145 fl_X10_65 h.1 (moR_75 h) ?_
      refine g_iload dX10_goAhead_148 rfl ?_
      refine g_aload_n dX10_goAhead_150 rfl ?_
      refine g_getr dX10_goAhead_151 fl_X10_77 h.1 (moR_79 h) ?_
      refine g_bipush (v := 6) dX10_goAhead_154 rfl ?_
      refine g_iload_n dX10_goAhead_156 rfl ?_
      refine g_imul dX10_goAhead_157 ?_
      refine g_iload dX10_goAhead_158 rfl ?_
      refine g_iadd dX10_goAhead_160 ?_
      rw [z6]
      refine g_iald dX10_goAhead_161 (moA_79 h) (vp_in_nI (by omega) (by decide)) ?_
      rw [nI_n (show 6 * s + i < 2 ^ 31 by omega), wa_sa, if_neg (by decide)]
      refine g_iast dX10_goAhead_162 (moA_75 h) (vp_in_nI (by omega) (by decide)) ?_
      rw [nI_n (show i < 2 ^ 31 by omega), wa_sat, sa_sa, rsF_s]
      refine g_iinc dX10_goAhead_163 rfl rfl ?_
      refine g_goto (tgt := 135) dX10_goAhead_166 (by decide) ?_
      rw [nI_1']
      exact ih (i + 1) (by omega)

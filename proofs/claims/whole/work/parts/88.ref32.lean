/-! The reference: more whatever least liking waited -/
theorem up_self {f : Nat → Int32} {p : Nat} : va_up f p (f p) = f := by
  funext j
  rw [up_at]
  by_cases q : j = p
  · rw [if_pos q, q]
  · rw [if_neg q]
theorem up_back {f g : Nat → Int32} {p : Nat} {a : Int32} (h : va_up g p a = f) (v : Int32) : va_up g p v = va_up f p v := by
  rw [← h, va_up_up]
theorem bnd.up {f : Nat → Int32} {n p : Nat} {v : Int32} (h : bnd f n) (h1 : -300 ≤ v.toInt) (h2 : v.toInt ≤ 300) : bnd (va_up f p v) n := by
  intro m hm
  obtain ⟨a, b, c⟩ := h m hm
  rw [up_at, up_at, up_at]
  refine ⟨?_, ?_, ?_⟩ <;> split <;> omega
theorem mxN.dust {w : gx_W} {g : Nat → Int32} {n q : Nat} (h : mxN w g n) (hq : q < n) (v : Int32) : mxN (s_a w 59 (va_up (w_a w 59) q v)) (va_up g (6 + q) v) n := by
  obtain ⟨h1, h2, h3, h4, h5, h6⟩ := h
  refine ⟨h1, h2, fun j hj => ?_, fun j hj => ?_, fun j hj => ?_, fun j hj => ?_⟩
  · rw [wa_sa, if_neg (by decide), up_at, if_neg (by omega)]; exact h3 j hj
  · rw [wa_sa, if_pos rfl, up_at, up_at]
    by_cases e : j = q
    · rw [if_pos e, if_pos (by omega)]
    · rw [if_neg e, if_neg (by omega)]; exact h4 j hj
  · rw [wa_sa, if_neg (by decide), up_at, if_neg (by omega)]; exact h5 j hj
  · rw [wa_sa, if_neg (by decide), up_at, if_neg (by omega)]; exact h6 j hj
theorem mxN.likes {w : gx_W} {g : Nat → Int32} {n q : Nat} (h : mxN w g n) (hq : q < n) (v : Int32) : mxN (s_a w 58 (va_up (w_a w 58) q v)) (va_up g q v) n := by
  obtain ⟨h1, h2, h3, h4, h5, h6⟩ := h
  refine ⟨h1, h2, fun j hj => ?_, fun j hj => ?_, fun j hj => ?_, fun j hj => ?_⟩
  · rw [wa_sa, if_pos rfl, up_at, up_at]
    by_cases e : j = q
    · rw [if_pos e, if_pos e]
    · rw [if_neg e, if_neg e]; exact h3 j hj
  · rw [wa_sa, if_neg (by decide), up_at, if_neg (by omega)]; exact h4 j hj
  · rw [wa_sa, if_neg (by decide), up_at, if_neg (by omega)]; exact h5 j hj
  · rw [wa_sa, if_neg (by decide), up_at, if_neg (by omega)]; exact h6 j hj
theorem mxD.likes {w : gx_W} {g : Nat → Int32} {n q : Nat} (h : mxD w g n) (hq : q < n) (v : Int32) : mxD (s_a w 58 (va_up (w_a w 58) q v)) (va_up g q v) n :=
  ⟨h.1.likes hq v, fun j hj => by have := h.1.2.1; rw [wa_sa, if_neg (by decide), up_at, if_neg (by omega)]; exact h.2 j hj⟩
theorem mxN.wait {w : gx_W} {g : Nat → Int32} {n q : Nat} (h : mxN w g n) (hq : q < n) (v : Int32) : mxN (s_a w 61 (va_up (w_a w 61) q v)) (va_up g (18 + q) v) n := by
  obtain ⟨h1, h2, h3, h4, h5, h6⟩ := h
  refine ⟨h1, h2, fun j hj => ?_, fun j hj => ?_, fun j hj => ?_, fun j hj => ?_⟩
  · rw [wa_sa, if_neg (by decide), up_at, if_neg (by omega)]; exact h3 j hj
  · rw [wa_sa, if_neg (by decide), up_at, if_neg (by omega)]; exact h4 j hj
  · rw [wa_sa, if_neg (by decide), up_at, if_neg (by omega)]; exact h5 j hj
  · rw [wa_sa, if_neg (by decide), up_at, if_neg (by omega)]; exact h6 j hj
theorem mxD.wait {w : gx_W} {g : Nat → Int32} {n q : Nat} (h : mxD w g n) (hq : q < n) (v : Int32) : mxD (s_a w 61 (va_up (w_a w 61) q v)) (va_up g (18 + q) v) n := by
  refine ⟨h.1.wait hq v, fun j hj => ?_⟩
  rw [wa_sa, if_pos rfl, up_at, up_at]
  by_cases e : j = q
  · rw [if_pos e, if_pos (by omega)]
  · rw [if_neg e, if_neg (by omega)]; exact h.2 j hj
theorem moT_dust {w : gx_W} {g sg va : Nat → Int32} {n N q : Nat} {v : Int32} (h : moT w g n N sg va) (hq : q < n) (h1 : -300 ≤ v.toInt) (h2 : v.toInt ≤ 300) : moT (s_a w 59 (va_up (w_a w 59) q v)) (va_up g (6 + q) v) n N sg va := by
  obtain ⟨a, b, c, e⟩ := h
  have hn := b.1.2.1
  have hs : same [59] [] w (s_a w 59 (va_up (w_a w 59) q v)) := same.rf.sa (by simp)
  refine ⟨a.same hs, ⟨b.1.dust hq v, fun j hj => ?_⟩, c.same hs (by simp) (fun k k1 k2 => by simp; omega), e.up h1 h2⟩
  rw [wa_sa, if_neg (by decide), up_at, if_neg (by omega)]
  exact b.2 j hj
theorem nI_300 {t : Nat} (h : t < 300) : -300 ≤ (nI t).toInt ∧ (nI t).toInt ≤ 300 := by
  rw [nI_toInt (by omega)]
  omega
theorem l_X10_moreE {d n q : Nat} {w : gx_W} {g : Nat → Int32} {x was v x5 : Int32} {k : Int32 → gx_W → Prop} (h : moO w) (hg : mxN w g n) (hq : q < n) (kk : mxN (s_a w 59 (va_up (w_a w 59) q was)) (va_up g (6 + q) was) n → k v (s_a w 59 (va_up (w_a w 59) q was))) : gx_G 0 0 d mX10_more (Qi k) 75 [.ref 57, .int x, .int (nI q), .int was, .int v, .int x5] [] w := by
  have hn6 := hg.2.1
  refine g_aload_n dX10_more_75 rfl ?_
  refine g_getr dX10_more_76 fl_X10_15 h.1 (moR_59 h) ?_
  refine g_iload_n dX10_more_79 rfl ?_
  refine g_iload_n dX10_more_80 rfl ?_
  refine g_iast dX10_more_81 (moA_59 h) (vp_in_nI (by omega) (by decide)) ?_
  rw [nI_n (show q < 2 ^ 31 by omega)]
  refine g_iload dX10_more_82 rfl ?_
  refine g_iret dX10_more_84 rfl ⟨_, rfl, ?_⟩
  exact kk (hg.dust hq was)
theorem l_X10_whatE {d n q : Nat} {w : gx_W} {g : Nat → Int32} {y was v x5 : Int32} {k : Int32 → gx_W → Prop} (h : moO w) (hg : mxN w g n) (hq : q < n) (kk : mxN (s_a w 59 (va_up (w_a w 59) q was)) (va_up g (6 + q) was) n → k v (s_a w 59 (va_up (w_a w 59) q was))) : gx_G 0 0 d mX10_whatever (Qi k) 77 [.ref 57, .int (nI q), .int y, .int was, .int v, .int x5] [] w := by
  have hn6 := hg.2.1
  refine g_aload_n dX10_whatever_77 rfl ?_
  refine g_getr dX10_whatever_78 fl_X10_15 h.1 (moR_59 h) ?_
  refine g_iload_n dX10_whatever_81 rfl ?_
  refine g_iload_n dX10_whatever_82 rfl ?_
  refine g_iast dX10_whatever_83 (moA_59 h) (vp_in_nI (by omega) (by decide)) ?_
  rw [nI_n (show q < 2 ^ 31 by omega)]
  refine g_iload dX10_whatever_84 rfl ?_
  refine g_iret dX10_whatever_86 rfl ⟨_, rfl, ?_⟩
  exact kk (hg.dust hq was)
theorem l_X10_more {d n N q c : Nat} {w : gx_W} {f sg va : Nat → Int32} {k : Int32 → gx_W → Prop} (hd : 7 ≤ d) (hq : q < n) (hn6 : n ≤ 6) (hc : c < 100) : ∀ (z t : Nat) (g : Nat → Int32) (w1 : gx_W), t + z = 10 → same [59, 73, 74, 75] [] w w1 → moT w1 g n N sg va → va_up g (6 + q) (f (6 + q)) = f → (∀ w', same [59, 73, 74, 75] [] w w' → mxN w' f n → k (me_mo N sg va n c q z t g) w') → gx_G 0 0 d mX10_more (Qi k) 33 [.ref 57, .int (nI (100 * q + c)), .int (nI q), .int (f (6 + q)), .int (-2), .int (nI t)] [] w1 := by
  intro z
  induction z with
  | zero =>
    intro t g w1 ht hs hI hg kk
    have e : t = 10 := by omega
    subst e
    refine g_iload dX10_more_33 rfl ?_
    refine g_bipush (v := 9) dX10_more_35 rfl ?_
    refine g_icmp_gt (tgt := 75) dX10_more_37 (by decide) (fun zc37 => ?_) (fun zc37 => ?_)
    · exact l_X10_moreE hI.1 hI.2.1.1 hq (fun hm => kk _ (hs.sa (by simp)) (by rw [hg] at hm; exact hm))
    · exact absurd (by decide) zc37
  | succ z ih =>
    intro t g w1 ht hs hI hg kk
    have hn3 := nI_300 (show t < 300 by omega)
    have hD := moT_dust hI hq hn3.1 hn3.2
    have sD : same [59, 73, 74, 75] [] w (s_a w1 59 (va_up (w_a w1 59) q (nI t))) := hs.sa (by simp)
    have hg2 : va_up (va_up g (6 + q) (nI t)) (6 + q) (f (6 + q)) = f := by rw [va_up_up]; exact hg
    have hrem := rc_rem (q := q) (c := c) (by omega) hc
    refine g_iload dX10_more_33 rfl ?_
    refine g_bipush (v := 9) dX10_more_35 rfl ?_
    refine g_icmp_gt (tgt := 75) dX10_more_37 (by decide) (fun zc37 => ?_) (fun zc37 => ?_)
    · exact absurd (show nI 9 < nI t from zc37) (nI_nlt (by omega) (by omega))
    · refine g_iload dX10_more_40 rfl ?_
      refine g_if_ge (tgt := 75) dX10_more_42 (by decide) (fun q => absurd q (by decide)) (fun _ => ?_)
      refine g_aload_n dX10_more_45 rfl ?_
      refine g_getr dX10_more_46 fl_X10_15 hI.1.1 (moR_59 hI.1) ?_
      refine g_iload_n dX10_more_49 rfl ?_
      refine g_iload dX10_more_50 rfl ?_
      refine g_iast dX10_more_52 (moA_59 hI.1) (vp_in_nI (by omega) (by decide)) ?_
      rw [nI_n (show q < 2 ^ 31 by omega)]
      refine g_aload_n dX10_more_53 rfl ?_
      refine g_iload_n dX10_more_54 rfl ?_
      refine g_bipush (v := 100) dX10_more_55 rfl ?_
      refine g_irem dX10_more_57 (by first | assumption | decide) ?_
      rw [hrem]
      refine g_cV1i dX10_more_58 ml_X10_249 mi_X10_hasNow mv_X10_hasNow hI.1.1 ⟨_, rfl, rfl⟩ (Nat.le_of_ble_eq_true rfl) rfl (by omega) ?_
      refine c_X10_hasNow (by omega) hD hc (fun w2 hs2 => ?_)
      have h2 := hD.same hs2 (by simp) (by simp)
      have s2 := sD.tr (hs2.wk (R' := [59, 73, 74, 75]) (F' := []) (by simp) (by simp))
      refine g_iload_n dX10_more_61 rfl ?_
      refine g_icmp_ne (tgt := 69) dX10_more_62 (by decide) (fun zc62 => ?_) (fun zc62 => ?_)
      · refine g_iinc dX10_more_69 rfl rfl ?_
        refine g_goto (tgt := 33) dX10_more_72 (by decide) ?_
        rw [show me_mo N sg va n c q (z + 1) t g = me_mo N sg va n c q z (t + 1) (va_up g (6 + q) (nI t)) from if_neg zc62] at kk
        rw [nI_1']
        exact ih (t + 1) _ w2 (by omega) s2 h2 hg2 kk
      · refine g_iload dX10_more_65 rfl ?_
        refine g_istore dX10_more_67 (Nat.le_of_ble_eq_true rfl) rfl ?_
        refine g_iinc dX10_more_69 rfl rfl ?_
        refine g_goto (tgt := 33) dX10_more_72 (by decide) ?_
        refine g_iload dX10_more_33 rfl ?_
        refine g_bipush (v := 9) dX10_more_35 rfl ?_
        refine g_icmp_gt (tgt := 75) dX10_more_37 (by decide) (fun zc37 => ?_) (fun zc37 => ?_)
        · rw [show me_mo N sg va n c q (z + 1) t g = nI t from if_pos zc62] at kk
          exact l_X10_moreE h2.1 h2.2.1.1 hq (fun hm => kk _ (s2.sa (by simp)) (by rw [hg2] at hm; exact hm))
        · refine g_iload dX10_more_40 rfl ?_
          refine g_if_ge (tgt := 75) dX10_more_42 (by decide) (fun zc42 => ?_) (fun zc42 => ?_)
          · rw [show me_mo N sg va n c q (z + 1) t g = nI t from if_pos zc62] at kk
            exact l_X10_moreE h2.1 h2.2.1.1 hq (fun hm => kk _ (s2.sa (by simp)) (by rw [hg2] at hm; exact hm))
          · exact absurd (nI_pos' (by omega)) zc42
theorem l_X10_whatever {d n N q p : Nat} {w : gx_W} {f sg va : Nat → Int32} {k : Int32 → gx_W → Prop} (hd : 7 ≤ d) (hq : q < n) (hn6 : n ≤ 6) (hp : p < 10) : ∀ (z t : Nat) (g : Nat → Int32) (w1 : gx_W), t + z = 10 → same [59, 73, 74, 75] [] w w1 → moT w1 g n N sg va → va_up g (6 + q) (f (6 + q)) = f → (∀ w', same [59, 73, 74, 75] [] w w' → mxN w' f n → k (me_wh N sg va n p q z t g) w') → gx_G 0 0 d mX10_whatever (Qi k) 38 [.ref 57, .int (nI q), .int (nI p), .int (f (6 + q)), .int (-2), .int (nI t)] [] w1 := by
  intro z
  induction z with
  | zero =>
    intro t g w1 ht hs hI hg kk
    have e : t = 10 := by omega
    subst e
    refine g_iload dX10_whatever_38 rfl ?_
    refine g_bipush (v := 9) dX10_whatever_40 rfl ?_
    refine g_icmp_gt (tgt := 77) dX10_whatever_42 (by decide) (fun zc42 => ?_) (fun zc42 => ?_)
    · exact l_X10_whatE hI.1 hI.2.1.1 hq (fun hm => kk _ (hs.sa (by simp)) (by rw [hg] at hm; exact hm))
    · exact absurd (by decide) zc42
  | succ z ih =>
    intro t g w1 ht hs hI hg kk
    have hn3 := nI_300 (show t < 300 by omega)
    have hD := moT_dust hI hq hn3.1 hn3.2
    have sD : same [59, 73, 74, 75] [] w (s_a w1 59 (va_up (w_a w1 59) q (nI t))) := hs.sa (by simp)
    have hg2 : va_up (va_up g (6 + q) (nI t)) (6 + q) (f (6 + q)) = f := by rw [va_up_up]; exact hg
    refine g_iload dX10_whatever_38 rfl ?_
    refine g_bipush (v := 9) dX10_whatever_40 rfl ?_
    refine g_icmp_gt (tgt := 77) dX10_whatever_42 (by decide) (fun zc42 => ?_) (fun zc42 => ?_)
    · exact absurd (show nI 9 < nI t from zc42) (nI_nlt (by omega) (by omega))
    · refine g_iload dX10_whatever_45 rfl ?_
      refine g_if_ge (tgt := 77) dX10_whatever_47 (by decide) (fun q => absurd q (by decide)) (fun _ => ?_)
      refine g_aload_n dX10_whatever_50 rfl ?_
      refine g_getr dX10_whatever_51 fl_X10_15 hI.1.1 (moR_59 hI.1) ?_
      refine g_iload_n dX10_whatever_54 rfl ?_
      refine g_iload dX10_whatever_55 rfl ?_
      refine g_iast dX10_whatever_57 (moA_59 hI.1) (vp_in_nI (by omega) (by decide)) ?_
      rw [nI_n (show q < 2 ^ 31 by omega)]
      refine g_aload_n dX10_whatever_58 rfl ?_
      refine g_iload_n dX10_whatever_59 rfl ?_
      refine g_iload_n dX10_whatever_60 rfl ?_
      refine g_cV2i dX10_whatever_61 ml_X10_314 mi_X10_hasAll mv_X10_hasAll hI.1.1 ⟨_, rfl, rfl⟩ (Nat.le_of_ble_eq_true rfl) rfl (by omega) ?_
      refine c_X10_hasAll (by omega) hD hp (fun ha w2 hs2 => ?_) (fun ha w2 hs2 => ?_)
      · have h2 := hD.same hs2 (by simp) (by simp)
        have s2 := sD.tr (hs2.wk (R' := [59, 73, 74, 75]) (F' := []) (by simp) (by simp))
        refine g_if_eq (tgt := 71) dX10_whatever_64 (by decide) (fun q => absurd q (by decide)) (fun _ => ?_)
        refine g_iload dX10_whatever_67 rfl ?_
        refine g_istore dX10_whatever_69 (Nat.le_of_ble_eq_true rfl) rfl ?_
        refine g_iinc dX10_whatever_71 rfl rfl ?_
        refine g_goto (tgt := 38) dX10_whatever_74 (by decide) ?_
        refine g_iload dX10_whatever_38 rfl ?_
        refine g_bipush (v := 9) dX10_whatever_40 rfl ?_
        refine g_icmp_gt (tgt := 77) dX10_whatever_42 (by decide) (fun zc42 => ?_) (fun zc42 => ?_)
        · rw [show me_wh N sg va n p q (z + 1) t g = nI t from if_pos ha] at kk
          exact l_X10_whatE h2.1 h2.2.1.1 hq (fun hm => kk _ (s2.sa (by simp)) (by rw [hg2] at hm; exact hm))
        · refine g_iload dX10_whatever_45 rfl ?_
          refine g_if_ge (tgt := 77) dX10_whatever_47 (by decide) (fun zc47 => ?_) (fun zc47 => ?_)
          · rw [show me_wh N sg va n p q (z + 1) t g = nI t from if_pos ha] at kk
            exact l_X10_whatE h2.1 h2.2.1.1 hq (fun hm => kk _ (s2.sa (by simp)) (by rw [hg2] at hm; exact hm))
          · exact absurd (nI_pos' (by omega)) zc47
      · have h2 := hD.same hs2 (by simp) (by simp)
        have s2 := sD.tr (hs2.wk (R' := [59, 73, 74, 75]) (F' := []) (by simp) (by simp))
        refine g_if_eq (tgt := 71) dX10_whatever_64 (by decide) (fun _ => ?_) (fun q => absurd q (by decide))
        refine g_iinc dX10_whatever_71 rfl rfl ?_
        refine g_goto (tgt := 38) dX10_whatever_74 (by decide) ?_
        rw [show me_wh N sg va n p q (z + 1) t g = me_wh N sg va n p q z (t + 1) (va_up g (6 + q) (nI t)) from if_neg (by rw [ha]; decide)] at kk
        rw [nI_1']
        exact ih (t + 1) _ w2 (by omega) s2 h2 hg2 kk
theorem c_X10_more {d : Nat} {w : gx_W} {f : Nat → Int32} {n N : Nat} {sg va : Nat → Int32} {x : Int32} {k : Int32 → gx_W → Prop} (hd : 7 ≤ d) (h : moO w) (hx : mxD w f n) (hl : lwM w N sg va) (hb : bnd f n) (k1 : (∀ q c, c < 100 → q < n → x ≠ nI (100 * q + c)) → k (-1) w) (kk : ∀ q c, x = nI (100 * q + c) → c < 100 → q < n → ∀ w', same [59, 73, 74, 75] [] w w' → mxD w' f n → k (me_mo N sg va n c q 10 0 f) w') : gx_C 0 0 d mX10_more [.ref 57, .int x] w (Qi k) := by
  refine gx_C_of' (L := [.ref 57, .int x, .retAddr 0, .retAddr 0, .retAddr 0, .retAddr 0]) (by decide +kernel) rfl (Nat.le_of_ble_eq_true rfl) ?_
  refine g_aload_n dX10_more_0 rfl ?_
  refine g_iload_n dX10_more_1 rfl ?_
  refine g_cV1i dX10_more_2 ml_X10_287 mi_X10_areComer mv_X10_areComer h.1 ⟨_, rfl, rfl⟩ (Nat.le_of_ble_eq_true rfl) rfl (by omega) ?_
  refine c_X10_areComer (by omega) h hx.1.1 hx.1.2.1 (fun q c e hco hq => ?_) (fun np => ?_)
  · refine g_if_ne (tgt := 10) dX10_more_5 (by decide) (fun _ => ?_) (fun q => absurd q (by decide))
    refine g_aload_n dX10_more_10 rfl ?_
    refine g_cV0v dX10_more_11 ml_X10_259 mi_X10_layNow mv_X10_layNow h.1 ⟨_, rfl, rfl⟩ (Nat.le_of_ble_eq_true rfl) rfl (by omega) ?_
    refine c_X10_layNow (by omega) h hx hl hb (fun w1 hs1 h1 => ?_)
    have hn6 := hx.1.2.1
    subst e
    refine g_iload_n dX10_more_14 rfl ?_
    refine g_bipush (v := 100) dX10_more_15 rfl ?_
    refine g_idiv dX10_more_17 (by decide) ?_
    rw [rc_div (by omega) hco]
    refine g_istore_n dX10_more_18 (Nat.le_of_ble_eq_true rfl) rfl ?_
    refine g_aload_n dX10_more_19 rfl ?_
    refine g_getr dX10_more_20 fl_X10_15 h1.1.1 (moR_59 h1.1) ?_
    refine g_iload_n dX10_more_23 rfl ?_
    refine g_iald dX10_more_24 (moA_59 h1.1) (vp_in_nI (by omega) (by decide)) ?_
    rw [nI_n (show q < 2 ^ 31 by omega), h1.2.1.1.2.2.2.1 q hq]
    refine g_istore_n dX10_more_25 (Nat.le_of_ble_eq_true rfl) rfl ?_
    refine g_bipush (v := -2) dX10_more_26 rfl ?_
    refine g_istore dX10_more_28 (Nat.le_of_ble_eq_true rfl) rfl ?_
    refine g_iconst (v := 0) dX10_more_30 rfl ?_
    refine g_istore dX10_more_31 (Nat.le_of_ble_eq_true rfl) rfl ?_
    exact l_X10_more (by omega) hq hn6 hco 10 0 f w1 rfl (hs1.wk (by simp) (by simp)) h1 up_self (fun w' hs' hm => kk q c rfl hco hq w' hs' ⟨hm, fun j hj => by rw [(hs'.2.2.2.1 61 (by simp)).1]; exact hx.2 j hj⟩)
  · refine g_if_ne (tgt := 10) dX10_more_5 (by decide) (fun q => absurd q (by decide)) (fun _ => ?_)
    refine g_iconst (v := -1) dX10_more_8 rfl ?_
    refine g_iret dX10_more_9 rfl ⟨_, rfl, ?_⟩
    exact k1 np
theorem c_X10_whatever {d : Nat} {w : gx_W} {f : Nat → Int32} {n N : Nat} {sg va : Nat → Int32} {x y : Int32} {k : Int32 → gx_W → Prop} (hd : 7 ≤ d) (h : moO w) (hx : mxD w f n) (hl : lwM w N sg va) (hb : bnd f n) (k1 : (∀ q, q < n → x ≠ nI q) → k (-1) w) (k2 : (∀ p, p ≤ 9 → y ≠ nI p) → k (-1) w) (kk : ∀ q p, x = nI q → q < n → y = nI p → p ≤ 9 → ∀ w', same [59, 73, 74, 75] [] w w' → mxD w' f n → k (me_wh N sg va n p q 10 0 f) w') : gx_C 0 0 d mX10_whatever [.ref 57, .int x, .int y] w (Qi k) := by
  refine gx_C_of' (L := [.ref 57, .int x, .int y, .retAddr 0, .retAddr 0, .retAddr 0]) (by decide +kernel) rfl (Nat.le_of_ble_eq_true rfl) ?_
  refine g_aload_n dX10_whatever_0 rfl ?_
  refine g_iload_n dX10_whatever_1 rfl ?_
  refine g_cV1i dX10_whatever_2 ml_X10_128 mi_X10_isRoad mv_X10_isRoad h.1 ⟨_, rfl, rfl⟩ (Nat.le_of_ble_eq_true rfl) rfl (by omega) ?_
  refine c_X10_isRoad (by omega) h hx.1.1 hx.1.2.1 (fun q eq hq => ?_) (fun nx => ?_)
  · refine g_if_eq (tgt := 18) dX10_whatever_5 (by decide) (fun q => absurd q (by decide)) (fun _ => ?_)
    refine g_iload_n dX10_whatever_8 rfl ?_
    refine g_iconst (v := 0) dX10_whatever_9 rfl ?_
    refine g_bipush (v := 9) dX10_whatever_10 rfl ?_
    refine g_cS3i dX10_whatever_12 ml_X10_124 mi_X10_in ms_X10_in (Nat.le_of_ble_eq_true rfl) rfl (by omega) ?_
    refine c_inN (H := 9) rfl (by decide) (fun p ep hp => ?_) (fun ny => ?_)
    · refine g_if_ne (tgt := 20) dX10_whatever_15 (by decide) (fun _ => ?_) (fun q => absurd q (by decide))
      refine g_aload_n dX10_whatever_20 rfl ?_
      refine g_cV0v dX10_whatever_21 ml_X10_259 mi_X10_layNow mv_X10_layNow h.1 ⟨_, rfl, rfl⟩ (Nat.le_of_ble_eq_true rfl) rfl (by omega) ?_
      refine c_X10_layNow (by omega) h hx hl hb (fun w1 hs1 h1 => ?_)
      have hn6 := hx.1.2.1
      subst eq
      subst ep
      refine g_aload_n dX10_whatever_24 rfl ?_
      refine g_getr dX10_whatever_25 fl_X10_15 h1.1.1 (moR_59 h1.1) ?_
      refine g_iload_n dX10_whatever_28 rfl ?_
      refine g_iald dX10_whatever_29 (moA_59 h1.1) (vp_in_nI (by omega) (by decide)) ?_
      rw [nI_n (show q < 2 ^ 31 by omega), h1.2.1.1.2.2.2.1 q hq]
      refine g_istore_n dX10_whatever_30 (Nat.le_of_ble_eq_true rfl) rfl ?_
      refine g_bipush (v := -2) dX10_whatever_31 rfl ?_
      refine g_istore dX10_whatever_33 (Nat.le_of_ble_eq_true rfl) rfl ?_
      refine g_iconst (v := 0) dX10_whatever_35 rfl ?_
      refine g_istore dX10_whatever_36 (Nat.le_of_ble_eq_true rfl) rfl ?_
      exact l_X10_whatever (by omega) hq hn6 (by omega) 10 0 f w1 rfl (hs1.wk (by simp) (by simp)) h1 up_self (fun w' hs' hm => kk q p rfl hq rfl hp w' hs' ⟨hm, fun j hj => by rw [(hs'.2.2.2.1 61 (by simp)).1]; exact hx.2 j hj⟩)
    · refine g_if_ne (tgt := 20) dX10_whatever_15 (by decide) (fun q => absurd q (by decide)) (fun _ => ?_)
      refine g_iconst (v := -1) dX10_whatever_18 rfl ?_
      refine g_iret dX10_whatever_19 rfl ⟨_, rfl, ?_⟩
      exact k2 ny
  · refine g_if_eq (tgt := 18) dX10_whatever_5 (by decide) (fun _ => ?_) (fun q => absurd q (by decide))
    refine g_iconst (v := -1) dX10_whatever_18 rfl ?_
    refine g_iret dX10_whatever_19 rfl ⟨_, rfl, ?_⟩
    exact k1 nx
theorem me_ls_c (f : Nat → Int32) : ∀ i, (me_ls f i).1 = -2 ∨ ∃ t, t < i ∧ (me_ls f i).1 = nI t := by
  intro i
  induction i with
  | zero => exact Or.inl rfl
  | succ i ih =>
    unfold me_ls
    split
    · exact Or.inr ⟨i, by omega, rfl⟩
    · rcases ih with q | ⟨t, t1, t2⟩
      · exact Or.inl q
      · exact Or.inr ⟨t, by omega, t2⟩
theorem me_ls_t {f : Nat → Int32} {i : Nat} (h : (me_ls f i).1 = -2 ∨ f i + f (18 + i) + f (6 + i) < (me_ls f i).2) : me_ls f (i + 1) = (nI i, f i + f (18 + i) + f (6 + i)) := if_pos h
theorem me_ls_f {f : Nat → Int32} {i : Nat} (h : ¬ ((me_ls f i).1 = -2 ∨ f i + f (18 + i) + f (6 + i) < (me_ls f i).2)) : me_ls f (i + 1) = me_ls f i := if_neg h
theorem l_X10_least {d n : Nat} {w : gx_W} {f : Nat → Int32} {k : Int32 → gx_W → Prop} (h : moO w) (hx : mxD w f n) (kk : k (me_ls f n).1 w) : ∀ (z i : Nat) (x4 : Value), i + z = n → gx_G 0 0 d mX10_least (Qi k) 7 [.ref 57, .int (me_ls f i).1, .int (me_ls f i).2, .int (nI i), x4] [] w := by
  intro z
  have hn6 := hx.1.2.1
  have en := hx.1.1
  induction z with
  | zero =>
    intro i x4 hi
    have e : i = n := by omega
    subst e
    refine g_iload_n dX10_least_7 rfl ?_
    refine g_aload_n dX10_least_8 rfl ?_
    refine g_geti dX10_least_9 fl_X10_121 h.1 ?_
    rw [en]
    refine g_icmp_ge (tgt := 61) dX10_least_12 (by decide) (fun zc12 => ?_) (fun zc12 => ?_)
    · refine g_iload_n dX10_least_61 rfl ?_
      refine g_iret dX10_least_62 rfl ⟨_, rfl, ?_⟩
      exact kk
    · exact absurd (Int32.le_refl _) zc12
  | succ z ih =>
    intro i x4 hi
    have ihs := ih (i + 1) (.int (f i + f (18 + i) + f (6 + i))) (by omega)
    have hc := me_ls_c f i
    refine g_iload_n dX10_least_7 rfl ?_
    refine g_aload_n dX10_least_8 rfl ?_
    refine g_geti dX10_least_9 fl_X10_121 h.1 ?_
    rw [en]
    refine g_icmp_ge (tgt := 61) dX10_least_12 (by decide) (fun zc12 => ?_) (fun zc12 => ?_)
    · exact absurd zc12 (nI_ge (by omega) (by omega))
    · refine g_aload_n dX10_least_15 rfl ?_
      refine g_getr dX10_least_16 fl_X10_9 h.1 (moR_58 h) ?_
      refine g_iload_n dX10_least_19 rfl ?_
      refine g_iald dX10_least_20 (moA_58 h) (vp_in_nI (by omega) (by decide)) ?_
      rw [nI_n (show i < 2 ^ 31 by omega), hx.1.2.2.1 i (by omega)]
      refine g_aload_n dX10_least_21 rfl ?_
      refine g_getr dX10_least_22 fl_X10_21 h.1 (moR_61 h) ?_
      refine g_iload_n dX10_least_25 rfl ?_
      refine g_iald dX10_least_26 (moA_61 h) (vp_in_nI (by omega) (by decide)) ?_
      rw [nI_n (show i < 2 ^ 31 by omega), hx.2 i (by omega)]
      refine g_iadd dX10_least_27 ?_
      refine g_aload_n dX10_least_28 rfl ?_
      refine g_getr dX10_least_29 fl_X10_15 h.1 (moR_59 h) ?_
      refine g_iload_n dX10_least_32 rfl ?_
      refine g_iald dX10_least_33 (moA_59 h) (vp_in_nI (by omega) (by decide)) ?_
      rw [nI_n (show i < 2 ^ 31 by omega), hx.1.2.2.2.1 i (by omega)]
      refine g_iadd dX10_least_34 ?_
      refine g_istore dX10_least_35 (Nat.le_of_ble_eq_true rfl) rfl ?_
      refine g_iload_n dX10_least_37 rfl ?_
      refine g_if_lt (tgt := 50) dX10_least_38 (by decide) (fun zc38 => ?_) (fun zc38 => ?_)
      · refine g_iload_n dX10_least_50 rfl ?_
        refine g_istore_n dX10_least_51 (Nat.le_of_ble_eq_true rfl) rfl ?_
        refine g_iload dX10_least_52 rfl ?_
        refine g_istore_n dX10_least_54 (Nat.le_of_ble_eq_true rfl) rfl ?_
        refine g_iinc dX10_least_55 rfl rfl ?_
        refine g_goto (tgt := 7) dX10_least_58 (by decide) ?_
        rw [nI_1']
        rw [me_ls_t (Or.inl (by
          rcases hc with q | ⟨t, t1, t2⟩
          · exact q
          · rw [t2] at zc38; exact absurd zc38 (nI_pos (by omega))))] at ihs
        exact ihs
      · refine g_iload dX10_least_41 rfl ?_
        refine g_iload_n dX10_least_43 rfl ?_
        refine g_icmp_lt (tgt := 50) dX10_least_44 (by decide) (fun zc44 => ?_) (fun zc44 => ?_)
        · refine g_iload_n dX10_least_50 rfl ?_
          refine g_istore_n dX10_least_51 (Nat.le_of_ble_eq_true rfl) rfl ?_
          refine g_iload dX10_least_52 rfl ?_
          refine g_istore_n dX10_least_54 (Nat.le_of_ble_eq_true rfl) rfl ?_
          refine g_iinc dX10_least_55 rfl rfl ?_
          refine g_goto (tgt := 7) dX10_least_58 (by decide) ?_
          rw [nI_1']
          rw [me_ls_t (Or.inr zc44)] at ihs
          exact ihs
        · refine g_goto (tgt := 55) dX10_least_47 (by decide) ?_
          refine g_iinc dX10_least_55 rfl rfl ?_
          refine g_goto (tgt := 7) dX10_least_58 (by decide) ?_
          rw [nI_1']
          rw [me_ls_f (fun q => by
            rcases q with q | q
            · rw [q] at zc38; exact absurd (by decide) zc38
            · exact zc44 q)] at ihs
          exact ihs
theorem c_X10_least {d : Nat} {w : gx_W} {f : Nat → Int32} {n : Nat} {k : Int32 → gx_W → Prop} (hd : 0 ≤ d) (h : moO w) (hx : mxD w f n) (kk : k (me_ls f n).1 w) : gx_C 0 0 d mX10_least [.ref 57] w (Qi k) := by
  refine gx_C_of' (L := [.ref 57, .retAddr 0, .retAddr 0, .retAddr 0, .retAddr 0]) (by decide +kernel) rfl (Nat.le_of_ble_eq_true rfl) ?_
  refine g_bipush (v := -2) dX10_least_0 rfl ?_
  refine g_istore_n dX10_least_2 (Nat.le_of_ble_eq_true rfl) rfl ?_
  refine g_iconst (v := 0) dX10_least_3 rfl ?_
  refine g_istore_n dX10_least_4 (Nat.le_of_ble_eq_true rfl) rfl ?_
  refine g_iconst (v := 0) dX10_least_5 rfl ?_
  refine g_istore_n dX10_least_6 (Nat.le_of_ble_eq_true rfl) rfl ?_
  exact l_X10_least h hx kk n 0 _ (Nat.zero_add _)
theorem me_fw_c {N n ln : Nat} {sg va C : Nat → Int32} : ∀ (z two : Nat) (f : Nat → Int32), me_fw N sg va n C ln z two f = -2 ∨ ∃ m, m < two + z ∧ me_fw N sg va n C ln z two f = nI m := by
  intro z
  induction z with
  | zero => intro two f; exact Or.inl rfl
  | succ z ih =>
    intro two f
    by_cases q : me_ok N sg va n C ln two f = true
    · rw [show me_fw N sg va n C ln (z + 1) two f = me_fw N sg va n C ln z (two + 1) (me_nx N sg va f n (C (2 * two)).toNatClampNeg) from if_pos q]
      rcases ih (two + 1) (me_nx N sg va f n (C (2 * two)).toNatClampNeg) with e | ⟨m, m1, m2⟩
      · exact Or.inl e
      · exact Or.inr ⟨m, by omega, m2⟩
    · exact Or.inr ⟨two, by omega, if_neg q⟩
def bkF (N : Nat) (sg va : Nat → Int32) (n : Nat) (C : Nat → Int64) (ln p : Nat) (f : Nat → Int32) (v : Nat) : Int32 := me_fw N sg va n (fun j => (C j).toInt32) ln ((ln + 1) / 2) 0 (va_up f p (nI v))
theorem bkF_c {N n ln p v : Nat} {sg va f : Nat → Int32} {C : Nat → Int64} (hln : ln ≤ 60) : (bkF N sg va n C ln p f v < 0 → bkF N sg va n C ln p f v = -2) ∧ (¬ bkF N sg va n C ln p f v < 0 → ¬ bkF N sg va n C ln p f v = -2) := by
  unfold bkF
  rcases me_fw_c (N := N) (sg := sg) (va := va) (n := n) (C := fun j => (C j).toInt32) (ln := ln) ((ln + 1) / 2) 0 (va_up f p (nI v)) with e | ⟨m, m1, m2⟩
  · rw [e]; exact ⟨fun _ => rfl, fun q => absurd (by decide) q⟩
  · rw [m2]; exact ⟨fun q => absurd q (nI_pos (by omega)), fun _ => nI_m2 (by omega)⟩
set_option maxHeartbeats 1000000 in
theorem l_X10_liking {d n N i ln q : Nat} {w : gx_W} {f sg va : Nat → Int32} {C : Nat → Int64} {u : Int32} {k : Int32 → gx_W → Prop} (hd : 8 ≤ d) (hi6 : i < 6) (hq : q < n) (h : moO w) (hl : lwM w N sg va) (hb : bnd f n) (hsh : shM w i ln C) (kk : ∀ w', same [58, 73, 74, 75] [] w w' → mxD w' f n → k (if u = 0 then nI (ctF (fun v => decide ((bkF N sg va n C ln (0 * 6 + q) f) v = -2)) 10) else fsF (fun v => decide ((bkF N sg va n C ln (0 * 6 + q) f) v = -2)) 10) w') : ∀ (z t : Nat) (g : Nat → Int32) (w1 : gx_W), t + z = 10 → same [58, 73, 74, 75] [] w w1 → mxD w1 g n → va_up g (0 * 6 + q) (f (0 * 6 + q)) = f → gx_G 0 0 d mX10_liking (Qi k) 58 [.ref 57, .int (nI i), .int (nI q), .int u, .int (f (0 * 6 + q)), .int (nI (ctF (fun v => decide ((bkF N sg va n C ln (0 * 6 + q) f) v = -2)) t)), .int (fsF (fun v => decide ((bkF N sg va n C ln (0 * 6 + q) f) v = -2)) t), .int (nI t)] [] w1 := by
  intro z
  have hln := hsh.2.1
  have e0 : 0 * 6 + q = q := by omega
  induction z with
  | zero =>
    intro t g w1 ht hs hI hg
    have hn6 := hI.1.2.1
    have h1 := h.same hs
    have e : t = 10 := by omega
    subst e
    refine g_iload dX10_liking_58 rfl ?_
    refine g_bipush (v := 9) dX10_liking_60 rfl ?_
    refine g_icmp_gt (tgt := 102) dX10_liking_62 (by decide) (fun zc62 => ?_) (fun zc62 => ?_)
    · refine g_aload_n dX10_liking_102 rfl ?_
      refine g_getr dX10_liking_103 fl_X10_9 h1.1 (moR_58 h1) ?_
      refine g_iload_n dX10_liking_106 rfl ?_
      refine g_iload dX10_liking_107 rfl ?_
      refine g_iast dX10_liking_109 (moA_58 h1) (vp_in_nI (by omega) (by decide)) ?_
      rw [nI_n (show q < 2 ^ 31 by omega)]
      have hm := hI.likes hq (f (0 * 6 + q))
      have hg' : va_up g q (f (0 * 6 + q)) = f := by
        have y := hg
        rw [e0] at y ⊢
        exact y
      rw [hg'] at hm
      have K := kk _ (hs.sa (by simp)) hm
      refine g_iload_n dX10_liking_110 rfl ?_
      refine g_if_ne (tgt := 119) dX10_liking_111 (by decide) (fun zc111 => ?_) (fun zc111 => ?_)
      · refine g_iload dX10_liking_119 rfl ?_
        refine g_iret dX10_liking_121 rfl ⟨_, rfl, ?_⟩
        rw [if_neg zc111] at K
        exact K
      · refine g_iload dX10_liking_114 rfl ?_
        refine g_goto (tgt := 121) dX10_liking_116 (by decide) ?_
        refine g_iret dX10_liking_121 rfl ⟨_, rfl, ?_⟩
        rw [if_pos zc111] at K
        exact K
    · exact absurd (by decide) zc62
  | succ z ih =>
    intro t g w1 ht hs hI hg
    have hn6 := hI.1.2.1
    have h1 := h.same hs
    have hn3 := nI_300 (show t < 300 by omega)
    have hct := ctF_le (fun v => decide ((bkF N sg va n C ln (0 * 6 + q) f) v = -2)) t
    have ihs := ih (t + 1)
    have hD : mxD (s_a w1 58 (va_up (w_a w1 58) q (nI t))) (va_up f (0 * 6 + q) (nI t)) n := by
      rw [← up_back hg, e0]
      exact hI.likes hq (nI t)
    have sD : same [58, 73, 74, 75] [] w (s_a w1 58 (va_up (w_a w1 58) q (nI t))) := hs.sa (by simp)
    have hbk := bkF_c (N := N) (sg := sg) (va := va) (n := n) (C := C) (p := 0 * 6 + q) (f := f) (v := t) hln
    refine g_iload dX10_liking_58 rfl ?_
    refine g_bipush (v := 9) dX10_liking_60 rfl ?_
    refine g_icmp_gt (tgt := 102) dX10_liking_62 (by decide) (fun zc62 => ?_) (fun zc62 => ?_)
    · exact absurd (show nI 9 < nI t from zc62) (nI_nlt (by omega) (by omega))
    · refine g_aload_n dX10_liking_65 rfl ?_
      refine g_getr dX10_liking_66 fl_X10_9 h1.1 (moR_58 h1) ?_
      refine g_iload_n dX10_liking_69 rfl ?_
      refine g_iload dX10_liking_70 rfl ?_
      refine g_iast dX10_liking_72 (moA_58 h1) (vp_in_nI (by omega) (by decide)) ?_
      rw [nI_n (show q < 2 ^ 31 by omega)]
      refine g_aload_n dX10_liking_73 rfl ?_
      refine g_iload_n dX10_liking_74 rfl ?_
      refine g_cV1i dX10_liking_75 ml_X10_317 mi_X10_wrongTwo mv_X10_wrongTwo h1.1 ⟨_, rfl, rfl⟩ (Nat.le_of_ble_eq_true rfl) rfl (by omega) ?_
      refine c_X10_wrongTwo (by omega) (h.same sD) hD (hl.same sD (by simp) (fun k k1 k2 => by simp; omega)) (hb.up hn3.1 hn3.2) hi6 (hsh.same sD (by simp)) (fun w2 hs2 => ?_)
      have h2 : mxD w2 (va_up f (0 * 6 + q) (nI t)) n := ⟨hD.1.same hs2 (by simp) (by simp), fun j hj => by rw [(hs2.2.2.2.1 61 (by simp)).1]; exact hD.2 j hj⟩
      have s2 := sD.tr (hs2.wk (R' := [58, 73, 74, 75]) (F' := []) (by simp) (by simp))
      rw [show me_fw N sg va n (fun j => (C j).toInt32) ln ((ln + 1) / 2) 0 (va_up f (0 * 6 + q) (nI t)) = (bkF N sg va n C ln (0 * 6 + q) f) t from rfl]
      refine g_if_lt (tgt := 84) dX10_liking_78 (by decide) (fun zc78 => ?_) (fun zc78 => ?_)
      · refine g_iload dX10_liking_84 rfl ?_
        refine g_if_ne (tgt := 93) dX10_liking_86 (by decide) (fun zc86 => ?_) (fun zc86 => ?_)
        · refine g_iinc dX10_liking_93 rfl rfl ?_
          refine g_iinc dX10_liking_96 rfl rfl ?_
          refine g_goto (tgt := 58) dX10_liking_99 (by decide) ?_
          rw [nI_1' t, nI_1' (ctF (fun v => decide ((bkF N sg va n C ln (0 * 6 + q) f) v = -2)) t)]
          have hP : (fun v => decide ((bkF N sg va n C ln (0 * 6 + q) f) v = -2)) t = true := decide_eq_true (hbk.1 zc78)
          rw [ctF_t hP, fsF_t hP, if_neg (fun z => zc86 (by rw [z]; rfl))] at ihs
          exact ihs _ w2 (by omega) s2 h2 (by rw [va_up_up]; exact up_self)
        · refine g_iload dX10_liking_89 rfl ?_
          refine g_istore dX10_liking_91 (Nat.le_of_ble_eq_true rfl) rfl ?_
          refine g_iinc dX10_liking_93 rfl rfl ?_
          refine g_iinc dX10_liking_96 rfl rfl ?_
          refine g_goto (tgt := 58) dX10_liking_99 (by decide) ?_
          rw [nI_1' t, nI_1' (ctF (fun v => decide ((bkF N sg va n C ln (0 * 6 + q) f) v = -2)) t)]
          have hP : (fun v => decide ((bkF N sg va n C ln (0 * 6 + q) f) v = -2)) t = true := decide_eq_true (hbk.1 zc78)
          rw [ctF_t hP, fsF_t hP, if_pos (pI_inj (b := 0) (by omega) (by decide) zc86)] at ihs
          exact ihs _ w2 (by omega) s2 h2 (by rw [va_up_up]; exact up_self)
      · refine g_goto (tgt := 96) dX10_liking_81 (by decide) ?_
        refine g_iinc dX10_liking_96 rfl rfl ?_
        refine g_goto (tgt := 58) dX10_liking_99 (by decide) ?_
        rw [nI_1' t]
        have hP : ¬ (fun v => decide ((bkF N sg va n C ln (0 * 6 + q) f) v = -2)) t = true := fun z => hbk.2 zc78 (of_decide_eq_true z)
        rw [ctF_f hP, fsF_f hP] at ihs
        exact ihs _ w2 (by omega) s2 h2 (by rw [va_up_up]; exact up_self)
set_option maxHeartbeats 1000000 in
theorem l_X10_waited {d n N i ln q : Nat} {w : gx_W} {f sg va : Nat → Int32} {C : Nat → Int64} {u : Int32} {k : Int32 → gx_W → Prop} (hd : 8 ≤ d) (hi6 : i < 6) (hq : q < n) (h : moO w) (hl : lwM w N sg va) (hb : bnd f n) (hsh : shM w i ln C) : ∀ (z t : Nat) (m e6 : Int32) (g : Nat → Int32) (w1 : gx_W), t + z = 21 → same [61, 73, 74, 75] [] w w1 → mxD w1 g n → va_up g (3 * 6 + q) (f (3 * 6 + q)) = f → (∀ w', same [61, 73, 74, 75] [] w w' → mxD w' f n → k (if u = 0 then (me_up (bkF N sg va n C ln (3 * 6 + q) f) (-2) z t m e6).1 else (me_up (bkF N sg va n C ln (3 * 6 + q) f) (-2) z t m e6).2) w') → gx_G 0 0 d mX10_waited (Qi k) 58 [.ref 57, .int (nI i), .int (nI q), .int u, .int (f (3 * 6 + q)), .int m, .int e6, .int (nI t)] [] w1 := by
  intro z
  have hln := hsh.2.1
  have e0 : 3 * 6 + q = 18 + q := by omega
  induction z with
  | zero =>
    intro t m e6 g w1 ht hs hI hg kk
    have hn6 := hI.1.2.1
    have h1 := h.same hs
    have e : t = 21 := by omega
    subst e
    refine g_iload dX10_waited_58 rfl ?_
    refine g_bipush (v := 20) dX10_waited_60 rfl ?_
    refine g_icmp_gt (tgt := 97) dX10_waited_62 (by decide) (fun zc62 => ?_) (fun zc62 => ?_)
    · refine g_aload_n dX10_waited_97 rfl ?_
      refine g_getr dX10_waited_98 fl_X10_21 h1.1 (moR_61 h1) ?_
      refine g_iload_n dX10_waited_101 rfl ?_
      refine g_iload dX10_waited_102 rfl ?_
      refine g_iast dX10_waited_104 (moA_61 h1) (vp_in_nI (by omega) (by decide)) ?_
      rw [nI_n (show q < 2 ^ 31 by omega)]
      have hm := hI.wait hq (f (3 * 6 + q))
      rw [← e0, hg] at hm
      have K := kk _ (hs.sa (by simp)) hm
      refine g_iload_n dX10_waited_105 rfl ?_
      refine g_if_ne (tgt := 114) dX10_waited_106 (by decide) (fun zc106 => ?_) (fun zc106 => ?_)
      · refine g_iload dX10_waited_114 rfl ?_
        refine g_iret dX10_waited_116 rfl ⟨_, rfl, ?_⟩
        rw [if_neg zc106] at K
        exact K
      · refine g_iload dX10_waited_109 rfl ?_
        refine g_goto (tgt := 116) dX10_waited_111 (by decide) ?_
        refine g_iret dX10_waited_116 rfl ⟨_, rfl, ?_⟩
        rw [if_pos zc106] at K
        exact K
    · exact absurd (by decide) zc62
  | succ z ih =>
    intro t m e6 g w1 ht hs hI hg kk
    have hn6 := hI.1.2.1
    have h1 := h.same hs
    have hn3 := nI_300 (show t < 300 by omega)
    have hD : mxD (s_a w1 61 (va_up (w_a w1 61) q (nI t))) (va_up f (3 * 6 + q) (nI t)) n := by
      rw [← up_back hg, e0]
      exact hI.wait hq (nI t)
    have sD : same [61, 73, 74, 75] [] w (s_a w1 61 (va_up (w_a w1 61) q (nI t))) := hs.sa (by simp)
    have hbk := bkF_c (N := N) (sg := sg) (va := va) (n := n) (C := C) (p := 3 * 6 + q) (f := f) (v := t) hln
    refine g_iload dX10_waited_58 rfl ?_
    refine g_bipush (v := 20) dX10_waited_60 rfl ?_
    refine g_icmp_gt (tgt := 97) dX10_waited_62 (by decide) (fun zc62 => ?_) (fun zc62 => ?_)
    · exact absurd (show nI 20 < nI t from zc62) (nI_nlt (by omega) (by omega))
    · refine g_aload_n dX10_waited_65 rfl ?_
      refine g_getr dX10_waited_66 fl_X10_21 h1.1 (moR_61 h1) ?_
      refine g_iload_n dX10_waited_69 rfl ?_
      refine g_iload dX10_waited_70 rfl ?_
      refine g_iast dX10_waited_72 (moA_61 h1) (vp_in_nI (by omega) (by decide)) ?_
      rw [nI_n (show q < 2 ^ 31 by omega)]
      refine g_aload_n dX10_waited_73 rfl ?_
      refine g_iload_n dX10_waited_74 rfl ?_
      refine g_cV1i dX10_waited_75 ml_X10_317 mi_X10_wrongTwo mv_X10_wrongTwo h1.1 ⟨_, rfl, rfl⟩ (Nat.le_of_ble_eq_true rfl) rfl (by omega) ?_
      refine c_X10_wrongTwo (by omega) (h.same sD) hD (hl.same sD (by simp) (fun k k1 k2 => by simp; omega)) (hb.up hn3.1 hn3.2) hi6 (hsh.same sD (by simp)) (fun w2 hs2 => ?_)
      have h2 : mxD w2 (va_up f (3 * 6 + q) (nI t)) n := ⟨hD.1.same hs2 (by simp) (by simp), fun j hj => by rw [(hs2.2.2.2.1 61 (by simp)).1]; exact hD.2 j hj⟩
      have s2 := sD.tr (hs2.wk (R' := [61, 73, 74, 75]) (F' := []) (by simp) (by simp))
      rw [show me_fw N sg va n (fun j => (C j).toInt32) ln ((ln + 1) / 2) 0 (va_up f (3 * 6 + q) (nI t)) = (bkF N sg va n C ln (3 * 6 + q) f) t from rfl]
      refine g_if_lt (tgt := 84) dX10_waited_78 (by decide) (fun zc78 => ?_) (fun zc78 => ?_)
      · refine g_iload dX10_waited_84 rfl ?_
        refine g_istore dX10_waited_86 (Nat.le_of_ble_eq_true rfl) rfl ?_
        refine g_iinc dX10_waited_88 rfl rfl ?_
        refine g_iinc dX10_waited_91 rfl rfl ?_
        refine g_goto (tgt := 58) dX10_waited_94 (by decide) ?_
        rw [show me_up (bkF N sg va n C ln (3 * 6 + q) f) (-2) (z + 1) t m e6 = me_up (bkF N sg va n C ln (3 * 6 + q) f) (-2) z (t + 1) (m + Int32.ofInt 1) (nI t) from if_pos (hbk.1 zc78)] at kk
        rw [nI_1']
        exact ih (t + 1) _ _ _ w2 (by omega) s2 h2 (by rw [va_up_up]; exact up_self) kk
      · refine g_goto (tgt := 91) dX10_waited_81 (by decide) ?_
        refine g_iinc dX10_waited_91 rfl rfl ?_
        refine g_goto (tgt := 58) dX10_waited_94 (by decide) ?_
        rw [show me_up (bkF N sg va n C ln (3 * 6 + q) f) (-2) (z + 1) t m e6 = me_up (bkF N sg va n C ln (3 * 6 + q) f) (-2) z (t + 1) m e6 from if_neg (hbk.2 zc78)] at kk
        rw [nI_1']
        exact ih (t + 1) _ _ _ w2 (by omega) s2 h2 (by rw [va_up_up]; exact up_self) kk
theorem c_X10_liking {d : Nat} {w : gx_W} {f : Nat → Int32} {n N : Nat} {sg va : Nat → Int32} {ln : Nat → Nat} {C : Nat → Nat → Int64} {x y u : Int32} {k : Int32 → gx_W → Prop} (hd : 9 ≤ d) (h : moO w) (hx : mxD w f n) (hl : lwM w N sg va) (hb : bnd f n) (hsh : ∀ i, i < 6 → w_a w 87 i = -2 → shM w i (ln i) (C i)) (k1 : (∀ m, m < 6 → x ≠ nI m) → k (-1) w) (k5 : (∀ q, q < n → y ≠ nI q) → k (-1) w) (k6 : (∀ j, j ≤ 1 → u ≠ nI j) → k (-1) w) (k3 : ∀ i, x = nI i → i < 6 → w_a w 87 i = -1 → ∀ q, y = nI q → q < n → ∀ j, u = nI j → j ≤ 1 → k (-11) w) (k4 : ∀ i, x = nI i → i < 6 → ¬ w_a w 87 i = -1 → ¬ w_a w 87 i = -2 → ∀ q, y = nI q → q < n → ∀ j, u = nI j → j ≤ 1 → k (-12) w) (kk : ∀ i, x = nI i → i < 6 → w_a w 87 i = -2 → ∀ q, y = nI q → q < n → ∀ j, u = nI j → j ≤ 1 → ∀ w', same [58, 73, 74, 75] [] w w' → mxD w' f n → k (if u = 0 then (me_how (bkF N sg va n (C i) (ln i) (0 * 6 + q) f) (-2) 10 0 (-2)).1 else (me_how (bkF N sg va n (C i) (ln i) (0 * 6 + q) f) (-2) 10 0 (-2)).2) w') : gx_C 0 0 d mX10_liking [.ref 57, .int x, .int y, .int u] w (Qi k) := by
  refine gx_C_of' (L := [.ref 57, .int x, .int y, .int u, .retAddr 0, .retAddr 0, .retAddr 0, .retAddr 0]) (by decide +kernel) rfl (Nat.le_of_ble_eq_true rfl) ?_
  refine g_iload_n dX10_liking_0 rfl ?_
  refine g_cS1i dX10_liking_1 ml_X10_136 mi_X10_isShelf ms_X10_isShelf (Nat.le_of_ble_eq_true rfl) rfl (by omega) ?_
  refine c_X10_isShelf (by omega) (fun i ei hi => ?_) (fun nx => ?_)
  · refine g_if_eq (tgt := 24) dX10_liking_4 (by decide) (fun q => absurd q (by decide)) (fun _ => ?_)
    refine g_aload_n dX10_liking_7 rfl ?_
    refine g_iload_n dX10_liking_8 rfl ?_
    refine g_cV1i dX10_liking_9 ml_X10_128 mi_X10_isRoad mv_X10_isRoad h.1 ⟨_, rfl, rfl⟩ (Nat.le_of_ble_eq_true rfl) rfl (by omega) ?_
    refine c_X10_isRoad (by omega) h hx.1.1 hx.1.2.1 (fun q eq hq => ?_) (fun ny => ?_)
    · refine g_if_eq (tgt := 24) dX10_liking_12 (by decide) (fun q => absurd q (by decide)) (fun _ => ?_)
      refine g_iload_n dX10_liking_15 rfl ?_
      refine g_iconst (v := 0) dX10_liking_16 rfl ?_
      refine g_iconst (v := 1) dX10_liking_17 rfl ?_
      refine g_cS3i dX10_liking_18 ml_X10_124 mi_X10_in ms_X10_in (Nat.le_of_ble_eq_true rfl) rfl (by omega) ?_
      refine c_inN (H := 1) rfl (by decide) (fun j ej hj => ?_) (fun nu => ?_)
      · refine g_if_ne (tgt := 26) dX10_liking_21 (by decide) (fun _ => ?_) (fun q => absurd q (by decide))
        subst ei
        subst eq
        have hn6 := hx.1.2.1
        refine g_aload_n dX10_liking_26 rfl ?_
        refine g_iload_n dX10_liking_27 rfl ?_
        refine g_cV1i dX10_liking_28 ml_X10_277 mi_X10_rowFault mv_X10_rowFault h.1 ⟨_, rfl, rfl⟩ (Nat.le_of_ble_eq_true rfl) rfl (by omega) ?_
        refine c_X10_rowFault (by omega) h hi (fun e1 => ?_) (fun e1 => ?_) (fun e1 e2 => ?_)
        · refine g_if_ge (tgt := 40) dX10_liking_31 (by decide) (fun q => absurd q (by decide)) (fun _ => ?_)
          refine g_aload_n dX10_liking_34 rfl ?_
          refine g_iload_n dX10_liking_35 rfl ?_
          refine g_cV1i dX10_liking_36 ml_X10_277 mi_X10_rowFault mv_X10_rowFault h.1 ⟨_, rfl, rfl⟩ (Nat.le_of_ble_eq_true rfl) rfl (by omega) ?_
          refine c_X10_rowFault (by omega) h hi (fun _ => ?_) (fun q => absurd (e1.symm.trans q) (by decide)) (fun q _ => absurd e1 q)
          refine g_iret dX10_liking_39 rfl ⟨_, rfl, ?_⟩
          exact k3 i rfl hi e1 q rfl hq j ej hj
        · refine g_if_ge (tgt := 40) dX10_liking_31 (by decide) (fun _ => ?_) (fun q => absurd q (by decide))
          refine g_aload_n dX10_liking_40 rfl ?_
          refine g_getr dX10_liking_41 fl_X10_9 h.1 (moR_58 h) ?_
          refine g_iload_n dX10_liking_44 rfl ?_
          refine g_iald dX10_liking_45 (moA_58 h) (vp_in_nI (by omega) (by decide)) ?_
          rw [nI_n (show q < 2 ^ 31 by omega), hx.1.2.2.1 q hq]
          refine g_istore dX10_liking_46 (Nat.le_of_ble_eq_true rfl) rfl ?_
          refine g_iconst (v := 0) dX10_liking_48 rfl ?_
          refine g_istore dX10_liking_49 (Nat.le_of_ble_eq_true rfl) rfl ?_
          refine g_bipush (v := -2) dX10_liking_51 rfl ?_
          refine g_istore dX10_liking_53 (Nat.le_of_ble_eq_true rfl) rfl ?_
          refine g_iconst (v := 0) dX10_liking_55 rfl ?_
          refine g_istore dX10_liking_56 (Nat.le_of_ble_eq_true rfl) rfl ?_
          have K := kk i rfl hi e1 q rfl hq j ej hj
          rw [me_how_r] at K
          rw [show f q = f (0 * 6 + q) from by rw [show 0 * 6 + q = q by omega]]
          exact l_X10_liking (by omega) hi hq h hl hb (hsh i hi e1) K 10 0 f w rfl same.rf hx up_self
        · refine g_if_ge (tgt := 40) dX10_liking_31 (by decide) (fun q => absurd q (by decide)) (fun _ => ?_)
          refine g_aload_n dX10_liking_34 rfl ?_
          refine g_iload_n dX10_liking_35 rfl ?_
          refine g_cV1i dX10_liking_36 ml_X10_277 mi_X10_rowFault mv_X10_rowFault h.1 ⟨_, rfl, rfl⟩ (Nat.le_of_ble_eq_true rfl) rfl (by omega) ?_
          refine c_X10_rowFault (by omega) h hi (fun q => absurd q e1) (fun q => absurd q e2) (fun _ _ => ?_)
          refine g_iret dX10_liking_39 rfl ⟨_, rfl, ?_⟩
          exact k4 i rfl hi e1 e2 q rfl hq j ej hj
      · refine g_if_ne (tgt := 26) dX10_liking_21 (by decide) (fun q => absurd q (by decide)) (fun _ => ?_)
        refine g_iconst (v := -1) dX10_liking_24 rfl ?_
        refine g_iret dX10_liking_25 rfl ⟨_, rfl, ?_⟩
        exact k6 nu
    · refine g_if_eq (tgt := 24) dX10_liking_12 (by decide) (fun _ => ?_) (fun q => absurd q (by decide))
      refine g_iconst (v := -1) dX10_liking_24 rfl ?_
      refine g_iret dX10_liking_25 rfl ⟨_, rfl, ?_⟩
      exact k5 ny
  · refine g_if_eq (tgt := 24) dX10_liking_4 (by decide) (fun _ => ?_) (fun q => absurd q (by decide))
    refine g_iconst (v := -1) dX10_liking_24 rfl ?_
    refine g_iret dX10_liking_25 rfl ⟨_, rfl, ?_⟩
    exact k1 nx
theorem c_X10_waited {d : Nat} {w : gx_W} {f : Nat → Int32} {n N : Nat} {sg va : Nat → Int32} {ln : Nat → Nat} {C : Nat → Nat → Int64} {x y u : Int32} {k : Int32 → gx_W → Prop} (hd : 9 ≤ d) (h : moO w) (hx : mxD w f n) (hl : lwM w N sg va) (hb : bnd f n) (hsh : ∀ i, i < 6 → w_a w 87 i = -2 → shM w i (ln i) (C i)) (k1 : (∀ m, m < 6 → x ≠ nI m) → k (-1) w) (k5 : (∀ q, q < n → y ≠ nI q) → k (-1) w) (k6 : (∀ j, j ≤ 1 → u ≠ nI j) → k (-1) w) (k3 : ∀ i, x = nI i → i < 6 → w_a w 87 i = -1 → ∀ q, y = nI q → q < n → ∀ j, u = nI j → j ≤ 1 → k (-11) w) (k4 : ∀ i, x = nI i → i < 6 → ¬ w_a w 87 i = -1 → ¬ w_a w 87 i = -2 → ∀ q, y = nI q → q < n → ∀ j, u = nI j → j ≤ 1 → k (-12) w) (kk : ∀ i, x = nI i → i < 6 → w_a w 87 i = -2 → ∀ q, y = nI q → q < n → ∀ j, u = nI j → j ≤ 1 → ∀ w', same [61, 73, 74, 75] [] w w' → mxD w' f n → k (if u = 0 then (me_up (bkF N sg va n (C i) (ln i) (3 * 6 + q) f) (-2) 21 0 0 (-2)).1 else (me_up (bkF N sg va n (C i) (ln i) (3 * 6 + q) f) (-2) 21 0 0 (-2)).2) w') : gx_C 0 0 d mX10_waited [.ref 57, .int x, .int y, .int u] w (Qi k) := by
  refine gx_C_of' (L := [.ref 57, .int x, .int y, .int u, .retAddr 0, .retAddr 0, .retAddr 0, .retAddr 0]) (by decide +kernel) rfl (Nat.le_of_ble_eq_true rfl) ?_
  refine g_iload_n dX10_waited_0 rfl ?_
  refine g_cS1i dX10_waited_1 ml_X10_136 mi_X10_isShelf ms_X10_isShelf (Nat.le_of_ble_eq_true rfl) rfl (by omega) ?_
  refine c_X10_isShelf (by omega) (fun i ei hi => ?_) (fun nx => ?_)
  · refine g_if_eq (tgt := 24) dX10_waited_4 (by decide) (fun q => absurd q (by decide)) (fun _ => ?_)
    refine g_aload_n dX10_waited_7 rfl ?_
    refine g_iload_n dX10_waited_8 rfl ?_
    refine g_cV1i dX10_waited_9 ml_X10_128 mi_X10_isRoad mv_X10_isRoad h.1 ⟨_, rfl, rfl⟩ (Nat.le_of_ble_eq_true rfl) rfl (by omega) ?_
    refine c_X10_isRoad (by omega) h hx.1.1 hx.1.2.1 (fun q eq hq => ?_) (fun ny => ?_)
    · refine g_if_eq (tgt := 24) dX10_waited_12 (by decide) (fun q => absurd q (by decide)) (fun _ => ?_)
      refine g_iload_n dX10_waited_15 rfl ?_
      refine g_iconst (v := 0) dX10_waited_16 rfl ?_
      refine g_iconst (v := 1) dX10_waited_17 rfl ?_
      refine g_cS3i dX10_waited_18 ml_X10_124 mi_X10_in ms_X10_in (Nat.le_of_ble_eq_true rfl) rfl (by omega) ?_
      refine c_inN (H := 1) rfl (by decide) (fun j ej hj => ?_) (fun nu => ?_)
      · refine g_if_ne (tgt := 26) dX10_waited_21 (by decide) (fun _ => ?_) (fun q => absurd q (by decide))
        subst ei
        subst eq
        have hn6 := hx.1.2.1
        refine g_aload_n dX10_waited_26 rfl ?_
        refine g_iload_n dX10_waited_27 rfl ?_
        refine g_cV1i dX10_waited_28 ml_X10_277 mi_X10_rowFault mv_X10_rowFault h.1 ⟨_, rfl, rfl⟩ (Nat.le_of_ble_eq_true rfl) rfl (by omega) ?_
        refine c_X10_rowFault (by omega) h hi (fun e1 => ?_) (fun e1 => ?_) (fun e1 e2 => ?_)
        · refine g_if_ge (tgt := 40) dX10_waited_31 (by decide) (fun q => absurd q (by decide)) (fun _ => ?_)
          refine g_aload_n dX10_waited_34 rfl ?_
          refine g_iload_n dX10_waited_35 rfl ?_
          refine g_cV1i dX10_waited_36 ml_X10_277 mi_X10_rowFault mv_X10_rowFault h.1 ⟨_, rfl, rfl⟩ (Nat.le_of_ble_eq_true rfl) rfl (by omega) ?_
          refine c_X10_rowFault (by omega) h hi (fun _ => ?_) (fun q => absurd (e1.symm.trans q) (by decide)) (fun q _ => absurd e1 q)
          refine g_iret dX10_waited_39 rfl ⟨_, rfl, ?_⟩
          exact k3 i rfl hi e1 q rfl hq j ej hj
        · refine g_if_ge (tgt := 40) dX10_waited_31 (by decide) (fun _ => ?_) (fun q => absurd q (by decide))
          refine g_aload_n dX10_waited_40 rfl ?_
          refine g_getr dX10_waited_41 fl_X10_21 h.1 (moR_61 h) ?_
          refine g_iload_n dX10_waited_44 rfl ?_
          refine g_iald dX10_waited_45 (moA_61 h) (vp_in_nI (by omega) (by decide)) ?_
          rw [nI_n (show q < 2 ^ 31 by omega), hx.2 q hq]
          refine g_istore dX10_waited_46 (Nat.le_of_ble_eq_true rfl) rfl ?_
          refine g_iconst (v := 0) dX10_waited_48 rfl ?_
          refine g_istore dX10_waited_49 (Nat.le_of_ble_eq_true rfl) rfl ?_
          refine g_bipush (v := -2) dX10_waited_51 rfl ?_
          refine g_istore dX10_waited_53 (Nat.le_of_ble_eq_true rfl) rfl ?_
          refine g_iconst (v := 0) dX10_waited_55 rfl ?_
          refine g_istore dX10_waited_56 (Nat.le_of_ble_eq_true rfl) rfl ?_
          exact l_X10_waited (by omega) hi hq h hl hb (hsh i hi e1) 21 0 0 (-2) f w rfl same.rf hx up_self (kk i rfl hi e1 q rfl hq j ej hj)
        · refine g_if_ge (tgt := 40) dX10_waited_31 (by decide) (fun q => absurd q (by decide)) (fun _ => ?_)
          refine g_aload_n dX10_waited_34 rfl ?_
          refine g_iload_n dX10_waited_35 rfl ?_
          refine g_cV1i dX10_waited_36 ml_X10_277 mi_X10_rowFault mv_X10_rowFault h.1 ⟨_, rfl, rfl⟩ (Nat.le_of_ble_eq_true rfl) rfl (by omega) ?_
          refine c_X10_rowFault (by omega) h hi (fun q => absurd q e1) (fun q => absurd q e2) (fun _ _ => ?_)
          refine g_iret dX10_waited_39 rfl ⟨_, rfl, ?_⟩
          exact k4 i rfl hi e1 e2 q rfl hq j ej hj
      · refine g_if_ne (tgt := 26) dX10_waited_21 (by decide) (fun q => absurd q (by decide)) (fun _ => ?_)
        refine g_iconst (v := -1) dX10_waited_24 rfl ?_
        refine g_iret dX10_waited_25 rfl ⟨_, rfl, ?_⟩
        exact k6 nu
    · refine g_if_eq (tgt := 24) dX10_waited_12 (by decide) (fun _ => ?_) (fun q => absurd q (by decide))
      refine g_iconst (v := -1) dX10_waited_24 rfl ?_
      refine g_iret dX10_waited_25 rfl ⟨_, rfl, ?_⟩
      exact k5 ny
  · refine g_if_eq (tgt := 24) dX10_waited_4 (by decide) (fun _ => ?_) (fun q => absurd q (by decide))
    refine g_iconst (v := -1) dX10_waited_24 rfl ?_
    refine g_iret dX10_waited_25 rfl ⟨_, rfl, ?_⟩
    exact k1 nx

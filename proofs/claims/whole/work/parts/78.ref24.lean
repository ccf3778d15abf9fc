/-! The reference: readText -/
def remL (g : Nat → Int32) (T z p : Nat) : tpT := if tp_h g T p = 59 then tp_lns g T z (p + 1) else (decide (tp_h g T p = -1), p, [])
theorem rem_go {g : Nat → Int32} {T z p : Nat} (h5 : tp_h g T p = 59) (h : (tp_ln g T (p + 1)).1 = true) : remL g T (z + 1) p = ((remL g T z (tp_ln g T (p + 1)).2.1).1, (remL g T z (tp_ln g T (p + 1)).2.1).2.1, (tp_ln g T (p + 1)).2.2 ++ (remL g T z (tp_ln g T (p + 1)).2.1).2.2) := by
  have e : remL g T (z + 1) p = tp_lns g T (z + 1) (p + 1) := if_pos h5
  rw [e]
  show (if _ then (if _ then _ else _) else _) = _
  rw [if_pos h]
  by_cases q : tp_h g T (tp_ln g T (p + 1)).2.1 = 59
  · rw [if_pos q, show remL g T z (tp_ln g T (p + 1)).2.1 = tp_lns g T z ((tp_ln g T (p + 1)).2.1 + 1) from if_pos q]
    rfl
  · rw [if_neg q, show remL g T z (tp_ln g T (p + 1)).2.1 = (decide (tp_h g T (tp_ln g T (p + 1)).2.1 = -1), (tp_ln g T (p + 1)).2.1, []) from if_neg q, List.append_nil]
theorem rem_bad {g : Nat → Int32} {T z p : Nat} (h5 : tp_h g T p = 59) (h : (tp_ln g T (p + 1)).1 = false ∨ tp_dg (tp_h g T (tp_ln g T (p + 1)).2.1) = true) : (remL g T (z + 1) p).1 = false ∧ (remL g T (z + 1) p).2.1 = (tp_ln g T (p + 1)).2.1 := by
  have e : remL g T (z + 1) p = tp_lns g T (z + 1) (p + 1) := if_pos h5
  rw [e]
  have e2 : tp_lns g T (z + 1) (p + 1) = if (tp_ln g T (p + 1)).1 = true then (if tp_h g T (tp_ln g T (p + 1)).2.1 = 59 then tp_ap (tp_ln g T (p + 1)).2.2 (tp_lns g T z ((tp_ln g T (p + 1)).2.1 + 1)) else (decide (tp_h g T (tp_ln g T (p + 1)).2.1 = -1), (tp_ln g T (p + 1)).2.1, (tp_ln g T (p + 1)).2.2)) else (false, (tp_ln g T (p + 1)).2.1, (tp_ln g T (p + 1)).2.2) := rfl
  rw [e2]
  cases q : (tp_ln g T (p + 1)).1 with
  | false =>
    rw [if_neg (by decide)]
    exact ⟨rfl, rfl⟩
  | true =>
    have hd : tp_dg (tp_h g T (tp_ln g T (p + 1)).2.1) = true := by
      rcases h with y | y
      · rw [q] at y; cases y
      · exact y
    rw [if_pos rfl, if_neg (fun y => by rw [y] at hd; exact absurd hd (by decide))]
    exact ⟨decide_eq_false (fun y => by rw [y] at hd; exact absurd hd (by decide)), rfl⟩
def lnZ (w w' : gx_W) (T m N p' : Nat) (Ls : List lnS) : Prop := same lnX prF w w' ∧ w_i w' 57 15 = nI p' ∧ w_i w' 57 16 = -1 ∧ w_i w' 57 18 = nI (N + (lsR Ls).length) ∧ (w_a w' 68 = tp_row (w_a w 68) (130 + N) ((lsR Ls).map (fun s => (mpS s).1)) ∧ w_a w' 69 = tp_row (w_a w 69) (130 + N) ((lsR Ls).map (fun s => (mpS s).2))) ∧ w_a w' 70 1 = nI (m + Ls.length) ∧ (w_a w' 71 = tp_row (w_a w 71) (61 + m) ((teV N Ls).map nI) ∧ w_a w' 72 = tp_row (w_a w 72) (61 + m) ((leV N Ls).map nI)) ∧ N + (lsR Ls).length ≤ p' ∧ p' ≤ T ∧ 2 * (m + Ls.length) ≤ p' + 1
theorem lnA.Z {w w1 w2 w' : gx_W} {T m N p3 p' : Nat} {t b : List stS} {Ls : List lnS} (h1 : same lnX prF w w1) (e : ∀ r, w_a w1 r = w_a w r) (h : lnA w1 w2 m N p3 t b) (h' : lnZ w2 w' T (m + 1) (N + t.length + b.length) p' Ls) : lnZ w w' T m N p' ((t, b) :: Ls) := by
  obtain ⟨a1, a2, a3, a4, a5, ⟨a6, a7⟩, a8, a9, a10⟩ := h
  obtain ⟨b1, b2, b3, b4, ⟨b5, b6⟩, b7, ⟨b8, b9⟩, b10, b11, b12⟩ := h'
  have eR : (lsR ((t, b) :: Ls)).length = t.length + b.length + (lsR Ls).length := by
    show ((t ++ b) ++ lsR Ls).length = _
    rw [List.length_append, List.length_append]
  refine ⟨h1.tr (a1.tr b1), b2, b3, ?_, ⟨?_, ?_⟩, ?_, ⟨?_, ?_⟩, ?_, b11, ?_⟩
  · rw [b4, eR]; congr 1; omega
  · show _ = tp_row _ _ (((t ++ b) ++ lsR Ls).map _)
    rw [b5, a6]
    simp only [List.map_append, tp_row_app, List.length_map, List.length_append]
    rw [e 68, show 130 + (N + t.length + b.length) = 130 + N + (t.length + b.length) by omega]
  · show _ = tp_row _ _ (((t ++ b) ++ lsR Ls).map _)
    rw [b6, a7]
    simp only [List.map_append, tp_row_app, List.length_map, List.length_append]
    rw [e 69, show 130 + (N + t.length + b.length) = 130 + N + (t.length + b.length) by omega]
  · rw [b7, List.length_cons]; congr 1; omega
  · rw [b8, a9, e 71, show 61 + (m + 1) = 61 + m + 1 by omega]
    rfl
  · rw [b9, a10, e 72, show 61 + (m + 1) = 61 + m + 1 by omega]
    rfl
  · rw [eR]; omega
  · rw [List.length_cons]; omega
set_option maxHeartbeats 4000000 in
theorem l_X10_readText {d T : Nat} {g : Nat → Int32} {x2 : Value} {k : Int32 → gx_W → Prop} (hd : 48 ≤ d) : ∀ (z p N m : Nat) (w : gx_W), T ≤ p + z → prI w T g p 0 N → N ≤ p → w_a w 70 1 = nI m → 2 * m ≤ p + 1 → ((remL g T z p).1 = true → ∀ Ls w', exL Ls → lsC Ls = (remL g T z p).2.2 → lnZ w w' T m N (remL g T z p).2.1 Ls → gx_G 0 0 d mX10_readText (Qi k) 86 [.ref 57, .int 0, x2] [] w') → ((remL g T z p).1 = false → ∀ w', same lnX prF w w' → lowL w w' → w_i w' 57 16 = nI (remL g T z p).2.1 → gx_G 0 0 d mX10_readText (Qi k) 86 [.ref 57, .int 0, x2] [] w') → gx_G 0 0 d mX10_readText (Qi k) 31 [.ref 57, .int 0, x2] [] w := by
  intro z
  have stop : ∀ (z p N m : Nat) (w : gx_W), ¬ tp_h g T p = 59 → prI w T g p 0 N → N ≤ p → w_a w 70 1 = nI m → 2 * m ≤ p + 1 → ((remL g T z p).1 = true → ∀ Ls w', exL Ls → lsC Ls = (remL g T z p).2.2 → lnZ w w' T m N (remL g T z p).2.1 Ls → gx_G 0 0 d mX10_readText (Qi k) 86 [.ref 57, .int 0, x2] [] w') → ((remL g T z p).1 = false → ∀ w', same lnX prF w w' → lowL w w' → w_i w' 57 16 = nI (remL g T z p).2.1 → gx_G 0 0 d mX10_readText (Qi k) 86 [.ref 57, .int 0, x2] [] w') → gx_G 0 0 d mX10_readText (Qi k) 31 [.ref 57, .int 0, x2] [] w := by
    intro z p N m w h59 h hN hm h2m kA kB
    have hT := h.2.1.2.1
    have hpT := h.2.2.2.1
    have er : remL g T z p = (decide (tp_h g T p = -1), p, []) := if_neg h59
    rw [er] at kA kB
    refine g_aload_n dX10_readText_31 rfl ?_
    refine g_geti dX10_readText_32 fl_X10_172 h.1.1 ?_
    rw [h.2.2.2.2.1]
    refine g_if_ge (tgt := 64) dX10_readText_35 (by decide) (fun zc35 => ?_) (fun zc35 => ?_)
    · refine g_aload_n dX10_readText_64 rfl ?_
      refine g_geti dX10_readText_65 fl_X10_172 h.1.1 ?_
      rw [h.2.2.2.2.1]
      refine g_if_ge (tgt := 86) dX10_readText_68 (by decide) (fun zc68 => ?_) (fun zc68 => ?_)
      · exact absurd zc35 (by decide)
      · refine g_aload_n dX10_readText_71 rfl ?_
        refine g_geti dX10_readText_72 fl_X10_169 h.1.1 ?_
        refine g_aload_n dX10_readText_75 rfl ?_
        refine g_geti dX10_readText_76 fl_X10_166 h.1.1 ?_
        rw [h.2.2.1, h.2.1.1]
        refine g_icmp_ge (tgt := 86) dX10_readText_79 (by decide) (fun zc79 => ?_) (fun zc79 => ?_)
        · exact absurd zc35 (by decide)
        · refine g_aload_n dX10_readText_82 rfl ?_
          refine g_cV0v dX10_readText_83 ml_X10_181 mi_X10_wrong mv_X10_wrong h.1.1 ⟨_, rfl, rfl⟩ (Nat.le_of_ble_eq_true rfl) rfl (by omega) ?_
          refine c_X10_wrong (by omega) h.1 h.2.2.2.2.1 h.2.2.1 ?_
          exact absurd zc35 (by decide)
    · refine g_aload_n dX10_readText_38 rfl ?_
      refine g_cV0i dX10_readText_39 ml_X10_184 mi_X10_look mv_X10_look h.1.1 ⟨_, rfl, rfl⟩ (Nat.le_of_ble_eq_true rfl) rfl (by omega) ?_
      refine c_X10_look (by omega) h.1 h.2.1 h.2.2.1 hpT ?_
      refine g_bipush (v := 59) dX10_readText_42 rfl ?_
      refine g_icmp_ne (tgt := 64) dX10_readText_44 (by decide) (fun zc44 => ?_) (fun zc44 => ?_)
      · refine g_aload_n dX10_readText_64 rfl ?_
        refine g_geti dX10_readText_65 fl_X10_172 h.1.1 ?_
        rw [h.2.2.2.2.1]
        refine g_if_ge (tgt := 86) dX10_readText_68 (by decide) (fun zc68 => ?_) (fun zc68 => ?_)
        · exact absurd zc68 (by decide)
        · refine g_aload_n dX10_readText_71 rfl ?_
          refine g_geti dX10_readText_72 fl_X10_169 h.1.1 ?_
          refine g_aload_n dX10_readText_75 rfl ?_
          refine g_geti dX10_readText_76 fl_X10_166 h.1.1 ?_
          rw [h.2.2.1, h.2.1.1]
          refine g_icmp_ge (tgt := 86) dX10_readText_79 (by decide) (fun zc79 => ?_) (fun zc79 => ?_)
          · have ep : p = T := by
              rcases Nat.lt_or_ge p T with q | q
              · exact absurd zc79 (nI_ge (a := p) (b := T) q (by omega))
              · omega
            refine kA (decide_eq_true (if_neg (by omega))) [] w (fun q hq => absurd hq List.not_mem_nil) rfl ⟨same.rf, h.2.2.1, h.2.2.2.2.1, h.2.2.2.2.2.2, ⟨rfl, rfl⟩, hm, ⟨rfl, rfl⟩, hN, hpT, h2m⟩
          · refine g_aload_n dX10_readText_82 rfl ?_
            refine g_cV0v dX10_readText_83 ml_X10_181 mi_X10_wrong mv_X10_wrong h.1.1 ⟨_, rfl, rfl⟩ (Nat.le_of_ble_eq_true rfl) rfl (by omega) ?_
            refine c_X10_wrong (by omega) h.1 h.2.2.2.2.1 h.2.2.1 ?_
            have hlt : p < T := by
              rcases Nat.lt_or_ge p T with q | q
              · exact q
              · exact absurd (nI_le (a := T) (b := p) q (by omega)) zc79
            obtain ⟨-, y, hy, ey⟩ := h.2.1.2.2 p hlt
            refine kB (decide_eq_false (fun q => ?_)) _ (same.rf.si (by simp)) ⟨fun _ _ => ⟨rfl, rfl⟩, rfl, fun _ _ => ⟨rfl, rfl⟩⟩ (by rw [wi_si, if_pos ⟨rfl, rfl⟩])
            rw [show tp_h g T p = g p from if_pos hlt, ey] at q
            have := congrArg Int32.toInt q
            rw [nI_toInt (by omega), show (-1 : Int32).toInt = -1 by decide] at this
            omega
      · exact absurd ((lk_c h.2.1 p (c := 59) (by decide)).mp zc44) h59
  induction z with
  | zero =>
    intro p N m w hz h hN hm h2m kA kB
    have hpT := h.2.2.2.1
    exact stop 0 p N m w (by rw [show tp_h g T p = -1 from if_neg (by omega)]; decide) h hN hm h2m kA kB
  | succ z ih =>
    intro p N m w hz h hN hm h2m kA kB
    by_cases h59 : ¬ tp_h g T p = 59
    · exact stop (z + 1) p N m w h59 h hN hm h2m kA kB
    have h59 := Classical.not_not.mp h59
    have hT := h.2.1.2.1
    have hpT := h.2.2.2.1
    have hlt : p < T := tp_lt (by rw [h59]; decide)
    have h2 := h.hr (p' := p + 1) (by omega)
    refine g_aload_n dX10_readText_31 rfl ?_
    refine g_geti dX10_readText_32 fl_X10_172 h.1.1 ?_
    rw [h.2.2.2.2.1]
    refine g_if_ge (tgt := 64) dX10_readText_35 (by decide) (fun zc35 => ?_) (fun zc35 => ?_)
    · exact absurd zc35 (by decide)
    · refine g_aload_n dX10_readText_38 rfl ?_
      refine g_cV0i dX10_readText_39 ml_X10_184 mi_X10_look mv_X10_look h.1.1 ⟨_, rfl, rfl⟩ (Nat.le_of_ble_eq_true rfl) rfl (by omega) ?_
      refine c_X10_look (by omega) h.1 h.2.1 h.2.2.1 hpT ?_
      refine g_bipush (v := 59) dX10_readText_42 rfl ?_
      refine g_icmp_ne (tgt := 64) dX10_readText_44 (by decide) (fun zc44 => ?_) (fun zc44 => ?_)
      · exact absurd ((lk_c h.2.1 p (c := 59) (by decide)).mpr h59) zc44
      · refine g_aload_n dX10_readText_47 rfl ?_
        refine g_dup dX10_readText_48 rfl ?_
        refine g_geti dX10_readText_49 fl_X10_169 h.1.1 ?_
        refine g_iconst (v := 1) dX10_readText_52 rfl ?_
        refine g_iadd dX10_readText_53 ?_
        rw [h.at1]
        refine g_puti dX10_readText_54 fl_X10_169 ft_10_15 h.1.1 ?_
        refine g_aload_n dX10_readText_57 rfl ?_
        refine g_cV0v dX10_readText_58 ml_X10_221 mi_X10_line mv_X10_line h.1.1 ⟨_, rfl, rfl⟩ (Nat.le_of_ble_eq_true rfl) rfl (by omega) ?_
        refine c_X10_line (by omega) h2 (by omega) hm (by omega) (fun hr t b hext hexb hL w3 hA => ?_) (fun hr w3 hs3 hl3 hf3 => ?_)
        · refine g_goto (tgt := 31) dX10_readText_61 (by decide) ?_
          have hlb := tp_ln_b (g := g) (T := T) (p := p + 1) (by omega)
          rw [← hL] at hlb
          have hb1 := hexb.2.1
          have hlen : (lsC [(t, b)]).length ≥ t.length + b.length + 1 := by
            show ((if t = [] then b ++ [(59, 0)] else t ++ (63, 0) :: (b ++ [(59, 0)])) ++ []).length ≥ _
            split
            · rename_i q
              rw [q]
              simp only [List.length_append, List.length_cons, List.length_nil]
              omega
            · simp only [List.length_append, List.length_cons, List.length_nil]
              omega
          obtain ⟨a1, a2, a3, a4, a5, a6, a7, a8, a9⟩ := hA
          have h3 : prI w3 T g (tp_ln g T (p + 1)).2.1 0 (N + t.length + b.length) := ⟨h2.1.same a1, h2.2.1.same a1 (by simp) (by simp), a2, hlb.2, a3, a4, a5⟩
          rw [rem_go h59 hr] at kA kB
          have s1 : same lnX prF w (s_i w 57 15 (nI (p + 1))) := same.rf.si (by simp)
          refine ih (tp_ln g T (p + 1)).2.1 (N + t.length + b.length) (m + 1) w3 (by omega) h3 (by omega) (by rw [a7, va_up_at]) (by omega) (fun q Ls w' hE hC hZ => kA q ((t, b) :: Ls) w' (fun y hy => ?_) ?_ (lnA.Z s1 (fun _ => rfl) ⟨a1, a2, a3, a4, a5, a6, a7, a8, a9⟩ hZ)) (fun q w' hs hl hf => kB q w' (s1.tr (a1.tr hs)) ?_ hf)
          · rcases List.mem_cons.mp hy with y2 | y2
            · rw [y2]; exact ⟨hext, hexb⟩
            · exact hE y y2
          · rw [← hL]
            show _ ++ lsC Ls = (_ ++ []) ++ _
            rw [List.append_nil, hC]
          · refine lowL.tr ⟨fun j hj => ⟨?_, ?_⟩, ?_, fun j hj => ⟨?_, ?_⟩⟩ hl
            · rw [a6.1, tp_row_lo _ _ _ _ (by omega)]; rfl
            · rw [a6.2, tp_row_lo _ _ _ _ (by omega)]; rfl
            · rw [a7, va_up_row (by decide)]; rfl
            · rw [a8, va_up_row (by omega)]; rfl
            · rw [a9, va_up_row (by omega)]; rfl
        · refine g_goto (tgt := 31) dX10_readText_61 (by decide) ?_
          obtain ⟨q1, q2⟩ := rem_bad (z := z) h59 hr
          have hlb := tp_ln_b (g := g) (T := T) (p := p + 1) (by omega)
          have h3 : moO w3 := h2.1.same hs3
          rw [q2] at kB
          refine g_aload_n dX10_readText_31 rfl ?_
          refine g_geti dX10_readText_32 fl_X10_172 h3.1 ?_
          rw [hf3]
          refine g_if_ge (tgt := 64) dX10_readText_35 (by decide) (fun zc35 => ?_) (fun zc35 => ?_)
          · refine g_aload_n dX10_readText_64 rfl ?_
            refine g_geti dX10_readText_65 fl_X10_172 h3.1 ?_
            rw [hf3]
            refine g_if_ge (tgt := 86) dX10_readText_68 (by decide) (fun zc68 => ?_) (fun zc68 => ?_)
            · exact kB q1 w3 ((same.rf.si (by simp)).tr hs3) (lowL.tr ⟨fun _ _ => ⟨rfl, rfl⟩, rfl, fun _ _ => ⟨rfl, rfl⟩⟩ hl3) hf3
            · exact absurd (show (0 : Int32) ≤ nI (tp_ln g T (p + 1)).2.1 from nI_pos' (by omega)) zc68
          · exact absurd (show (0 : Int32) ≤ nI (tp_ln g T (p + 1)).2.1 from nI_pos' (by omega)) zc35

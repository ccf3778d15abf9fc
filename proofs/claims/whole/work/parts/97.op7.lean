/-! class and reference side by side: the law -/
theorem tp_lns_len {g : Nat → Int32} {T : Nat} : ∀ z p, p ≤ T → p + (tp_lns g T z p).2.2.length ≤ (tp_lns g T z p).2.1 + 1 := by
  intro z
  induction z with
  | zero => intro p hp; show p + 0 ≤ p + 1; omega
  | succ z ih =>
    intro p hp
    have b := tp_ln_b (g := g) hp
    unfold tp_lns
    split
    · split
      · rename_i hq
        have k := ih ((tp_ln g T p).2.1 + 1) (tp_lt (g := g) (T := T) (p := (tp_ln g T p).2.1) (by rw [hq]; decide))
        show p + ((tp_ln g T p).2.2 ++ (tp_lns g T z ((tp_ln g T p).2.1 + 1)).2.2).length ≤ (tp_lns g T z ((tp_ln g T p).2.1 + 1)).2.1 + 1
        rw [List.length_append]
        omega
      · exact b.1
    · exact b.1
theorem hR_cg {A V A' V' : Nat → Int32} {i : Nat} {L : List stS} (h : hR A V i L) (hi : i + L.length ≤ 130) (e : ∀ j, j < 130 → A' j = A j ∧ V' j = V j) : hR A' V' i L := fun j s hj => by
  have hlt : j < L.length := by
    rcases Nat.lt_or_ge j L.length with q | q
    · exact q
    · rw [List.getElem?_eq_none q] at hj; cases hj
  obtain ⟨a, b⟩ := e (i + j) (by omega)
  rw [a, b]
  exact h j s hj
theorem lnR_cg {sg va A V A' V' : Nat → Int32} {te le : Nat → Nat} {N : Nat} (e : ∀ j, j < 130 → A' j = A j ∧ V' j = V j) : ∀ z l ci ri, lnR sg va A V te le N z l ci ri → lnR sg va A' V' te le N z l ci ri := by
  intro z
  induction z with
  | zero => intro l ci ri h; exact h
  | succ z ih =>
    intro l ci ri h
    obtain ⟨hle, h⟩ := h
    refine ⟨hle, ?_⟩
    rcases h with ⟨a1, b, a2, a3, a4, a5, a6, a7, a8⟩ | ⟨t, b, a1, a2, a3, a4, a5, a6, a7, a8, a9, b1, b2, b3⟩
    · exact Or.inl ⟨a1, b, a2, a3, hR_cg a4 (by omega) e, a5, a6, a7, ih _ _ _ a8⟩
    · exact Or.inr ⟨t, b, a1, a2, a3, hR_cg a4 (by omega) e, a5, a6, a7, hR_cg a8 (by omega) e, a9, b1, b2, ih _ _ _ b3⟩
theorem lwE_low {w w' : gx_W} {N : Nat} {sg va : Nat → Int32} (h : lwE w N sg va) (low : lowL w w') : lwE w' N sg va := by
  obtain ⟨M, te, le, a1, a2, a3, a4, a5, a6, a7⟩ := h
  exact ⟨M, te, le, a1, low.2.1.trans a2, fun l hl => ((low.2.2 l (by omega)).1).trans (a3 l hl), fun l hl => ((low.2.2 l (by omega)).2).trans (a4 l hl), a5, a6, lnR_cg low.1 _ _ _ _ a7⟩
set_option maxHeartbeats 2000000 in
theorem op_law {d : Nat} {w : gx_W} (hd : 140 ≤ d) (R0 : Rel w) : OP d mX9_law mX10_law [] w := by
  have R1 := R0
  obtain ⟨n, l, N, T, g, D, K, nb, M, ln, m, h1, h2, h3, h4, h5, h6, h7, h8, h9⟩ := R1
  have hn6 := h3.d.1.2.1
  have hnb := h6.b5
  have hT := h4.p.2.1
  have hlen := tp_lns_len (g := g) 120 0 (Nat.zero_le T)
  have hpl := tp_lns_c (g := g) 120 0 (Nat.zero_le T)
  unfold OP
  rcases h2.hl with e | e
  · subst e
    refine c_X9_law (by omega) h1.c (relT.k h1 h4) (show w_r w 6 10 = some 32 from h2.r6) h1.k2 (by decide) h1.n.1 h2.r37 (fun ok w1 s1 => ?_) (fun ok w1 s1 => ?_)
    · obtain ⟨sa, a1, a2, a3, a4⟩ := s1
      have s0 : sam [33, 34] [(7, 1), (7, 2), (32, 4)] [(37, 2), (6, 10)] w w1 := ((((same.rf.si (by simp)).si (by simp)).tr (sa.wk (by simp) (by simp)))).sam
      have sw : sam [33, 34] [(7, 1), (7, 2), (32, 4)] [(37, 2), (6, 10)] w (s_r (s_r (s_i w1 7 1 0) 37 2 (some 32)) 6 10 (some 27)) := ((s0.si (by simp)).sr (by simp)).sr (by simp)
      have p1 : prT (s_r (s_r (s_i w1 7 1 0) 37 2 (some 32)) 6 10 (some 27)) T g := by
        unfold prT
        rw [(sw.2.2.2.1 67 (by simp)).1, sw.2.1 57 14 (by simp)]
        exact h4.p
      refine ⟨(h1.m.sam sw (by simp)).1, c_X10_law (by omega) (h1.m.sam sw (by simp)) p1 (fun ok2 w2 s2 e14 e26 hlw hpos => ⟨rfl, ?_⟩) (fun ok2 w2 s2 e14 hlow => absurd (ok.symm.trans ok2) (by decide))⟩
      have s12 : sam [33, 34, 68, 69, 70, 71, 72] ([(7, 1), (7, 2), (32, 4)] ++ ((57, 26) :: rdF)) [(37, 2), (6, 10)] w w2 := (sw.wk (by simp) (fun q z => List.mem_append_left _ z) (fun _ z => z)).tr ((s2.wk (by simp) (fun q z => List.mem_append_right _ z)).sam)
      refine ⟨n, 32, (tp_lns g T 120 0).2.2.length, 0, g, D, K, nb, M, ln, m, h1.sam s12 (by decide +kernel), ⟨by decide, ?_, ?_, ?_, by omega, fun e => absurd hpos (by omega), fun _ => ⟨by rw [e26]; decide, hlw _ _ (fun j s hj => ?_)⟩⟩, h3.sam s12 (by decide +kernel), ⟨?_, ?_, e14, by decide, fun j hj => absurd hj (Nat.not_lt_zero _)⟩, h5.sam s12 (by decide +kernel), h6.sam s12 (by decide +kernel), h7.sam s12 (by decide +kernel), h8.sam s12 (by decide +kernel), h9.sam s12 (by decide +kernel)⟩
      · rw [s2.2.2.1]; rfl
      · rw [s2.2.2.1]; rfl
      · rw [s2.2.1 32 4 (by simp)]
        rw [Nat.zero_add] at a2
        exact a2
      · have b1 : w_a w2 (32 + 1) = tp_row (w_a (s_i (s_i w 32 4 0) 7 2 0) (32 + 1)) 0 ((tp_lns g T 120 0).2.2.map Prod.fst) := by
          rw [(s2.2.2.2.1 (32 + 1) (by simp)).1]; exact a3
        have b2 : w_a w2 (32 + 2) = tp_row (w_a (s_i (s_i w 32 4 0) 7 2 0) (32 + 2)) 0 ((tp_lns g T 120 0).2.2.map Prod.snd) := by
          rw [(s2.2.2.2.1 (32 + 2) (by simp)).1]; exact a4
        rw [b1, b2]
        exact ⟨tp_row_in _ _ 0 j _ (by rw [List.getElem?_map, hj]; rfl), tp_row_in _ _ 0 j _ (by rw [List.getElem?_map, hj]; rfl)⟩
      · rw [s2.2.1 7 1 (by simp)]; rfl
      · exact ((s12.2.2.2.1 8 (by simp)).1).trans h4.a8
    · obtain ⟨sa, a1, a2, a3, a4⟩ := s1
      have s0 : same [33, 34] [(7, 1), (7, 2), (32, 4)] w (s_i w1 7 1 0) := (((same.rf.si (by simp)).si (by simp)).tr (sa.wk (by simp) (by simp))).si (by simp)
      have p1 : prT (s_i w1 7 1 0) T g := by
        unfold prT
        rw [(s0.2.2.2.1 67 (by simp)).1, s0.2.1 57 14 (by simp)]
        exact h4.p
      refine ⟨(h1.m.same s0).1, c_X10_law (by omega) (h1.m.same s0) p1 (fun ok2 w2 s2 e14 e26 hlw hpos => absurd (ok.symm.trans ok2) (by decide)) (fun ok2 w2 s2 e14 hlow => ⟨rfl, ?_⟩)⟩
      have s12 : sam [33, 34, 68, 69, 70, 71, 72] ([(7, 1), (7, 2), (32, 4)] ++ rdF) [] w w2 := ((s0.wk (by simp) (fun q z => List.mem_append_left _ z)).tr (s2.wk (by simp) (fun q z => List.mem_append_right _ z))).sam
      refine ⟨n, 27, N, 0, g, D, K, nb, M, ln, m, h1.sam s12 (by decide +kernel), ⟨by decide, (s12.2.2.1 37 2 (by simp)).trans h2.r37, (s12.2.2.1 6 10 (by simp)).trans h2.r6, (s12.2.1 27 4 (by simp)).trans h2.N4, h2.N8, fun e => (s12.2.1 57 26 (by simp)).trans (h2.lw.1 e), fun e => ⟨?_, ?_⟩⟩, h3.sam s12 (by decide +kernel), ⟨?_, ?_, e14, by decide, fun j hj => absurd hj (Nat.not_lt_zero _)⟩, h5.sam s12 (by decide +kernel), h6.sam s12 (by decide +kernel), h7.sam s12 (by decide +kernel), h8.sam s12 (by decide +kernel), h9.sam s12 (by decide +kernel)⟩
      · rw [s12.2.1 57 26 (by simp)]
        exact (h2.lw.2 e).1
      · rw [(s12.2.2.2.1 (27 + 1) (by simp)).1, (s12.2.2.2.1 (27 + 2) (by simp)).1]
        exact lwE_low ((h2.lw.2 e).2.cg (s0.2.2.2.1 68 (by simp)).1 (s0.2.2.2.1 69 (by simp)).1 (s0.2.2.2.1 70 (by simp)).1 (s0.2.2.2.1 71 (by simp)).1 (s0.2.2.2.1 72 (by simp)).1) hlow
      · rw [s2.2.1 7 1 (by simp)]; rfl
      · exact ((s12.2.2.2.1 8 (by simp)).1).trans h4.a8
  · subst e
    refine c_X9_law (by omega) h1.c (relT.k h1 h4) (show w_r w 6 10 = some 27 from h2.r6) h1.k1 (by decide) h1.n.1 h2.r37 (fun ok w1 s1 => ?_) (fun ok w1 s1 => ?_)
    · obtain ⟨sa, a1, a2, a3, a4⟩ := s1
      have s0 : sam [28, 29] [(7, 1), (7, 2), (27, 4)] [(37, 2), (6, 10)] w w1 := ((((same.rf.si (by simp)).si (by simp)).tr (sa.wk (by simp) (by simp)))).sam
      have sw : sam [28, 29] [(7, 1), (7, 2), (27, 4)] [(37, 2), (6, 10)] w (s_r (s_r (s_i w1 7 1 0) 37 2 (some 27)) 6 10 (some 32)) := ((s0.si (by simp)).sr (by simp)).sr (by simp)
      have p1 : prT (s_r (s_r (s_i w1 7 1 0) 37 2 (some 27)) 6 10 (some 32)) T g := by
        unfold prT
        rw [(sw.2.2.2.1 67 (by simp)).1, sw.2.1 57 14 (by simp)]
        exact h4.p
      refine ⟨(h1.m.sam sw (by simp)).1, c_X10_law (by omega) (h1.m.sam sw (by simp)) p1 (fun ok2 w2 s2 e14 e26 hlw hpos => ⟨rfl, ?_⟩) (fun ok2 w2 s2 e14 hlow => absurd (ok.symm.trans ok2) (by decide))⟩
      have s12 : sam [28, 29, 68, 69, 70, 71, 72] ([(7, 1), (7, 2), (27, 4)] ++ ((57, 26) :: rdF)) [(37, 2), (6, 10)] w w2 := (sw.wk (by simp) (fun q z => List.mem_append_left _ z) (fun _ z => z)).tr ((s2.wk (by simp) (fun q z => List.mem_append_right _ z)).sam)
      refine ⟨n, 27, (tp_lns g T 120 0).2.2.length, 0, g, D, K, nb, M, ln, m, h1.sam s12 (by decide +kernel), ⟨by decide, ?_, ?_, ?_, by omega, fun e => absurd hpos (by omega), fun _ => ⟨by rw [e26]; decide, hlw _ _ (fun j s hj => ?_)⟩⟩, h3.sam s12 (by decide +kernel), ⟨?_, ?_, e14, by decide, fun j hj => absurd hj (Nat.not_lt_zero _)⟩, h5.sam s12 (by decide +kernel), h6.sam s12 (by decide +kernel), h7.sam s12 (by decide +kernel), h8.sam s12 (by decide +kernel), h9.sam s12 (by decide +kernel)⟩
      · rw [s2.2.2.1]; rfl
      · rw [s2.2.2.1]; rfl
      · rw [s2.2.1 27 4 (by simp)]
        rw [Nat.zero_add] at a2
        exact a2
      · have b1 : w_a w2 (27 + 1) = tp_row (w_a (s_i (s_i w 27 4 0) 7 2 0) (27 + 1)) 0 ((tp_lns g T 120 0).2.2.map Prod.fst) := by
          rw [(s2.2.2.2.1 (27 + 1) (by simp)).1]; exact a3
        have b2 : w_a w2 (27 + 2) = tp_row (w_a (s_i (s_i w 27 4 0) 7 2 0) (27 + 2)) 0 ((tp_lns g T 120 0).2.2.map Prod.snd) := by
          rw [(s2.2.2.2.1 (27 + 2) (by simp)).1]; exact a4
        rw [b1, b2]
        exact ⟨tp_row_in _ _ 0 j _ (by rw [List.getElem?_map, hj]; rfl), tp_row_in _ _ 0 j _ (by rw [List.getElem?_map, hj]; rfl)⟩
      · rw [s2.2.1 7 1 (by simp)]; rfl
      · exact ((s12.2.2.2.1 8 (by simp)).1).trans h4.a8
    · obtain ⟨sa, a1, a2, a3, a4⟩ := s1
      have s0 : same [28, 29] [(7, 1), (7, 2), (27, 4)] w (s_i w1 7 1 0) := (((same.rf.si (by simp)).si (by simp)).tr (sa.wk (by simp) (by simp))).si (by simp)
      have p1 : prT (s_i w1 7 1 0) T g := by
        unfold prT
        rw [(s0.2.2.2.1 67 (by simp)).1, s0.2.1 57 14 (by simp)]
        exact h4.p
      refine ⟨(h1.m.same s0).1, c_X10_law (by omega) (h1.m.same s0) p1 (fun ok2 w2 s2 e14 e26 hlw hpos => absurd (ok.symm.trans ok2) (by decide)) (fun ok2 w2 s2 e14 hlow => ⟨rfl, ?_⟩)⟩
      have s12 : sam [28, 29, 68, 69, 70, 71, 72] ([(7, 1), (7, 2), (27, 4)] ++ rdF) [] w w2 := ((s0.wk (by simp) (fun q z => List.mem_append_left _ z)).tr (s2.wk (by simp) (fun q z => List.mem_append_right _ z))).sam
      refine ⟨n, 32, N, 0, g, D, K, nb, M, ln, m, h1.sam s12 (by decide +kernel), ⟨by decide, (s12.2.2.1 37 2 (by simp)).trans h2.r37, (s12.2.2.1 6 10 (by simp)).trans h2.r6, (s12.2.1 32 4 (by simp)).trans h2.N4, h2.N8, fun e => (s12.2.1 57 26 (by simp)).trans (h2.lw.1 e), fun e => ⟨?_, ?_⟩⟩, h3.sam s12 (by decide +kernel), ⟨?_, ?_, e14, by decide, fun j hj => absurd hj (Nat.not_lt_zero _)⟩, h5.sam s12 (by decide +kernel), h6.sam s12 (by decide +kernel), h7.sam s12 (by decide +kernel), h8.sam s12 (by decide +kernel), h9.sam s12 (by decide +kernel)⟩
      · rw [s12.2.1 57 26 (by simp)]
        exact (h2.lw.2 e).1
      · rw [(s12.2.2.2.1 (32 + 1) (by simp)).1, (s12.2.2.2.1 (32 + 2) (by simp)).1]
        exact lwE_low ((h2.lw.2 e).2.cg (s0.2.2.2.1 68 (by simp)).1 (s0.2.2.2.1 69 (by simp)).1 (s0.2.2.2.1 70 (by simp)).1 (s0.2.2.2.1 71 (by simp)).1 (s0.2.2.2.1 72 (by simp)).1) hlow
      · rw [s2.2.1 7 1 (by simp)]; rfl
      · exact ((s12.2.2.2.1 8 (by simp)).1).trans h4.a8

/-! class and reference side by side: what changes -/
theorem mxD_sm {w w' : gx_W} {f : Nat → Int32} {n : Nat} {R : List Nat} {F : List (Nat × Nat)} (h : mxD w f n) (hs : same R F w w') (h1 : (57, 1) ∉ F) (h2 : 58 ∉ R ∧ 59 ∉ R ∧ 60 ∉ R ∧ 62 ∉ R) (h3 : 61 ∉ R) : mxD w' f n := ⟨h.1.same hs h1 h2, fun j hj => by rw [(hs.2.2.2.1 61 h3).1]; exact h.2 j hj⟩
theorem chOK_up {n n' p : Nat} {x y : Int32} (h : chOK n x y p) (hn : n ≤ n') : chOK n' x y p := by
  rcases h with ⟨q, m, a1, a2, a3, a4, a5⟩ | h
  · exact Or.inl ⟨q, m, a1, a2, a3, by omega, a5⟩
  · exact Or.inr h
theorem relC_up {w : gx_W} {n n' D K : Nat} (h : relC w n D K) (hn : n ≤ n') : relC w n' D K := by
  obtain ⟨a1, a2, a3, a4, a5, a6, a7, a8, a9⟩ := h
  exact ⟨a1, a2, a3, a4, a5, a6, a7, fun j hj => by obtain ⟨p, b1, b2⟩ := a8 j hj; exact ⟨p, b1, chOK_up b2 hn⟩, a9⟩
theorem relI_up {w : gx_W} {n n' m : Nat} (h : relI w n m) (hn : n ≤ n') : relI w n' m := by
  obtain ⟨a1, a2⟩ := h
  exact ⟨Nat.le_trans a1 hn, a2⟩
theorem rI_lo : ∀ q, q < 8 → rI (me_lo (nI q)) ∧ rI (me_hi (nI q)) := by
  unfold rI
  decide
theorem rI_fit {q : Nat} {y v : Int32} (hy : y = nI q) (hq : q < 8) (h : me_fits y v = true) : rI v := by
  subst hy
  have a := rI_lo q hq
  unfold me_fits at h
  rw [decide_eq_true_eq] at h
  obtain ⟨_, _, b1, b2⟩ := h
  unfold rI at a ⊢
  rw [pI_le] at b1 b2
  omega
theorem rI_put {f : Nat → Int32} {n : Nat} {x y z : Int32} (h : ∀ p, p < 28 → rI (f p)) (hx : me_fits 0 x = true) (hy : me_fits 1 y = true) (hz : me_fits 2 z = true) : ∀ p, p < 28 → rI (cr_put f n x y z p) := by
  intro p hp
  rw [put_at]
  have a0 := rI_fit (q := 0) rfl (by decide) hx
  have a1 := rI_fit (q := 1) rfl (by decide) hy
  have a2 := rI_fit (q := 2) rfl (by decide) hz
  split
  · unfold rI; decide
  · split
    · exact a2
    · split
      · exact a1
      · split
        · exact a0
        · exact h p hp
theorem rel_new {w w1 w2 : gx_W} {n n' l N T : Nat} {g : Nat → Int32} {D K nb M : Nat} {ln : Nat → Nat} {m : Nat} (h1 : relS w) (h2 : relL w l N) (h3 : relN w n) (h4 : relT w T g) (h5 : relC w n D K) (h6 : relB w nb M) (h7 : relH w nb ln) (h8 : relG w) (h9 : relI w n m) {f' : Nat → Int32} (s1 : same [38] [(37, 1)] w w1) (e1 : w_i w1 37 1 = nI n') (e38 : w_a w1 38 = f') (s2 : same [58, 59, 60, 61] [(57, 1)] w1 w2) (hx : mxD w2 f' n') (hn : n ≤ n') (hr : ∀ p, p < 28 → rI (f' p)) : Rel w2 := by
  have s12 : sam [38, 58, 59, 60, 61] [(37, 1), (57, 1)] [] w w2 := ((s1.wk (by simp) (by simp)).tr (s2.wk (by simp) (by simp))).sam
  have f38 : w_a w2 38 = f' := by rw [(s2.2.2.2.1 38 (by simp)).1, e38]
  exact ⟨n', l, N, T, g, D, K, nb, M, ln, m, h1.sam s12 (by decide +kernel), h2.sam s12 (by decide +kernel), ⟨by rw [s2.2.1 37 1 (by simp), e1], by rw [f38]; exact hx, by rw [f38]; exact hr⟩, h4.sam s12 (by decide +kernel), relC_up (h5.sam s12 (by decide +kernel)) hn, h6.sam s12 (by decide +kernel), h7.sam s12 (by decide +kernel), h8.sam s12 (by decide +kernel), relI_up (h9.sam s12 (by decide +kernel)) hn⟩
theorem op_road {d : Nat} {w : gx_W} {x y : Int32} (hd : 140 ≤ d) (R0 : Rel w) : OP d mX9_road mX10_road [.int x, .int y] w := by
  have R1 := R0
  obtain ⟨n, l, N, T, g, D, K, nb, M, ln, m, h1, h2, h3, h4, h5, h6, h7, h8, h9⟩ := R1
  have hn6 := h3.d.1.2.1
  unfold OP
  refine c_X9_road (by omega) h1.c (relNL.ck h1 h2 h3) h1.T (fun nf => ?_) (fun f0 f2 e6 => ?_) (fun f0 f2 hn => ?_)
  · exact ⟨h1.m.1, c_X10_road (by omega) h1.m h3.d (fun rf => ⟨rfl, R0⟩) (fun g0 g2 e6 => absurd ⟨g0, g2⟩ nf) (fun g0 g2 hn w2 s2 hx2 => absurd ⟨g0, g2⟩ nf)⟩
  · exact ⟨h1.m.1, c_X10_road (by omega) h1.m h3.d (fun rf => absurd ⟨f0, f2⟩ rf) (fun _ _ _ => ⟨rfl, R0⟩) (fun g0 g2 hn w2 s2 hx2 => absurd e6 (by omega))⟩
  · have s1 : same [38] [(37, 1)] w (s_a (s_i w 37 1 (nI (n + 1))) 38 (cr_put (w_a w 38) n x 1 y)) := (same.rf.si (by simp)).sa (by simp)
    have hx1 := mxD_sm h3.d s1 (by simp) (by simp) (by simp)
    refine ⟨(h1.m.same s1).1, c_X10_road (by omega) (h1.m.same s1) hx1 (fun rf => absurd ⟨f0, f2⟩ rf) (fun _ _ e6 => absurd e6 (by omega)) (fun _ _ _ w2 s2 hx2 => ⟨rfl, ?_⟩)⟩
    exact rel_new h1 h2 h3 h4 h5 h6 h7 h8 h9 s1 (by rw [wi_sa, wi_si, if_pos ⟨rfl, rfl⟩]) wa_sat s2 hx2 (Nat.le_succ n) (rI_put h3.r f0 (fit1.mpr (by decide)) f2)
theorem me_rd_ok {E : Nat → Int32} {ln p : Nat} : ∀ (z c n : Nat) (f : Nat → Int32), (∀ p, p < 28 → rI (f p)) → n ≤ (me_rd E ln p z c n f).2.1 ∧ ∀ q, q < 28 → rI ((me_rd E ln p z c n f).2.2 q) := by
  intro z
  induction z with
  | zero => intro c n f h; exact ⟨Nat.le_refl _, h⟩
  | succ z ih =>
    intro c n f h
    by_cases q : me_ad E ln (p + 3 * c) n
    · rw [me_rd_go (E := E) (ln := ln) (p := p) (z := z) (c := c) (n := n) (f := f) q]
      have q2 := q
      unfold me_ad at q2
      have k := ih (c + 1) (n + 1) (cr_put f n (E (p + 3 * c)) (E (p + 3 * c + 1)) (E (p + 3 * c + 2))) (rI_put h q2.2.2.1 q2.2.2.2.1 q2.2.2.2.2)
      exact ⟨by omega, k.2⟩
    · rw [me_rd_stop (E := E) (ln := ln) (p := p) (z := z) (c := c) (n := n) (f := f) q]
      exact ⟨Nat.le_refl _, h⟩
set_option maxHeartbeats 1000000 in
theorem op_roads {d : Nat} {w : gx_W} {x y v : Int32} (hd : 140 ≤ d) (R0 : Rel w) : OP d mX9_roads mX10_roads [.int x, .int y, .int v] w := by
  have R1 := R0
  obtain ⟨n, l, N, T, g, D, K, nb, M, ln, m, h1, h2, h3, h4, h5, h6, h7, h8, h9⟩ := R1
  have hn6 := h3.d.1.2.1
  have hnb := h6.b5
  have hsh : ∀ i, i < 6 → w_a w 87 i = -2 → shM w i (ln i) (w_l w (46 + 2 * i)) := fun i hi q => by
    obtain ⟨a, s, b1, b2, b3, b4⟩ := ((h7.h i hi).row hnb).2 (by rw [q]; decide) (by rw [q]; decide)
    exact b4
  have hho := fun i (hi : i < 6) => (h7.h i hi).ho hnb
  have v6 : ∀ M, M ≤ 6 → 1 ≤ M → ¬ (nI M < 1 ∨ 6 < nI M) := fun M a b q => by
    rcases q with q | q
    · exact absurd (show nI M < nI 1 from q) (nI_nlt b (by omega))
    · exact absurd (show nI 6 < nI M from q) (nI_nlt a (by omega))
  unfold OP
  refine c_X9_roads (by omega) h1.T h1.c (relN.cn h1 h3) (relH.sn h1 h7) (fun nx => ?_) (fun nv => ?_) (fun i ex hi v1 v2 z0 => ?_) (fun i ex hi v1 v2 z0 z1 => ?_) (fun i M' ex hi ev hM z1 z2 hy => ?_) (fun i M' p ex hi ev hM1 hM6 z1 z2 ey hp w1 s1 => ?_)
  · exact ⟨h1.m.1, c_X10_roads (by omega) h1.m h3.d hsh (fun rx => ⟨rfl, R0⟩) (fun rv => ⟨rfl, R0⟩) (fun i ex hi _ _ _ => absurd ex (nx _ hi)) (fun i ex hi _ _ _ _ => absurd ex (nx _ hi)) (fun i M ex hi _ _ _ _ _ => absurd ex (nx _ hi)) (fun i M p ex hi _ _ _ _ _ _ _ _ _ => absurd ex (nx _ hi))⟩
  · exact ⟨h1.m.1, c_X10_roads (by omega) h1.m h3.d hsh (fun rx => ⟨rfl, R0⟩) (fun rv => ⟨rfl, R0⟩) (fun i ex hi a b _ => by rcases nv with q | q; exact absurd q a; exact absurd q b) (fun i ex hi a b _ _ => by rcases nv with q | q; exact absurd q a; exact absurd q b) (fun i M ex hi ev a b _ _ => by rw [ev] at nv; exact absurd nv (v6 M b a)) (fun i M p ex hi ev a b _ _ _ _ _ _ => by rw [ev] at nv; exact absurd nv (v6 M b a))⟩
  · have e1 := (hho i hi).1 z0
    refine ⟨h1.m.1, c_X10_roads (by omega) h1.m h3.d hsh (fun rx => absurd ex (rx _ hi)) (fun rv => ⟨by rcases rv with q | q; exact absurd q v1; exact absurd q v2, R0⟩) (fun i' ex' hi' _ _ _ => ⟨rfl, R0⟩) (fun i' ex' hi' _ _ r1 _ => ?_) (fun i' M ex' hi' ev a b r _ => ⟨rfl, R0⟩) (fun i' M p ex' hi' ev a b r _ _ w2 _ _ => ?_)⟩
    · have e := pI_inj (by omega) (by omega) (ex.symm.trans ex')
      subst e
      exact absurd e1 r1
    · have e := pI_inj (by omega) (by omega) (ex.symm.trans ex')
      subst e
      exact absurd (e1.symm.trans r) (by decide)
  · obtain ⟨n1, n2⟩ := (hho i hi).2.2 z0 z1
    refine ⟨h1.m.1, c_X10_roads (by omega) h1.m h3.d hsh (fun rx => absurd ex (rx _ hi)) (fun rv => by rcases rv with q | q; exact absurd q v1; exact absurd q v2) (fun i' ex' hi' _ _ r => ?_) (fun i' ex' hi' _ _ r1 _ => ⟨rfl, R0⟩) (fun i' M ex' hi' ev a b r _ => ?_) (fun i' M p ex' hi' ev a b r _ _ w2 _ _ => ?_)⟩
    · have e := pI_inj (by omega) (by omega) (ex.symm.trans ex')
      subst e
      exact absurd r n1
    · have e := pI_inj (by omega) (by omega) (ex.symm.trans ex')
      subst e
      exact absurd r n2
    · have e := pI_inj (by omega) (by omega) (ex.symm.trans ex')
      subst e
      exact absurd r n2
  · have e1 := (hho i hi).2.1 z1 z2
    refine ⟨h1.m.1, c_X10_roads (by omega) h1.m h3.d hsh (fun rx => absurd ex (rx _ hi)) (fun rv => by rw [ev] at rv; exact absurd rv (v6 _ (by omega) (by omega))) (fun i' ex' hi' _ _ r => ⟨rfl, R0⟩) (fun i' ex' hi' _ _ _ r1 => ?_) (fun i' M ex' hi' ev a b r _ => ⟨rfl, R0⟩) (fun i' M p ex' hi' ev a b r ey _ w2 _ _ => ?_)⟩
    · have e := pI_inj (by omega) (by omega) (ex.symm.trans ex')
      subst e
      exact absurd e1 r1
    · rw [ey] at hy
      exact absurd hy (nI_pos (by omega))
  · have e1 := (hho i hi).2.1 z1 z2
    obtain ⟨sa1, sa2, sa3, sa4⟩ := s1
    have hx1 := mxD_sm h3.d sa1 (by simp) (by simp) (by simp)
    have e87 : w_a w1 87 = w_a w 87 := (sa1.2.2.2.1 87 (by simp)).1
    have hsh1 : ∀ i, i < 6 → w_a w1 87 i = -2 → shM w1 i (ln i) (w_l w (46 + 2 * i)) := fun i hi q => (hsh i hi (by rw [← e87]; exact q)).same sa1 (by simp)
    refine ⟨(h1.m.same sa1).1, c_X10_roads (by omega) (h1.m.same sa1) hx1 hsh1 (fun rx => absurd ex (rx _ hi)) (fun rv => by rw [ev] at rv; exact absurd rv (v6 _ hM6 hM1)) (fun i' ex' hi' _ _ r => ?_) (fun i' ex' hi' _ _ _ r1 => ?_) (fun i' M ex' hi' ev a b r ey' => ?_) (fun i' M2 p' ex' hi' ev' a b r ey' hp' w2 s2 hx2 => ?_)⟩
    · have e := pI_inj (by omega) (by omega) (ex.symm.trans ex')
      subst e
      rw [e87] at r
      exact absurd (e1.symm.trans r) (by decide)
    · have e := pI_inj (by omega) (by omega) (ex.symm.trans ex')
      subst e
      rw [e87] at r1
      exact absurd e1 r1
    · rw [ey] at ey'
      exact absurd ey' (nI_pos (by omega))
    · have e := pI_inj (by omega) (by omega) (ex.symm.trans ex')
      subst e
      have e := pI_inj (by omega) (by omega) (ev.symm.trans ev')
      subst e
      have e := pI_inj hp hp' (ey.symm.trans ey')
      subst e
      have ok := me_rd_ok (E := fun j => (w_l w (46 + 2 * i) j).toInt32) (ln := ln i) (p := p) M' 0 n (w_a w 38) h3.r
      exact ⟨rfl, rel_new h1 h2 h3 h4 h5 h6 h7 h8 h9 sa1 sa2 sa3 s2 hx2 ok.1 ok.2⟩
def eqX (w w2 : gx_W) : Prop := ∃ (R : List Nat) (F : List (Nat × Nat)), sam R F [] w w2 ∧ (nin [1, 2, 3, 4, 5, 8, 15, 16, 18, 19, 21, 28, 29, 33, 34, 46, 48, 50, 52, 54, 56, 67, 68, 69, 70, 71, 72, 82, 83, 84, 85, 86, 87, 88, 89] R && ninP ([(7, 1), (14, 2), (14, 3), (17, 2), (17, 3), (27, 4), (32, 4), (37, 1), (57, 14), (57, 26), (57, 37), (57, 38), (57, 39), (57, 40), (57, 43), (57, 45)] ++ shFW) F) = true
theorem rel_chg {w w2 : gx_W} {n l N T : Nat} {g : Nat → Int32} {nb M : Nat} {ln : Nat → Nat} {m : Nat} (h1 : relS w) (h2 : relL w l N) (h3 : relN w n) (h4 : relT w T g) (h6 : relB w nb M) (h7 : relH w nb ln) (h8 : relG w) (h9 : relI w n m) {p : Nat} {v : Int32} {D' K' : Nat} (s : eqX w w2) (e38 : w_a w2 38 = va_up (w_a w 38) p v) (hx : mxD w2 (va_up (w_a w 38) p v) n) (hv : rI v) (hC : relC w2 n D' K') : Rel w2 := by
  obtain ⟨R, F, s12, c⟩ := s
  obtain ⟨c1, c2⟩ := Bool.and_eq_true_iff.mp c
  refine ⟨n, l, N, T, g, D', K', nb, M, ln, m, h1.sam s12 ?_, h2.sam s12 ?_, ⟨(s12.2.1 37 1 (ninP_h c2 (by decide))).trans h3.n1, by rw [e38]; exact hx, fun q hq => ?_⟩, h4.sam s12 ?_, hC, h6.sam s12 ?_, h7.sam s12 ?_, h8.sam s12 ?_, h9.sam s12 ?_⟩
  · exact Bool.and_eq_true_iff.mpr ⟨nin_mono c1 (by decide +kernel), rfl⟩
  · exact Bool.and_eq_true_iff.mpr ⟨Bool.and_eq_true_iff.mpr ⟨nin_mono c1 (by decide +kernel), ninP_mono c2 (by decide +kernel)⟩, rfl⟩
  · rw [e38, up_at]
    split
    · exact hv
    · exact h3.r q hq
  all_goals exact Bool.and_eq_true_iff.mpr ⟨nin_mono c1 (by decide +kernel), ninP_mono c2 (by decide +kernel)⟩
theorem sh_at {f : Nat → Int32} {j : Nat} (h : j < 39) : ch_sh f j = f (j + 1) := by
  unfold ch_sh va_cpy
  rw [if_pos (by omega), show 1 + (j - 0) = j + 1 by omega]
def nwR (D : Nat) (a : Nat → Int32) (v : Int32) : Nat → Int32 := va_up (if D = 40 then ch_sh a else a) (min D 39) v
theorem nwR_at {D : Nat} {a : Nat → Int32} {v : Int32} {j : Nat} (hD : D ≤ 40) (hj : j < min D 39 + 1) : nwR D a v j = if j = min D 39 then v else if D = 40 then a (j + 1) else a j := by
  unfold nwR
  rw [up_at]
  by_cases e : j = min D 39
  · rw [if_pos e, if_pos e]
  · rw [if_neg e, if_neg e]
    by_cases q : D = 40
    · rw [if_pos q, if_pos q, sh_at (by omega)]
    · rw [if_neg q, if_neg q]
set_option maxHeartbeats 1000000 in
theorem op_mend {d : Nat} {w : gx_W} {x y v : Int32} (hd : 140 ≤ d) (R0 : Rel w) : OP d mX9_mend mX10_mend [.int x, .int y, .int v] w := by
  have R1 := R0
  obtain ⟨n, l, N, T, g, D, K, nb, M, ln, m, h1, h2, h3, h4, h5, h6, h7, h8, h9⟩ := R1
  have hn6 := h3.d.1.2.1
  have hne : ∀ p, p < 28 → w_a w 38 p ≠ -2000000000 := fun p hp e => by
    have q := h3.r p hp
    rw [e] at q
    unfold rI at q
    exact absurd q (by decide)
  have hDE := h5.DE
  have hE4 := h5.E40
  unfold OP
  refine c_X9_mend (by omega) h1.T h1.c h1.g (relN.cn h1 h3) h5.d4 (by omega) hne (fun np => ?_) (fun p hp hf => ?_) (fun p hp hf e => ?_) (fun p hp hf e w1 s1 => ?_)
  · exact ⟨h1.m.1, c_X10_mend (by omega) h1.m h3.d h5.m7 (by omega) (fun _ => ⟨rfl, R0⟩) (fun p' hp' _ => absurd hp' (np _)) (fun p' hp' _ _ => absurd hp' (np _)) (fun p' hp' _ _ w2 _ _ => absurd hp' (np _))⟩
  · exact ⟨h1.m.1, c_X10_mend (by omega) h1.m h3.d h5.m7 (by omega) (fun np => absurd hp (np _)) (fun p' hp' _ => ⟨rfl, R0⟩) (fun p' hp' hf' _ => absurd (hf.symm.trans hf') (by decide)) (fun p' hp' hf' _ w2 _ _ => absurd (hf.symm.trans hf') (by decide))⟩
  · refine ⟨h1.m.1, c_X10_mend (by omega) h1.m h3.d h5.m7 (by omega) (fun np => absurd hp (np _)) (fun p' hp' hf' => absurd (hf'.symm.trans hf) (by decide)) (fun p' hp' hf' _ => ?_) (fun p' hp' hf' e' w2 _ _ => ?_)⟩
    · have ee := chOK_u hn6 hp hp'
      subst ee
      exact ⟨rfl, R0⟩
    · have ee := chOK_u hn6 hp hp'
      subst ee
      exact absurd e e'
  · obtain ⟨sc, c1, c2, c3, c4, c5, c6⟩ := s1
    have s1 : same [10, 11, 12, 13, 38] [(9, 4), (9, 5)] w (s_a w1 38 (va_up (w_a w1 38) p v)) := (sc.wk (by simp) (by simp)).sa (by simp)
    have e138 : w_a w1 38 = w_a w 38 := (sc.2.2.2.1 38 (by simp)).1
    have hx1 := mxD_sm h3.d s1 (by simp) (by simp) (by simp)
    refine ⟨(h1.m.same s1).1, c_X10_mend (by omega) (h1.m.same s1) hx1 ((s1.2.1 57 7 (by simp)).trans h5.m7) (by omega) (fun np => absurd hp (np _)) (fun p' hp' hf' => absurd (hf'.symm.trans hf) (by decide)) (fun p' hp' hf' e' => ?_) (fun p' hp' hf' e' w2 g2 hx2 => ?_)⟩
    · have ee := chOK_u hn6 hp hp'
      subst ee
      exact absurd e' e
    · have ee := chOK_u hn6 hp hp'
      subst ee
      obtain ⟨sg2, g1, g2, g3, g4, g5, g6⟩ := g2
      refine ⟨rfl, ?_⟩
      have e238 : w_a w2 38 = va_up (w_a w 38) p v := by rw [(sg2.2.2.2.1 38 (by simp)).1, wa_sat, e138]
      obtain ⟨q, ey, hq⟩ := chOK_q hp
      have hv := rI_fit ey hq hf
      have r10 : w_a w2 10 = nwR D (w_a w 10) x := by rw [(sg2.2.2.2.1 10 (by simp)).1]; exact c3
      have r11 : w_a w2 11 = nwR D (w_a w 11) y := by rw [(sg2.2.2.2.1 11 (by simp)).1]; exact c4
      have r12 : w_a w2 12 = nwR D (w_a w 12) (w_a w 38 p) := by rw [(sg2.2.2.2.1 12 (by simp)).1]; exact c5
      have r13 : w_a w2 13 = nwR D (w_a w 13) v := by rw [(sg2.2.2.2.1 13 (by simp)).1]; exact c6
      have r63 : w_a w2 63 = nwR D (w_a w 63) y := by rw [g3, (s1.2.2.2.1 63 (by simp)).1]; rfl
      have r64 : w_a w2 64 = nwR D (w_a w 64) x := by rw [g4, (s1.2.2.2.1 64 (by simp)).1]; rfl
      have r65 : w_a w2 65 = nwR D (w_a w 65) (w_a w 38 p) := by rw [g5, (s1.2.2.2.1 65 (by simp)).1]; rfl
      have r66 : w_a w2 66 = nwR D (w_a w 66) v := by rw [g6, (s1.2.2.2.1 66 (by simp)).1]; rfl
      have hp28 := chOK.lt hn6 hp
      refine rel_chg h1 h2 h3 h4 h6 h7 h8 h9 (D' := min D 39 + 1) (K' := min D 39 + 1) ⟨_, _, (((s1.wk (R' := [10, 11, 12, 13, 38, 58, 59, 60, 61, 62, 63, 64, 65, 66]) (F' := [(9, 4), (9, 5), (57, 7), (57, 8)]) (by simp) (by simp)).tr (sg2.wk (by simp) (by simp))).sam), by decide +kernel⟩ e238 hx2 hv ?_
      refine ⟨by rw [sg2.2.1 9 4 (by simp)]; exact c1, by rw [sg2.2.1 9 5 (by simp)]; exact c2, Nat.le_refl _, by omega, g1, by rw [Nat.sub_self]; exact g2, fun j hj => ?_, fun j hj => ?_, fun j hj => ?_⟩
      · rw [r63, r64, r65, r66, r10, r11, r12, r13, nwR_at (by omega) hj, nwR_at (by omega) hj, nwR_at (by omega) hj, nwR_at (by omega) hj, nwR_at (by omega) hj, nwR_at (by omega) hj, nwR_at (by omega) hj, nwR_at (by omega) hj]
        by_cases z : j = min D 39
        · simp only [if_pos z]
          exact ⟨trivial, trivial, trivial, trivial⟩
        · simp only [if_neg z]
          by_cases z2 : D = 40
          · simp only [if_pos z2]
            exact h5.e (j + 1) (by omega)
          · simp only [if_neg z2]
            exact h5.e j (by omega)
      · rw [r10, r11, nwR_at (by omega) hj, nwR_at (by omega) hj]
        by_cases z : j = min D 39
        · simp only [if_pos z]
          exact ⟨p, hp28, hp⟩
        · simp only [if_neg z]
          by_cases z2 : D = 40
          · simp only [if_pos z2]
            exact h5.o (j + 1) (by omega)
          · simp only [if_neg z2]
            exact h5.o j (by omega)
      · rw [r12, r13, nwR_at (by omega) hj, nwR_at (by omega) hj]
        by_cases z : j = min D 39
        · simp only [if_pos z]
          exact ⟨h3.r p hp28, hv⟩
        · simp only [if_neg z]
          by_cases z2 : D = 40
          · simp only [if_pos z2]
            exact h5.v (j + 1) (by omega)
          · simp only [if_neg z2]
            exact h5.v j (by omega)
theorem op_undo {d : Nat} {w : gx_W} (hd : 140 ≤ d) (R0 : Rel w) : OP d mX9_undo mX10_undo [] w := by
  have R1 := R0
  obtain ⟨n, l, N, T, g, D, K, nb, M, ln, m, h1, h2, h3, h4, h5, h6, h7, h8, h9⟩ := R1
  have hn6 := h3.d.1.2.1
  have hDE := h5.DE
  have hE4 := h5.E40
  unfold OP
  refine c_X9_undo (by omega) h1.c h1.g (relN.cn h1 h3) h5.d4 (by omega) (fun E e => by obtain ⟨p, a, b⟩ := h5.o E (by omega); exact ⟨p, b⟩) (fun e => ?_) (fun E p e hp => ?_)
  · refine ⟨h1.m.1, c_X10_undo (U := K - D) (by omega) h1.m h3.d h5.m7 (by omega) h5.m8 (fun E e2 => by omega) (fun _ => ⟨rfl, R0⟩) (fun E p e2 hp2 w2 _ _ _ _ => absurd e2 (by omega))⟩
  · have s1 : same [38] [(9, 4)] w (s_a (s_i w 9 4 (nI E)) 38 (va_up (w_a w 38) p (w_a w 12 E))) := (same.rf.si (by simp)).sa (by simp)
    have hx1 := mxD_sm h3.d s1 (by simp) (by simp) (by simp)
    obtain ⟨f1, f2, f3, f4⟩ := h5.e E (by omega)
    refine ⟨(h1.m.same s1).1, c_X10_undo (D := D) (U := K - D) (by omega) (h1.m.same s1) hx1 ((s1.2.1 57 7 (by simp)).trans h5.m7) (by omega) ((s1.2.1 57 8 (by simp)).trans h5.m8) (fun E2 e2 => ?_) (fun e2 => absurd e (by omega)) (fun E2 p2 e2 hp2 w2 s2 g1 g2 hx2 => ?_)⟩
    · have ee : E = E2 := by omega
      subst ee
      exact ⟨p, by rw [(s1.2.2.2.1 64 (by simp)).1, (s1.2.2.2.1 63 (by simp)).1, f1, f2]; exact hp⟩
    · have ee : E = E2 := by omega
      subst ee
      rw [(s1.2.2.2.1 64 (by simp)).1, (s1.2.2.2.1 63 (by simp)).1, f1, f2] at hp2
      have ee := chOK_u hn6 hp hp2
      subst ee
      rw [(s1.2.2.2.1 65 (by simp)).1, f3] at hx2
      refine ⟨rfl, ?_⟩
      have s12 : same [38, 58, 59, 60, 61, 62] [(9, 4), (57, 7), (57, 8)] w w2 := (s1.wk (by simp) (by simp)).tr (s2.wk (by simp) (by simp))
      refine rel_chg h1 h2 h3 h4 h6 h7 h8 h9 (D' := E) (K' := K) ⟨_, _, s12.sam, by decide +kernel⟩ (by rw [(s2.2.2.2.1 38 (by simp)).1, wa_sat]) hx2 (h5.v E (by omega)).1 ?_
      refine ⟨by rw [s2.2.1 9 4 (by simp), wi_sa, wi_si, if_pos ⟨rfl, rfl⟩], (s12.2.1 9 5 (by simp)).trans h5.d5, by omega, hE4, g1, by rw [g2]; congr 1; omega, ?_, ?_, ?_⟩
      · rw [(s12.2.2.2.1 63 (by simp)).1, (s12.2.2.2.1 64 (by simp)).1, (s12.2.2.2.1 65 (by simp)).1, (s12.2.2.2.1 66 (by simp)).1, (s12.2.2.2.1 10 (by simp)).1, (s12.2.2.2.1 11 (by simp)).1, (s12.2.2.2.1 12 (by simp)).1, (s12.2.2.2.1 13 (by simp)).1]
        exact h5.e
      · rw [(s12.2.2.2.1 10 (by simp)).1, (s12.2.2.2.1 11 (by simp)).1]
        exact h5.o
      · rw [(s12.2.2.2.1 12 (by simp)).1, (s12.2.2.2.1 13 (by simp)).1]
        exact h5.v
theorem op_redo {d : Nat} {w : gx_W} (hd : 140 ≤ d) (R0 : Rel w) : OP d mX9_redo mX10_redo [] w := by
  have R1 := R0
  obtain ⟨n, l, N, T, g, D, K, nb, M, ln, m, h1, h2, h3, h4, h5, h6, h7, h8, h9⟩ := R1
  have hn6 := h3.d.1.2.1
  have hDE := h5.DE
  have hE4 := h5.E40
  unfold OP
  refine c_X9_redo (by omega) h1.c h1.g (relN.cn h1 h3) h5.d4 h5.d5 hDE hE4 (fun e => by obtain ⟨p, a, b⟩ := h5.o D e; exact ⟨p, b⟩) (fun e => ?_) (fun p e hp => ?_)
  · refine ⟨h1.m.1, c_X10_redo (U := K - D) (by omega) h1.m h3.d h5.m7 h5.m8 (by omega) (fun e2 => absurd e2 (by omega)) (fun _ => ⟨rfl, R0⟩) (fun V p e2 hp2 w2 _ _ _ _ => absurd e2 (by omega))⟩
  · have s1 : same [38] [(9, 4)] w (s_i (s_a w 38 (va_up (w_a w 38) p (w_a w 13 D))) 9 4 (nI (D + 1))) := (same.rf.sa (by simp)).si (by simp)
    have hx1 := mxD_sm h3.d s1 (by simp) (by simp) (by simp)
    obtain ⟨f1, f2, f3, f4⟩ := h5.e D e
    refine ⟨(h1.m.same s1).1, c_X10_redo (D := D) (U := K - D) (by omega) (h1.m.same s1) hx1 ((s1.2.1 57 7 (by simp)).trans h5.m7) ((s1.2.1 57 8 (by simp)).trans h5.m8) (by omega) (fun e2 => ?_) (fun e2 => absurd e (by omega)) (fun V p2 e2 hp2 w2 s2 g1 g2 hx2 => ?_)⟩
    · exact ⟨p, by rw [(s1.2.2.2.1 64 (by simp)).1, (s1.2.2.2.1 63 (by simp)).1, f1, f2]; exact hp⟩
    · rw [(s1.2.2.2.1 64 (by simp)).1, (s1.2.2.2.1 63 (by simp)).1, f1, f2] at hp2
      have ee := chOK_u hn6 hp hp2
      subst ee
      rw [(s1.2.2.2.1 66 (by simp)).1, f4] at hx2
      refine ⟨by congr 1; omega, ?_⟩
      have s12 : same [38, 58, 59, 60, 61, 62] [(9, 4), (57, 7), (57, 8)] w w2 := (s1.wk (by simp) (by simp)).tr (s2.wk (by simp) (by simp))
      refine rel_chg h1 h2 h3 h4 h6 h7 h8 h9 (D' := D + 1) (K' := K) ⟨_, _, s12.sam, by decide +kernel⟩ (by rw [(s2.2.2.2.1 38 (by simp)).1, wa_si, wa_sat]) hx2 (h5.v D e).2 ?_
      refine ⟨by rw [s2.2.1 9 4 (by simp), wi_si, if_pos ⟨rfl, rfl⟩], (s12.2.1 9 5 (by simp)).trans h5.d5, by omega, hE4, g1, by rw [g2]; congr 1; omega, ?_, ?_, ?_⟩
      · rw [(s12.2.2.2.1 63 (by simp)).1, (s12.2.2.2.1 64 (by simp)).1, (s12.2.2.2.1 65 (by simp)).1, (s12.2.2.2.1 66 (by simp)).1, (s12.2.2.2.1 10 (by simp)).1, (s12.2.2.2.1 11 (by simp)).1, (s12.2.2.2.1 12 (by simp)).1, (s12.2.2.2.1 13 (by simp)).1]
        exact h5.e
      · rw [(s12.2.2.2.1 10 (by simp)).1, (s12.2.2.2.1 11 (by simp)).1]
        exact h5.o
      · rw [(s12.2.2.2.1 12 (by simp)).1, (s12.2.2.2.1 13 (by simp)).1]
        exact h5.v

/-! class and reference side by side: what is asked -/
theorem rng_no {u : Int32} {K : Nat} {M : Int32} (hM : M = nI K) (hK : K < 2 ^ 31) (h : u < 0 ∨ M < u) : ∀ j, j ≤ K → u ≠ nI j := by
  intro j hj e
  subst e hM
  rcases h with q | q
  · exact nI_pos (by omega) q
  · exact nI_nlt (by omega) (by omega) q
theorem rng_ex {u : Int32} {K : Nat} {M : Int32} (hM : M = nI K) (hK : K < 2 ^ 31) (h : ¬ u < 0) (h2 : ¬ M < u) : ∃ j, j ≤ K ∧ u = nI j :=
  nI_of2 (M := M) (n := K) (by rw [hM]; exact nI_toInt hK) h (Int32.not_lt.mp h2)
theorem rc_inj {q c q' c' : Nat} (hc : c < 100) (hc' : c' < 100) (hq : q < 10000) (hq' : q' < 10000) (h : nI (100 * q + c) = nI (100 * q' + c')) : q = q' ∧ c = c' := by
  have := pI_inj (by omega) (by omega) h
  omega
def hoF (w : gx_W) (i : Nat) : Prop := (w_i w (45 + 2 * i) 1 = 0 → w_a w 87 i = -1) ∧ (w_i w (45 + 2 * i) 1 = 2 → w_i w (45 + 2 * i) 3 = 0 → w_a w 87 i = -2) ∧ (¬ w_i w (45 + 2 * i) 1 = 0 → ¬ (w_i w (45 + 2 * i) 1 = 2 ∧ w_i w (45 + 2 * i) 3 = 0) → ¬ w_a w 87 i = -1 ∧ ¬ w_a w 87 i = -2)
theorem ho_s : ∀ s, s < 5 → ¬ s = 0 → ¬ (-2 - nI s : Int32) = -1 ∧ ¬ (-2 - nI s : Int32) = -2 := by decide
theorem relh.ho {w : gx_W} {nb i ln : Nat} (h : relh w nb i ln) (hnb : nb ≤ 50) : hoF w i := by
  rcases h with ⟨a, b⟩ | ⟨a, m, hm, c, b⟩ | ⟨a, s, hs, c, b, _⟩
  · exact ⟨fun _ => b, fun q => by rw [a] at q; exact absurd q (by decide), fun q => absurd a q⟩
  · exact ⟨fun q => by rw [a] at q; exact absurd q (by decide), fun q => by rw [a] at q; exact absurd q (by decide), fun _ _ => by rw [b]; exact ⟨nI_m1 (by omega), nI_m2 (by omega)⟩⟩
  · refine ⟨fun q => by rw [a] at q; exact absurd q (by decide), fun _ q => ?_, fun _ q => ?_⟩
    · rw [c] at q
      have e : s = 0 := pI_inj (b := 0) (by omega) (by decide) q
      rw [b, e]
      decide
    · rw [b]
      exact ho_s s hs (fun e => q ⟨a, by rw [c, e]; rfl⟩)
def QV (w : gx_W) (n N : Nat) (f sg va : Nat → Int32) (ln : Nat → Nat) (C : Nat → Nat → Int64) (H : Nat → Int32) : Prop := moO w ∧ mxD w f n ∧ lwM w N sg va ∧ bnd f n ∧ (∀ i, i < 6 → w_a w 87 i = -2 → shM w i (ln i) (C i)) ∧ w_a w 87 = H ∧ Rel w
def CV (w : gx_W) (n l N : Nat) (ln : Nat → Nat) : Prop := clO w ∧ isCk w 37 38 n l N ∧ isT w ∧ thO w ∧ isCr w 43 44 ∧ (∀ i, i < 6 → isSn w (45 + 2 * i) (46 + 2 * i) (ln i)) ∧ n ≤ 6 ∧ (∀ p, p < 28 → rI (w_a w 38 p)) ∧ ∀ i, i < 6 → hoF w i
abbrev rlO : List (Nat × Nat) := [(43, 2)]
def djT (R : List Nat) (F E : List (Nat × Nat)) : Prop := ((nin rlR R && ninP rlF F) && subP E rlO) = true
theorem sub_X3 {E : List (Nat × Nat)} (c : subP E rlO = true) : subP E X3 = true := List.all_eq_true.mpr (fun k q => by
  have e : k = (43, 2) := by simpa using subP_h c q
  rw [e]
  decide)
theorem sub_nin {E : List (Nat × Nat)} (c : subP E rlO = true) : ninP [(37, 2), (6, 10)] E = true := List.all_eq_true.mpr (fun k q => by
  simp only [Bool.not_eq_true', List.contains_eq_mem, decide_eq_false_iff_not]
  intro z
  have e : k = (43, 2) := by simpa using subP_h c z
  rw [e] at q
  revert q
  decide)
theorem Rel_cv {w : gx_W} (R0 : Rel w) : ∃ (n l N : Nat) (ln : Nat → Nat), CV w n l N ln ∧ ∀ (w1 : gx_W) (R : List Nat) (F E : List (Nat × Nat)), sam R F E w w1 → djT R F E → QV w1 n N (w_a w 38) (w_a w (l + 1)) (w_a w (l + 2)) ln (fun i => w_l w (46 + 2 * i)) (w_a w 87) := by
  have R1 := R0
  obtain ⟨n, l, N, T, g, D, K, nb, M, ln, m, h1, h2, h3, h4, h5, h6, h7, h8, h9⟩ := R1
  refine ⟨n, l, N, ln, ⟨h1.c, relNL.ck h1 h2 h3, h1.T, h1.h, h1.x, relH.sn h1 h7, h3.d.1.2.1, h3.r, fun i hi => (h7.h i hi).ho h6.b5⟩, fun w1 R F E s c => ?_⟩
  obtain ⟨c0, c3⟩ := Bool.and_eq_true_iff.mp c
  obtain ⟨c1, c2⟩ := Bool.and_eq_true_iff.mp c0
  have e38 : w_a w1 38 = w_a w 38 := (s.2.2.2.1 38 (nin_h c1 (by decide))).1
  have e87 : w_a w1 87 = w_a w 87 := (s.2.2.2.1 87 (nin_h c1 (by decide))).1
  have k1 := h1.sam s (Bool.and_eq_true_iff.mpr ⟨nin_mono c1 (by decide +kernel), sub_X3 c3⟩)
  have k2 := h2.sam s (Bool.and_eq_true_iff.mpr ⟨Bool.and_eq_true_iff.mpr ⟨nin_mono c1 (by decide +kernel), ninP_mono c2 (by decide +kernel)⟩, sub_nin c3⟩)
  have k3 := h3.sam s (Bool.and_eq_true_iff.mpr ⟨nin_mono c1 (by decide +kernel), ninP_mono c2 (by decide +kernel)⟩)
  have k7 := h7.sam s (Bool.and_eq_true_iff.mpr ⟨nin_mono c1 (by decide +kernel), ninP_mono c2 (by decide +kernel)⟩)
  have el1 : w_a w1 (l + 1) = w_a w (l + 1) := (s.2.2.2.1 _ (by rcases h2.hl with q | q <;> subst q <;> exact nin_h c1 (by decide))).1
  have el2 : w_a w1 (l + 2) = w_a w (l + 2) := (s.2.2.2.1 _ (by rcases h2.hl with q | q <;> subst q <;> exact nin_h c1 (by decide))).1
  have b1 := k3.bd
  have d1 := k3.d
  have w1l := k2.lw
  rw [e38] at b1 d1
  rw [el1, el2] at w1l
  refine ⟨k1.m, d1, w1l, b1, fun i hi hq => ?_, e87, R0.sam s c⟩
  have hm46 : 46 + 2 * i ∈ rlR := by
    have h6 : i = 0 ∨ i = 1 ∨ i = 2 ∨ i = 3 ∨ i = 4 ∨ i = 5 := by omega
    rcases h6 with q | q | q | q | q | q <;> subst q <;> decide
  have el : w_l w1 (46 + 2 * i) = w_l w (46 + 2 * i) := (s.2.2.2.1 _ (nin_h c1 hm46)).2
  rcases k7.h i hi with ⟨a, b⟩ | ⟨a, m2, hm, c4, b⟩ | ⟨a, s2, hs, c4, b, e⟩
  · rw [b] at hq; exact absurd hq (by decide)
  · rw [b] at hq; exact absurd hq (nI_m2 (by have := h6.b5; omega))
  · rw [el] at e
    exact e
theorem Rel_mx {w w' : gx_W} (h : Rel w) {R : List Nat} {F : List (Nat × Nat)} (s : same R F w w') (c : (nin [1, 2, 3, 4, 5, 8, 10, 11, 12, 13, 15, 16, 18, 19, 21, 28, 29, 33, 34, 38, 46, 48, 50, 52, 54, 56, 63, 64, 65, 66, 67, 68, 69, 70, 71, 72, 82, 83, 84, 85, 86, 87, 88, 89] R && ninP rlF F) = true) (hm : ∀ n, mxD w (w_a w 38) n → mxD w' (w_a w 38) n) : Rel w' := by
  obtain ⟨c1, c2⟩ := Bool.and_eq_true_iff.mp c
  obtain ⟨n, l, N, T, g, D, K, nb, M, ln, m, h1, h2, h3, h4, h5, h6, h7, h8, h9⟩ := h
  have e38 : w_a w' 38 = w_a w 38 := (s.2.2.2.1 38 (nin_h c1 (by decide))).1
  have sm := s.sam (E := [])
  refine ⟨n, l, N, T, g, D, K, nb, M, ln, m, h1.sam sm ?_, h2.sam sm ?_, ⟨(s.2.1 37 1 (ninP_h c2 (by decide))).trans h3.n1, by rw [e38]; exact hm n h3.d, by rw [e38]; exact h3.r⟩, h4.sam sm ?_, h5.sam sm ?_, h6.sam sm ?_, h7.sam sm ?_, h8.sam sm ?_, h9.sam sm ?_⟩
  · exact Bool.and_eq_true_iff.mpr ⟨nin_mono c1 (by decide +kernel), rfl⟩
  · exact Bool.and_eq_true_iff.mpr ⟨Bool.and_eq_true_iff.mpr ⟨nin_mono c1 (by decide +kernel), ninP_mono c2 (by decide +kernel)⟩, rfl⟩
  all_goals exact Bool.and_eq_true_iff.mpr ⟨nin_mono c1 (by decide +kernel), ninP_mono c2 (by decide +kernel)⟩
set_option maxHeartbeats 1000000 in
theorem op_pull {d : Nat} {w : gx_W} {x y : Int32} (hd : 140 ≤ d) (R0 : Rel w) : OP d mX9_pull mX10_pull [.int x, .int y] w := by
  obtain ⟨n, l, N, ln, ⟨hcl, hck, hT, hth, hcr, hsn, hn6, hr28, hho⟩, B⟩ := Rel_cv R0
  unfold OP
  refine c_X9_pull (by omega) hcl hck (fun nx => ?_) (fun ny => ?_) (fun m c ex hm ey hc w1 s1 => ?_)
  · have Q := B w _ _ _ (sam.rf (R := []) (F := []) (E := [])) (by unfold djT; decide +kernel)
    obtain ⟨qm, qx, ql, qb, qs, qh, qR⟩ := Q
    refine ⟨qm.1, c_X10_pull (by omega) qm qx ql qb (fun rx => ?_) (fun ry => ?_) (fun m' c' ex' hm' ey' hc' w2 s2 => ?_)⟩
    · exact ⟨rfl, qR⟩
    · exact ⟨rfl, qR⟩
    · exact absurd ex' (nx _ (by omega))
  · have Q := B w _ _ _ (sam.rf (R := []) (F := []) (E := [])) (by unfold djT; decide +kernel)
    obtain ⟨qm, qx, ql, qb, qs, qh, qR⟩ := Q
    refine ⟨qm.1, c_X10_pull (by omega) qm qx ql qb (fun rx => ?_) (fun ry => ?_) (fun m' c' ex' hm' ey' hc' w2 s2 => ?_)⟩
    · exact ⟨rfl, qR⟩
    · exact ⟨rfl, qR⟩
    · exact absurd ey' (ny _ (by omega))
  · have Q := B w1 _ _ _ (s1.sam (E := [])) (by unfold djT; decide +kernel)
    obtain ⟨qm, qx, ql, qb, qs, qh, qR⟩ := Q
    refine ⟨qm.1, c_X10_pull (by omega) qm qx ql qb (fun rx => ?_) (fun ry => ?_) (fun m' c' ex' hm' ey' hc' w2 s2 => ?_)⟩
    · exact absurd ex (rx _ (by omega))
    · exact absurd ey (ry _ (by omega))
    · have Em := pI_inj (by omega) (by omega) (ex.symm.trans ex')
      subst Em
      have Ec := pI_inj (by omega) (by omega) (ey.symm.trans ey')
      subst Ec
      exact ⟨rfl, qR.sam (s2.sam (E := [])) (by decide +kernel)⟩
set_option maxHeartbeats 1000000 in
theorem op_has {d : Nat} {w : gx_W} {x : Int32} (hd : 140 ≤ d) (R0 : Rel w) : OP d mX9_has mX10_has [.int x] w := by
  obtain ⟨n, l, N, ln, ⟨hcl, hck, hT, hth, hcr, hsn, hn6, hr28, hho⟩, B⟩ := Rel_cv R0
  unfold OP
  refine c_X9_has (by omega) hcl hck (fun nx => ?_) (fun c ex hc w1 s1 => ?_)
  · have Q := B w _ _ _ (sam.rf (R := []) (F := []) (E := [])) (by unfold djT; decide +kernel)
    obtain ⟨qm, qx, ql, qb, qs, qh, qR⟩ := Q
    refine ⟨qm.1, c_X10_has (by omega) qm qx ql qb (fun rx => ?_) (fun c' ex' hc' w2 s2 => ?_)⟩
    · exact ⟨rfl, qR⟩
    · exact absurd ex' (nx _ (by omega))
  · have Q := B w1 _ _ _ (s1.sam (E := [])) (by unfold djT; decide +kernel)
    obtain ⟨qm, qx, ql, qb, qs, qh, qR⟩ := Q
    refine ⟨qm.1, c_X10_has (by omega) qm qx ql qb (fun rx => ?_) (fun c' ex' hc' w2 s2 => ?_)⟩
    · exact absurd ex (rx _ (by omega))
    · have Ec := pI_inj (by omega) (by omega) (ex.symm.trans ex')
      subst Ec
      exact ⟨rfl, qR.sam (s2.sam (E := [])) (by decide +kernel)⟩
set_option maxHeartbeats 1000000 in
theorem op_last {d : Nat} {w : gx_W} {x y : Int32} (hd : 140 ≤ d) (R0 : Rel w) : OP d mX9_last mX10_last [.int x, .int y] w := by
  obtain ⟨n, l, N, ln, ⟨hcl, hck, hT, hth, hcr, hsn, hn6, hr28, hho⟩, B⟩ := Rel_cv R0
  unfold OP
  refine c_X9_last (by omega) hT hcl hck hth hcr hsn (fun ny => ?_) (fun nx => ?_) (fun m i ey hm ex hi z0  => ?_) (fun m i ey hm ex hi z0 z1  => ?_) (fun m i ey hm ex hi z0 z1  w1 s1 => ?_)
  · have Q := B w _ _ _ (sam.rf (R := []) (F := []) (E := [])) (by unfold djT; decide +kernel)
    obtain ⟨qm, qx, ql, qb, qs, qh, qR⟩ := Q
    refine ⟨qm.1, c_X10_last (by omega) qm qx ql qb qs (fun rx => ?_) (fun ry => ?_) (fun i' m' ex' hi' ey' hm' r1 => ?_) (fun i' m' ex' hi' ey' hm' r1 r2 => ?_) (fun i' m' ex' hi' ey' hm' r1 w2 s2 D2 => ?_)⟩
    · exact ⟨rfl, qR⟩
    · exact ⟨rfl, qR⟩
    · exact absurd ey' (ny _ (by omega))
    · exact absurd ey' (ny _ (by omega))
    · exact absurd ey' (ny _ (by omega))
  · have Q := B w _ _ _ (sam.rf (R := []) (F := []) (E := [])) (by unfold djT; decide +kernel)
    obtain ⟨qm, qx, ql, qb, qs, qh, qR⟩ := Q
    refine ⟨qm.1, c_X10_last (by omega) qm qx ql qb qs (fun rx => ?_) (fun ry => ?_) (fun i' m' ex' hi' ey' hm' r1 => ?_) (fun i' m' ex' hi' ey' hm' r1 r2 => ?_) (fun i' m' ex' hi' ey' hm' r1 w2 s2 D2 => ?_)⟩
    · exact ⟨rfl, qR⟩
    · exact ⟨rfl, qR⟩
    · exact absurd ex' (nx _ (by omega))
    · exact absurd ex' (nx _ (by omega))
    · exact absurd ex' (nx _ (by omega))
  · have Q := B w _ _ _ (sam.rf (R := []) (F := []) (E := [])) (by unfold djT; decide +kernel)
    have e1 := (hho i hi).1 z0
    obtain ⟨qm, qx, ql, qb, qs, qh, qR⟩ := Q
    refine ⟨qm.1, c_X10_last (by omega) qm qx ql qb qs (fun rx => ?_) (fun ry => ?_) (fun i' m' ex' hi' ey' hm' r1 => ?_) (fun i' m' ex' hi' ey' hm' r1 r2 => ?_) (fun i' m' ex' hi' ey' hm' r1 w2 s2 D2 => ?_)⟩
    · exact absurd ex (rx _ (by omega))
    · exact absurd ey (ry _ (by omega))
    · have Em := pI_inj (by omega) (by omega) (ey.symm.trans ey')
      subst Em
      have Ei := pI_inj (by omega) (by omega) (ex.symm.trans ex')
      subst Ei
      exact ⟨rfl, qR⟩
    · have Ei := pI_inj (by omega) (by omega) (ex.symm.trans ex')
      subst Ei
      exact absurd e1 r1
    · have Ei := pI_inj (by omega) (by omega) (ex.symm.trans ex')
      subst Ei
      exact absurd (e1.symm.trans r1) (by decide)
  · have Q := B w _ _ _ (sam.rf (R := []) (F := []) (E := [])) (by unfold djT; decide +kernel)
    obtain ⟨n1, n2⟩ := (hho i hi).2.2 z0 z1
    obtain ⟨qm, qx, ql, qb, qs, qh, qR⟩ := Q
    refine ⟨qm.1, c_X10_last (by omega) qm qx ql qb qs (fun rx => ?_) (fun ry => ?_) (fun i' m' ex' hi' ey' hm' r1 => ?_) (fun i' m' ex' hi' ey' hm' r1 r2 => ?_) (fun i' m' ex' hi' ey' hm' r1 w2 s2 D2 => ?_)⟩
    · exact absurd ex (rx _ (by omega))
    · exact absurd ey (ry _ (by omega))
    · have Ei := pI_inj (by omega) (by omega) (ex.symm.trans ex')
      subst Ei
      exact absurd r1 n1
    · have Em := pI_inj (by omega) (by omega) (ey.symm.trans ey')
      subst Em
      have Ei := pI_inj (by omega) (by omega) (ex.symm.trans ex')
      subst Ei
      exact ⟨rfl, qR⟩
    · have Ei := pI_inj (by omega) (by omega) (ex.symm.trans ex')
      subst Ei
      exact absurd r1 n2
  · have Q := B w1 _ _ _ s1.1 (by unfold djT; decide +kernel)
    have e1 := (hho i hi).2.1 z0 z1
    rw [← Q.2.2.2.2.2.1] at e1
    obtain ⟨qm, qx, ql, qb, qs, qh, qR⟩ := Q
    refine ⟨qm.1, c_X10_last (by omega) qm qx ql qb qs (fun rx => ?_) (fun ry => ?_) (fun i' m' ex' hi' ey' hm' r1 => ?_) (fun i' m' ex' hi' ey' hm' r1 r2 => ?_) (fun i' m' ex' hi' ey' hm' r1 w2 s2 D2 => ?_)⟩
    · exact absurd ex (rx _ (by omega))
    · exact absurd ey (ry _ (by omega))
    · have Ei := pI_inj (by omega) (by omega) (ex.symm.trans ex')
      subst Ei
      exact absurd (e1.symm.trans r1) (by decide)
    · have Ei := pI_inj (by omega) (by omega) (ex.symm.trans ex')
      subst Ei
      exact absurd e1 r2
    · have Em := pI_inj (by omega) (by omega) (ey.symm.trans ey')
      subst Em
      have Ei := pI_inj (by omega) (by omega) (ex.symm.trans ex')
      subst Ei
      exact ⟨rfl, qR.sam (s2.sam (E := [])) (by decide +kernel)⟩
set_option maxHeartbeats 1000000 in
theorem op_day {d : Nat} {w : gx_W} {x y v u : Int32} (hd : 140 ≤ d) (R0 : Rel w) : OP d mX9_day mX10_day [.int x, .int y, .int v, .int u] w := by
  obtain ⟨n, l, N, ln, ⟨hcl, hck, hT, hth, hcr, hsn, hn6, hr28, hho⟩, B⟩ := Rel_cv R0
  unfold OP
  refine c_X9_day (by omega) hT hcl hck hth hcr hsn (fun ny => ?_) (fun nx => ?_) (fun nv => ?_) (fun nu0 => ?_) (fun m i ey hm ex hi z0 t ev ht hu1 hu2 => ?_) (fun m i ey hm ex hi z0 z1 t ev ht hu1 hu2 => ?_) (fun m i ey hm ex hi z0 z1 t ev ht hu1 hu2 w1 s1 => ?_)
  · have Q := B w _ _ _ (sam.rf (R := []) (F := []) (E := [])) (by unfold djT; decide +kernel)
    obtain ⟨qm, qx, ql, qb, qs, qh, qR⟩ := Q
    refine ⟨qm.1, c_X10_day (by omega) qm qx ql qb qs (fun rx => ?_) (fun ry => ?_) (fun rv => ?_) (fun ru => ?_) (fun i' m' ex' hi' ey' hm' r1 t' ev' ht' j' ej' hj' => ?_) (fun i' m' ex' hi' ey' hm' r1 r2 t' ev' ht' j' ej' hj' => ?_) (fun i' m' ex' hi' ey' hm' r1 t' ev' ht' j' ej' hj' w2 s2 D2 => ?_)⟩
    · exact ⟨rfl, qR⟩
    · exact ⟨rfl, qR⟩
    · exact ⟨rfl, qR⟩
    · exact ⟨rfl, qR⟩
    · exact absurd ey' (ny _ (by omega))
    · exact absurd ey' (ny _ (by omega))
    · exact absurd ey' (ny _ (by omega))
  · have Q := B w _ _ _ (sam.rf (R := []) (F := []) (E := [])) (by unfold djT; decide +kernel)
    obtain ⟨qm, qx, ql, qb, qs, qh, qR⟩ := Q
    refine ⟨qm.1, c_X10_day (by omega) qm qx ql qb qs (fun rx => ?_) (fun ry => ?_) (fun rv => ?_) (fun ru => ?_) (fun i' m' ex' hi' ey' hm' r1 t' ev' ht' j' ej' hj' => ?_) (fun i' m' ex' hi' ey' hm' r1 r2 t' ev' ht' j' ej' hj' => ?_) (fun i' m' ex' hi' ey' hm' r1 t' ev' ht' j' ej' hj' w2 s2 D2 => ?_)⟩
    · exact ⟨rfl, qR⟩
    · exact ⟨rfl, qR⟩
    · exact ⟨rfl, qR⟩
    · exact ⟨rfl, qR⟩
    · exact absurd ex' (nx _ (by omega))
    · exact absurd ex' (nx _ (by omega))
    · exact absurd ex' (nx _ (by omega))
  · have Q := B w _ _ _ (sam.rf (R := []) (F := []) (E := [])) (by unfold djT; decide +kernel)
    obtain ⟨qm, qx, ql, qb, qs, qh, qR⟩ := Q
    refine ⟨qm.1, c_X10_day (by omega) qm qx ql qb qs (fun rx => ?_) (fun ry => ?_) (fun rv => ?_) (fun ru => ?_) (fun i' m' ex' hi' ey' hm' r1 t' ev' ht' j' ej' hj' => ?_) (fun i' m' ex' hi' ey' hm' r1 r2 t' ev' ht' j' ej' hj' => ?_) (fun i' m' ex' hi' ey' hm' r1 t' ev' ht' j' ej' hj' w2 s2 D2 => ?_)⟩
    · exact ⟨rfl, qR⟩
    · exact ⟨rfl, qR⟩
    · exact ⟨rfl, qR⟩
    · exact ⟨rfl, qR⟩
    · exact absurd ev' (nv _ (by omega))
    · exact absurd ev' (nv _ (by omega))
    · exact absurd ev' (nv _ (by omega))
  · have Q := B w _ _ _ (sam.rf (R := []) (F := []) (E := [])) (by unfold djT; decide +kernel)
    have nu := rng_no (K := 3) rfl (by decide) nu0
    obtain ⟨qm, qx, ql, qb, qs, qh, qR⟩ := Q
    refine ⟨qm.1, c_X10_day (by omega) qm qx ql qb qs (fun rx => ?_) (fun ry => ?_) (fun rv => ?_) (fun ru => ?_) (fun i' m' ex' hi' ey' hm' r1 t' ev' ht' j' ej' hj' => ?_) (fun i' m' ex' hi' ey' hm' r1 r2 t' ev' ht' j' ej' hj' => ?_) (fun i' m' ex' hi' ey' hm' r1 t' ev' ht' j' ej' hj' w2 s2 D2 => ?_)⟩
    · exact ⟨rfl, qR⟩
    · exact ⟨rfl, qR⟩
    · exact ⟨rfl, qR⟩
    · exact ⟨rfl, qR⟩
    · exact absurd ej' (nu _ (by omega))
    · exact absurd ej' (nu _ (by omega))
    · exact absurd ej' (nu _ (by omega))
  · have Q := B w _ _ _ (sam.rf (R := []) (F := []) (E := [])) (by unfold djT; decide +kernel)
    have e1 := (hho i hi).1 z0
    obtain ⟨j, hj, ej⟩ := rng_ex (K := 3) rfl (by decide) hu1 hu2
    obtain ⟨qm, qx, ql, qb, qs, qh, qR⟩ := Q
    refine ⟨qm.1, c_X10_day (by omega) qm qx ql qb qs (fun rx => ?_) (fun ry => ?_) (fun rv => ?_) (fun ru => ?_) (fun i' m' ex' hi' ey' hm' r1 t' ev' ht' j' ej' hj' => ?_) (fun i' m' ex' hi' ey' hm' r1 r2 t' ev' ht' j' ej' hj' => ?_) (fun i' m' ex' hi' ey' hm' r1 t' ev' ht' j' ej' hj' w2 s2 D2 => ?_)⟩
    · exact absurd ex (rx _ (by omega))
    · exact absurd ey (ry _ (by omega))
    · exact absurd ev (rv _ (by omega))
    · exact absurd ej (ru _ (by omega))
    · have Em := pI_inj (by omega) (by omega) (ey.symm.trans ey')
      subst Em
      have Ei := pI_inj (by omega) (by omega) (ex.symm.trans ex')
      subst Ei
      have Et := pI_inj (by omega) (by omega) (ev.symm.trans ev')
      subst Et
      have Ej := pI_inj (by omega) (by omega) (ej.symm.trans ej')
      subst Ej
      exact ⟨rfl, qR⟩
    · have Ei := pI_inj (by omega) (by omega) (ex.symm.trans ex')
      subst Ei
      exact absurd e1 r1
    · have Ei := pI_inj (by omega) (by omega) (ex.symm.trans ex')
      subst Ei
      exact absurd (e1.symm.trans r1) (by decide)
  · have Q := B w _ _ _ (sam.rf (R := []) (F := []) (E := [])) (by unfold djT; decide +kernel)
    obtain ⟨n1, n2⟩ := (hho i hi).2.2 z0 z1
    obtain ⟨j, hj, ej⟩ := rng_ex (K := 3) rfl (by decide) hu1 hu2
    obtain ⟨qm, qx, ql, qb, qs, qh, qR⟩ := Q
    refine ⟨qm.1, c_X10_day (by omega) qm qx ql qb qs (fun rx => ?_) (fun ry => ?_) (fun rv => ?_) (fun ru => ?_) (fun i' m' ex' hi' ey' hm' r1 t' ev' ht' j' ej' hj' => ?_) (fun i' m' ex' hi' ey' hm' r1 r2 t' ev' ht' j' ej' hj' => ?_) (fun i' m' ex' hi' ey' hm' r1 t' ev' ht' j' ej' hj' w2 s2 D2 => ?_)⟩
    · exact absurd ex (rx _ (by omega))
    · exact absurd ey (ry _ (by omega))
    · exact absurd ev (rv _ (by omega))
    · exact absurd ej (ru _ (by omega))
    · have Ei := pI_inj (by omega) (by omega) (ex.symm.trans ex')
      subst Ei
      exact absurd r1 n1
    · have Em := pI_inj (by omega) (by omega) (ey.symm.trans ey')
      subst Em
      have Ei := pI_inj (by omega) (by omega) (ex.symm.trans ex')
      subst Ei
      have Et := pI_inj (by omega) (by omega) (ev.symm.trans ev')
      subst Et
      have Ej := pI_inj (by omega) (by omega) (ej.symm.trans ej')
      subst Ej
      exact ⟨rfl, qR⟩
    · have Ei := pI_inj (by omega) (by omega) (ex.symm.trans ex')
      subst Ei
      exact absurd r1 n2
  · have Q := B w1 _ _ _ s1.1 (by unfold djT; decide +kernel)
    have e1 := (hho i hi).2.1 z0 z1
    rw [← Q.2.2.2.2.2.1] at e1
    obtain ⟨j, hj, ej⟩ := rng_ex (K := 3) rfl (by decide) hu1 hu2
    obtain ⟨qm, qx, ql, qb, qs, qh, qR⟩ := Q
    refine ⟨qm.1, c_X10_day (by omega) qm qx ql qb qs (fun rx => ?_) (fun ry => ?_) (fun rv => ?_) (fun ru => ?_) (fun i' m' ex' hi' ey' hm' r1 t' ev' ht' j' ej' hj' => ?_) (fun i' m' ex' hi' ey' hm' r1 r2 t' ev' ht' j' ej' hj' => ?_) (fun i' m' ex' hi' ey' hm' r1 t' ev' ht' j' ej' hj' w2 s2 D2 => ?_)⟩
    · exact absurd ex (rx _ (by omega))
    · exact absurd ey (ry _ (by omega))
    · exact absurd ev (rv _ (by omega))
    · exact absurd ej (ru _ (by omega))
    · have Ei := pI_inj (by omega) (by omega) (ex.symm.trans ex')
      subst Ei
      exact absurd (e1.symm.trans r1) (by decide)
    · have Ei := pI_inj (by omega) (by omega) (ex.symm.trans ex')
      subst Ei
      exact absurd e1 r2
    · have Em := pI_inj (by omega) (by omega) (ey.symm.trans ey')
      subst Em
      have Ei := pI_inj (by omega) (by omega) (ex.symm.trans ex')
      subst Ei
      have Et := pI_inj (by omega) (by omega) (ev.symm.trans ev')
      subst Et
      have Ej := pI_inj (by omega) (by omega) (ej.symm.trans ej')
      subst Ej
      exact ⟨rfl, qR.sam (s2.sam (E := [])) (by decide +kernel)⟩

/-! class and reference side by side: what is asked, the rest -/
set_option maxHeartbeats 1000000 in
theorem op_unlike {d : Nat} {w : gx_W} {x y : Int32} (hd : 140 ≤ d) (R0 : Rel w) : OP d mX9_unlike mX10_unlike [.int x, .int y] w := by
  obtain ⟨n, l, N, ln, ⟨hcl, hck, hT, hth, hcr, hsn, hn6, hr28, hho⟩, B⟩ := Rel_cv R0
  have QW := B w _ _ _ (sam.rf (R := []) (F := []) (E := [])) (by unfold djT; decide +kernel)
  unfold OP
  refine c_X9_unlike (by omega) hT hcl hck hth hcr hsn (fun ny => ?_) (fun nx => ?_) (fun m i ey hm ex hi z0 => ?_) (fun m i ey hm ex hi z0 z1 => ?_) (fun m i ey hm ex hi z0 z1 w1 s1 => ?_)
  · obtain ⟨qm, qx, ql, qb, qs, qh, qR⟩ := QW
    refine ⟨qm.1, c_X10_unlike (by omega) qm qx ql qb qs (fun rx => ?_) (fun ry => ?_) (fun i' m' ex' hi' ey' hm' r1 => ?_) (fun i' m' ex' hi' ey' hm' r1 r2 => ?_) (fun i' m' ex' hi' ey' hm' r1 w2 s2 D2 => ?_)⟩
    · exact ⟨rfl, qR⟩
    · exact ⟨rfl, qR⟩
    · exact absurd ey' (ny _ (by omega))
    · exact absurd ey' (ny _ (by omega))
    · exact absurd ey' (ny _ (by omega))
  · obtain ⟨qm, qx, ql, qb, qs, qh, qR⟩ := QW
    refine ⟨qm.1, c_X10_unlike (by omega) qm qx ql qb qs (fun rx => ?_) (fun ry => ?_) (fun i' m' ex' hi' ey' hm' r1 => ?_) (fun i' m' ex' hi' ey' hm' r1 r2 => ?_) (fun i' m' ex' hi' ey' hm' r1 w2 s2 D2 => ?_)⟩
    · exact ⟨rfl, qR⟩
    · exact ⟨rfl, qR⟩
    · exact absurd ex' (nx _ (by omega))
    · exact absurd ex' (nx _ (by omega))
    · exact absurd ex' (nx _ (by omega))
  · have e1 := (hho i hi).1 z0
    obtain ⟨qm, qx, ql, qb, qs, qh, qR⟩ := QW
    refine ⟨qm.1, c_X10_unlike (by omega) qm qx ql qb qs (fun rx => ?_) (fun ry => ?_) (fun i' m' ex' hi' ey' hm' r1 => ?_) (fun i' m' ex' hi' ey' hm' r1 r2 => ?_) (fun i' m' ex' hi' ey' hm' r1 w2 s2 D2 => ?_)⟩
    · exact absurd ex (rx _ (by omega))
    · exact absurd ey (ry _ (by omega))
    · exact ⟨rfl, qR⟩
    · have Ei := pI_inj (by omega) (by omega) (ex.symm.trans ex')
      subst Ei
      exact absurd e1 r1
    · have Ei := pI_inj (by omega) (by omega) (ex.symm.trans ex')
      subst Ei
      exact absurd (e1.symm.trans r1) (by decide)
  · obtain ⟨n1, n2⟩ := (hho i hi).2.2 z0 z1
    obtain ⟨qm, qx, ql, qb, qs, qh, qR⟩ := QW
    refine ⟨qm.1, c_X10_unlike (by omega) qm qx ql qb qs (fun rx => ?_) (fun ry => ?_) (fun i' m' ex' hi' ey' hm' r1 => ?_) (fun i' m' ex' hi' ey' hm' r1 r2 => ?_) (fun i' m' ex' hi' ey' hm' r1 w2 s2 D2 => ?_)⟩
    · exact absurd ex (rx _ (by omega))
    · exact absurd ey (ry _ (by omega))
    · have Ei := pI_inj (by omega) (by omega) (ex.symm.trans ex')
      subst Ei
      exact absurd r1 n1
    · exact ⟨rfl, qR⟩
    · have Ei := pI_inj (by omega) (by omega) (ex.symm.trans ex')
      subst Ei
      exact absurd r1 n2
  · have e1 := (hho i hi).2.1 z0 z1
    have Q := B w1 _ _ _ s1.1 (by unfold djT; decide +kernel)
    rw [← Q.2.2.2.2.2.1] at e1
    obtain ⟨qm, qx, ql, qb, qs, qh, qR⟩ := Q
    have h40 := s1.2.2.2.2.1
    refine ⟨fun e0 => ?_, fun r er => ?_⟩
    · refine ⟨qm.1, c_X10_unlike (by omega) qm qx ql qb qs (fun rx => ?_) (fun ry => ?_) (fun i' m' ex' hi' ey' hm' r1 => ?_) (fun i' m' ex' hi' ey' hm' r1 r2 => ?_) (fun i' m' ex' hi' ey' hm' r1 w2 s2 D2 => ?_)⟩
      · exact absurd ex (rx _ (by omega))
      · exact absurd ey (ry _ (by omega))
      · have Ei := pI_inj (by omega) (by omega) (ex.symm.trans ex')
        subst Ei
        exact absurd (e1.symm.trans r1) (by decide)
      · have Ei := pI_inj (by omega) (by omega) (ex.symm.trans ex')
        subst Ei
        exact absurd e1 r2
      · exact ⟨fun _ => ⟨rfl, qR.sam (s2.sam (E := [])) (by decide +kernel)⟩, fun r er => absurd e0 (by omega)⟩
    · refine ⟨qm.1, c_X10_unlike (by omega) qm qx ql qb qs (fun rx => ?_) (fun ry => ?_) (fun i' m' ex' hi' ey' hm' r1 => ?_) (fun i' m' ex' hi' ey' hm' r1 r2 => ?_) (fun i' m' ex' hi' ey' hm' r1 w2 s2 D2 => ?_)⟩
      · exact absurd ex (rx _ (by omega))
      · exact absurd ey (ry _ (by omega))
      · have Ei := pI_inj (by omega) (by omega) (ex.symm.trans ex')
        subst Ei
        exact absurd (e1.symm.trans r1) (by decide)
      · have Ei := pI_inj (by omega) (by omega) (ex.symm.trans ex')
        subst Ei
        exact absurd e1 r2
      · refine ⟨fun e0 => absurd e0 (by omega), fun r' er' => ⟨?_, qR.sam (s2.sam (E := [])) (by decide +kernel)⟩⟩
        have Er : r = r' := by omega
        subst Er
        have Ei := pI_inj (by omega) (by omega) (ex.symm.trans ex')
        subst Ei
        have Em := pI_inj (by omega) (by omega) (ey.symm.trans ey')
        subst Em
        rw [th_max_cg (a := w_a w1 40) r (fun j hj => h40 j (by omega)), th_min_cg (a := w_a w1 40) r (fun j hj => h40 j (by omega))]
        rfl
theorem vt_f_b : ∀ n, n ≤ 6 → 1 ≤ vt_f n ∧ vt_f n ≤ 720 := by decide
theorem vt_eq {f : Nat → Int32} {n t : Nat} {y : Int32} (hn : n ≤ 6) (ht : t < n) : (nI ((if y = 0 then vt_wy f n t (2 ^ n) else vt_f n) / vt_sd (vt_wy f n t (2 ^ n)) (vt_f n) (vt_f n))).toInt64 = lN ((if y = 0 then vt_wy f n t (2 ^ n) else vt_f n) / Nat.gcd (vt_wy f n t (2 ^ n)) (vt_f n)) := by
  have h1 := vt_f_b n hn
  have h64 := p2_le n hn
  have h2 := vt_wy_le f hn ht (2 ^ n) (Nat.le_refl _)
  rw [vt_sd_gcd (by omega) (vt_f n) h1.1 (Nat.le_of_dvd (by omega) (Nat.gcd_dvd_right _ _))]
  refine nI_l (Nat.lt_of_le_of_lt (Nat.div_le_self _ _) ?_)
  split <;> omega
set_option maxHeartbeats 1000000 in
theorem op_power {d : Nat} {w : gx_W} {x y : Int32} (hd : 140 ≤ d) (R0 : Rel w) : OPl d mX9_power mX10_power [.int x, .int y] w := by
  obtain ⟨n, l, N, ln, ⟨hcl, hck, hT, hth, hcr, hsn, hn6, hr28, hho⟩, B⟩ := Rel_cv R0
  unfold OPl
  refine c_X9_power (by omega) hcl hck hT (fun nx => ?_) (fun hu0 => ?_) (fun t ex ht hy1 hy2 => ?_)
  · have Q := B w _ _ _ (sam.rf (R := []) (F := []) (E := [])) (by unfold djT; decide +kernel)
    obtain ⟨qm, qx, ql, qb, qs, qh, qR⟩ := Q
    refine ⟨qm.1, c_X10_power (by omega) qm qx.1 (fun rx => ?_) (fun ry => ?_) (fun t' u' ex' ht' eu' hu' => ?_)⟩
    · exact ⟨rfl, qR⟩
    · exact ⟨rfl, qR⟩
    · exact absurd ex' (nx _ (by omega))
  · have Q := B w _ _ _ (sam.rf (R := []) (F := []) (E := [])) (by unfold djT; decide +kernel)
    have ny := rng_no (K := 1) rfl (by decide) hu0
    obtain ⟨qm, qx, ql, qb, qs, qh, qR⟩ := Q
    refine ⟨qm.1, c_X10_power (by omega) qm qx.1 (fun rx => ?_) (fun ry => ?_) (fun t' u' ex' ht' eu' hu' => ?_)⟩
    · exact ⟨rfl, qR⟩
    · exact ⟨rfl, qR⟩
    · exact absurd eu' (ny _ (by omega))
  · have Q := B w _ _ _ (sam.rf (R := []) (F := []) (E := [])) (by unfold djT; decide +kernel)
    obtain ⟨u, hu, eu⟩ := rng_ex (K := 1) rfl (by decide) hy1 hy2
    obtain ⟨qm, qx, ql, qb, qs, qh, qR⟩ := Q
    refine ⟨qm.1, c_X10_power (by omega) qm qx.1 (fun rx => ?_) (fun ry => ?_) (fun t' u' ex' ht' eu' hu' => ?_)⟩
    · exact absurd ex (rx _ (by omega))
    · exact absurd eu (ry _ (by omega))
    · have Et := pI_inj (by omega) (by omega) (ex.symm.trans ex')
      subst Et
      have Eu := pI_inj (by omega) (by omega) (eu.symm.trans eu')
      subst Eu
      exact ⟨(vt_eq hn6 ht).symm, qR⟩
set_option maxHeartbeats 1000000 in
theorem op_fair {d : Nat} {w : gx_W} {x y : Int32} (hd : 140 ≤ d) (R0 : Rel w) : OP d mX9_fair mX10_fair [.int x, .int y] w := by
  obtain ⟨n, l, N, ln, ⟨hcl, hck, hT, hth, hcr, hsn, hn6, hr28, hho⟩, B⟩ := Rel_cv R0
  unfold OP
  refine c_X9_fair (by omega) hT hcl hck hth hcr hsn (fun nx => ?_) (fun i ex hi z0 => ?_) (fun i ex hi z0 z1 => ?_) (fun hu0 => ?_) (fun hn => ?_) (fun i ex hi z0 z1 hn ey w1 s1 => ?_) (fun i ex hi z0 z1 hn hy1 hy2 hy3 => ?_)
  · have Q := B w _ _ _ (sam.rf (R := []) (F := []) (E := [])) (by unfold djT; decide +kernel)
    obtain ⟨qm, qx, ql, qb, qs, qh, qR⟩ := Q
    refine ⟨qm.1, c_X10_fair (by omega) qm qx ql qb qs (fun rx => ?_) (fun ry => ?_) (fun rn => ?_) (fun i' ex' hi' r1 => ?_) (fun i' ex' hi' r1 r2 => ?_) (fun i' ex' hi' r1 rn ey' w2 s2 => ?_) (fun i' ex' hi' r1 rn ey' w2 s2 => ?_)⟩
    · exact ⟨rfl, qR⟩
    · exact ⟨rfl, qR⟩
    · exact ⟨rfl, qR⟩
    · exact absurd ex' (nx _ (by omega))
    · exact absurd ex' (nx _ (by omega))
    · exact absurd ex' (nx _ (by omega))
    · exact absurd ex' (nx _ (by omega))
  · have Q := B w _ _ _ (sam.rf (R := []) (F := []) (E := [])) (by unfold djT; decide +kernel)
    have e1 := (hho i hi).1 z0
    obtain ⟨qm, qx, ql, qb, qs, qh, qR⟩ := Q
    refine ⟨qm.1, c_X10_fair (by omega) qm qx ql qb qs (fun rx => ?_) (fun ry => ?_) (fun rn => ?_) (fun i' ex' hi' r1 => ?_) (fun i' ex' hi' r1 r2 => ?_) (fun i' ex' hi' r1 rn ey' w2 s2 => ?_) (fun i' ex' hi' r1 rn ey' w2 s2 => ?_)⟩
    · exact absurd ex (rx _ (by omega))
    · exact ⟨rfl, qR⟩
    · exact ⟨rfl, qR⟩
    · have Ei := pI_inj (by omega) (by omega) (ex.symm.trans ex')
      subst Ei
      exact ⟨rfl, qR⟩
    · have Ei := pI_inj (by omega) (by omega) (ex.symm.trans ex')
      subst Ei
      exact absurd e1 r1
    · have Ei := pI_inj (by omega) (by omega) (ex.symm.trans ex')
      subst Ei
      exact absurd (e1.symm.trans r1) (by decide)
    · have Ei := pI_inj (by omega) (by omega) (ex.symm.trans ex')
      subst Ei
      exact absurd (e1.symm.trans r1) (by decide)
  · have Q := B w _ _ _ (sam.rf (R := []) (F := []) (E := [])) (by unfold djT; decide +kernel)
    obtain ⟨n1, n2⟩ := (hho i hi).2.2 z0 z1
    obtain ⟨qm, qx, ql, qb, qs, qh, qR⟩ := Q
    refine ⟨qm.1, c_X10_fair (by omega) qm qx ql qb qs (fun rx => ?_) (fun ry => ?_) (fun rn => ?_) (fun i' ex' hi' r1 => ?_) (fun i' ex' hi' r1 r2 => ?_) (fun i' ex' hi' r1 rn ey' w2 s2 => ?_) (fun i' ex' hi' r1 rn ey' w2 s2 => ?_)⟩
    · exact absurd ex (rx _ (by omega))
    · exact ⟨rfl, qR⟩
    · exact ⟨rfl, qR⟩
    · have Ei := pI_inj (by omega) (by omega) (ex.symm.trans ex')
      subst Ei
      exact absurd r1 n1
    · have Ei := pI_inj (by omega) (by omega) (ex.symm.trans ex')
      subst Ei
      exact ⟨rfl, qR⟩
    · have Ei := pI_inj (by omega) (by omega) (ex.symm.trans ex')
      subst Ei
      exact absurd r1 n2
    · have Ei := pI_inj (by omega) (by omega) (ex.symm.trans ex')
      subst Ei
      exact absurd r1 n2
  · have Q := B w _ _ _ (sam.rf (R := []) (F := []) (E := [])) (by unfold djT; decide +kernel)
    have ny := rng_no (K := 1) rfl (by decide) hu0
    obtain ⟨qm, qx, ql, qb, qs, qh, qR⟩ := Q
    refine ⟨qm.1, c_X10_fair (by omega) qm qx ql qb qs (fun rx => ?_) (fun ry => ?_) (fun rn => ?_) (fun i' ex' hi' r1 => ?_) (fun i' ex' hi' r1 r2 => ?_) (fun i' ex' hi' r1 rn ey' w2 s2 => ?_) (fun i' ex' hi' r1 rn ey' w2 s2 => ?_)⟩
    · exact ⟨rfl, qR⟩
    · exact ⟨rfl, qR⟩
    · exact ⟨rfl, qR⟩
    · exact ⟨rfl, qR⟩
    · exact ⟨rfl, qR⟩
    · exact absurd ey' (ny 1 (by decide))
    · exact absurd ey' (ny 0 (by decide))
  · have Q := B w _ _ _ (sam.rf (R := []) (F := []) (E := [])) (by unfold djT; decide +kernel)
    obtain ⟨qm, qx, ql, qb, qs, qh, qR⟩ := Q
    refine ⟨qm.1, c_X10_fair (by omega) qm qx ql qb qs (fun rx => ?_) (fun ry => ?_) (fun rn => ?_) (fun i' ex' hi' r1 => ?_) (fun i' ex' hi' r1 r2 => ?_) (fun i' ex' hi' r1 rn ey' w2 s2 => ?_) (fun i' ex' hi' r1 rn ey' w2 s2 => ?_)⟩
    · exact ⟨rfl, qR⟩
    · exact ⟨rfl, qR⟩
    · exact ⟨rfl, qR⟩
    · exact ⟨rfl, qR⟩
    · exact ⟨rfl, qR⟩
    · exact absurd hn (show ¬ n = 0 by omega)
    · exact absurd hn (show ¬ n = 0 by omega)
  · have Q := B w1 _ _ _ s1.1 (by unfold djT; decide +kernel)
    have e1 := (hho i hi).2.1 z0 z1
    rw [← Q.2.2.2.2.2.1] at e1
    obtain ⟨qm, qx, ql, qb, qs, qh, qR⟩ := Q
    refine ⟨qm.1, c_X10_fair (by omega) qm qx ql qb qs (fun rx => ?_) (fun ry => ?_) (fun rn => ?_) (fun i' ex' hi' r1 => ?_) (fun i' ex' hi' r1 r2 => ?_) (fun i' ex' hi' r1 rn ey' w2 s2 => ?_) (fun i' ex' hi' r1 rn ey' w2 s2 => ?_)⟩
    · exact absurd ex (rx _ (by omega))
    · exact absurd ey (ry 1 (by decide))
    · exact absurd rn (show ¬ n = 0 by omega)
    · have Ei := pI_inj (by omega) (by omega) (ex.symm.trans ex')
      subst Ei
      exact absurd (e1.symm.trans r1) (by decide)
    · have Ei := pI_inj (by omega) (by omega) (ex.symm.trans ex')
      subst Ei
      exact absurd e1 r2
    · have Ei := pI_inj (by omega) (by omega) (ex.symm.trans ex')
      subst Ei
      exact ⟨rfl, qR.sam (s2.sam (E := [])) (by decide +kernel)⟩
    · exact absurd (ey.symm.trans ey') (by decide)
  · have Q := B w _ _ _ (sam.rf (R := []) (F := []) (E := [])) (by unfold djT; decide +kernel)
    have e1 := (hho i hi).2.1 z0 z1
    obtain ⟨u, hu, eu⟩ := rng_ex (K := 1) rfl (by decide) hy1 hy2
    have ey : y = 0 := by
      have : u = 0 := by
        rcases Nat.eq_zero_or_pos u with q | q
        · exact q
        · exact absurd (show y = 1 by rw [eu, show u = 1 by omega]; rfl) hy3
      rw [eu, this]; rfl
    obtain ⟨qm, qx, ql, qb, qs, qh, qR⟩ := Q
    refine ⟨qm.1, c_X10_fair (by omega) qm qx ql qb qs (fun rx => ?_) (fun ry => ?_) (fun rn => ?_) (fun i' ex' hi' r1 => ?_) (fun i' ex' hi' r1 r2 => ?_) (fun i' ex' hi' r1 rn ey' w2 s2 => ?_) (fun i' ex' hi' r1 rn ey' w2 s2 => ?_)⟩
    · exact absurd ex (rx _ (by omega))
    · exact absurd ey (ry 0 (by decide))
    · exact absurd rn (show ¬ n = 0 by omega)
    · have Ei := pI_inj (by omega) (by omega) (ex.symm.trans ex')
      subst Ei
      exact absurd (e1.symm.trans r1) (by decide)
    · have Ei := pI_inj (by omega) (by omega) (ex.symm.trans ex')
      subst Ei
      exact absurd e1 r2
    · exact absurd (ey.symm.trans ey') (by decide)
    · have Ei := pI_inj (by omega) (by omega) (ex.symm.trans ex')
      subst Ei
      exact ⟨rfl, qR.sam (s2.sam (E := [])) (by decide +kernel)⟩
set_option maxHeartbeats 1000000 in
theorem op_drawn {d : Nat} {w : gx_W} {x y v : Int32} (hd : 140 ≤ d) (R0 : Rel w) : OP d mX9_drawn mX10_drawn [.int x, .int y, .int v] w := by
  obtain ⟨n, l, N, ln, ⟨hcl, hck, hT, hth, hcr, hsn, hn6, hr28, hho⟩, B⟩ := Rel_cv R0
  unfold OP
  refine c_X9_drawn (by omega) hT hcl hck hth hcr (fun ny => ?_) (fun nv1 nv2 => ?_) (fun D C ey h1 h2 h3 h4 ev w1 s1 => ?_) (fun D C t ey h1 h2 h3 h4 ev ht w1 s1 => ?_)
  · have Q := B w _ _ _ (sam.rf (R := []) (F := []) (E := [])) (by unfold djT; decide +kernel)
    obtain ⟨qm, qx, ql, qb, qs, qh, qR⟩ := Q
    refine ⟨qm.1, c_X10_drawn (by omega) qm qx ql qb (fun ry => ?_) (fun rv1 rv2 => ?_) (fun D' C' ey' h1' h2' h3' h4' ev' w2 s2 => ?_) (fun D' C' t' ey' h1' h2' h3' h4' ev' ht' w2 s2 => ?_)⟩
    · exact ⟨rfl, qR⟩
    · exact ⟨rfl, qR⟩
    · exact absurd ey' (ny _ _ h1' h2' h3' h4')
    · exact absurd ey' (ny _ _ h1' h2' h3' h4')
  · have Q := B w _ _ _ (sam.rf (R := []) (F := []) (E := [])) (by unfold djT; decide +kernel)
    obtain ⟨qm, qx, ql, qb, qs, qh, qR⟩ := Q
    refine ⟨qm.1, c_X10_drawn (by omega) qm qx ql qb (fun ry => ?_) (fun rv1 rv2 => ?_) (fun D' C' ey' h1' h2' h3' h4' ev' w2 s2 => ?_) (fun D' C' t' ey' h1' h2' h3' h4' ev' ht' w2 s2 => ?_)⟩
    · exact ⟨rfl, qR⟩
    · exact ⟨rfl, qR⟩
    · exact absurd ev' nv1
    · exact absurd ev' (nv2 _ ht')
  · have Q := B w1 _ _ _ s1.1 (by unfold djT; decide +kernel)
    obtain ⟨qm, qx, ql, qb, qs, qh, qR⟩ := Q
    refine ⟨qm.1, c_X10_drawn (by omega) qm qx ql qb (fun ry => ?_) (fun rv1 rv2 => ?_) (fun D' C' ey' h1' h2' h3' h4' ev' w2 s2 => ?_) (fun D' C' t' ey' h1' h2' h3' h4' ev' ht' w2 s2 => ?_)⟩
    · exact absurd ey (ry _ _ h1 h2 h3 h4)
    · exact absurd ev rv1
    · obtain ⟨E1, E2⟩ := rc_inj (by omega) (by omega) (by omega) (by omega) (ey.symm.trans ey')
      subst E1
      subst E2
      exact ⟨rfl, qR.sam (s2.sam (E := [])) (by decide +kernel)⟩
    · exact absurd (ev'.symm.trans ev) (nI_m1 (by omega))
  · have Q := B w1 _ _ _ s1.1 (by unfold djT; decide +kernel)
    obtain ⟨qm, qx, ql, qb, qs, qh, qR⟩ := Q
    refine ⟨qm.1, c_X10_drawn (by omega) qm qx ql qb (fun ry => ?_) (fun rv1 rv2 => ?_) (fun D' C' ey' h1' h2' h3' h4' ev' w2 s2 => ?_) (fun D' C' t' ey' h1' h2' h3' h4' ev' ht' w2 s2 => ?_)⟩
    · exact absurd ey (ry _ _ h1 h2 h3 h4)
    · exact absurd ev (rv2 _ ht)
    · exact absurd (ev.symm.trans ev') (nI_m1 (by omega))
    · obtain ⟨E1, E2⟩ := rc_inj (by omega) (by omega) (by omega) (by omega) (ey.symm.trans ey')
      subst E1
      subst E2
      have Et := pI_inj (by omega) (by omega) (ev.symm.trans ev')
      subst Et
      exact ⟨rfl, qR.sam (s2.sam (E := [])) (by decide +kernel)⟩
theorem chOK_u {n p p' : Nat} {x y : Int32} (hn : n ≤ 6) (h : chOK n x y p) (h' : chOK n x y p') : p = p' := by
  rcases h with ⟨q, m, a1, a2, a3, a4, a5⟩ | ⟨q, a1, a2, a3, a4, a5⟩ <;> rcases h' with ⟨q', m', b1, b2, b3, b4, b5⟩ | ⟨q', b1, b2, b3, b4, b5⟩
  · have e1 := pI_inj (by omega) (by omega) (a1.symm.trans b1)
    have e2 := pI_inj (by omega) (by omega) (a2.symm.trans b2)
    omega
  · have e1 := pI_inj (by omega) (by omega) (a1.symm.trans b1)
    omega
  · have e1 := pI_inj (by omega) (by omega) (a1.symm.trans b1)
    omega
  · have e1 := pI_inj (by omega) (by omega) (a1.symm.trans b1)
    omega
theorem op_of {d : Nat} {w : gx_W} {x y : Int32} (hd : 140 ≤ d) (R0 : Rel w) : OP d mX9_of mX10_of [.int x, .int y] w := by
  have R1 := R0
  obtain ⟨n, l, N, T, g, D, K, nb, M, ln, m, h1, h2, h3, h4, h5, h6, h7, h8, h9⟩ := R1
  have hn6 := h3.d.1.2.1
  unfold OP
  refine c_X9_of (by omega) h1.c (relNL.ck h1 h2 h3) (fun q m2 ey ex hq hm => ?_) (fun q ey ex h4' h8' => ?_) (fun n1 n2 => ?_)
  · have hp0 : chOK n x y (q * 6 + m2) := Or.inl ⟨q, m2, ey, ex, hq, hm, rfl⟩
    refine ⟨h1.m.1, c_X10_of (by omega) h1.m h3.d (fun p hp => ?_) (fun np => ?_)⟩
    · have e := chOK_u hn6 hp0 hp
      subst e
      exact ⟨rfl, R0⟩
    · exact absurd hp0 (np _)
  · have hp0 : chOK n x y (20 + q) := Or.inr ⟨q, ey, ex, h4', h8', rfl⟩
    refine ⟨h1.m.1, c_X10_of (by omega) h1.m h3.d (fun p hp => ?_) (fun np => ?_)⟩
    · have e := chOK_u hn6 hp0 hp
      subst e
      exact ⟨rfl, R0⟩
    · exact absurd hp0 (np _)
  · refine ⟨h1.m.1, c_X10_of (by omega) h1.m h3.d (fun p hp => ?_) (fun np => ⟨rfl, R0⟩)⟩
    rcases hp with ⟨q, m2, a1, a2, a3, a4, a5⟩ | ⟨q, a1, a2, a3, a4, a5⟩
    · exact (n1 q m2 a3 a4 a1 a2).elim
    · exact (n2 q a3 a4 a1 a2).elim
theorem op_led {d : Nat} {w : gx_W} {x : Int32} (hd : 140 ≤ d) (R0 : Rel w) : OP d mX9_led mX10_led [.int x] w := by
  have R1 := R0
  obtain ⟨n, l, N, T, g, D, K, nb, M, ln, m, h1, h2, h3, h4, h5, h6, h7, h8, h9⟩ := R1
  unfold OP
  refine c_X9_led (by omega) h1.c (fun i ex hi => ?_) (fun nx => ?_)
  · refine ⟨h1.m.1, c_X10_led (by omega) h1.m (fun r4 => ?_) (fun i' ex' hi' => ?_) (fun rn => ?_)⟩
    · have e : i = 4 := pI_inj (b := 4) (by omega) (by decide) (ex.symm.trans r4)
      subst e
      exact ⟨h8.l.symm, R0⟩
    · have e := pI_inj (by omega) (by omega) (ex.symm.trans ex')
      subst e
      exact ⟨(h8.k i hi').symm, R0⟩
    · exact absurd ex (rn _ hi)
  · refine ⟨h1.m.1, c_X10_led (by omega) h1.m (fun r4 => ?_) (fun i' ex' hi' => ?_) (fun rn => ?_)⟩
    · exact absurd r4 (nx 4 (by decide))
    · exact absurd ex' (nx _ (by omega))
    · exact ⟨rfl, R0⟩
theorem op_trace {d : Nat} {w : gx_W} {x : Int32} (hd : 140 ≤ d) (R0 : Rel w) : OP d mX9_trace mX10_trace [.int x] w := by
  have R1 := R0
  obtain ⟨n, l, N, T, g, D, K, nb, M, ln, m, h1, h2, h3, h4, h5, h6, h7, h8, h9⟩ := R1
  have hM := h6.R9
  unfold OP
  refine c_X9_trace (by omega) h1.c (relB.bk h1 h6) h6.r3 (by omega) (fun i ex hi hi2 => ?_) (fun nx => ?_)
  · refine ⟨h1.m.1, c_X10_trace (by omega) h1.m h6.r45 (by omega) (fun i' ex' hi' hi2' => ?_) (fun rn => ?_)⟩
    · have e := pI_inj (by omega) (by omega) (ex.symm.trans ex')
      subst e
      exact ⟨(h6.t i hi hi2).symm, R0⟩
    · exact absurd ex (rn _ hi hi2)
  · refine ⟨h1.m.1, c_X10_trace (by omega) h1.m h6.r45 (by omega) (fun i' ex' hi' hi2' => ?_) (fun rn => ?_)⟩
    · exact absurd ex' (nx _ hi' hi2')
    · exact ⟨rfl, R0⟩
theorem ho_neg : ∀ s, s < 5 → (-2 - nI s : Int32) < 0 ∧ ¬ (-2 - nI s : Int32) = -1 := by decide
theorem relh.row {w : gx_W} {nb i ln : Nat} (h : relh w nb i ln) (hnb : nb ≤ 50) : (w_i w (45 + 2 * i) 1 = 2 → ¬ w_a w 87 i = -1 ∧ w_a w 87 i < 0) ∧ (¬ w_a w 87 i = -1 → w_a w 87 i < 0 → w_i w (45 + 2 * i) 1 = 2 ∧ ∃ s, s < 5 ∧ w_i w (45 + 2 * i) 3 = nI s ∧ w_a w 87 i = -2 - nI s ∧ shM w i ln (w_l w (46 + 2 * i))) := by
  rcases h with ⟨a, b⟩ | ⟨a, m, hm, c, b⟩ | ⟨a, s, hs, c, b, e⟩
  · exact ⟨fun q => by rw [a] at q; exact absurd q (by decide), fun q => absurd b q⟩
  · exact ⟨fun q => by rw [a] at q; exact absurd q (by decide), fun _ q => by rw [b] at q; exact absurd q (nI_pos (by omega))⟩
  · exact ⟨fun _ => by rw [b]; exact ⟨(ho_neg s hs).2, (ho_neg s hs).1⟩, fun _ _ => ⟨a, s, hs, c, b, e⟩⟩
theorem relH.hsz {w : gx_W} {nb : Nat} {ln : Nat → Nat} (h : relH w nb ln) (hnb : nb ≤ 50) : ∀ i, i < 6 → ¬ w_a w 87 i = -1 → w_a w 87 i < 0 → w_a w 88 i = nI (ln i) ∧ ln i ≤ 60 := fun i hi q1 q2 => by
  obtain ⟨a, s, b1, b2, b3, b4⟩ := ((h.h i hi).row hnb).2 q1 q2
  exact ⟨b4.1, b4.2.1⟩
theorem op_element {d : Nat} {w : gx_W} {x y : Int32} (hd : 140 ≤ d) (R0 : Rel w) : OPl d mX9_element mX10_element [.int x, .int y] w := by
  have R1 := R0
  obtain ⟨n, l, N, T, g, D, K, nb, M, ln, m, h1, h2, h3, h4, h5, h6, h7, h8, h9⟩ := R1
  unfold OPl
  refine c_X9_element (by omega) h1.c (relH.sn h1 h7) (fun nx => ?_) (fun i p ex hi z1 ey hp => ?_)
  · refine ⟨h1.m.1, c_X10_element (by omega) h1.m (h7.hsz h6.b5) (fun rn => ⟨rfl, R0⟩) (fun i p ex hi q1 q2 ey hp => ?_)⟩
    exact (nx i p ex hi (((h7.h i hi).row h6.b5).2 q1 q2).1 ey hp).elim
  · obtain ⟨q1, q2⟩ := ((h7.h i hi).row h6.b5).1 z1
    have hli := (h7.n i hi).2
    refine ⟨h1.m.1, c_X10_element (by omega) h1.m (h7.hsz h6.b5) (fun rn => ?_) (fun i' p' ex' hi' r1 r2 ey' hp' => ?_)⟩
    · exact (rn i p ex hi q1 q2 ey hp).elim
    · have e := pI_inj (by omega) (by omega) (ex.symm.trans ex')
      subst e
      have e := pI_inj (by omega) (by omega) (ey.symm.trans ey')
      subst e
      obtain ⟨a, s, b1, b2, b3, b4⟩ := ((h7.h i hi).row h6.b5).2 q1 q2
      exact ⟨b4.2.2 p (by omega), R0⟩
theorem op_taken {d : Nat} {w : gx_W} {x y : Int32} (hd : 140 ≤ d) (R0 : Rel w) : OP d mX9_taken mX10_taken [.int x, .int y] w := by
  have R1 := R0
  obtain ⟨n, l, N, T, g, D, K, nb, M, ln, m, h1, h2, h3, h4, h5, h6, h7, h8, h9⟩ := R1
  have hnb := h6.b5
  have hk18 : ∀ j, j < nb → ∃ m, m < 8 ∧ w_a w 18 j = nI m := fun j hj => by
    obtain ⟨m, a, b, c⟩ := h6.k j hj
    exact ⟨m, a, b⟩
  have hbd : ∀ i, i < 6 → ¬ w_i w (45 + 2 * i) 1 = 0 → ¬ w_i w (45 + 2 * i) 1 = 2 → ∃ m, m < nb ∧ w_i w (45 + 2 * i) 2 = nI m ∧ w_a w 87 i = nI m := fun i hi q1 q2 => by
    rcases h7.h i hi with ⟨a, b⟩ | ⟨a, m, hm, c, b⟩ | ⟨a, s, hs, c, b, e⟩
    · exact absurd a q1
    · exact ⟨m, hm, c, b⟩
    · exact absurd a q2
  have hk : ∀ i, i < 6 → ¬ w_a w 87 i < 0 → ∃ m q, m < nb ∧ w_a w 87 i = nI m ∧ q < 8 ∧ w_a w 85 m = nI q := fun i hi q1 => by
    rcases h7.h i hi with ⟨a, b⟩ | ⟨a, m, hm, c, b⟩ | ⟨a, s, hs, c, b, e⟩
    · rw [b] at q1; exact absurd (by decide) q1
    · obtain ⟨q, c1, c2, c3⟩ := h6.k m hm
      exact ⟨m, q, hm, b, c1, c3⟩
    · rw [b] at q1; exact absurd (ho_neg s hs).1 q1
  have hy7 : ¬ y < 0 → y < 8 → ∃ u, u ≤ 7 ∧ y = nI u := fun a b => by
    obtain ⟨u, hu, eu⟩ := pI_cases (n := 8) (by decide) a b
    exact ⟨u, by omega, eu⟩
  unfold OP
  refine c_X9_taken (by omega) h1.T h1.c (relB.bk h1 h6) hk18 (fun i hi q1 q2 => by obtain ⟨m, a, b, c⟩ := hbd i hi q1 q2; exact ⟨m, a, b⟩) (fun nx => ?_) (fun ny => ?_) (fun i ex hi hy1 hy2 z0 => ?_) (fun i ex hi hy1 hy2 z0 => ?_) (fun i mm q ex hi hy1 hy2 z0 z2 hm em hq eq => ?_)
  · refine ⟨h1.m.1, c_X10_taken (by omega) h1.m hnb hk (fun rx => ⟨rfl, R0⟩) (fun ry => ⟨rfl, R0⟩) (fun i' u ex' hi' ey hu r1 => ?_) (fun i' u ex' hi' ey hu r1 r2 => ?_) (fun i' u m' q' ex' hi' ey hu r1 hm' em' hq' eq' => ?_)⟩ <;> exact absurd ex' (nx _ hi')
  · refine ⟨h1.m.1, c_X10_taken (by omega) h1.m hnb hk (fun rx => ⟨rfl, R0⟩) (fun ry => ⟨rfl, R0⟩) (fun i' u ex' hi' ey hu r1 => ?_) (fun i' u ex' hi' ey hu r1 r2 => ?_) (fun i' u m' q' ex' hi' ey hu r1 hm' em' hq' eq' => ?_)⟩
    all_goals
      rw [ey] at ny
      rcases ny with q | q
      · exact absurd q (nI_pos (by omega))
      · exact absurd (show nI 8 ≤ nI u from q) (nI_ge (by omega) (by omega))
  · obtain ⟨u, hu, eu⟩ := hy7 hy1 hy2
    have e1 : w_a w 87 i = -1 := ((h7.h i hi).ho hnb).1 z0
    refine ⟨h1.m.1, c_X10_taken (by omega) h1.m hnb hk (fun rx => ?_) (fun ry => ?_) (fun i' u' ex' hi' ey hu r1 => ?_) (fun i' u' ex' hi' ey hu r1 r2 => ?_) (fun i' u' m' q' ex' hi' ey hu r1 hm' em' hq' eq' => ?_)⟩
    · exact absurd ex (rx _ hi)
    · exact absurd eu (ry _ hu)
    · exact ⟨rfl, R0⟩
    · have e := pI_inj (by omega) (by omega) (ex.symm.trans ex')
      subst e
      exact absurd e1 r1
    · have e := pI_inj (by omega) (by omega) (ex.symm.trans ex')
      subst e
      rw [e1] at r1; exact absurd (by decide) r1
  · obtain ⟨u, hu, eu⟩ := hy7 hy1 hy2
    obtain ⟨q1, q2⟩ := ((h7.h i hi).row hnb).1 z0
    refine ⟨h1.m.1, c_X10_taken (by omega) h1.m hnb hk (fun rx => ?_) (fun ry => ?_) (fun i' u' ex' hi' ey hu r1 => ?_) (fun i' u' ex' hi' ey hu r1 r2 => ?_) (fun i' u' m' q' ex' hi' ey hu r1 hm' em' hq' eq' => ?_)⟩
    · exact absurd ex (rx _ hi)
    · exact absurd eu (ry _ hu)
    · have e := pI_inj (by omega) (by omega) (ex.symm.trans ex')
      subst e
      exact absurd r1 q1
    · exact ⟨rfl, R0⟩
    · have e := pI_inj (by omega) (by omega) (ex.symm.trans ex')
      subst e
      exact absurd q2 r1
  · obtain ⟨u, hu, eu⟩ := hy7 hy1 hy2
    obtain ⟨m2, hm2, em2, e87⟩ := hbd i hi z0 z2
    have e := pI_inj (by omega) (by omega) (em.symm.trans em2)
    subst e
    refine ⟨h1.m.1, c_X10_taken (by omega) h1.m hnb hk (fun rx => ?_) (fun ry => ?_) (fun i' u' ex' hi' ey hu r1 => ?_) (fun i' u' ex' hi' ey hu r1 r2 => ?_) (fun i' u' m' q' ex' hi' ey hu r1 hm' em' hq' eq' => ?_)⟩
    · exact absurd ex (rx _ hi)
    · exact absurd eu (ry _ hu)
    · have e := pI_inj (by omega) (by omega) (ex.symm.trans ex')
      subst e
      exact absurd (e87.symm.trans r1) (nI_m1 (by omega))
    · have e := pI_inj (by omega) (by omega) (ex.symm.trans ex')
      subst e
      rw [e87] at r2; exact absurd r2 (nI_pos (by omega))
    · have e := pI_inj (by omega) (by omega) (ex.symm.trans ex')
      subst e
      have e := pI_inj (by omega) (by omega) (e87.symm.trans em')
      subst e
      obtain ⟨qq, c1, c2, c3⟩ := h6.k mm hm
      have e3 := pI_inj (by omega) (by omega) (c2.symm.trans eq)
      have e4 := pI_inj (by omega) (by omega) (c3.symm.trans eq')
      rw [← e4, e3]
      exact ⟨rfl, R0⟩
theorem op_count {d : Nat} {w : gx_W} {x : Int32} (hd : 140 ≤ d) (R0 : Rel w) : OP d mX9_count mX10_count [.int x] w := by
  have R1 := R0
  obtain ⟨n, l, N, T, g, D, K, nb, M, ln, m, h1, h2, h3, h4, h5, h6, h7, h8, h9⟩ := R1
  unfold OP
  refine c_X9_count (by omega) h1.c (relNL.ck h1 h2 h3) (relB.bk h1 h6) (relT.k h1 h4) h1.g h5.d4 (fun e => ?_) (fun e => ?_) (fun e => ?_) (fun e => ?_) (fun e => ?_) (fun e0 e1 e2 e3 e4 => ?_)
  · refine ⟨h1.m.1, c_X10_count (by omega) h1.m (fun r => ?_) (fun r => ?_) (fun r => ?_) (fun r => ?_) (fun r => ?_) (fun r0 r1 r2 r3 r4 => ?_)⟩
    · exact ⟨h3.d.1.1, R0⟩
    · exact absurd (e.symm.trans r) (by decide)
    · exact absurd (e.symm.trans r) (by decide)
    · exact absurd (e.symm.trans r) (by decide)
    · exact absurd (e.symm.trans r) (by decide)
    · exact absurd e r0
  · refine ⟨h1.m.1, c_X10_count (by omega) h1.m (fun r => ?_) (fun r => ?_) (fun r => ?_) (fun r => ?_) (fun r => ?_) (fun r0 r1 r2 r3 r4 => ?_)⟩
    · exact absurd (e.symm.trans r) (by decide)
    · exact ⟨h4.p.1, R0⟩
    · exact absurd (e.symm.trans r) (by decide)
    · exact absurd (e.symm.trans r) (by decide)
    · exact absurd (e.symm.trans r) (by decide)
    · exact absurd e r1
  · refine ⟨h1.m.1, c_X10_count (by omega) h1.m (fun r => ?_) (fun r => ?_) (fun r => ?_) (fun r => ?_) (fun r => ?_) (fun r0 r1 r2 r3 r4 => ?_)⟩
    · exact absurd (e.symm.trans r) (by decide)
    · exact absurd (e.symm.trans r) (by decide)
    · exact ⟨h5.m7, R0⟩
    · exact absurd (e.symm.trans r) (by decide)
    · exact absurd (e.symm.trans r) (by decide)
    · exact absurd e r2
  · refine ⟨h1.m.1, c_X10_count (by omega) h1.m (fun r => ?_) (fun r => ?_) (fun r => ?_) (fun r => ?_) (fun r => ?_) (fun r0 r1 r2 r3 r4 => ?_)⟩
    · exact absurd (e.symm.trans r) (by decide)
    · exact absurd (e.symm.trans r) (by decide)
    · exact absurd (e.symm.trans r) (by decide)
    · exact ⟨h6.m43, R0⟩
    · exact absurd (e.symm.trans r) (by decide)
    · exact absurd e r3
  · refine ⟨h1.m.1, c_X10_count (by omega) h1.m (fun r => ?_) (fun r => ?_) (fun r => ?_) (fun r => ?_) (fun r => ?_) (fun r0 r1 r2 r3 r4 => ?_)⟩
    · exact absurd (e.symm.trans r) (by decide)
    · exact absurd (e.symm.trans r) (by decide)
    · exact absurd (e.symm.trans r) (by decide)
    · exact absurd (e.symm.trans r) (by decide)
    · exact ⟨h6.r45.trans h6.r3.symm, R0⟩
    · exact absurd e r4
  · refine ⟨h1.m.1, c_X10_count (by omega) h1.m (fun r => ?_) (fun r => ?_) (fun r => ?_) (fun r => ?_) (fun r => ?_) (fun r0 r1 r2 r3 r4 => ?_)⟩
    · exact absurd r e0
    · exact absurd r e1
    · exact absurd r e2
    · exact absurd r e3
    · exact absurd r e4
    · exact ⟨rfl, R0⟩

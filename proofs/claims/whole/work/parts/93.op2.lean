/-! class and reference side by side: what is asked, further -/
set_option maxHeartbeats 1000000 in
theorem op_how {d : Nat} {w : gx_W} {x y : Int32} (hd : 140 ≤ d) (R0 : Rel w) : OP d mX9_how mX10_how [.int x, .int y] w := by
  obtain ⟨n, l, N, ln, ⟨hcl, hck, hT, hth, hcr, hsn, hn6, hr28, hho⟩, B⟩ := Rel_cv R0
  unfold OP
  refine c_X9_how (by omega) hcl hck (fun nx => ?_) (fun hu0 => ?_) (fun t ex ht hy1 hy2 w1 s1 => ?_)
  · have Q := B w _ _ _ (sam.rf (R := []) (F := []) (E := [])) (by unfold djT; decide +kernel)
    obtain ⟨qm, qx, ql, qb, qs, qh, qR⟩ := Q
    refine ⟨qm.1, c_X10_how (by omega) qm qx ql qb (fun rx => ?_) (fun ry => ?_) (fun t' u' ex' ht' eu' hu' w2 s2 => ?_)⟩
    · exact ⟨rfl, qR⟩
    · exact ⟨rfl, qR⟩
    · exact absurd ex' (nx _ (by omega))
  · have Q := B w _ _ _ (sam.rf (R := []) (F := []) (E := [])) (by unfold djT; decide +kernel)
    have ny := rng_no (K := 1) rfl (by decide) hu0
    obtain ⟨qm, qx, ql, qb, qs, qh, qR⟩ := Q
    refine ⟨qm.1, c_X10_how (by omega) qm qx ql qb (fun rx => ?_) (fun ry => ?_) (fun t' u' ex' ht' eu' hu' w2 s2 => ?_)⟩
    · exact ⟨rfl, qR⟩
    · exact ⟨rfl, qR⟩
    · exact absurd eu' (ny _ (by omega))
  · have Q := B w1 _ _ _ (s1.sam (E := [])) (by unfold djT; decide +kernel)
    obtain ⟨u, hu, eu⟩ := rng_ex (K := 1) rfl (by decide) hy1 hy2
    obtain ⟨qm, qx, ql, qb, qs, qh, qR⟩ := Q
    refine ⟨qm.1, c_X10_how (by omega) qm qx ql qb (fun rx => ?_) (fun ry => ?_) (fun t' u' ex' ht' eu' hu' w2 s2 => ?_)⟩
    · exact absurd ex (rx _ (by omega))
    · exact absurd eu (ry _ (by omega))
    · have Et := pI_inj (by omega) (by omega) (ex.symm.trans ex')
      subst Et
      have Eu := pI_inj (by omega) (by omega) (eu.symm.trans eu')
      subst Eu
      exact ⟨rfl, qR.sam (s2.sam (E := [])) (by decide +kernel)⟩
set_option maxHeartbeats 1000000 in
theorem op_ahead {d : Nat} {w : gx_W} {x y : Int32} (hd : 140 ≤ d) (R0 : Rel w) : OP d mX9_ahead mX10_ahead [.int x, .int y] w := by
  obtain ⟨n, l, N, ln, ⟨hcl, hck, hT, hth, hcr, hsn, hn6, hr28, hho⟩, B⟩ := Rel_cv R0
  unfold OP
  refine c_X9_ahead (by omega) hT hcl hck hth hcr (fun nx => ?_) (fun hy => ?_) (fun q c ex hc hq hy w1 s1 => ?_)
  · have Q := B w _ _ _ (sam.rf (R := []) (F := []) (E := [])) (by unfold djT; decide +kernel)
    obtain ⟨qm, qx, ql, qb, qs, qh, qR⟩ := Q
    refine ⟨qm.1, c_X10_ahead (by omega) qm qx ql qb (fun rx => ?_) (fun ry => ?_) (fun q' c' ex' hc' hq' ry w2 s2 => ?_)⟩
    · exact ⟨rfl, qR⟩
    · exact ⟨rfl, qR⟩
    · exact absurd ex' (nx _ _ hc' hq')
  · have Q := B w _ _ _ (sam.rf (R := []) (F := []) (E := [])) (by unfold djT; decide +kernel)
    obtain ⟨qm, qx, ql, qb, qs, qh, qR⟩ := Q
    refine ⟨qm.1, c_X10_ahead (by omega) qm qx ql qb (fun rx => ?_) (fun ry => ?_) (fun q' c' ex' hc' hq' ry w2 s2 => ?_)⟩
    · exact ⟨rfl, qR⟩
    · exact ⟨rfl, qR⟩
    · exact absurd hy ry
  · have Q := B w1 _ _ _ s1 (by unfold djT; decide +kernel)
    obtain ⟨qm, qx, ql, qb, qs, qh, qR⟩ := Q
    refine ⟨qm.1, c_X10_ahead (by omega) qm qx ql qb (fun rx => ?_) (fun ry => ?_) (fun q' c' ex' hc' hq' ry w2 s2 => ?_)⟩
    · exact absurd ex (rx _ _ hc hq)
    · exact absurd ry hy
    · obtain ⟨E1, E2⟩ := rc_inj hc hc' (by omega) (by omega) (ex.symm.trans ex')
      subst E1
      subst E2
      exact ⟨rfl, qR.sam (s2.sam (E := [])) (by decide +kernel)⟩
set_option maxHeartbeats 1000000 in
theorem op_again {d : Nat} {w : gx_W} {x : Int32} (hd : 140 ≤ d) (R0 : Rel w) : OP d mX9_again mX10_again [.int x] w := by
  obtain ⟨n, l, N, ln, ⟨hcl, hck, hT, hth, hcr, hsn, hn6, hr28, hho⟩, B⟩ := Rel_cv R0
  unfold OP
  refine c_X9_again (by omega) hT hcl hck hth hcr (fun nx => ?_) (fun q c ex hc hq w1 s1 => ?_)
  · have Q := B w _ _ _ (sam.rf (R := []) (F := []) (E := [])) (by unfold djT; decide +kernel)
    obtain ⟨qm, qx, ql, qb, qs, qh, qR⟩ := Q
    refine ⟨qm.1, c_X10_again (by omega) qm qx ql qb (fun rx => ?_) (fun q' c' ex' hc' hq' w2 s2 => ?_)⟩
    · exact ⟨rfl, qR⟩
    · exact absurd ex' (nx _ _ hc' hq')
  · have Q := B w1 _ _ _ s1 (by unfold djT; decide +kernel)
    obtain ⟨qm, qx, ql, qb, qs, qh, qR⟩ := Q
    refine ⟨qm.1, c_X10_again (by omega) qm qx ql qb (fun rx => ?_) (fun q' c' ex' hc' hq' w2 s2 => ?_)⟩
    · exact absurd ex (rx _ _ hc hq)
    · obtain ⟨E1, E2⟩ := rc_inj hc hc' (by omega) (by omega) (ex.symm.trans ex')
      subst E1
      subst E2
      exact ⟨rfl, qR.sam (s2.sam (E := [])) (by decide +kernel)⟩
set_option maxHeartbeats 1000000 in
theorem op_green {d : Nat} {w : gx_W} (hd : 140 ≤ d) (R0 : Rel w) : OP d mX9_green mX10_green [] w := by
  obtain ⟨n, l, N, ln, ⟨hcl, hck, hT, hth, hcr, hsn, hn6, hr28, hho⟩, B⟩ := Rel_cv R0
  unfold OP
  refine c_X9_green (by omega) hcl hck (fun w1 s1 => ?_)
  · have Q := B w1 _ _ _ (s1.sam (E := [])) (by unfold djT; decide +kernel)
    obtain ⟨qm, qx, ql, qb, qs, qh, qR⟩ := Q
    refine ⟨qm.1, c_X10_green (by omega) qm qx ql qb (fun w2 s2 => ?_)⟩
    · exact ⟨rfl, qR.sam (s2.sam (E := [])) (by decide +kernel)⟩
set_option maxHeartbeats 1000000 in
theorem op_second {d : Nat} {w : gx_W} {x y : Int32} (hd : 140 ≤ d) (R0 : Rel w) : OP d mX9_second mX10_second [.int x, .int y] w := by
  obtain ⟨n, l, N, ln, ⟨hcl, hck, hT, hth, hcr, hsn, hn6, hr28, hho⟩, B⟩ := Rel_cv R0
  unfold OP
  refine c_X9_second (by omega) hcl hck (fun nx => ?_) (fun hy => ?_) (fun c ex hc hr hz => ?_) (fun c ex hc hy0 hr hz => ?_) (fun c ex hc hr w1 s1 m em hm => ?_) (fun c ex hc hy0 hr w1 s1 nm => ?_)
  · have Q := B w _ _ _ (sam.rf (R := []) (F := []) (E := [])) (by unfold djT; decide +kernel)
    obtain ⟨qm, qx, ql, qb, qs, qh, qR⟩ := Q
    refine ⟨qm.1, c_X10_second (by omega) qm qx ql qb (fun rx => ?_) (fun ry => ?_) (fun c' ex' hc' hr' rz w2 s2 => ?_) (fun c' ex' hc' ry hr' rz w2 s2 => ?_) (fun c' ex' hc' hr' w2 s2 m' em' hm' => ?_) (fun c' ex' hc' ry hr' w2 s2 rm => ?_)⟩
    · exact ⟨rfl, qR⟩
    · exact ⟨rfl, qR⟩
    · exact absurd ex' (nx _ (by omega))
    · exact absurd ex' (nx _ (by omega))
    · exact absurd ex' (nx _ (by omega))
    · exact absurd ex' (nx _ (by omega))
  · have Q := B w _ _ _ (sam.rf (R := []) (F := []) (E := [])) (by unfold djT; decide +kernel)
    obtain ⟨qm, qx, ql, qb, qs, qh, qR⟩ := Q
    refine ⟨qm.1, c_X10_second (by omega) qm qx ql qb (fun rx => ?_) (fun ry => ?_) (fun c' ex' hc' hr' rz w2 s2 => ?_) (fun c' ex' hc' ry hr' rz w2 s2 => ?_) (fun c' ex' hc' hr' w2 s2 m' em' hm' => ?_) (fun c' ex' hc' ry hr' w2 s2 rm => ?_)⟩
    · exact ⟨rfl, qR⟩
    · exact ⟨rfl, qR⟩
    · exact absurd hy (show ¬ y < 0 by rw [rz]; decide)
    · exact absurd hy ry
    · exact absurd hy (show ¬ y < 0 by rw [em']; exact nI_pos (by omega))
    · exact absurd hy ry
  · have Q := B w _ _ _ (sam.rf (R := []) (F := []) (E := [])) (by unfold djT; decide +kernel)
    have hy0 : ¬ y < 0 := by rw [hz]; decide
    obtain ⟨qm, qx, ql, qb, qs, qh, qR⟩ := Q
    refine ⟨qm.1, c_X10_second (by omega) qm qx ql qb (fun rx => ?_) (fun ry => ?_) (fun c' ex' hc' hr' rz w2 s2 => ?_) (fun c' ex' hc' ry hr' rz w2 s2 => ?_) (fun c' ex' hc' hr' w2 s2 m' em' hm' => ?_) (fun c' ex' hc' ry hr' w2 s2 rm => ?_)⟩
    · exact absurd ex (rx _ (by omega))
    · exact absurd ry hy0
    · have Ec := pI_inj (by omega) (by omega) (ex.symm.trans ex')
      subst Ec
      exact ⟨rfl, qR.sam (s2.sam (E := [])) (by decide +kernel)⟩
    · exact absurd hz rz
    · have Ec := pI_inj (by omega) (by omega) (ex.symm.trans ex')
      subst Ec
      exact absurd (hr.symm.trans hr') (by decide)
    · have Ec := pI_inj (by omega) (by omega) (ex.symm.trans ex')
      subst Ec
      exact absurd (hr.symm.trans hr') (by decide)
  · have Q := B w _ _ _ (sam.rf (R := []) (F := []) (E := [])) (by unfold djT; decide +kernel)
    obtain ⟨qm, qx, ql, qb, qs, qh, qR⟩ := Q
    refine ⟨qm.1, c_X10_second (by omega) qm qx ql qb (fun rx => ?_) (fun ry => ?_) (fun c' ex' hc' hr' rz w2 s2 => ?_) (fun c' ex' hc' ry hr' rz w2 s2 => ?_) (fun c' ex' hc' hr' w2 s2 m' em' hm' => ?_) (fun c' ex' hc' ry hr' w2 s2 rm => ?_)⟩
    · exact absurd ex (rx _ (by omega))
    · exact absurd ry hy0
    · exact absurd rz hz
    · have Ec := pI_inj (by omega) (by omega) (ex.symm.trans ex')
      subst Ec
      exact ⟨rfl, qR.sam (s2.sam (E := [])) (by decide +kernel)⟩
    · have Ec := pI_inj (by omega) (by omega) (ex.symm.trans ex')
      subst Ec
      exact absurd (hr.symm.trans hr') (by decide)
    · have Ec := pI_inj (by omega) (by omega) (ex.symm.trans ex')
      subst Ec
      exact absurd (hr.symm.trans hr') (by decide)
  · have Q := B w1 _ _ _ (s1.sam (E := [])) (by unfold djT; decide +kernel)
    have hy0 : ¬ y < 0 := by rw [em]; exact nI_pos (by omega)
    obtain ⟨qm, qx, ql, qb, qs, qh, qR⟩ := Q
    refine ⟨qm.1, c_X10_second (by omega) qm qx ql qb (fun rx => ?_) (fun ry => ?_) (fun c' ex' hc' hr' rz w2 s2 => ?_) (fun c' ex' hc' ry hr' rz w2 s2 => ?_) (fun c' ex' hc' hr' w2 s2 m' em' hm' => ?_) (fun c' ex' hc' ry hr' w2 s2 rm => ?_)⟩
    · exact absurd ex (rx _ (by omega))
    · exact absurd ry hy0
    · have Ec := pI_inj (by omega) (by omega) (ex.symm.trans ex')
      subst Ec
      exact absurd (hr'.symm.trans hr) (by decide)
    · have Ec := pI_inj (by omega) (by omega) (ex.symm.trans ex')
      subst Ec
      exact absurd (hr'.symm.trans hr) (by decide)
    · have Ec := pI_inj (by omega) (by omega) (ex.symm.trans ex')
      subst Ec
      have Em := pI_inj (by omega) (by omega) (em.symm.trans em')
      subst Em
      exact ⟨rfl, qR.sam (s2.sam (E := [])) (by decide +kernel)⟩
    · exact absurd em (rm _ (by omega))
  · have Q := B w1 _ _ _ (s1.sam (E := [])) (by unfold djT; decide +kernel)
    obtain ⟨qm, qx, ql, qb, qs, qh, qR⟩ := Q
    refine ⟨qm.1, c_X10_second (by omega) qm qx ql qb (fun rx => ?_) (fun ry => ?_) (fun c' ex' hc' hr' rz w2 s2 => ?_) (fun c' ex' hc' ry hr' rz w2 s2 => ?_) (fun c' ex' hc' hr' w2 s2 m' em' hm' => ?_) (fun c' ex' hc' ry hr' w2 s2 rm => ?_)⟩
    · exact absurd ex (rx _ (by omega))
    · exact absurd ry hy0
    · have Ec := pI_inj (by omega) (by omega) (ex.symm.trans ex')
      subst Ec
      exact absurd (hr'.symm.trans hr) (by decide)
    · have Ec := pI_inj (by omega) (by omega) (ex.symm.trans ex')
      subst Ec
      exact absurd (hr'.symm.trans hr) (by decide)
    · exact absurd em' (nm _ (by omega))
    · have Ec := pI_inj (by omega) (by omega) (ex.symm.trans ex')
      subst Ec
      exact ⟨rfl, qR.sam (s2.sam (E := [])) (by decide +kernel)⟩
set_option maxHeartbeats 1000000 in
theorem op_sit {d : Nat} {w : gx_W} {x y : Int32} (hd : 140 ≤ d) (R0 : Rel w) : OP d mX9_sit mX10_sit [.int x, .int y] w := by
  obtain ⟨n, l, N, ln, ⟨hcl, hck, hT, hth, hcr, hsn, hn6, hr28, hho⟩, B⟩ := Rel_cv R0
  unfold OP
  refine c_X9_sit (by omega) hcl hck (fun nx => ?_) (fun hu0 => ?_) (fun hn => ?_) (fun c ex hc hy1 hy2 hn w1 s1 => ?_)
  · have Q := B w _ _ _ (sam.rf (R := []) (F := []) (E := [])) (by unfold djT; decide +kernel)
    obtain ⟨qm, qx, ql, qb, qs, qh, qR⟩ := Q
    refine ⟨qm.1, c_X10_sit (by omega) qm qx ql qb hr28 (fun rx => ?_) (fun ry => ?_) (fun rn => ?_) (fun c' ex' hc' u' eu' hu' rn w2 s2 => ?_)⟩
    · exact ⟨rfl, qR⟩
    · exact ⟨rfl, qR⟩
    · exact ⟨rfl, qR⟩
    · exact absurd ex' (nx _ (by omega))
  · have Q := B w _ _ _ (sam.rf (R := []) (F := []) (E := [])) (by unfold djT; decide +kernel)
    have ny := rng_no (K := 1) rfl (by decide) hu0
    obtain ⟨qm, qx, ql, qb, qs, qh, qR⟩ := Q
    refine ⟨qm.1, c_X10_sit (by omega) qm qx ql qb hr28 (fun rx => ?_) (fun ry => ?_) (fun rn => ?_) (fun c' ex' hc' u' eu' hu' rn w2 s2 => ?_)⟩
    · exact ⟨rfl, qR⟩
    · exact ⟨rfl, qR⟩
    · exact ⟨rfl, qR⟩
    · exact absurd eu' (ny _ (by omega))
  · have Q := B w _ _ _ (sam.rf (R := []) (F := []) (E := [])) (by unfold djT; decide +kernel)
    obtain ⟨qm, qx, ql, qb, qs, qh, qR⟩ := Q
    refine ⟨qm.1, c_X10_sit (by omega) qm qx ql qb hr28 (fun rx => ?_) (fun ry => ?_) (fun rn => ?_) (fun c' ex' hc' u' eu' hu' rn w2 s2 => ?_)⟩
    · exact ⟨rfl, qR⟩
    · exact ⟨rfl, qR⟩
    · exact ⟨rfl, qR⟩
    · exact absurd hn (show ¬ n = 0 by omega)
  · have Q := B w1 _ _ _ (s1.sam (E := [])) (by unfold djT; decide +kernel)
    obtain ⟨u, hu, eu⟩ := rng_ex (K := 1) rfl (by decide) hy1 hy2
    have hn0 : ¬ n = 0 := by omega
    obtain ⟨qm, qx, ql, qb, qs, qh, qR⟩ := Q
    refine ⟨qm.1, c_X10_sit (by omega) qm qx ql qb hr28 (fun rx => ?_) (fun ry => ?_) (fun rn => ?_) (fun c' ex' hc' u' eu' hu' rn w2 s2 => ?_)⟩
    · exact absurd ex (rx _ (by omega))
    · exact absurd eu (ry _ (by omega))
    · exact absurd rn hn0
    · have Ec := pI_inj (by omega) (by omega) (ex.symm.trans ex')
      subst Ec
      have Eu := pI_inj (by omega) (by omega) (eu.symm.trans eu')
      subst Eu
      exact ⟨rfl, qR.sam (s2.sam (E := [])) (by decide +kernel)⟩
set_option maxHeartbeats 1000000 in
theorem op_winning {d : Nat} {w : gx_W} {x : Int32} (hd : 140 ≤ d) (R0 : Rel w) : OP d mX9_winning mX10_winning [.int x] w := by
  obtain ⟨n, l, N, ln, ⟨hcl, hck, hT, hth, hcr, hsn, hn6, hr28, hho⟩, B⟩ := Rel_cv R0
  unfold OP
  refine c_X9_winning (by omega) hcl hck (fun hu0 => ?_) (fun hy1 hy2 => ?_)
  · have Q := B w _ _ _ (sam.rf (R := []) (F := []) (E := [])) (by unfold djT; decide +kernel)
    have nx := rng_no (K := 4) rfl (by decide) hu0
    obtain ⟨qm, qx, ql, qb, qs, qh, qR⟩ := Q
    refine ⟨qm.1, c_X10_winning (by omega) qm qx.1 (fun rx => ?_) (fun u' eu' hu' => ?_)⟩
    · exact ⟨rfl, qR⟩
    · exact absurd eu' (nx _ (by omega))
  · have Q := B w _ _ _ (sam.rf (R := []) (F := []) (E := [])) (by unfold djT; decide +kernel)
    obtain ⟨u, hu, eu⟩ := rng_ex (K := 4) rfl (by decide) hy1 hy2
    obtain ⟨qm, qx, ql, qb, qs, qh, qR⟩ := Q
    refine ⟨qm.1, c_X10_winning (by omega) qm qx.1 (fun rx => ?_) (fun u' eu' hu' => ?_)⟩
    · exact absurd eu (rx _ (by omega))
    · have Eu := pI_inj (by omega) (by omega) (eu.symm.trans eu')
      subst Eu
      exact ⟨rfl, qR⟩
set_option maxHeartbeats 1000000 in
theorem op_more {d : Nat} {w : gx_W} {x : Int32} (hd : 140 ≤ d) (R0 : Rel w) : OP d mX9_more mX10_more [.int x] w := by
  obtain ⟨n, l, N, ln, ⟨hcl, hck, hT, hth, hcr, hsn, hn6, hr28, hho⟩, B⟩ := Rel_cv R0
  unfold OP
  refine c_X9_more (by omega) hT hcl hck hth hcr (fun nx => ?_) (fun q c ex hc hq w1 s1 => ?_)
  · have Q := B w _ _ _ (sam.rf (R := []) (F := []) (E := [])) (by unfold djT; decide +kernel)
    obtain ⟨qm, qx, ql, qb, qs, qh, qR⟩ := Q
    refine ⟨qm.1, c_X10_more (by omega) qm qx ql qb (fun rx => ?_) (fun q' c' ex' hc' hq' w2 s2 hx2 => ?_)⟩
    · exact ⟨rfl, qR⟩
    · exact absurd ex' (nx _ _ hc' hq')
  · have Q := B w1 _ _ _ s1 (by unfold djT; decide +kernel)
    have q38 : w_a w1 38 = w_a w 38 := (s1.2.2.2.1 38 (by decide)).1
    obtain ⟨qm, qx, ql, qb, qs, qh, qR⟩ := Q
    refine ⟨qm.1, c_X10_more (by omega) qm qx ql qb (fun rx => ?_) (fun q' c' ex' hc' hq' w2 s2 hx2 => ?_)⟩
    · exact absurd ex (rx _ _ hc hq)
    · obtain ⟨E1, E2⟩ := rc_inj hc hc' (by omega) (by omega) (ex.symm.trans ex')
      subst E1
      subst E2
      refine ⟨rfl, Rel_mx qR s2 (by decide +kernel) (fun n2 hn2 => ?_)⟩
      rw [q38] at hn2
      have en : n2 = n := pI_inj (by have := hn2.1.2.1; omega) (by omega) (hn2.1.1.symm.trans qx.1.1)
      rw [en, q38]
      exact hx2
set_option maxHeartbeats 1000000 in
theorem op_whatever {d : Nat} {w : gx_W} {x y : Int32} (hd : 140 ≤ d) (R0 : Rel w) : OP d mX9_whatever mX10_whatever [.int x, .int y] w := by
  obtain ⟨n, l, N, ln, ⟨hcl, hck, hT, hth, hcr, hsn, hn6, hr28, hho⟩, B⟩ := Rel_cv R0
  unfold OP
  refine c_X9_whatever (by omega) hT hcl hck hth hcr (fun nx => ?_) (fun ny => ?_) (fun q p ex hq ey hp w1 s1 => ?_)
  · have Q := B w _ _ _ (sam.rf (R := []) (F := []) (E := [])) (by unfold djT; decide +kernel)
    obtain ⟨qm, qx, ql, qb, qs, qh, qR⟩ := Q
    refine ⟨qm.1, c_X10_whatever (by omega) qm qx ql qb (fun rx => ?_) (fun ry => ?_) (fun q' p' ex' hq' ey' hp' w2 s2 hx2 => ?_)⟩
    · exact ⟨rfl, qR⟩
    · exact ⟨rfl, qR⟩
    · exact absurd ex' (nx _ (by omega))
  · have Q := B w _ _ _ (sam.rf (R := []) (F := []) (E := [])) (by unfold djT; decide +kernel)
    obtain ⟨qm, qx, ql, qb, qs, qh, qR⟩ := Q
    refine ⟨qm.1, c_X10_whatever (by omega) qm qx ql qb (fun rx => ?_) (fun ry => ?_) (fun q' p' ex' hq' ey' hp' w2 s2 hx2 => ?_)⟩
    · exact ⟨rfl, qR⟩
    · exact ⟨rfl, qR⟩
    · exact absurd ey' (ny _ (by omega))
  · have Q := B w1 _ _ _ s1 (by unfold djT; decide +kernel)
    have q38 : w_a w1 38 = w_a w 38 := (s1.2.2.2.1 38 (by decide)).1
    obtain ⟨qm, qx, ql, qb, qs, qh, qR⟩ := Q
    refine ⟨qm.1, c_X10_whatever (by omega) qm qx ql qb (fun rx => ?_) (fun ry => ?_) (fun q' p' ex' hq' ey' hp' w2 s2 hx2 => ?_)⟩
    · exact absurd ex (rx _ (by omega))
    · exact absurd ey (ry _ (by omega))
    · have Eq := pI_inj (by omega) (by omega) (ex.symm.trans ex')
      subst Eq
      have Ep := pI_inj (by omega) (by omega) (ey.symm.trans ey')
      subst Ep
      refine ⟨rfl, Rel_mx qR s2 (by decide +kernel) (fun n2 hn2 => ?_)⟩
      rw [q38] at hn2
      have en : n2 = n := pI_inj (by have := hn2.1.2.1; omega) (by omega) (hn2.1.1.symm.trans qx.1.1)
      rw [en, q38]
      exact hx2
set_option maxHeartbeats 1000000 in
theorem op_least {d : Nat} {w : gx_W} (hd : 140 ≤ d) (R0 : Rel w) : OP d mX9_least mX10_least [] w := by
  obtain ⟨n, l, N, ln, ⟨hcl, hck, hT, hth, hcr, hsn, hn6, hr28, hho⟩, B⟩ := Rel_cv R0
  unfold OP
  refine c_X9_least (by omega) hcl hck.1.1 ?_
  · have Q := B w _ _ _ (sam.rf (R := []) (F := []) (E := [])) (by unfold djT; decide +kernel)
    obtain ⟨qm, qx, ql, qb, qs, qh, qR⟩ := Q
    refine ⟨qm.1, c_X10_least (by omega) qm qx ?_⟩
    · exact ⟨rfl, qR⟩
set_option maxHeartbeats 1000000 in
theorem op_judge {d : Nat} {w : gx_W} {x : Int32} (hd : 140 ≤ d) (R0 : Rel w) : OP d mX9_judge mX10_judge [.int x] w := by
  obtain ⟨n, l, N, ln, ⟨hcl, hck, hT, hth, hcr, hsn, hn6, hr28, hho⟩, B⟩ := Rel_cv R0
  unfold OP
  refine c_X9_judge (by omega) hT hcl hck hth hcr hsn (fun nx => ?_) (fun i ex hi z0  => ?_) (fun i ex hi z0 z1  => ?_) (fun i ex hi z0 z1  w1 s1 => ?_)
  · have Q := B w _ _ _ (sam.rf (R := []) (F := []) (E := [])) (by unfold djT; decide +kernel)
    obtain ⟨qm, qx, ql, qb, qs, qh, qR⟩ := Q
    refine ⟨qm.1, c_X10_judge (by omega) qm qx ql qb qs (fun rx => ?_) (fun i' ex' hi' r1 => ?_) (fun i' ex' hi' r1 r2 => ?_) (fun i' ex' hi' r1 w2 s2 => ?_)⟩
    · exact ⟨rfl, qR⟩
    · exact absurd ex' (nx _ (by omega))
    · exact absurd ex' (nx _ (by omega))
    · exact absurd ex' (nx _ (by omega))
  · have Q := B w _ _ _ (sam.rf (R := []) (F := []) (E := [])) (by unfold djT; decide +kernel)
    have e1 := (hho i hi).1 z0
    obtain ⟨qm, qx, ql, qb, qs, qh, qR⟩ := Q
    refine ⟨qm.1, c_X10_judge (by omega) qm qx ql qb qs (fun rx => ?_) (fun i' ex' hi' r1 => ?_) (fun i' ex' hi' r1 r2 => ?_) (fun i' ex' hi' r1 w2 s2 => ?_)⟩
    · exact absurd ex (rx _ (by omega))
    · have Ei := pI_inj (by omega) (by omega) (ex.symm.trans ex')
      subst Ei
      exact ⟨rfl, qR⟩
    · have Ei := pI_inj (by omega) (by omega) (ex.symm.trans ex')
      subst Ei
      exact absurd e1 r1
    · have Ei := pI_inj (by omega) (by omega) (ex.symm.trans ex')
      subst Ei
      exact absurd (e1.symm.trans r1) (by decide)
  · have Q := B w _ _ _ (sam.rf (R := []) (F := []) (E := [])) (by unfold djT; decide +kernel)
    obtain ⟨n1, n2⟩ := (hho i hi).2.2 z0 z1
    obtain ⟨qm, qx, ql, qb, qs, qh, qR⟩ := Q
    refine ⟨qm.1, c_X10_judge (by omega) qm qx ql qb qs (fun rx => ?_) (fun i' ex' hi' r1 => ?_) (fun i' ex' hi' r1 r2 => ?_) (fun i' ex' hi' r1 w2 s2 => ?_)⟩
    · exact absurd ex (rx _ (by omega))
    · have Ei := pI_inj (by omega) (by omega) (ex.symm.trans ex')
      subst Ei
      exact absurd r1 n1
    · have Ei := pI_inj (by omega) (by omega) (ex.symm.trans ex')
      subst Ei
      exact ⟨rfl, qR⟩
    · have Ei := pI_inj (by omega) (by omega) (ex.symm.trans ex')
      subst Ei
      exact absurd r1 n2
  · have Q := B w1 _ _ _ s1 (by unfold djT; decide +kernel)
    have e1 := (hho i hi).2.1 z0 z1
    rw [← Q.2.2.2.2.2.1] at e1
    obtain ⟨qm, qx, ql, qb, qs, qh, qR⟩ := Q
    refine ⟨qm.1, c_X10_judge (by omega) qm qx ql qb qs (fun rx => ?_) (fun i' ex' hi' r1 => ?_) (fun i' ex' hi' r1 r2 => ?_) (fun i' ex' hi' r1 w2 s2 => ?_)⟩
    · exact absurd ex (rx _ (by omega))
    · have Ei := pI_inj (by omega) (by omega) (ex.symm.trans ex')
      subst Ei
      exact absurd (e1.symm.trans r1) (by decide)
    · have Ei := pI_inj (by omega) (by omega) (ex.symm.trans ex')
      subst Ei
      exact absurd e1 r2
    · have Ei := pI_inj (by omega) (by omega) (ex.symm.trans ex')
      subst Ei
      exact ⟨rfl, qR.sam (s2.sam (E := [])) (by decide +kernel)⟩
set_option maxHeartbeats 1000000 in
theorem op_liking {d : Nat} {w : gx_W} {x y u : Int32} (hd : 140 ≤ d) (R0 : Rel w) : OP d mX9_liking mX10_liking [.int x, .int y, .int u] w := by
  obtain ⟨n, l, N, ln, ⟨hcl, hck, hT, hth, hcr, hsn, hn6, hr28, hho⟩, B⟩ := Rel_cv R0
  unfold OP
  refine c_X9_liking (by omega) hT hcl hck hth hcr hsn (fun nx => ?_) (fun ny => ?_) (fun nu0 => ?_) (fun i ex hi z0 t ey ht hu1 hu2 => ?_) (fun i ex hi z0 z1 t ey ht hu1 hu2 => ?_) (fun i ex hi z0 z1 t ey ht hu1 hu2 w1 s1 => ?_)
  · have Q := B w _ _ _ (sam.rf (R := []) (F := []) (E := [])) (by unfold djT; decide +kernel)
    obtain ⟨qm, qx, ql, qb, qs, qh, qR⟩ := Q
    refine ⟨qm.1, c_X10_liking (by omega) qm qx ql qb qs (fun rx => ?_) (fun ry => ?_) (fun ru => ?_) (fun i' ex' hi' r1 t' ey' ht' j' ej' hj' => ?_) (fun i' ex' hi' r1 r2 t' ey' ht' j' ej' hj' => ?_) (fun i' ex' hi' r1 t' ey' ht' j' ej' hj' w2 s2 hx2 => ?_)⟩
    · exact ⟨rfl, qR⟩
    · exact ⟨rfl, qR⟩
    · exact ⟨rfl, qR⟩
    · exact absurd ex' (nx _ (by omega))
    · exact absurd ex' (nx _ (by omega))
    · exact absurd ex' (nx _ (by omega))
  · have Q := B w _ _ _ (sam.rf (R := []) (F := []) (E := [])) (by unfold djT; decide +kernel)
    obtain ⟨qm, qx, ql, qb, qs, qh, qR⟩ := Q
    refine ⟨qm.1, c_X10_liking (by omega) qm qx ql qb qs (fun rx => ?_) (fun ry => ?_) (fun ru => ?_) (fun i' ex' hi' r1 t' ey' ht' j' ej' hj' => ?_) (fun i' ex' hi' r1 r2 t' ey' ht' j' ej' hj' => ?_) (fun i' ex' hi' r1 t' ey' ht' j' ej' hj' w2 s2 hx2 => ?_)⟩
    · exact ⟨rfl, qR⟩
    · exact ⟨rfl, qR⟩
    · exact ⟨rfl, qR⟩
    · exact absurd ey' (ny _ (by omega))
    · exact absurd ey' (ny _ (by omega))
    · exact absurd ey' (ny _ (by omega))
  · have Q := B w _ _ _ (sam.rf (R := []) (F := []) (E := [])) (by unfold djT; decide +kernel)
    have nu := rng_no (K := 1) rfl (by decide) nu0
    obtain ⟨qm, qx, ql, qb, qs, qh, qR⟩ := Q
    refine ⟨qm.1, c_X10_liking (by omega) qm qx ql qb qs (fun rx => ?_) (fun ry => ?_) (fun ru => ?_) (fun i' ex' hi' r1 t' ey' ht' j' ej' hj' => ?_) (fun i' ex' hi' r1 r2 t' ey' ht' j' ej' hj' => ?_) (fun i' ex' hi' r1 t' ey' ht' j' ej' hj' w2 s2 hx2 => ?_)⟩
    · exact ⟨rfl, qR⟩
    · exact ⟨rfl, qR⟩
    · exact ⟨rfl, qR⟩
    · exact absurd ej' (nu _ (by omega))
    · exact absurd ej' (nu _ (by omega))
    · exact absurd ej' (nu _ (by omega))
  · have Q := B w _ _ _ (sam.rf (R := []) (F := []) (E := [])) (by unfold djT; decide +kernel)
    have e1 := (hho i hi).1 z0
    obtain ⟨j, hj, ej⟩ := rng_ex (K := 1) rfl (by decide) hu1 hu2
    obtain ⟨qm, qx, ql, qb, qs, qh, qR⟩ := Q
    refine ⟨qm.1, c_X10_liking (by omega) qm qx ql qb qs (fun rx => ?_) (fun ry => ?_) (fun ru => ?_) (fun i' ex' hi' r1 t' ey' ht' j' ej' hj' => ?_) (fun i' ex' hi' r1 r2 t' ey' ht' j' ej' hj' => ?_) (fun i' ex' hi' r1 t' ey' ht' j' ej' hj' w2 s2 hx2 => ?_)⟩
    · exact absurd ex (rx _ (by omega))
    · exact absurd ey (ry _ (by omega))
    · exact absurd ej (ru _ (by omega))
    · have Ei := pI_inj (by omega) (by omega) (ex.symm.trans ex')
      subst Ei
      have Et := pI_inj (by omega) (by omega) (ey.symm.trans ey')
      subst Et
      have Ej := pI_inj (by omega) (by omega) (ej.symm.trans ej')
      subst Ej
      exact ⟨rfl, qR⟩
    · have Ei := pI_inj (by omega) (by omega) (ex.symm.trans ex')
      subst Ei
      exact absurd e1 r1
    · have Ei := pI_inj (by omega) (by omega) (ex.symm.trans ex')
      subst Ei
      exact absurd (e1.symm.trans r1) (by decide)
  · have Q := B w _ _ _ (sam.rf (R := []) (F := []) (E := [])) (by unfold djT; decide +kernel)
    obtain ⟨n1, n2⟩ := (hho i hi).2.2 z0 z1
    obtain ⟨j, hj, ej⟩ := rng_ex (K := 1) rfl (by decide) hu1 hu2
    obtain ⟨qm, qx, ql, qb, qs, qh, qR⟩ := Q
    refine ⟨qm.1, c_X10_liking (by omega) qm qx ql qb qs (fun rx => ?_) (fun ry => ?_) (fun ru => ?_) (fun i' ex' hi' r1 t' ey' ht' j' ej' hj' => ?_) (fun i' ex' hi' r1 r2 t' ey' ht' j' ej' hj' => ?_) (fun i' ex' hi' r1 t' ey' ht' j' ej' hj' w2 s2 hx2 => ?_)⟩
    · exact absurd ex (rx _ (by omega))
    · exact absurd ey (ry _ (by omega))
    · exact absurd ej (ru _ (by omega))
    · have Ei := pI_inj (by omega) (by omega) (ex.symm.trans ex')
      subst Ei
      exact absurd r1 n1
    · have Ei := pI_inj (by omega) (by omega) (ex.symm.trans ex')
      subst Ei
      have Et := pI_inj (by omega) (by omega) (ey.symm.trans ey')
      subst Et
      have Ej := pI_inj (by omega) (by omega) (ej.symm.trans ej')
      subst Ej
      exact ⟨rfl, qR⟩
    · have Ei := pI_inj (by omega) (by omega) (ex.symm.trans ex')
      subst Ei
      exact absurd r1 n2
  · have Q := B w1 _ _ _ s1 (by unfold djT; decide +kernel)
    have e1 := (hho i hi).2.1 z0 z1
    rw [← Q.2.2.2.2.2.1] at e1
    obtain ⟨j, hj, ej⟩ := rng_ex (K := 1) rfl (by decide) hu1 hu2
    have q38 : w_a w1 38 = w_a w 38 := (s1.2.2.2.1 38 (by decide)).1
    obtain ⟨qm, qx, ql, qb, qs, qh, qR⟩ := Q
    refine ⟨qm.1, c_X10_liking (by omega) qm qx ql qb qs (fun rx => ?_) (fun ry => ?_) (fun ru => ?_) (fun i' ex' hi' r1 t' ey' ht' j' ej' hj' => ?_) (fun i' ex' hi' r1 r2 t' ey' ht' j' ej' hj' => ?_) (fun i' ex' hi' r1 t' ey' ht' j' ej' hj' w2 s2 hx2 => ?_)⟩
    · exact absurd ex (rx _ (by omega))
    · exact absurd ey (ry _ (by omega))
    · exact absurd ej (ru _ (by omega))
    · have Ei := pI_inj (by omega) (by omega) (ex.symm.trans ex')
      subst Ei
      exact absurd (e1.symm.trans r1) (by decide)
    · have Ei := pI_inj (by omega) (by omega) (ex.symm.trans ex')
      subst Ei
      exact absurd e1 r2
    · have Ei := pI_inj (by omega) (by omega) (ex.symm.trans ex')
      subst Ei
      have Et := pI_inj (by omega) (by omega) (ey.symm.trans ey')
      subst Et
      have Ej := pI_inj (by omega) (by omega) (ej.symm.trans ej')
      subst Ej
      refine ⟨rfl, Rel_mx qR s2 (by decide +kernel) (fun n2 hn2 => ?_)⟩
      rw [q38] at hn2
      have en : n2 = n := pI_inj (by have := hn2.1.2.1; omega) (by omega) (hn2.1.1.symm.trans qx.1.1)
      rw [en, q38]
      exact hx2
set_option maxHeartbeats 1000000 in
theorem op_waited {d : Nat} {w : gx_W} {x y u : Int32} (hd : 140 ≤ d) (R0 : Rel w) : OP d mX9_waited mX10_waited [.int x, .int y, .int u] w := by
  obtain ⟨n, l, N, ln, ⟨hcl, hck, hT, hth, hcr, hsn, hn6, hr28, hho⟩, B⟩ := Rel_cv R0
  unfold OP
  refine c_X9_waited (by omega) hT hcl hck hth hcr hsn (fun nx => ?_) (fun ny => ?_) (fun nu0 => ?_) (fun i ex hi z0 t ey ht hu1 hu2 => ?_) (fun i ex hi z0 z1 t ey ht hu1 hu2 => ?_) (fun i ex hi z0 z1 t ey ht hu1 hu2 w1 s1 => ?_)
  · have Q := B w _ _ _ (sam.rf (R := []) (F := []) (E := [])) (by unfold djT; decide +kernel)
    obtain ⟨qm, qx, ql, qb, qs, qh, qR⟩ := Q
    refine ⟨qm.1, c_X10_waited (by omega) qm qx ql qb qs (fun rx => ?_) (fun ry => ?_) (fun ru => ?_) (fun i' ex' hi' r1 t' ey' ht' j' ej' hj' => ?_) (fun i' ex' hi' r1 r2 t' ey' ht' j' ej' hj' => ?_) (fun i' ex' hi' r1 t' ey' ht' j' ej' hj' w2 s2 hx2 => ?_)⟩
    · exact ⟨rfl, qR⟩
    · exact ⟨rfl, qR⟩
    · exact ⟨rfl, qR⟩
    · exact absurd ex' (nx _ (by omega))
    · exact absurd ex' (nx _ (by omega))
    · exact absurd ex' (nx _ (by omega))
  · have Q := B w _ _ _ (sam.rf (R := []) (F := []) (E := [])) (by unfold djT; decide +kernel)
    obtain ⟨qm, qx, ql, qb, qs, qh, qR⟩ := Q
    refine ⟨qm.1, c_X10_waited (by omega) qm qx ql qb qs (fun rx => ?_) (fun ry => ?_) (fun ru => ?_) (fun i' ex' hi' r1 t' ey' ht' j' ej' hj' => ?_) (fun i' ex' hi' r1 r2 t' ey' ht' j' ej' hj' => ?_) (fun i' ex' hi' r1 t' ey' ht' j' ej' hj' w2 s2 hx2 => ?_)⟩
    · exact ⟨rfl, qR⟩
    · exact ⟨rfl, qR⟩
    · exact ⟨rfl, qR⟩
    · exact absurd ey' (ny _ (by omega))
    · exact absurd ey' (ny _ (by omega))
    · exact absurd ey' (ny _ (by omega))
  · have Q := B w _ _ _ (sam.rf (R := []) (F := []) (E := [])) (by unfold djT; decide +kernel)
    have nu := rng_no (K := 1) rfl (by decide) nu0
    obtain ⟨qm, qx, ql, qb, qs, qh, qR⟩ := Q
    refine ⟨qm.1, c_X10_waited (by omega) qm qx ql qb qs (fun rx => ?_) (fun ry => ?_) (fun ru => ?_) (fun i' ex' hi' r1 t' ey' ht' j' ej' hj' => ?_) (fun i' ex' hi' r1 r2 t' ey' ht' j' ej' hj' => ?_) (fun i' ex' hi' r1 t' ey' ht' j' ej' hj' w2 s2 hx2 => ?_)⟩
    · exact ⟨rfl, qR⟩
    · exact ⟨rfl, qR⟩
    · exact ⟨rfl, qR⟩
    · exact absurd ej' (nu _ (by omega))
    · exact absurd ej' (nu _ (by omega))
    · exact absurd ej' (nu _ (by omega))
  · have Q := B w _ _ _ (sam.rf (R := []) (F := []) (E := [])) (by unfold djT; decide +kernel)
    have e1 := (hho i hi).1 z0
    obtain ⟨j, hj, ej⟩ := rng_ex (K := 1) rfl (by decide) hu1 hu2
    obtain ⟨qm, qx, ql, qb, qs, qh, qR⟩ := Q
    refine ⟨qm.1, c_X10_waited (by omega) qm qx ql qb qs (fun rx => ?_) (fun ry => ?_) (fun ru => ?_) (fun i' ex' hi' r1 t' ey' ht' j' ej' hj' => ?_) (fun i' ex' hi' r1 r2 t' ey' ht' j' ej' hj' => ?_) (fun i' ex' hi' r1 t' ey' ht' j' ej' hj' w2 s2 hx2 => ?_)⟩
    · exact absurd ex (rx _ (by omega))
    · exact absurd ey (ry _ (by omega))
    · exact absurd ej (ru _ (by omega))
    · have Ei := pI_inj (by omega) (by omega) (ex.symm.trans ex')
      subst Ei
      have Et := pI_inj (by omega) (by omega) (ey.symm.trans ey')
      subst Et
      have Ej := pI_inj (by omega) (by omega) (ej.symm.trans ej')
      subst Ej
      exact ⟨rfl, qR⟩
    · have Ei := pI_inj (by omega) (by omega) (ex.symm.trans ex')
      subst Ei
      exact absurd e1 r1
    · have Ei := pI_inj (by omega) (by omega) (ex.symm.trans ex')
      subst Ei
      exact absurd (e1.symm.trans r1) (by decide)
  · have Q := B w _ _ _ (sam.rf (R := []) (F := []) (E := [])) (by unfold djT; decide +kernel)
    obtain ⟨n1, n2⟩ := (hho i hi).2.2 z0 z1
    obtain ⟨j, hj, ej⟩ := rng_ex (K := 1) rfl (by decide) hu1 hu2
    obtain ⟨qm, qx, ql, qb, qs, qh, qR⟩ := Q
    refine ⟨qm.1, c_X10_waited (by omega) qm qx ql qb qs (fun rx => ?_) (fun ry => ?_) (fun ru => ?_) (fun i' ex' hi' r1 t' ey' ht' j' ej' hj' => ?_) (fun i' ex' hi' r1 r2 t' ey' ht' j' ej' hj' => ?_) (fun i' ex' hi' r1 t' ey' ht' j' ej' hj' w2 s2 hx2 => ?_)⟩
    · exact absurd ex (rx _ (by omega))
    · exact absurd ey (ry _ (by omega))
    · exact absurd ej (ru _ (by omega))
    · have Ei := pI_inj (by omega) (by omega) (ex.symm.trans ex')
      subst Ei
      exact absurd r1 n1
    · have Ei := pI_inj (by omega) (by omega) (ex.symm.trans ex')
      subst Ei
      have Et := pI_inj (by omega) (by omega) (ey.symm.trans ey')
      subst Et
      have Ej := pI_inj (by omega) (by omega) (ej.symm.trans ej')
      subst Ej
      exact ⟨rfl, qR⟩
    · have Ei := pI_inj (by omega) (by omega) (ex.symm.trans ex')
      subst Ei
      exact absurd r1 n2
  · have Q := B w1 _ _ _ s1 (by unfold djT; decide +kernel)
    have e1 := (hho i hi).2.1 z0 z1
    rw [← Q.2.2.2.2.2.1] at e1
    obtain ⟨j, hj, ej⟩ := rng_ex (K := 1) rfl (by decide) hu1 hu2
    have q38 : w_a w1 38 = w_a w 38 := (s1.2.2.2.1 38 (by decide)).1
    obtain ⟨qm, qx, ql, qb, qs, qh, qR⟩ := Q
    refine ⟨qm.1, c_X10_waited (by omega) qm qx ql qb qs (fun rx => ?_) (fun ry => ?_) (fun ru => ?_) (fun i' ex' hi' r1 t' ey' ht' j' ej' hj' => ?_) (fun i' ex' hi' r1 r2 t' ey' ht' j' ej' hj' => ?_) (fun i' ex' hi' r1 t' ey' ht' j' ej' hj' w2 s2 hx2 => ?_)⟩
    · exact absurd ex (rx _ (by omega))
    · exact absurd ey (ry _ (by omega))
    · exact absurd ej (ru _ (by omega))
    · have Ei := pI_inj (by omega) (by omega) (ex.symm.trans ex')
      subst Ei
      exact absurd (e1.symm.trans r1) (by decide)
    · have Ei := pI_inj (by omega) (by omega) (ex.symm.trans ex')
      subst Ei
      exact absurd e1 r2
    · have Ei := pI_inj (by omega) (by omega) (ex.symm.trans ex')
      subst Ei
      have Et := pI_inj (by omega) (by omega) (ey.symm.trans ey')
      subst Et
      have Ej := pI_inj (by omega) (by omega) (ej.symm.trans ej')
      subst Ej
      refine ⟨rfl, Rel_mx qR s2 (by decide +kernel) (fun n2 hn2 => ?_)⟩
      rw [q38] at hn2
      have en : n2 = n := pI_inj (by have := hn2.1.2.1; omega) (by omega) (hn2.1.1.symm.trans qx.1.1)
      rw [en, q38]
      exact hx2

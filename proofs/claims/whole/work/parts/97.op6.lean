/-! class and reference side by side: shelves -/
abbrev shXR (i : Nat) : List Nat := [46 + 2 * i, 87, 88, 89, 90]
abbrev shXF (i : Nat) : List (Nat × Nat) := [(45 + 2 * i, 1), (45 + 2 * i, 2), (45 + 2 * i, 3), (45 + 2 * i, 4)]
theorem shXC : ∀ i, i < 6 → (nin [1, 2, 3, 4, 5, 8, 10, 11, 12, 13, 15, 16, 18, 19, 21, 28, 29, 33, 34, 38, 58, 59, 60, 61, 62, 63, 64, 65, 66, 67, 68, 69, 70, 71, 72, 82, 83, 84, 85, 86] (shXR i) && ninP [(7, 1), (9, 4), (9, 5), (14, 2), (14, 3), (17, 2), (17, 3), (27, 4), (32, 4), (37, 1), (57, 1), (57, 7), (57, 8), (57, 14), (57, 26), (57, 37), (57, 38), (57, 39), (57, 40), (57, 43), (57, 45)] (shXF i)) = true := by decide +kernel
theorem rel_sh {w : gx_W} {n l N T : Nat} {g : Nat → Int32} {D K nb M : Nat} {ln : Nat → Nat} {m : Nat} (h1 : relS w) (h2 : relL w l N) (h3 : relN w n) (h4 : relT w T g) (h5 : relC w n D K) (h6 : relB w nb M) (h8 : relG w) (h9 : relI w n m) {w2 : gx_W} {i : Nat} (hi : i < 6) (s : sam (shXR i) (shXF i) [] w w2) (h7 : relH w2 nb ln) : Rel w2 := by
  obtain ⟨c1, c2⟩ := Bool.and_eq_true_iff.mp (shXC i hi)
  refine ⟨n, l, N, T, g, D, K, nb, M, ln, m, h1.sam s ?_, h2.sam s ?_, h3.sam s ?_, h4.sam s ?_, h5.sam s ?_, h6.sam s ?_, h7, h8.sam s ?_, h9.sam s ?_⟩
  · exact Bool.and_eq_true_iff.mpr ⟨nin_mono c1 (by decide +kernel), rfl⟩
  · exact Bool.and_eq_true_iff.mpr ⟨Bool.and_eq_true_iff.mpr ⟨nin_mono c1 (by decide +kernel), ninP_mono c2 (by decide +kernel)⟩, rfl⟩
  all_goals exact Bool.and_eq_true_iff.mpr ⟨nin_mono c1 (by decide +kernel), ninP_mono c2 (by decide +kernel)⟩
theorem relH_upd {w w2 : gx_W} {nb i : Nat} {ln ln' : Nat → Nat} (h : relH w nb ln) (hi : i < 6) (s : sam (shXR i) (shXF i) [] w w2) (e87 : ∀ j, j ≠ i → w_a w2 87 j = w_a w 87 j) (e88 : ∀ j, j ≠ i → w_a w2 88 j = w_a w 88 j) (e89 : ∀ j, j ≠ i → ∀ y, y < 60 → w_l w2 89 (60 * j + y) = w_l w 89 (60 * j + y)) (hl : ∀ j, j ≠ i → ln' j = ln j) (h0 : w_i w2 (45 + 2 * i) 4 = nI (ln' i) ∧ ln' i ≤ 60) (hh : relh w2 nb i (ln' i)) : relH w2 nb ln' := by
  have ef : ∀ j, j ≠ i → ∀ q, w_i w2 (45 + 2 * j) q = w_i w (45 + 2 * j) q := fun j hj q => s.2.1 _ _ (by simp; omega)
  have el : ∀ j, j < 6 → j ≠ i → w_l w2 (46 + 2 * j) = w_l w (46 + 2 * j) := fun j h6 hj => (s.2.2.2.1 _ (by simp; omega)).2
  refine ⟨fun j hj => ?_, fun j hj => ?_⟩
  · by_cases e : j = i
    · subst e; exact h0
    · rw [ef j e, hl j e]; exact h.n j hj
  · by_cases e : j = i
    · subst e; exact hh
    · rw [hl j e]
      rcases h.h j hj with ⟨a, b⟩ | ⟨a, m, hm, c, b⟩ | ⟨a, t, ht, c, b, b1, b2, b3⟩
      · exact Or.inl ⟨(ef j e 1).trans a, (e87 j e).trans b⟩
      · exact Or.inr (Or.inl ⟨(ef j e 1).trans a, m, hm, (ef j e 2).trans c, (e87 j e).trans b⟩)
      · exact Or.inr (Or.inr ⟨(ef j e 1).trans a, t, ht, (ef j e 3).trans c, (e87 j e).trans b, (e88 j e).trans b1, b2, fun y hy => by rw [e89 j e y hy, el j hj e]; exact b3 y hy⟩)
theorem relh_z {w : gx_W} {nb i ln : Nat} (h : relh w nb i ln) (hnb : nb ≤ 50) : (w_i w (45 + 2 * i) 1 = 0 ↔ w_a w 87 i = -1) := by
  rcases h with ⟨a, b⟩ | ⟨a, m, hm, c, b⟩ | ⟨a, s, hs, c, b, e⟩
  · exact ⟨fun _ => b, fun _ => a⟩
  · exact ⟨fun q => by rw [a] at q; exact absurd q (by decide), fun q => by rw [b] at q; exact absurd q (nI_m1 (by omega))⟩
  · exact ⟨fun q => by rw [a] at q; exact absurd q (by decide), fun q => by rw [b] at q; exact absurd q (ho_neg s hs).2⟩
theorem relh_b {w : gx_W} {nb i ln : Nat} (h : relh w nb i ln) (hnb : nb ≤ 50) (h0 : ¬ w_i w (45 + 2 * i) 1 = 0) (h2 : ¬ w_i w (45 + 2 * i) 1 = 2) : ¬ w_a w 87 i < 0 := by
  rcases h with ⟨a, b⟩ | ⟨a, m, hm, c, b⟩ | ⟨a, s, hs, c, b, e⟩
  · exact absurd a h0
  · rw [b]; exact nI_pos (by omega)
  · exact absurd a h2
set_option maxHeartbeats 1000000 in
theorem op_keep {d : Nat} {w : gx_W} {x y : Int32} (hd : 140 ≤ d) (R0 : Rel w) : OP d mX9_keep mX10_keep [.int x, .int y] w := by
  have R1 := R0
  obtain ⟨n, l, N, T, g, D, K, nb, M, ln, m, h1, h2, h3, h4, h5, h6, h7, h8, h9⟩ := R1
  have hn6 := h3.d.1.2.1
  have hnb := h6.b5
  unfold OP
  refine c_X9_keep (by omega) h1.c (relB.bk h1 h6) (fun nx => ?_) (fun y1 y2 => ?_) (fun i ex hi ey => ?_) (fun i mm ex hi ey hm => ?_)
  · exact ⟨h1.m.1, c_X10_keep (by omega) h1.m h6.m43 hnb (fun _ => ⟨rfl, R0⟩) (fun _ _ => ⟨rfl, R0⟩) (fun i ex hi _ => absurd ex (nx _ hi)) (fun i mm ex hi _ _ => absurd ex (nx _ hi))⟩
  · exact ⟨h1.m.1, c_X10_keep (by omega) h1.m h6.m43 hnb (fun _ => ⟨rfl, R0⟩) (fun _ _ => ⟨rfl, R0⟩) (fun i ex hi q => absurd q y1) (fun i mm ex hi q hm => absurd q (y2 _ hm))⟩
  · have s1 : same (shXR i) (shXF i) w (s_i (s_i w (45 + 2 * i) 1 0) (45 + 2 * i) 4 0) := (same.rf.si (by simp)).si (by simp)
    refine ⟨(h1.m.same s1).1, c_X10_keep (by omega) (h1.m.same s1) ((s1.2.1 57 43 (by simp)).trans h6.m43) hnb (fun q => absurd ex (q _ hi)) (fun q _ => absurd ey q) (fun i' ex' hi' ey' => ⟨rfl, ?_⟩) (fun i' mm ex' hi' ey' hm => ?_)⟩
    · have e := pI_inj (by omega) (by omega) (ex.symm.trans ex')
      subst e
      have s12 : sam (shXR i) (shXF i) [] w (s_a (s_i (s_i w (45 + 2 * i) 1 0) (45 + 2 * i) 4 0) 87 (va_up (w_a (s_i (s_i w (45 + 2 * i) 1 0) (45 + 2 * i) 4 0) 87) i (-1))) := (s1.sa (by simp)).sam
      refine rel_sh h1 h2 h3 h4 h5 h6 h8 h9 (ln := va_up ln i 0) hi s12 (relH_upd h7 hi s12 (fun j hj => ?_) (fun j hj => rfl) (fun j hj y hy => rfl) (fun j hj => va_up_row hj) ⟨?_, ?_⟩ (Or.inl ⟨?_, ?_⟩))
      · rw [wa_sat, va_up_row hj]; rfl
      · rw [wi_sa, wi_si, if_pos ⟨rfl, rfl⟩, va_up_at]; rfl
      · rw [va_up_at]; decide
      · rw [wi_sa, wi_si, if_neg (by omega), wi_si, if_pos ⟨rfl, rfl⟩]
      · rw [wa_sat, va_up_at]
    · rw [ey] at ey'; exact absurd ey'.symm (nI_m1 (by omega))
  · have s1 : same (shXR i) (shXF i) w (s_i (s_i (s_i w (45 + 2 * i) 1 1) (45 + 2 * i) 2 y) (45 + 2 * i) 4 0) := ((same.rf.si (by simp)).si (by simp)).si (by simp)
    refine ⟨(h1.m.same s1).1, c_X10_keep (by omega) (h1.m.same s1) ((s1.2.1 57 43 (by simp)).trans h6.m43) hnb (fun q => absurd ex (q _ hi)) (fun _ q => absurd ey (q _ hm)) (fun i' ex' hi' ey' => ?_) (fun i' mm' ex' hi' ey' hm' => ⟨rfl, ?_⟩)⟩
    · rw [ey] at ey'; exact absurd ey' (nI_m1 (by omega))
    · have e := pI_inj (by omega) (by omega) (ex.symm.trans ex')
      subst e
      have e := pI_inj (by omega) (by omega) (ey.symm.trans ey')
      subst e
      have s12 : sam (shXR i) (shXF i) [] w (s_a (s_i (s_i (s_i w (45 + 2 * i) 1 1) (45 + 2 * i) 2 y) (45 + 2 * i) 4 0) 87 (va_up (w_a (s_i (s_i (s_i w (45 + 2 * i) 1 1) (45 + 2 * i) 2 y) (45 + 2 * i) 4 0) 87) i (nI mm))) := (s1.sa (by simp)).sam
      refine rel_sh h1 h2 h3 h4 h5 h6 h8 h9 (ln := va_up ln i 0) hi s12 (relH_upd h7 hi s12 (fun j hj => ?_) (fun j hj => rfl) (fun j hj y hy => rfl) (fun j hj => va_up_row hj) ⟨?_, ?_⟩ (Or.inr (Or.inl ⟨?_, mm, hm, ?_, ?_⟩)))
      · rw [wa_sat, va_up_row hj]; rfl
      · rw [wi_sa, wi_si, if_pos ⟨rfl, rfl⟩, va_up_at]; rfl
      · rw [va_up_at]; decide
      · rw [wi_sa, wi_si, if_neg (by omega), wi_si, if_neg (by omega), wi_si, if_pos ⟨rfl, rfl⟩]
      · rw [wi_sa, wi_si, if_neg (by omega), wi_si, if_pos ⟨rfl, rfl⟩, ey]
      · rw [wa_sat, va_up_at]
set_option maxHeartbeats 1000000 in
theorem op_row {d : Nat} {w : gx_W} {x s v : Int32} (hd : 140 ≤ d) (R0 : Rel w) : OP d mX9_row mX10_row [.int x, .int s, .int v] w := by
  have R1 := R0
  obtain ⟨n, l, N, T, g, D, K, nb, M, ln, m, h1, h2, h3, h4, h5, h6, h7, h8, h9⟩ := R1
  have hn6 := h3.d.1.2.1
  have hnb := h6.b5
  unfold OP
  refine c_X9_row (by omega) h1.c (fun nx => ?_) (fun ns => ?_) (fun nv => ?_) (fun i ex hi s1 s2 nv => ?_) (fun i mm ex hi s1 s2 ev hm => ?_)
  · exact ⟨h1.m.1, c_X10_row (by omega) h1.m (fun _ => ⟨rfl, R0⟩) (fun _ => ⟨rfl, R0⟩) (fun _ => ⟨rfl, R0⟩) (fun i j ex hi _ _ _ => absurd ex (nx _ hi)) (fun i j mm ex hi _ _ _ _ => absurd ex (nx _ hi))⟩
  · have nn := rng_no (K := 4) rfl (by decide) ns
    exact ⟨h1.m.1, c_X10_row (by omega) h1.m (fun _ => ⟨rfl, R0⟩) (fun _ => ⟨rfl, R0⟩) (fun _ => ⟨rfl, R0⟩) (fun i j ex hi es hs _ => absurd es (nn _ hs)) (fun i j mm ex hi es hs _ _ => absurd es (nn _ hs))⟩
  · refine ⟨h1.m.1, c_X10_row (by omega) h1.m (fun _ => ⟨rfl, R0⟩) (fun _ => ⟨rfl, R0⟩) (fun _ => ⟨rfl, R0⟩) (fun i j ex hi es hs q => ?_) (fun i j mm ex hi es hs q hm => ?_)⟩
    · rw [pI_lt] at nv q
      have e1 : (60 : Int32).toInt = 60 := by decide
      have e0 : (0 : Int32).toInt = 0 := by decide
      omega
    · rw [q] at nv
      exact absurd (show nI 60 < nI mm from nv) (nI_nlt (by omega) (by omega))
  · obtain ⟨u, hu, eu⟩ := rng_ex (K := 4) rfl (by decide) s1 s2
    refine ⟨h1.m.1, c_X10_row (by omega) h1.m (fun q => absurd ex (q _ hi)) (fun q => absurd eu (q _ hu)) (fun q => ?_) (fun i' j ex' hi' es hs q => ⟨rfl, R0⟩) (fun i' j mm ex' hi' es hs q hm => ?_)⟩
    · rw [pI_lt] at nv q
      have e1 : (60 : Int32).toInt = 60 := by decide
      have e0 : (0 : Int32).toInt = 0 := by decide
      omega
    · rw [q] at nv
      exact absurd nv (nI_pos (by omega))
  · obtain ⟨u, hu, eu⟩ := rng_ex (K := 4) rfl (by decide) s1 s2
    have sw : same (shXR i) (shXF i) w (s_l (s_i (s_i (s_i w (45 + 2 * i) 1 2) (45 + 2 * i) 3 s) (45 + 2 * i) 4 (nI mm)) (46 + 2 * i) (fun j => if j < 60 then 0 else w_l w (46 + 2 * i) j)) := (((same.rf.si (by simp)).si (by simp)).si (by simp)).sl (by simp)
    refine ⟨(h1.m.same sw).1, c_X10_row (by omega) (h1.m.same sw) (fun q => absurd ex (q _ hi)) (fun q => absurd eu (q _ hu)) (fun q => ?_) (fun i' j ex' hi' es hs q => ?_) (fun i' j mm' ex' hi' es hs q hm' => ⟨rfl, ?_⟩)⟩
    · rw [ev] at q
      exact absurd (show nI 60 < nI mm from q) (nI_nlt (by omega) (by omega))
    · rw [ev] at q
      exact absurd q (nI_pos (by omega))
    · have e := pI_inj (by omega) (by omega) (ex.symm.trans ex')
      subst e
      have e := pI_inj (by omega) (by omega) (ev.symm.trans q)
      subst e
      generalize hw1 : s_l (s_i (s_i (s_i w (45 + 2 * i) 1 2) (45 + 2 * i) 3 s) (45 + 2 * i) 4 (nI mm)) (46 + 2 * i) (fun j => if j < 60 then 0 else w_l w (46 + 2 * i) j) = w1 at sw ⊢
      have q1 : w_i w1 (45 + 2 * i) 1 = 2 := by rw [← hw1, wi_sl, wi_si, if_neg (by omega), wi_si, if_neg (by omega), wi_si, if_pos ⟨rfl, rfl⟩]
      have q3 : w_i w1 (45 + 2 * i) 3 = s := by rw [← hw1, wi_sl, wi_si, if_neg (by omega), wi_si, if_pos ⟨rfl, rfl⟩]
      have q4 : w_i w1 (45 + 2 * i) 4 = nI mm := by rw [← hw1, wi_sl, wi_si, if_pos ⟨rfl, rfl⟩]
      have ql : w_l w1 (46 + 2 * i) = fun j => if j < 60 then 0 else w_l w (46 + 2 * i) j := by rw [← hw1, wl_sl, if_pos rfl]
      have q87 : w_a w1 87 = w_a w 87 := by rw [← hw1]; rfl
      have q88 : w_a w1 88 = w_a w 88 := by rw [← hw1]; rfl
      have q89 : w_l w1 89 = w_l w 89 := by rw [← hw1, wl_sl, if_neg (by omega)]; rfl
      have s12 : sam (shXR i) (shXF i) [] w (s_l (s_a (s_a w1 87 (va_up (w_a w1 87) i (-2 - s))) 88 (va_up (w_a w1 88) i v)) 89 (zeF (w_l w1 89) (60 * i) 60)) := (((sw.sa (by simp)).sa (by simp)).sl (by simp)).sam
      refine rel_sh h1 h2 h3 h4 h5 h6 h8 h9 (ln := va_up ln i mm) hi s12 (relH_upd h7 hi s12 (fun j hj => ?_) (fun j hj => ?_) (fun j hj y hy => ?_) (fun j hj => va_up_row hj) ⟨?_, ?_⟩ (Or.inr (Or.inr ⟨?_, u, by omega, ?_, ?_, ?_, ?_, fun y hy => ?_⟩)))
      · rw [wa_sl, wa_sa, if_neg (by decide), wa_sat, va_up_row hj, q87]
      · rw [wa_sl, wa_sat, va_up_row hj, ← q88]
      · rw [wl_sl, if_pos rfl, q89]
        unfold zeF
        rw [if_neg (by omega)]
      · rw [wi_sl, wi_sa, wi_sa, q4, va_up_at]
      · rw [va_up_at]; exact hm
      · rw [wi_sl, wi_sa, wi_sa, q1]
      · rw [wi_sl, wi_sa, wi_sa, q3, eu]
      · rw [wa_sl, wa_sa, if_neg (by decide), wa_sat, va_up_at, eu]
      · rw [wa_sl, wa_sat, va_up_at, va_up_at, ev]
      · rw [va_up_at]; exact hm
      · rw [wl_sl, if_pos rfl, wl_sl, if_neg (by omega), wl_sa, wl_sa, ql]
        unfold zeF
        rw [if_pos (by omega)]
        exact (if_pos hy).symm
theorem so_inj : ∀ s, s < 5 → ∀ t, t < 5 → (-2 - nI s : Int32) = -2 - nI t → s = t := by decide
set_option maxHeartbeats 1000000 in
theorem op_put {d : Nat} {w : gx_W} {x y : Int32} {v : Int64} (hd : 140 ≤ d) (R0 : Rel w) : OP d mX9_put mX10_put [.int x, .int y, .long v] w := by
  have R1 := R0
  obtain ⟨n, l, N, T, g, D, K, nb, M, ln, m, h1, h2, h3, h4, h5, h6, h7, h8, h9⟩ := R1
  have hn6 := h3.d.1.2.1
  have hnb := h6.b5
  have hsz := h7.hsz hnb
  have hso : ∀ i, i < 6 → ¬ w_a w 87 i = -1 → w_a w 87 i < 0 → ∃ s, s < 5 ∧ w_a w 87 i = -2 - nI s := fun i hi q1 q2 => by
    obtain ⟨a, s, b1, b2, b3, b4⟩ := ((h7.h i hi).row hnb).2 q1 q2
    exact ⟨s, b1, b3⟩
  unfold OP
  refine c_X9_put (by omega) h1.c (relH.sn h1 h7) (fun nx => ?_) (fun i ex hi z0 => ?_) (fun i p ex hi z2 ey hp => ?_) (fun i ex hi z0 z2 => ?_) (fun i ex hi z2 ny => ?_)
  · exact ⟨h1.m.1, c_X10_put (by omega) h1.m hsz hso (fun _ => ⟨rfl, R0⟩) (fun i ex hi _ => absurd ex (nx _ hi)) (fun i ex hi _ => absurd ex (nx _ hi)) (fun i p s ex hi _ _ _ _ _ _ => absurd ex (nx _ hi)) (fun i ex hi _ _ _ => absurd ex (nx _ hi))⟩
  · have e1 := (relh_z (h7.h i hi) hnb).mp z0
    refine ⟨h1.m.1, c_X10_put (by omega) h1.m hsz hso (fun q => absurd ex (q _ hi)) (fun i' ex' hi' _ => ⟨rfl, R0⟩) (fun i' ex' hi' q => ?_) (fun i' p s ex' hi' q _ _ _ _ _ => ?_) (fun i' ex' hi' q _ _ => ?_)⟩
    · have e := pI_inj (by omega) (by omega) (ex.symm.trans ex')
      subst e
      rw [e1] at q; exact absurd (by decide) q
    · have e := pI_inj (by omega) (by omega) (ex.symm.trans ex')
      subst e
      exact absurd e1 q
    · have e := pI_inj (by omega) (by omega) (ex.symm.trans ex')
      subst e
      exact absurd e1 q
  · obtain ⟨q1, q2⟩ := ((h7.h i hi).row hnb).1 z2
    obtain ⟨_, s, b1, b2, b3, b4, b5, b6⟩ := ((h7.h i hi).row hnb).2 q1 q2
    have sw : same (shXR i) (shXF i) w (s_l w (46 + 2 * i) (va_up (w_l w (46 + 2 * i)) p (sh_nar (w_i w (45 + 2 * i) 3) v))) := same.rf.sl (by simp)
    refine ⟨(h1.m.same sw).1, c_X10_put (ln := ln) (by omega) (h1.m.same sw) hsz hso (fun q => absurd ex (q _ hi)) (fun i' ex' hi' q => ?_) (fun i' ex' hi' q => ?_) (fun i' p' s' ex' hi' r1 r2 ey' hp' hs' es' => ⟨rfl, ?_⟩) (fun i' ex' hi' r1 r2 ny => ?_)⟩
    · have e := pI_inj (by omega) (by omega) (ex.symm.trans ex')
      subst e
      exact absurd q q1
    · have e := pI_inj (by omega) (by omega) (ex.symm.trans ex')
      subst e
      exact absurd q2 q
    · have e := pI_inj (by omega) (by omega) (ex.symm.trans ex')
      subst e
      have e := pI_inj (by omega) (by omega) (ey.symm.trans ey')
      subst e
      have es : s' = s := so_inj s' hs' s b1 (es'.symm.trans b3)
      subst es
      rw [b2] at sw ⊢
      have q89 : w_l (s_l w (46 + 2 * i) (va_up (w_l w (46 + 2 * i)) p (sh_nar (nI s') v))) 89 = w_l w 89 := by rw [wl_sl, if_neg (by omega)]
      have s12 : sam (shXR i) (shXF i) [] w (s_l (s_l w (46 + 2 * i) (va_up (w_l w (46 + 2 * i)) p (sh_nar (nI s') v))) 89 (va_up (w_l (s_l w (46 + 2 * i) (va_up (w_l w (46 + 2 * i)) p (sh_nar (nI s') v))) 89) (60 * i + p) (sh_nar (nI s') v))) := (sw.sl (by simp)).sam
      refine rel_sh h1 h2 h3 h4 h5 h6 h8 h9 (ln := ln) hi s12 (relH_upd h7 hi s12 (fun j hj => rfl) (fun j hj => rfl) (fun j hj y hy => ?_) (fun j hj => rfl) (h7.n i hi) (Or.inr (Or.inr ⟨z2, s', b1, b2, b3, b4, b5, fun y hy => ?_⟩)))
      · rw [wl_sl, if_pos rfl, q89, va_up_row (by omega)]
      · rw [wl_sl, if_pos rfl, q89, wl_sl, if_neg (by omega), wl_sl, if_pos rfl, up_at, up_at]
        by_cases e : y = p
        · rw [if_pos e, if_pos (by omega)]
        · rw [if_neg e, if_neg (by omega)]; exact b6 y hy
    · have e := pI_inj (by omega) (by omega) (ex.symm.trans ex')
      subst e
      exact absurd ey (ny _ hp)
  · have q1 := relh_b (h7.h i hi) hnb z0 z2
    refine ⟨h1.m.1, c_X10_put (by omega) h1.m hsz hso (fun q => absurd ex (q _ hi)) (fun i' ex' hi' q => ?_) (fun i' ex' hi' q => ⟨rfl, R0⟩) (fun i' p s ex' hi' _ q _ _ _ _ => ?_) (fun i' ex' hi' _ q _ => ?_)⟩
    · have e := pI_inj (by omega) (by omega) (ex.symm.trans ex')
      subst e
      rw [q] at q1; exact absurd (by decide) q1
    · have e := pI_inj (by omega) (by omega) (ex.symm.trans ex')
      subst e
      exact absurd q q1
    · have e := pI_inj (by omega) (by omega) (ex.symm.trans ex')
      subst e
      exact absurd q q1
  · obtain ⟨q1, q2⟩ := ((h7.h i hi).row hnb).1 z2
    refine ⟨h1.m.1, c_X10_put (by omega) h1.m hsz hso (fun q => absurd ex (q _ hi)) (fun i' ex' hi' q => ?_) (fun i' ex' hi' q => ?_) (fun i' p s ex' hi' _ _ ey hp _ _ => ?_) (fun i' ex' hi' _ q _ => ⟨rfl, R0⟩)⟩
    · have e := pI_inj (by omega) (by omega) (ex.symm.trans ex')
      subst e
      exact absurd q q1
    · have e := pI_inj (by omega) (by omega) (ex.symm.trans ex')
      subst e
      exact absurd q2 q
    · have e := pI_inj (by omega) (by omega) (ex.symm.trans ex')
      subst e
      exact absurd ey (ny _ hp)
set_option maxHeartbeats 2000000 in
theorem op_shift {d : Nat} {w : gx_W} {x a y b c : Int32} (hd : 140 ≤ d) (R0 : Rel w) : OP d mX9_shift mX10_shift [.int x, .int a, .int y, .int b, .int c] w := by
  have R1 := R0
  obtain ⟨n, l, N, T, g, D, K, nb, M, ln, m, h1, h2, h3, h4, h5, h6, h7, h8, h9⟩ := R1
  have hn6 := h3.d.1.2.1
  have hnb := h6.b5
  have hsz := h7.hsz hnb
  have Z := fun i (hi : i < 6) => relh_z (h7.h i hi) hnb
  have RW := fun i (hi : i < 6) => (h7.h i hi).row hnb
  unfold OP
  refine c_X9_shift (by omega) h1.c (relH.sn h1 h7) (fun nx => ?_) (fun i o ex hi ey ho z0 => ?_) (fun i o ex hi ey ho z1 z2 z3 => ?_) (fun i o ex hi ey ho z1 z2 z3 no => ?_) (fun i o ex hi ey ho z1 z2 z3 p q mm ea eb ec hpm hqm => ?_)
  · exact ⟨h1.m.1, c_X10_shift (by omega) h1.m hsz (fun _ => ⟨rfl, R0⟩) (fun i j ex hi ey hj _ => by rcases nx with q | q; exact absurd ex (q _ hi); exact absurd ey (q _ hj)) (fun i j ex hi ey hj _ _ _ => by rcases nx with q | q; exact absurd ex (q _ hi); exact absurd ey (q _ hj)) (fun i j ex hi ey hj _ _ _ _ => by rcases nx with q | q; exact absurd ex (q _ hi); exact absurd ey (q _ hj)) (fun i j ex hi ey hj _ _ _ p q mm _ _ _ _ _ w2 _ _ => by rcases nx with q | q; exact absurd ex (q _ hi); exact absurd ey (q _ hj))⟩
  · have n0 : w_a w 87 i = -1 ∨ w_a w 87 o = -1 := by
      rcases z0 with q | q
      · exact Or.inl ((Z i hi).mp q)
      · exact Or.inr ((Z o ho).mp q)
    refine ⟨h1.m.1, c_X10_shift (by omega) h1.m hsz (fun q => by rcases q with q | q; exact absurd ex (q _ hi); exact absurd ey (q _ ho)) (fun i' o' ex' hi' ey' ho' _ => ⟨rfl, R0⟩) (fun i' o' ex' hi' ey' ho' r1 r2 _ => ?_) (fun i' o' ex' hi' ey' ho' r1 r3 r2 _ => ?_) (fun i' o' ex' hi' ey' ho' r1 r3 r2 p q mm _ _ _ _ _ w2 _ _ => ?_)⟩
    · have e := pI_inj (by omega) (by omega) (ex.symm.trans ex')
      subst e
      have e := pI_inj (by omega) (by omega) (ey.symm.trans ey')
      subst e
      rcases n0 with q | q
      · exact absurd q r1
      · exact absurd q r2
    · have e := pI_inj (by omega) (by omega) (ex.symm.trans ex')
      subst e
      have e := pI_inj (by omega) (by omega) (ey.symm.trans ey')
      subst e
      rcases n0 with q | q
      · exact absurd q r1
      · exact absurd (r2.trans q) r1
    · have e := pI_inj (by omega) (by omega) (ex.symm.trans ex')
      subst e
      have e := pI_inj (by omega) (by omega) (ey.symm.trans ey')
      subst e
      rcases n0 with q | q
      · exact absurd q r1
      · exact absurd (r2.trans q) r1
  · have n1 : ¬ w_a w 87 i = -1 := fun q => z1 ((Z i hi).mpr q)
    have n2 : ¬ w_a w 87 o = -1 := fun q => z2 ((Z o ho).mpr q)
    have n3 : ¬ (w_a w 87 i < 0 ∧ w_a w 87 i = w_a w 87 o) := fun q => by
      obtain ⟨a1, s, b1, b2, b3, b4⟩ := (RW i hi).2 n1 q.1
      obtain ⟨a1', s', b1', b2', b3', b4'⟩ := (RW o ho).2 n2 (by rw [← q.2]; exact q.1)
      have es := so_inj s b1 s' b1' (b3.symm.trans (q.2.trans b3'))
      subst es
      exact z3 ⟨a1, a1', b2.trans b2'.symm⟩
    refine ⟨h1.m.1, c_X10_shift (by omega) h1.m hsz (fun q => by rcases q with q | q; exact absurd ex (q _ hi); exact absurd ey (q _ ho)) (fun i' o' ex' hi' ey' ho' q => ?_) (fun i' o' ex' hi' ey' ho' r1 r2 _ => ⟨rfl, R0⟩) (fun i' o' ex' hi' ey' ho' r1 r3 r2 _ => ?_) (fun i' o' ex' hi' ey' ho' r1 r3 r2 p q mm _ _ _ _ _ w2 _ _ => ?_)⟩
    · have e := pI_inj (by omega) (by omega) (ex.symm.trans ex')
      subst e
      have e := pI_inj (by omega) (by omega) (ey.symm.trans ey')
      subst e
      rcases q with q | q
      · exact absurd q n1
      · exact absurd q n2
    · have e := pI_inj (by omega) (by omega) (ex.symm.trans ex')
      subst e
      have e := pI_inj (by omega) (by omega) (ey.symm.trans ey')
      subst e
      exact absurd ⟨r3, r2⟩ n3
    · have e := pI_inj (by omega) (by omega) (ex.symm.trans ex')
      subst e
      have e := pI_inj (by omega) (by omega) (ey.symm.trans ey')
      subst e
      exact absurd ⟨r3, r2⟩ n3
  · obtain ⟨n1, m1⟩ := (RW i hi).1 z1
    obtain ⟨n2, m2⟩ := (RW o ho).1 z2
    obtain ⟨_, s, b1, b2, b3, b4⟩ := (RW i hi).2 n1 m1
    obtain ⟨_, s', b1', b2', b3', b4'⟩ := (RW o ho).2 n2 m2
    have es : s = s' := pI_inj (by omega) (by omega) (b2.symm.trans (z3.trans b2'))
    have n3 : w_a w 87 i = w_a w 87 o := by rw [b3, b3', es]
    refine ⟨h1.m.1, c_X10_shift (by omega) h1.m hsz (fun q => by rcases q with q | q; exact absurd ex (q _ hi); exact absurd ey (q _ ho)) (fun i' o' ex' hi' ey' ho' q => ?_) (fun i' o' ex' hi' ey' ho' r1 r2 q => ?_) (fun i' o' ex' hi' ey' ho' r1 r3 r2 _ => ⟨rfl, R0⟩) (fun i' o' ex' hi' ey' ho' r1 r3 r2 p q mm ea eb ec hpm hqm w2 _ _ => ?_)⟩
    · have e := pI_inj (by omega) (by omega) (ex.symm.trans ex')
      subst e
      have e := pI_inj (by omega) (by omega) (ey.symm.trans ey')
      subst e
      rcases q with q | q
      · exact absurd q n1
      · exact absurd q n2
    · have e := pI_inj (by omega) (by omega) (ex.symm.trans ex')
      subst e
      have e := pI_inj (by omega) (by omega) (ey.symm.trans ey')
      subst e
      exact absurd ⟨m1, n3⟩ q
    · have e := pI_inj (by omega) (by omega) (ex.symm.trans ex')
      subst e
      have e := pI_inj (by omega) (by omega) (ey.symm.trans ey')
      subst e
      exact (no p q mm ea eb ec hpm hqm).elim
  · obtain ⟨n1, m1⟩ := (RW i hi).1 z1
    obtain ⟨n2, m2⟩ := (RW o ho).1 z2
    obtain ⟨_, s, b1, b2, b3, b4, b5, b6⟩ := (RW i hi).2 n1 m1
    obtain ⟨_, s', b1', b2', b3', b4', b5', b6'⟩ := (RW o ho).2 n2 m2
    have es : s = s' := pI_inj (by omega) (by omega) (b2.symm.trans (z3.trans b2'))
    have n3 : w_a w 87 i = w_a w 87 o := by rw [b3, b3', es]
    have sw : same (shXR o) (shXF o) w (s_l w (46 + 2 * o) (va_cpy (w_l w (46 + 2 * i)) (w_l w (46 + 2 * o)) p q mm)) := same.rf.sl (by simp)
    have q89 : w_l (s_l w (46 + 2 * o) (va_cpy (w_l w (46 + 2 * i)) (w_l w (46 + 2 * o)) p q mm)) 89 = w_l w 89 := by rw [wl_sl, if_neg (by omega)]
    refine ⟨(h1.m.same sw).1, c_X10_shift (ln := ln) (by omega) (h1.m.same sw) hsz (fun q => by rcases q with q | q; exact absurd ex (q _ hi); exact absurd ey (q _ ho)) (fun i' o' ex' hi' ey' ho' q => ?_) (fun i' o' ex' hi' ey' ho' r1 r2 q => ?_) (fun i' o' ex' hi' ey' ho' r1 r3 r2 no => ?_) (fun i' o' ex' hi' ey' ho' r1 r3 r2 p' q' mm' ea' eb' ec' hpm' hqm' w2 s2 e89 => ⟨rfl, ?_⟩)⟩
    · have e := pI_inj (by omega) (by omega) (ex.symm.trans ex')
      subst e
      have e := pI_inj (by omega) (by omega) (ey.symm.trans ey')
      subst e
      rcases q with q | q
      · exact absurd q n1
      · exact absurd q n2
    · have e := pI_inj (by omega) (by omega) (ex.symm.trans ex')
      subst e
      have e := pI_inj (by omega) (by omega) (ey.symm.trans ey')
      subst e
      exact absurd ⟨m1, n3⟩ q
    · have e := pI_inj (by omega) (by omega) (ex.symm.trans ex')
      subst e
      have e := pI_inj (by omega) (by omega) (ey.symm.trans ey')
      subst e
      exact (no p q mm ea eb ec hpm hqm).elim
    · have e := pI_inj (by omega) (by omega) (ex.symm.trans ex')
      subst e
      have e := pI_inj (by omega) (by omega) (ey.symm.trans ey')
      subst e
      have e := pI_inj (by omega) (by omega) (ea.symm.trans ea')
      subst e
      have e := pI_inj (by omega) (by omega) (eb.symm.trans eb')
      subst e
      have e := pI_inj (by omega) (by omega) (ec.symm.trans ec')
      subst e
      rw [q89] at e89
      have s12 : same (shXR o) (shXF o) w w2 := sw.tr (s2.wk (by simp) (by simp))
      have ql : w_l w2 (46 + 2 * o) = va_cpy (w_l w (46 + 2 * i)) (w_l w (46 + 2 * o)) p q mm := by
        rw [(s2.2.2.2.1 (46 + 2 * o) (by simp; omega)).2, wl_sl, if_pos rfl]
      have ef : ∀ k, w_i w2 (45 + 2 * o) k = w_i w (45 + 2 * o) k := fun k => s2.2.1 _ _ (by simp)
      have e87 : w_a w2 87 = w_a w 87 := (s2.2.2.2.1 87 (by simp)).1
      have e88 : w_a w2 88 = w_a w 88 := (s2.2.2.2.1 88 (by simp)).1
      refine rel_sh h1 h2 h3 h4 h5 h6 h8 h9 (ln := ln) ho s12.sam (relH_upd h7 ho s12.sam (fun j hj => by rw [e87]) (fun j hj => by rw [e88]) (fun j hj y hy => ?_) (fun j hj => rfl) (by rw [ef]; exact h7.n o ho) (Or.inr (Or.inr ⟨(ef 1).trans z2, s', b1', (ef 3).trans b2', by rw [e87]; exact b3', by rw [e88]; exact b4', b5', fun y hy => ?_⟩)))
      · rw [e89]
        unfold va_cpy
        rw [if_neg (by omega)]
      · rw [e89, ql]
        unfold va_cpy
        by_cases z : q ≤ y ∧ y < q + mm
        · rw [if_pos (by omega), if_pos z, show 60 * i + p + (60 * o + y - (60 * o + q)) = 60 * i + (p + (y - q)) by omega]
          exact b6 _ (by omega)
        · rw [if_neg (by omega), if_neg z]
          exact b6' y hy

/-! class and reference side by side: what changes, further -/
theorem rel_deed {w : gx_W} {n l N T : Nat} {g : Nat → Int32} {D K nb M : Nat} {ln : Nat → Nat} {m : Nat} (h1 : relS w) (h2 : relL w l N) (h3 : relN w n) (h4 : relT w T g) (h5 : relC w n D K) (h6 : relB w nb M) (h7 : relH w nb ln) (h8 : relG w) (h9 : relI w n m) {w3 : gx_W} {R : List Nat} {F : List (Nat × Nat)} {f' : Nat → Int32} (s : sam R F [] w w3) (c : (nin [1, 2, 3, 4, 5, 8, 10, 11, 12, 13, 15, 16, 18, 19, 28, 29, 33, 34, 46, 48, 50, 52, 54, 56, 63, 64, 65, 66, 67, 68, 69, 70, 71, 72, 83, 84, 85, 86, 87, 88, 89] R && ninP ([(7, 1), (9, 4), (9, 5), (14, 2), (14, 3), (17, 2), (17, 3), (27, 4), (32, 4), (37, 1), (57, 1), (57, 7), (57, 8), (57, 14), (57, 26), (57, 38), (57, 39), (57, 40), (57, 43), (57, 45)] ++ shFW) F) = true) (e38 : w_a w3 38 = f') (hx : mxD w3 f' n) (hr : ∀ p, p < 28 → rI (f' p)) (hG : relG w3) : Rel w3 := by
  obtain ⟨c1, c2⟩ := Bool.and_eq_true_iff.mp c
  refine ⟨n, l, N, T, g, D, K, nb, M, ln, m, h1.sam s ?_, h2.sam s ?_, ⟨(s.2.1 37 1 (ninP_h c2 (by decide))).trans h3.n1, by rw [e38]; exact hx, by rw [e38]; exact hr⟩, h4.sam s ?_, h5.sam s ?_, h6.sam s ?_, h7.sam s ?_, hG, h9.sam s ?_⟩
  · exact Bool.and_eq_true_iff.mpr ⟨nin_mono c1 (by decide +kernel), rfl⟩
  · exact Bool.and_eq_true_iff.mpr ⟨Bool.and_eq_true_iff.mpr ⟨nin_mono c1 (by decide +kernel), ninP_mono c2 (by decide +kernel)⟩, rfl⟩
  all_goals exact Bool.and_eq_true_iff.mpr ⟨nin_mono c1 (by decide +kernel), ninP_mono c2 (by decide +kernel)⟩
theorem rI_set {f : Nat → Int32} {n t : Nat} (h : ∀ p, p < 28 → rI (f p)) : ∀ p, p < 28 → rI (cr_set f n t p) := by
  intro p hp
  have q := h p hp
  unfold cr_set
  split
  · split
    · unfold rI; decide
    · split
      · unfold rI; decide
      · rename_i z
        unfold rI at q ⊢
        have e1 : (1 : Int32).toInt = 1 := by decide
        have e99 : (99 : Int32).toInt = 99 := by decide
        have e : (f p + 1).toInt = (f p).toInt + 1 := by
          rw [pI_add (by rw [e1]; omega) (by rw [e1]; omega), e1]
        rw [pI_gt, e, e99] at z
        rw [e]
        omega
  · exact q
theorem led_t {a b : Nat → Int32} {v x : Int32} (h : ∀ j, j < 4 → a j = b j) : ∀ j, j < 4 → va_up (va_up (va_up (va_up a 0 (a 0 + 1)) 1 ((va_up a 0 (a 0 + 1)) 1 + 1)) 3 ((va_up (va_up a 0 (a 0 + 1)) 1 ((va_up a 0 (a 0 + 1)) 1 + 1)) 3 + v)) 4 x j = ldC b v true j := by
  intro j hj
  have h0 := h 0 (by decide)
  have e1 := h 1 (by decide)
  have e2 := h 2 (by decide)
  have e3 := h 3 (by decide)
  have q : j = 0 ∨ j = 1 ∨ j = 2 ∨ j = 3 := by omega
  rcases q with q | q | q | q <;> subst q <;> simp [up_at, ldC, h0, e1, e2, e3]
theorem led_f {a b : Nat → Int32} {v x : Int32} (h : ∀ j, j < 4 → a j = b j) : ∀ j, j < 4 → va_up (va_up (va_up a 0 (a 0 + 1)) 3 ((va_up a 0 (a 0 + 1)) 3 + v)) 4 x j = ldC b v false j := by
  intro j hj
  have h0 := h 0 (by decide)
  have e1 := h 1 (by decide)
  have e2 := h 2 (by decide)
  have e3 := h 3 (by decide)
  have q : j = 0 ∨ j = 1 ∨ j = 2 ∨ j = 3 := by omega
  rcases q with q | q | q | q <;> subst q <;> simp [up_at, ldC, h0, e1, e2, e3]
theorem led_s {a b : Nat → Int32} {v x : Int32} (h : ∀ j, j < 4 → a j = b j) : ∀ j, j < 4 → va_up (va_up (va_up a 2 (a 2 + 1)) 3 ((va_up a 2 (a 2 + 1)) 3 + v)) 4 x j = va_up (va_up b 3 (b 3 + v)) 2 (b 2 + 1) j := by
  intro j hj
  have h0 := h 0 (by decide)
  have e1 := h 1 (by decide)
  have e2 := h 2 (by decide)
  have e3 := h 3 (by decide)
  have q : j = 0 ∨ j = 1 ∨ j = 2 ∨ j = 3 := by omega
  rcases q with q | q | q | q <;> subst q <;> simp [up_at, h0, e1, e2, e3]
theorem op_feed {d : Nat} {w : gx_W} {x : Int32} (hd : 140 ≤ d) (R0 : Rel w) : OP d mX9_feed mX10_feed [.int x] w := by
  have R1 := R0
  obtain ⟨n, l, N, T, g, D, K, nb, M, ln, m, h1, h2, h3, h4, h5, h6, h7, h8, h9⟩ := R1
  have hn6 := h3.d.1.2.1
  unfold OP
  refine c_X9_feed (by omega) h1.c (relT.k h1 h4) (fun nx => ?_) (fun x1 x2 e => ?_) (fun x1 x2 hT => ?_)
  · have nn := rng_no (K := 255) rfl (by decide) nx
    exact ⟨h1.m.1, c_X10_feed (by omega) h1.m h4.p (fun _ => ⟨rfl, R0⟩) (fun m ex hm _ => absurd ex (nn _ hm)) (fun m ex hm _ => absurd ex (nn _ hm))⟩
  · obtain ⟨u, hu, eu⟩ := rng_ex (K := 255) rfl (by decide) x1 x2
    exact ⟨h1.m.1, c_X10_feed (by omega) h1.m h4.p (fun q => absurd eu (q _ hu)) (fun m ex hm _ => ⟨rfl, R0⟩) (fun m ex hm q => absurd e (by omega))⟩
  · obtain ⟨u, hu, eu⟩ := rng_ex (K := 255) rfl (by decide) x1 x2
    have s1 : same [8] [(7, 1)] w (s_i (s_a w 8 (va_up g T x)) 7 1 (nI (T + 1))) := (same.rf.sa (by simp)).si (by simp)
    have p1 : prT (s_i (s_a w 8 (va_up g T x)) 7 1 (nI (T + 1))) T g := by
      unfold prT
      rw [(s1.2.2.2.1 67 (by simp)).1, s1.2.1 57 14 (by simp)]
      exact h4.p
    refine ⟨(h1.m.same s1).1, c_X10_feed (by omega) (h1.m.same s1) p1 (fun q => absurd eu (q _ hu)) (fun m ex hm q => absurd q (by omega)) (fun m2 ex hm _ => ⟨rfl, ?_⟩)⟩
    have s12 : sam [8, 67] [(7, 1), (57, 14)] [] w (s_i (s_a (s_i (s_a w 8 (va_up g T x)) 7 1 (nI (T + 1))) 67 (va_up (w_a (s_i (s_a w 8 (va_up g T x)) 7 1 (nI (T + 1))) 67) T x.toInt8.toInt32)) 57 14 (nI (T + 1))) := (((s1.wk (by simp) (by simp)).sa (by simp)).si (by simp)).sam
    refine ⟨n, l, N, T + 1, va_up g T x, D, K, nb, M, ln, m, h1.sam s12 (by decide +kernel), h2.sam s12 (by decide +kernel), h3.sam s12 (by decide +kernel), ⟨by rw [wi_si, if_neg (by decide), wi_sa, wi_si, if_pos ⟨rfl, rfl⟩], by rw [wa_si, wa_sa, if_neg (by decide), wa_si, wa_sat], by rw [wi_si, if_pos ⟨rfl, rfl⟩], by omega, fun j hj => ?_⟩, h5.sam s12 (by decide +kernel), h6.sam s12 (by decide +kernel), h7.sam s12 (by decide +kernel), h8.sam s12 (by decide +kernel), h9.sam s12 (by decide +kernel)⟩
    rw [wa_si, wa_sat, (s1.2.2.2.1 67 (by simp)).1, up_at, up_at]
    by_cases e : j = T
    · rw [if_pos e, if_pos e]
      exact ⟨rfl, u, by omega, eu⟩
    · rw [if_neg e, if_neg e]
      exact h4.p.2.2 j (by omega)
theorem rel_lead {w : gx_W} {n l N T : Nat} {g : Nat → Int32} {D K nb M : Nat} {ln : Nat → Nat} {m : Nat} (h1 : relS w) (h2 : relL w l N) (h3 : relN w n) (h4 : relT w T g) (h5 : relC w n D K) (h6 : relB w nb M) (h7 : relH w nb ln) (h8 : relG w) (h9 : relI w n m) {w2 w3 : gx_W} {t : Nat} {a21 b82 : Nat → Int32} (s2 : same [21, 30, 31, 35, 36, 38] [(27, 5), (32, 5)] w w2) (e21 : w_a w2 21 = va_up (va_up a21 3 (a21 3 + w_a w 38 (12 + t))) 4 (nI t)) (e38 : w_a w2 38 = cr_set (w_a w 38) n t) (s3 : same [61, 73, 74, 75, 82] [(57, 37)] w2 w3) (hx3 : mxD w3 (cr_set (w_a w 38) n t) n) (e82 : w_a w3 82 = b82) (e37 : w_i w3 57 37 = nI t) (hab : ∀ j, j < 4 → va_up (va_up a21 3 (a21 3 + w_a w 38 (12 + t))) 4 (nI t) j = b82 j) : Rel w3 := by
  have s12 : sam [21, 30, 31, 35, 36, 38, 61, 73, 74, 75, 82] [(27, 5), (32, 5), (57, 37)] [] w w3 := ((s2.wk (by simp) (by simp)).tr (s3.wk (by simp) (by simp))).sam
  refine rel_deed h1 h2 h3 h4 h5 h6 h7 h8 h9 s12 (by decide +kernel) (by rw [(s3.2.2.2.1 38 (by simp)).1, e38]) hx3 (rI_set h3.r) ⟨fun j hj => ?_, ?_⟩
  · rw [(s3.2.2.2.1 21 (by simp)).1, e21, e82]
    exact hab j hj
  · rw [(s3.2.2.2.1 21 (by simp)).1, e21, e37]
    exact va_up_at

set_option maxHeartbeats 1000000 in
theorem op_comes {d : Nat} {w : gx_W} {x : Int32} (hd : 140 ≤ d) (R0 : Rel w) : OP d mX9_comes mX10_comes [.int x] w := by
  have R1 := R0
  obtain ⟨n, l, N, T, g, D, K, nb, M, ln, m, h1, h2, h3, h4, h5, h6, h7, h8, h9⟩ := R1
  have hn6 := h3.d.1.2.1
  have fq : ∀ {w1 : gx_W} {R : List Nat} {F : List (Nat × Nat)}, same R F w w1 → (57, 1) ∉ F ∧ (57, 26) ∉ F → (58 ∉ R ∧ 59 ∉ R ∧ 60 ∉ R ∧ 62 ∉ R) ∧ 61 ∉ R ∧ (∀ k, 68 ≤ k → k ≤ 72 → k ∉ R) → moO w1 ∧ mxD w1 (w_a w 38) n ∧ lwM w1 N (w_a w (l + 1)) (w_a w (l + 2)) := fun s a b => ⟨h1.m.same s, mxD_sm h3.d s a.1 b.1 b.2.1, h2.lw.same s a.2 b.2.2⟩
  unfold OP
  refine c_X9_comes (by omega) h1.T h1.c (relNL.ck h1 h2 h3) (fun nx => ?_) (fun c ex hc e w1 s1 => ?_) (fun c t ex hc ht e w1 s1 hr w2 s2 => ?_) (fun c t ex hc ht e w1 s1 hr w2 s2 => ?_)
  · exact ⟨h1.m.1, c_X10_comes (by omega) h1.m h3.d h2.lw h3.bd (fun _ => ⟨rfl, R0⟩) (fun c ex hc _ => absurd ex (nx _ hc)) (fun c t ex hc _ _ w2 _ _ _ _ => absurd ex (nx _ hc))⟩
  · obtain ⟨q1, q2, q3⟩ := fq s1 (by simp) ⟨by simp, by simp, fun k a b => by simp; omega⟩
    refine ⟨q1.1, c_X10_comes (by omega) q1 q2 q3 h3.bd (fun q => absurd ex (q _ hc)) (fun c' ex' hc' e0 => ⟨rfl, R0.sam (s1.sam (E := [])) (by decide +kernel)⟩) (fun c' t ex' hc' ht e' w2 _ _ _ _ => ?_)⟩
    have ec := pI_inj (by omega) (by omega) (ex.symm.trans ex')
    subst ec
    exact absurd (e'.symm.trans e) (nI_m2 (by omega))
  · obtain ⟨sl, l21, l38⟩ := s2
    have sw : same [21, 30, 31, 35, 36, 38] [(27, 5), (32, 5)] w (s_a (s_a w1 21 (va_up (w_a w1 21) 0 (w_a w1 21 0 + 1))) 21 (va_up (w_a (s_a w1 21 (va_up (w_a w1 21) 0 (w_a w1 21 0 + 1))) 21) 1 (w_a (s_a w1 21 (va_up (w_a w1 21) 0 (w_a w1 21 0 + 1))) 21 1 + 1))) := ((s1.wk (by simp) (by simp)).sa (by simp)).sa (by simp)
    have s12 : same [21, 30, 31, 35, 36, 38] [(27, 5), (32, 5)] w w2 := sw.tr (sl.wk (by simp) (by simp))
    have e1 : w_a w1 21 = w_a w 21 := (s1.2.2.2.1 21 (by simp)).1
    have e38 : w_a (s_a (s_a w1 21 (va_up (w_a w1 21) 0 (w_a w1 21 0 + 1))) 21 (va_up (w_a (s_a w1 21 (va_up (w_a w1 21) 0 (w_a w1 21 0 + 1))) 21) 1 (w_a (s_a w1 21 (va_up (w_a w1 21) 0 (w_a w1 21 0 + 1))) 21 1 + 1))) 38 = w_a w 38 := (s1.2.2.2.1 38 (by simp)).1
    rw [e38] at l21 l38
    obtain ⟨q1, q2, q3⟩ := fq s12 (by simp) ⟨by simp, by simp, fun k a b => by simp; omega⟩
    refine ⟨q1.1, c_X10_comes (by omega) q1 q2 q3 h3.bd (fun q => absurd ex (q _ hc)) (fun c' ex' hc' e0 => absurd ht (by omega)) (fun c' t' ex' hc' ht' e' w3 s3 hx3 e82 e37 => ?_)⟩
    have ec := pI_inj (by omega) (by omega) (ex.symm.trans ex')
    subst ec
    have et := pI_inj (by omega) (by omega) (e.symm.trans e')
    subst et
    refine ⟨rfl, ?_⟩
    rw [hr, (s12.2.2.2.1 82 (by simp)).1] at e82
    exact rel_lead h1 h2 h3 h4 h5 h6 h7 h8 h9 (a21 := w_a (s_a (s_a w1 21 (va_up (w_a w1 21) 0 (w_a w1 21 0 + 1))) 21 (va_up (w_a (s_a w1 21 (va_up (w_a w1 21) 0 (w_a w1 21 0 + 1))) 21) 1 (w_a (s_a w1 21 (va_up (w_a w1 21) 0 (w_a w1 21 0 + 1))) 21 1 + 1))) 21) s12 l21 l38 s3 hx3 e82 e37 (by
      rw [wa_sat, e1]
      exact led_t h8.k)
  · obtain ⟨sl, l21, l38⟩ := s2
    have sw : same [21, 30, 31, 35, 36, 38] [(27, 5), (32, 5)] w (s_a w1 21 (va_up (w_a w1 21) 0 (w_a w1 21 0 + 1))) := (s1.wk (by simp) (by simp)).sa (by simp)
    have s12 : same [21, 30, 31, 35, 36, 38] [(27, 5), (32, 5)] w w2 := sw.tr (sl.wk (by simp) (by simp))
    have e1 : w_a w1 21 = w_a w 21 := (s1.2.2.2.1 21 (by simp)).1
    have e38 : w_a (s_a w1 21 (va_up (w_a w1 21) 0 (w_a w1 21 0 + 1))) 38 = w_a w 38 := (s1.2.2.2.1 38 (by simp)).1
    rw [e38] at l21 l38
    obtain ⟨q1, q2, q3⟩ := fq s12 (by simp) ⟨by simp, by simp, fun k a b => by simp; omega⟩
    refine ⟨q1.1, c_X10_comes (by omega) q1 q2 q3 h3.bd (fun q => absurd ex (q _ hc)) (fun c' ex' hc' e0 => absurd ht (by omega)) (fun c' t' ex' hc' ht' e' w3 s3 hx3 e82 e37 => ?_)⟩
    have ec := pI_inj (by omega) (by omega) (ex.symm.trans ex')
    subst ec
    have et := pI_inj (by omega) (by omega) (e.symm.trans e')
    subst et
    refine ⟨rfl, ?_⟩
    rw [hr, (s12.2.2.2.1 82 (by simp)).1] at e82
    exact rel_lead h1 h2 h3 h4 h5 h6 h7 h8 h9 (a21 := w_a (s_a w1 21 (va_up (w_a w1 21) 0 (w_a w1 21 0 + 1))) 21) s12 l21 l38 s3 hx3 e82 e37 (by
      rw [wa_sat, e1]
      exact led_f h8.k)
set_option maxHeartbeats 1000000 in
theorem op_send {d : Nat} {w : gx_W} {x : Int32} (hd : 140 ≤ d) (R0 : Rel w) : OP d mX9_send mX10_send [.int x] w := by
  have R1 := R0
  obtain ⟨n, l, N, T, g, D, K, nb, M, ln, m, h1, h2, h3, h4, h5, h6, h7, h8, h9⟩ := R1
  have hn6 := h3.d.1.2.1
  unfold OP
  refine c_X9_send (by omega) h1.T h1.c (relN.cn h1 h3) (fun nx => ?_) (fun t ex ht w2 s2 => ?_)
  · exact ⟨h1.m.1, c_X10_send (by omega) h1.m h3.d h2.lw h3.bd (fun _ => ⟨rfl, R0⟩) (fun t ex ht w2 _ _ _ _ => absurd ex (nx _ ht))⟩
  · obtain ⟨sl, l21, l38⟩ := s2
    have sw : same [21, 38] [] w (s_a w 21 (va_up (w_a w 21) 2 (w_a w 21 2 + 1))) := same.rf.sa (by simp)
    have s12 : same [21, 38] [] w w2 := sw.tr sl
    refine ⟨(h1.m.same s12).1, c_X10_send (by omega) (h1.m.same s12) (mxD_sm h3.d s12 (by simp) (by simp) (by simp)) (h2.lw.same s12 (by simp) (fun k a b => by simp; omega)) h3.bd (fun q => absurd ex (q _ ht)) (fun t' ex' ht' w3 s3 hx3 e82 e37 => ?_)⟩
    have et := pI_inj (by omega) (by omega) (ex.symm.trans ex')
    subst et
    refine ⟨rfl, ?_⟩
    rw [(s12.2.2.2.1 82 (by simp)).1] at e82
    exact rel_lead h1 h2 h3 h4 h5 h6 h7 h8 h9 (a21 := w_a (s_a w 21 (va_up (w_a w 21) 2 (w_a w 21 2 + 1))) 21) (s12.wk (by simp) (by simp)) l21 l38 (s3.wk (by simp) (by simp)) hx3 e82 e37 (by
      rw [wa_sat]
      exact led_s h8.k)
theorem op_image {d : Nat} {w : gx_W} (hd : 140 ≤ d) (R0 : Rel w) : OP d mX9_image mX10_image [] w := by
  have R1 := R0
  obtain ⟨n, l, N, T, g, D, K, nb, M, ln, m, h1, h2, h3, h4, h5, h6, h7, h8, h9⟩ := R1
  have hn6 := h3.d.1.2.1
  unfold OP
  refine c_X9_image (by omega) h1.c (relN.cn h1 h3) (fun w1 s1 => ?_)
  obtain ⟨sa, a1, a2, a3, a4⟩ := s1
  refine ⟨(h1.m.same sa).1, c_X10_image (by omega) (h1.m.same sa) (mxD_sm h3.d sa (by simp) (by simp) (by simp)) (fun w2 sb b1 b2 b3 b4 b5 => ⟨?_, ?_⟩)⟩
  · rw [(sa.2.2.2.1 82 (by simp)).1]
    exact (h8.k 0 (by decide)).symm
  · have s12 : sam [15, 16, 83, 84] [(14, 2), (14, 3), (57, 38), (57, 39), (57, 40)] [] w w2 := ((sa.wk (by simp) (by simp)).tr (sb.wk (by simp) (by simp))).sam
    refine ⟨n, l, N, T, g, D, K, nb, M, ln, n, h1.sam s12 (by decide +kernel), h2.sam s12 (by decide +kernel), h3.sam s12 (by decide +kernel), h4.sam s12 (by decide +kernel), h5.sam s12 (by decide +kernel), h6.sam s12 (by decide +kernel), h7.sam s12 (by decide +kernel), h8.sam s12 (by decide +kernel), ⟨Nat.le_refl _, by rw [sb.2.1 14 3 (by simp), a2], b2, by rw [sb.2.1 14 2 (by simp), a1, b1], fun j hj => ?_, fun j hj => ?_, ?_⟩⟩
    · rw [(sb.2.2.2.1 15 (by simp)).1, a3 j (by omega), b4 j hj]
      exact ⟨rfl, h3.r _ (by omega)⟩
    · rw [(sb.2.2.2.1 16 (by simp)).1, a4 j (by omega), b5 j hj, (sa.2.2.2.1 82 (by simp)).1]
      exact h8.k j hj
    · rw [(sb.2.2.2.1 16 (by simp)).1, a4 4 (by decide), b3, sa.2.1 57 37 (by simp)]
      exact h8.l
theorem op_back {d : Nat} {w : gx_W} (hd : 140 ≤ d) (R0 : Rel w) : OP d mX9_back mX10_back [] w := by
  have R1 := R0
  obtain ⟨n, l, N, T, g, D, K, nb, M, ln, m, h1, h2, h3, h4, h5, h6, h7, h8, h9⟩ := R1
  have hn6 := h3.d.1.2.1
  have hmn := h9.mn
  unfold OP
  refine c_X9_back (by omega) h1.c (relN.cn h1 h3) h9.c3 (by omega) (fun e => ?_) (fun e w1 s1 => ?_)
  · exact ⟨h1.m.1, c_X10_back (by omega) h1.m h9.m39 (by omega) (fun _ => ⟨rfl, R0⟩) (fun q w2 _ _ _ _ _ => absurd (h9.t.symm.trans e) q)⟩
  · obtain ⟨sa, a1, a2⟩ := s1
    refine ⟨(h1.m.same sa).1, c_X10_back (by omega) (h1.m.same sa) ((sa.2.1 57 39 (by simp)).trans h9.m39) (by omega) (fun q => absurd (h9.t.trans ((sa.2.1 57 38 (by simp)).symm.trans q)) e) (fun q w2 sb b1 b2 b3 b4 => ⟨?_, ?_⟩)⟩
    · rw [(sa.2.2.2.1 84 (by simp)).1]
      exact (h9.k 0 (by decide)).symm
    · have s12 : sam [21, 38, 61, 82] [(57, 37)] [] w w2 := ((sa.wk (by simp) (by simp)).tr (sb.wk (by simp) (by simp))).sam
      have lo : ∀ j, ¬ (18 ≤ j ∧ j < 18 + m) → w_a w1 38 j = w_a w 38 j := fun j hj => by rw [a1, if_neg hj]
      have d0 := mxD_sm h3.d sa (by simp) (by simp) (by simp)
      refine rel_deed h1 h2 h3 h4 h5 h6 h7 h8 h9 (f' := w_a w1 38) s12 (by decide +kernel) (sb.2.2.2.1 38 (by simp)).1 ⟨⟨?_, hn6, fun j hj => ?_, fun j hj => ?_, fun j hj => ?_, fun j hj => ?_⟩, fun j hj => ?_⟩ (fun p hp => ?_) ⟨fun j hj => ?_, ?_⟩
      · rw [sb.2.1 57 1 (by simp)]; exact d0.1.1
      · rw [(sb.2.2.2.1 58 (by simp)).1, d0.1.2.2.1 j hj, lo j (by omega)]
      · rw [(sb.2.2.2.1 59 (by simp)).1, d0.1.2.2.2.1 j hj, lo (6 + j) (by omega)]
      · rw [(sb.2.2.2.1 60 (by simp)).1, d0.1.2.2.2.2.1 j hj, lo (12 + j) (by omega)]
      · rw [(sb.2.2.2.1 62 (by simp)).1, d0.1.2.2.2.2.2 j hj, lo (24 + j) (by omega)]
      · rcases Nat.lt_or_ge j m with z | z
        · rw [b2 j z, (sa.2.2.2.1 83 (by simp)).1, a1, if_pos (by omega), show 18 + j - 18 = j by omega, (h9.w j z).1]
        · rw [b3 j z, d0.2 j hj, lo (18 + j) (by omega)]
      · rw [a1]
        split
        · exact (h9.w _ (by omega)).2
        · exact h3.r p hp
      · rw [(sb.2.2.2.1 21 (by simp)).1, a2, if_pos (by omega), b4 j hj, (sa.2.2.2.1 84 (by simp)).1]
        exact h9.k j hj
      · rw [(sb.2.2.2.1 21 (by simp)).1, a2, if_pos (by decide), b1, sa.2.1 57 40 (by simp)]
        exact h9.l
theorem relH_up {w : gx_W} {nb nb' : Nat} {ln : Nat → Nat} (h : relH w nb ln) (hn : nb ≤ nb') : relH w nb' ln := by
  refine ⟨h.n, fun i hi => ?_⟩
  rcases h.h i hi with q | ⟨a, m, hm, c, b⟩ | q
  · exact Or.inl q
  · exact Or.inr (Or.inl ⟨a, m, by omega, c, b⟩)
  · exact Or.inr (Or.inr q)
theorem op_body {d : Nat} {w : gx_W} {x : Int32} (hd : 140 ≤ d) (R0 : Rel w) : OP d mX9_body mX10_body [.int x] w := by
  have R1 := R0
  obtain ⟨n, l, N, T, g, D, K, nb, M, ln, m, h1, h2, h3, h4, h5, h6, h7, h8, h9⟩ := R1
  have hn6 := h3.d.1.2.1
  have hnb := h6.b5
  unfold OP
  refine c_X9_body (by omega) h1.c (relB.bk h1 h6) (fun nx => ?_) (fun x1 x2 e => ?_) (fun x1 x2 hlt => ?_)
  · have nn : ∀ m, m ≤ 7 → x ≠ nI m := fun m hm e => by
      rw [e] at nx
      rcases nx with q | q
      · exact nI_pos (by omega) q
      · exact absurd (show nI 8 ≤ nI m from q) (nI_ge (by omega) (by omega))
    exact ⟨h1.m.1, c_X10_body (by omega) h1.m h6.m43 hnb (fun _ => ⟨rfl, R0⟩) (fun m ex hm _ => absurd ex (nn _ hm)) (fun m ex hm _ => absurd ex (nn _ hm))⟩
  · obtain ⟨u, hu, eu⟩ := pI_cases (n := 8) (by decide) x1 x2
    exact ⟨h1.m.1, c_X10_body (by omega) h1.m h6.m43 hnb (fun q => absurd eu (q _ (by omega))) (fun m ex hm _ => ⟨rfl, R0⟩) (fun m ex hm q => absurd e (by omega))⟩
  · obtain ⟨u, hu, eu⟩ := pI_cases (n := 8) (by decide) x1 x2
    have s1 : same [18] [(17, 2)] w (s_i (s_a w 18 (va_up (w_a w 18) nb x)) 17 2 (nI (nb + 1))) := (same.rf.sa (by simp)).si (by simp)
    refine ⟨(h1.m.same s1).1, c_X10_body (by omega) (h1.m.same s1) ((s1.2.1 57 43 (by simp)).trans h6.m43) hnb (fun q => absurd eu (q _ (by omega))) (fun m ex hm q => absurd q (by omega)) (fun m2 ex hm _ => ⟨rfl, ?_⟩)⟩
    have s12 : sam [18, 85] [(17, 2), (57, 43)] [] w (s_i (s_a (s_i (s_a w 18 (va_up (w_a w 18) nb x)) 17 2 (nI (nb + 1))) 85 (va_up (w_a (s_i (s_a w 18 (va_up (w_a w 18) nb x)) 17 2 (nI (nb + 1))) 85) nb x)) 57 43 (nI (nb + 1))) := (((s1.wk (by simp) (by simp)).sa (by simp)).si (by simp)).sam
    refine ⟨n, l, N, T, g, D, K, nb + 1, M, ln, m, h1.sam s12 (by decide +kernel), h2.sam s12 (by decide +kernel), h3.sam s12 (by decide +kernel), h4.sam s12 (by decide +kernel), h5.sam s12 (by decide +kernel), ⟨by rw [wi_si, if_neg (by decide), wi_sa, wi_si, if_pos ⟨rfl, rfl⟩], by omega, by rw [wi_si, if_pos ⟨rfl, rfl⟩], fun j hj => ?_, (s12.2.1 17 3 (by simp)).trans h6.r3, (s12.2.1 57 45 (by simp)).trans h6.r45, h6.R9, ?_⟩, relH_up (h7.sam s12 (by decide +kernel)) (Nat.le_succ nb), h8.sam s12 (by decide +kernel), h9.sam s12 (by decide +kernel)⟩
    · rw [wa_si, wa_sa, if_neg (by decide), wa_si, wa_sat, wa_sat, wa_sa, if_neg (by decide), up_at, up_at]
      by_cases e : j = nb
      · rw [if_pos e, if_pos e]
        exact ⟨u, hu, eu, eu⟩
      · rw [if_neg e, if_neg e]
        exact h6.k j (by omega)
    · rw [(s12.2.2.2.1 19 (by simp)).1, (s12.2.2.2.1 86 (by simp)).1]
      exact h6.t
theorem ac_eq (b x : Int32) : ∀ kd, kd < 8 → ∀ c, c < 4 → bw kd b 41 c kd x = acF c kd b x := by
  intro own ho c hc
  have h1 : own = 0 ∨ own = 1 ∨ own = 2 ∨ own = 3 ∨ own = 4 ∨ own = 5 ∨ own = 6 ∨ own = 7 := by omega
  have h2 : c = 0 ∨ c = 1 ∨ c = 2 ∨ c = 3 := by omega
  rcases h1 with rfl | rfl | rfl | rfl | rfl | rfl | rfl | rfl <;> rcases h2 with rfl | rfl | rfl | rfl <;> rfl
theorem ac_len (b x : Int32) (c kd : Nat) (hk : kd < 8) : (acF c kd b x).2.length < 2 ^ 30 := by
  have e : acF c kd b x = acF (min c 3) kd b x := by
    rcases Nat.lt_or_ge c 4 with q | q
    · rw [show min c 3 = c by omega]
    · rw [show min c 3 = 3 by omega]
      unfold acF
      rw [if_neg (by omega), if_neg (by omega), if_neg (by omega), if_neg (by decide), if_neg (by decide), if_neg (by decide)]
  rw [e, ← ac_eq b x kd hk (min c 3) (by omega)]
  have := bw_len b x kd hk (min c 3) (by omega)
  omega
theorem bo_row_e : ∀ (L : List Nat) (g g' : Nat → Int32) (m j : Nat), (∀ i, i < m → i < 24 → g i = g' i) → j < m + L.length → j < 24 → bo_row g m L j = bo_row g' m L j := by
  intro L
  induction L with
  | nil => intro g g' m j h hj h24; exact h j (by simpa using hj) h24
  | cons a L ih =>
    intro g g' m j h hj h24
    refine ih _ _ (m + 1) j (fun i hi hi2 => ?_) (by rw [List.length_cons] at hj; omega) h24
    by_cases e : m < 24
    · rw [if_pos e, if_pos e, up_at, up_at]
      by_cases q : i = m
      · rw [if_pos q, if_pos q]
      · rw [if_neg q, if_neg q]; exact h i (by omega) hi2
    · rw [if_neg e, if_neg e]; exact h i (by omega) hi2
set_option maxHeartbeats 1000000 in
theorem op_act {d : Nat} {w : gx_W} {y z x : Int32} (hd : 140 ≤ d) (R0 : Rel w) : OP d mX9_act mX10_act [.int y, .int z, .int x] w := by
  have R1 := R0
  obtain ⟨n, l, N, T, g, D, K, nb, M, ln, m, h1, h2, h3, h4, h5, h6, h7, h8, h9⟩ := R1
  have hn6 := h3.d.1.2.1
  have hnb := h6.b5
  have hk18 : ∀ j, j < nb → ∃ m, m < 8 ∧ w_a w 18 j = nI m := fun j hj => by
    obtain ⟨m, a, b, c⟩ := h6.k j hj
    exact ⟨m, a, b⟩
  have hk85 : ∀ j, j < nb → ∃ m, m < 8 ∧ w_a w 85 j = nI m := fun j hj => by
    obtain ⟨m, a, b, c⟩ := h6.k j hj
    exact ⟨m, a, c⟩
  unfold OP
  refine c_X9_act (by omega) h1.T h1.c (relB.bk h1 h6) hk18 (fun bb c own ey hbb ez hc eo ho w1 s1 => ?_) (fun no => ?_)
  · obtain ⟨sa, a1, a2⟩ := s1
    have s1 : same [19] [(17, 3)] w w1 := (same.rf.si (by simp)).tr sa
    refine ⟨(h1.m.same s1).1, c_X10_act (nb := nb) (by omega) (h1.m.same s1) ((s1.2.1 57 43 (by simp)).trans h6.m43) hnb (by rw [(s1.2.2.2.1 85 (by simp)).1]; exact hk85) (fun c kd b x hkd => ac_len b x c kd hkd) (fun q => (q bb c ey hbb ez hc).elim) (fun bb' c' kd ey' hbb' ez' hc' ek hkd w2 s2 => ?_)⟩
    have e := pI_inj (by omega) (by omega) (ey.symm.trans ey')
    subst e
    have e := pI_inj (by omega) (by omega) (ez.symm.trans ez')
    subst e
    rw [(s1.2.2.2.1 85 (by simp)).1] at ek
    obtain ⟨mm, k1, k2, k3⟩ := h6.k bb hbb
    have e := pI_inj (by omega) (by omega) (k2.symm.trans eo)
    subst e
    have e := pI_inj (by omega) (by omega) (k3.symm.trans ek)
    subst e
    have hac := ac_eq (nI bb) x mm k1 c hc
    have hlen := bw_len (nI bb) x mm k1 c hc
    rw [hac] at a1 a2 hlen
    obtain ⟨sb, b1, b2⟩ := s2
    refine ⟨by rw [hac], ?_⟩
    have s2 : same [86] [(57, 45)] w1 w2 := (same.rf.si (by simp)).tr sb
    have s12 : sam [19, 86] [(17, 3), (57, 45)] [] w w2 := ((s1.wk (by simp) (by simp)).tr (s2.wk (by simp) (by simp))).sam
    refine ⟨n, l, N, T, g, D, K, nb, (acF c mm (nI bb) x).2.length, ln, m, h1.sam s12 (by decide +kernel), h2.sam s12 (by decide +kernel), h3.sam s12 (by decide +kernel), h4.sam s12 (by decide +kernel), h5.sam s12 (by decide +kernel), ⟨(s12.2.1 17 2 (by simp)).trans h6.b2, hnb, (s12.2.1 57 43 (by simp)).trans h6.m43, ?_, ?_, ?_, by omega, fun j hj h24 => ?_⟩, h7.sam s12 (by decide +kernel), h8.sam s12 (by decide +kernel), h9.sam s12 (by decide +kernel)⟩
    · rw [(s12.2.2.2.1 18 (by simp)).1, (s12.2.2.2.1 85 (by simp)).1]
      exact h6.k
    · rw [s2.2.1 17 3 (by simp), a1, Nat.zero_add]
    · rw [b1, Nat.zero_add]
    · rw [(s2.2.2.2.1 19 (by simp)).1, a2, b2]
      exact bo_row_e _ _ _ 0 j (fun i hi => absurd hi (Nat.not_lt_zero _)) (by omega) h24
  · have s1 : same [] [(17, 3)] w (s_i w 17 3 0) := same.rf.si (by simp)
    refine ⟨(h1.m.same s1).1, c_X10_act (nb := nb) (by omega) (h1.m.same s1) ((s1.2.1 57 43 (by simp)).trans h6.m43) hnb (by rw [(s1.2.2.2.1 85 (by simp)).1]; exact hk85) (fun c kd b x hkd => ac_len b x c kd hkd) (fun q => ⟨rfl, ?_⟩) (fun bb' c' kd ey' hbb' ez' hc' ek hkd w2 s2 => (no bb' c' ey' hbb' ez' hc').elim)⟩
    have s12 : sam [] [(17, 3), (57, 45)] [] w (s_i (s_i w 17 3 0) 57 45 0) := ((s1.wk (by simp) (by simp)).si (by simp)).sam
    refine ⟨n, l, N, T, g, D, K, nb, 0, ln, m, h1.sam s12 (by decide +kernel), h2.sam s12 (by decide +kernel), h3.sam s12 (by decide +kernel), h4.sam s12 (by decide +kernel), h5.sam s12 (by decide +kernel), ⟨(s12.2.1 17 2 (by simp)).trans h6.b2, hnb, (s12.2.1 57 43 (by simp)).trans h6.m43, h6.k, ?_, ?_, by decide, fun j hj => absurd hj (Nat.not_lt_zero _)⟩, h7.sam s12 (by decide +kernel), h8.sam s12 (by decide +kernel), h9.sam s12 (by decide +kernel)⟩
    · rw [wi_si, if_neg (by decide), wi_si, if_pos ⟨rfl, rfl⟩]; rfl
    · rw [wi_si, if_pos ⟨rfl, rfl⟩]; rfl

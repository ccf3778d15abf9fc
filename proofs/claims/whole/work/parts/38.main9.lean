/-! CrossroadsChoose: thoughts -/
abbrev TG : List (Nat × Nat) := (43, 1) :: TF
theorem isT.sam {R : List Nat} {F E : List (Nat × Nat)} {w w' : gx_W} (h : isT w) (hs : sam R F E w w') (hR : ∀ k, k ∈ R → 6 ≤ k) : isT w' := fun k h1 h2 => by
  have h3 := h k h1 h2
  exact ⟨by rw [hs.1]; exact h3.1, by rw [(hs.2.2.2.1 k (fun z => by have := hR k z; omega)).1]; exact h3.2⟩
theorem thO.sam {R : List Nat} {F : List (Nat × Nat)} {w w' : gx_W} (h : thO w) (hs : sam R F [(43, 2)] w w') : thO w' := by
  obtain ⟨h1, h2, ⟨a1, a2⟩, ⟨b1, b2⟩, ⟨c1, c2⟩⟩ := h
  have er : ∀ j, w_r w' 39 j = w_r w 39 j := fun j => hs.2.2.1 39 j (by simp)
  refine ⟨by rw [hs.1]; exact h1, (er 0).trans h2, ⟨(er 1).trans a1, by rw [hs.1]; exact a2⟩, ⟨(er 2).trans b1, by rw [hs.1]; exact b2⟩, ⟨(er 3).trans c1, by rw [hs.1]; exact c2⟩⟩
/-- a thought: the crossing's numbers f, who had how many a, the first b, the longest waits g, comers, the latest, the worth -/
def thI (w w' : gx_W) (n l N : Nat) (f a b g : Nat → Int32) (cm lt wo : Int32) : Prop := sam TR TG [(43, 2)] w w' ∧ thO w' ∧ isCk w' 43 44 n l N ∧ (∀ j, j < 28 → w_a w' 44 j = f j) ∧ (∀ j, j < 6 → w_a w' 40 j = a j) ∧ (∀ j, j < 6 → w_a w' 41 j = b j) ∧ (∀ j, j < 6 → w_a w' 42 j = g j) ∧ w_i w' 39 4 = cm ∧ w_i w' 39 5 = lt ∧ w_i w' 39 6 = wo
theorem isCk.th {w w' : gx_W} {n l N : Nat} {a r : Nat} (h : isCk w r a n l N) (hs : sam TR TG [(43, 2)] w w') (h1 : w_i w' 43 1 = nI n) (h2 : w_r w' 43 2 = some l) (h3 : isCr w 43 44) : isCk w' 43 44 n l N := by
  obtain ⟨⟨⟨_, _, q3⟩, _, ⟨l1, ⟨l2, l3⟩, ⟨l4, l5⟩, ⟨l6, l7⟩, ⟨l8, l9⟩⟩, q6, q7, q8, _, _, _⟩, hl⟩ := h
  have e1 := hs.1
  have er : ∀ j, w_r w' l j = w_r w l j := fun j => hs.2.2.1 l j (by rcases hl with rfl | rfl <;> simp)
  refine ⟨⟨⟨⟨by rw [e1]; exact h3.1, (hs.2.2.1 43 0 (by simp)).trans h3.2.1, by rw [e1]; exact h3.2.2⟩, h1, q3⟩, h2, ⟨by rw [e1]; exact l1, ⟨(er 0).trans l2, by rw [e1]; exact l3⟩, ⟨(er 1).trans l4, by rw [e1]; exact l5⟩, ⟨(er 2).trans l6, by rw [e1]; exact l7⟩, ⟨(er 3).trans l8, by rw [e1]; exact l9⟩⟩, ?_, q7, q8, ?_, ?_, ?_⟩, hl⟩
  · rw [hs.2.1 l 4 (by rcases hl with rfl | rfl <;> simp)]; exact q6
  · rcases hl with rfl | rfl <;> decide
  · rcases hl with rfl | rfl <;> decide
  · rcases hl with rfl | rfl <;> decide
/-- begin -/
theorem c_beginI {d n l N : Nat} {w : gx_W} {k : gx_W → Prop} (hd : 2 ≤ d) (h : thO w) (h43 : isCr w 43 44) (hc : isCk w 37 38 n l N) (kk : ∀ w', thI w w' n l N (w_a w 38) (fun _ => 0) (fun _ => -2) (fun j => w_a w 38 (18 + j)) 0 (-2) 0 → k w') : gx_C 0 0 d mX7_begin [.ref 39, .ref 37] w (Qv k) := by
  refine c_X7_begin hd h h43 hc (fun w' q => kk w' ?_)
  obtain ⟨q1, q2, q3, q4, q5, q6, q7, q8, q9, q10⟩ := q
  exact ⟨q1, h.sam q1, hc.th q1 q2 q3 h43, q4, q5, q6, q7, q8, q9, q10⟩
/-- meet -/
theorem c_meetI {d n l N c : Nat} {w w1 : gx_W} {f a b g : Nat → Int32} {cm lt wo : Int32} {k : Int32 → gx_W → Prop} (hd : 6 ≤ d) (hT : isT w) (hr : w_a w1 (l + 1) = w_a w (l + 1) ∧ w_a w1 (l + 2) = w_a w (l + 2)) (h : thI w w1 n l N f a b g cm lt wo) (hco : c < 100) (kA : cr_has N (w_a w (l + 1)) (w_a w (l + 2)) f n c = -2 → ∀ w', thI w w' n l N f a b g (cm + 1) (-2) wo → k (-2) w') (kB : ∀ t, t < n → cr_has N (w_a w (l + 1)) (w_a w (l + 2)) f n c = nI t → ∀ w', thI w w' n l N (cr_set f n t) (va_up a t (a t + 1)) (if b t = -2 then va_up b t cm else b) (fun j => if j < n then mxI (g j) (cr_set f n t (18 + j)) else g j) (cm + 1) (nI t) (wo + f (12 + t)) → k (nI t) w') : gx_C 0 0 d mX7_meet [.ref 39, .int (nI c)] w1 (Qi k) := by
  obtain ⟨s1, s2, s3, s4, s5, s6, s7, s8, s9, s10⟩ := h
  have hn : n ≤ 6 := s3.1.1.2.2
  have eh := cr_has_congr (N := N) (sg := w_a w (l + 1)) (va := w_a w (l + 2)) (c := c) s4 hn
  refine c_X7_meet hd (hT.sam s1 (by simp)) s2 s3 hco (fun e w' q => ?_) (fun t ht e w' q => ?_)
  · rw [hr.1, hr.2, eh] at e
    obtain ⟨q1, q2, q3, q4⟩ := q
    have q1' : same TR TF w1 w' := q1.wk (by simp) (by simp)
    have hs : sam TR TG [(43, 2)] w w' := s1.tr (q1'.sam.wk (fun _ z => z) (fun _ z => List.mem_cons_of_mem _ z) (fun _ z => z))
    have ea : ∀ r, r ∉ JR → w_a w' r = w_a w1 r := fun r hr => (q1.2.2.2.1 r hr).1
    refine kA e w' ⟨hs, s2.same q1, ?_, ?_, ?_, ?_, ?_, by rw [q2, s8], q3, by rw [q4, s10]⟩
    · exact s3.th (q1'.sam.wk (fun _ z => z) (fun _ z => List.mem_cons_of_mem _ z) (fun _ z => z)) ((q1.2.1 43 1 (by simp)).trans s3.1.1.2.1) ((by rw [q1.2.2.1] : w_r w' 43 2 = w_r w1 43 2).trans s3.1.2.1) s3.1.1.1
    · rw [ea 44 (by decide)]; exact s4
    · rw [ea 40 (by decide)]; exact s5
    · rw [ea 41 (by decide)]; exact s6
    · rw [ea 42 (by decide)]; exact s7
  · rw [hr.1, hr.2, eh] at e
    obtain ⟨q1, q2, q3, q4, q5, q6, q7, q8⟩ := q
    have hs' : sam TR TG [(43, 2)] w1 w' := q1.sam.wk (fun _ z => z) (fun _ z => List.mem_cons_of_mem _ z) (fun _ z => z)
    refine kB t ht e w' ⟨s1.tr hs', s2.same q1, ?_, ?_, ?_, ?_, ?_, by rw [q2, s8], q3, by rw [q4, s10, s4 (12 + t) (by omega)]⟩
    · exact s3.th hs' ((q1.2.1 43 1 (by simp)).trans s3.1.1.2.1) ((by rw [q1.2.2.1] : w_r w' 43 2 = w_r w1 43 2).trans s3.1.2.1) s3.1.1.1
    · rw [q5]; exact cr_set_congr s4
    · intro j hj
      rw [q6, up_at, up_at, s5 t (by omega), s5 j hj]
    · intro j hj
      rw [q7, s6 t (by omega)]
      split
      · rw [up_at, up_at, s6 j hj, s8]
      · exact s6 j hj
    · intro j hj
      rw [q8]
      show (if j < n then mxI (w_a w1 42 j) (cr_set (w_a w1 44) n t (18 + j)) else w_a w1 42 j) = _
      rw [s7 j hj, cr_set_congr s4 (18 + j) (by omega)]

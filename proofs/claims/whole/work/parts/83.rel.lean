/-! The relation of class and reference in one world -/
abbrev X3 : List (Nat × Nat) := [(43, 2), (37, 2), (6, 10)]
def nin (A B : List Nat) : Bool := A.all (fun k => !B.contains k)
def ninP (A B : List (Nat × Nat)) : Bool := A.all (fun k => !B.contains k)
def subP (A B : List (Nat × Nat)) : Bool := A.all (fun k => B.contains k)
theorem nin_h {A B : List Nat} (h : nin A B = true) {k : Nat} (hk : k ∈ A) : k ∉ B := by
  have q := List.all_eq_true.mp h k hk
  simpa using q
theorem ninP_h {A B : List (Nat × Nat)} (h : ninP A B = true) {k : Nat × Nat} (hk : k ∈ A) : k ∉ B := by
  have q := List.all_eq_true.mp h k hk
  simpa using q
theorem subP_h {A B : List (Nat × Nat)} (h : subP A B = true) {k : Nat × Nat} (hk : k ∈ A) : k ∈ B := by
  have q := List.all_eq_true.mp h k hk
  simpa using q
def rI (x : Int32) : Prop := -99 ≤ x.toInt ∧ x.toInt ≤ 99
def relS (w : gx_W) : Prop :=
  (isT w) ∧
  (clO w) ∧
  (chO w) ∧
  (boO w) ∧
  (tpO w) ∧
  (thO w) ∧
  (moO w) ∧
  (isCr w 37 38) ∧
  (isCr w 43 44) ∧
  (isLw w 27 28 29 30 31) ∧
  (isLw w 32 33 34 35 36)
theorem relS.T {w : gx_W} (h : relS w) : isT w := h.1
theorem relS.c {w : gx_W} (h : relS w) : clO w := h.2.1
theorem relS.g {w : gx_W} (h : relS w) : chO w := h.2.2.1
theorem relS.b {w : gx_W} (h : relS w) : boO w := h.2.2.2.1
theorem relS.t {w : gx_W} (h : relS w) : tpO w := h.2.2.2.2.1
theorem relS.h {w : gx_W} (h : relS w) : thO w := h.2.2.2.2.2.1
theorem relS.m {w : gx_W} (h : relS w) : moO w := h.2.2.2.2.2.2.1
theorem relS.n {w : gx_W} (h : relS w) : isCr w 37 38 := h.2.2.2.2.2.2.2.1
theorem relS.x {w : gx_W} (h : relS w) : isCr w 43 44 := h.2.2.2.2.2.2.2.2.1
theorem relS.k1 {w : gx_W} (h : relS w) : isLw w 27 28 29 30 31 := h.2.2.2.2.2.2.2.2.2.1
theorem relS.k2 {w : gx_W} (h : relS w) : isLw w 32 33 34 35 36 := h.2.2.2.2.2.2.2.2.2.2
def relL (w : gx_W) (l N : Nat) : Prop :=
  (l = 27 ∨ l = 32) ∧
  (w_r w 37 2 = some l) ∧
  (w_r w 6 10 = some (59 - l)) ∧
  (w_i w l 4 = nI N) ∧
  (N ≤ 128) ∧
  (lwM w N (w_a w (l + 1)) (w_a w (l + 2)))
theorem relL.hl {w : gx_W} {l N : Nat} (h : relL w l N) : l = 27 ∨ l = 32 := h.1
theorem relL.r37 {w : gx_W} {l N : Nat} (h : relL w l N) : w_r w 37 2 = some l := h.2.1
theorem relL.r6 {w : gx_W} {l N : Nat} (h : relL w l N) : w_r w 6 10 = some (59 - l) := h.2.2.1
theorem relL.N4 {w : gx_W} {l N : Nat} (h : relL w l N) : w_i w l 4 = nI N := h.2.2.2.1
theorem relL.N8 {w : gx_W} {l N : Nat} (h : relL w l N) : N ≤ 128 := h.2.2.2.2.1
theorem relL.lw {w : gx_W} {l N : Nat} (h : relL w l N) : lwM w N (w_a w (l + 1)) (w_a w (l + 2)) := h.2.2.2.2.2
def relN (w : gx_W) (n : Nat) : Prop :=
  (w_i w 37 1 = nI n) ∧
  (mxD w (w_a w 38) n) ∧
  (∀ p, p < 28 → rI (w_a w 38 p))
theorem relN.n1 {w : gx_W} {n : Nat} (h : relN w n) : w_i w 37 1 = nI n := h.1
theorem relN.d {w : gx_W} {n : Nat} (h : relN w n) : mxD w (w_a w 38) n := h.2.1
theorem relN.r {w : gx_W} {n : Nat} (h : relN w n) : ∀ p, p < 28 → rI (w_a w 38 p) := h.2.2
def relT (w : gx_W) (T : Nat) (g : Nat → Int32) : Prop :=
  (w_i w 7 1 = nI T) ∧
  (w_a w 8 = g) ∧
  (prT w T g)
theorem relT.k1 {w : gx_W} {T : Nat} {g : Nat → Int32} (h : relT w T g) : w_i w 7 1 = nI T := h.1
theorem relT.a8 {w : gx_W} {T : Nat} {g : Nat → Int32} (h : relT w T g) : w_a w 8 = g := h.2.1
theorem relT.p {w : gx_W} {T : Nat} {g : Nat → Int32} (h : relT w T g) : prT w T g := h.2.2
def relC (w : gx_W) (n D E : Nat) : Prop :=
  (w_i w 9 4 = nI D) ∧
  (w_i w 9 5 = nI E) ∧
  (D ≤ E) ∧
  (E ≤ 40) ∧
  (w_i w 57 7 = nI D) ∧
  (w_i w 57 8 = nI (E - D)) ∧
  (∀ j, j < E → w_a w 63 j = w_a w 11 j ∧ w_a w 64 j = w_a w 10 j ∧ w_a w 65 j = w_a w 12 j ∧ w_a w 66 j = w_a w 13 j) ∧
  (∀ j, j < E → ∃ p, p < 28 ∧ chOK n (w_a w 10 j) (w_a w 11 j) p) ∧
  (∀ j, j < E → rI (w_a w 12 j) ∧ rI (w_a w 13 j))
theorem relC.d4 {w : gx_W} {n D E : Nat} (h : relC w n D E) : w_i w 9 4 = nI D := h.1
theorem relC.d5 {w : gx_W} {n D E : Nat} (h : relC w n D E) : w_i w 9 5 = nI E := h.2.1
theorem relC.DE {w : gx_W} {n D E : Nat} (h : relC w n D E) : D ≤ E := h.2.2.1
theorem relC.E40 {w : gx_W} {n D E : Nat} (h : relC w n D E) : E ≤ 40 := h.2.2.2.1
theorem relC.m7 {w : gx_W} {n D E : Nat} (h : relC w n D E) : w_i w 57 7 = nI D := h.2.2.2.2.1
theorem relC.m8 {w : gx_W} {n D E : Nat} (h : relC w n D E) : w_i w 57 8 = nI (E - D) := h.2.2.2.2.2.1
theorem relC.e {w : gx_W} {n D E : Nat} (h : relC w n D E) : ∀ j, j < E → w_a w 63 j = w_a w 11 j ∧ w_a w 64 j = w_a w 10 j ∧ w_a w 65 j = w_a w 12 j ∧ w_a w 66 j = w_a w 13 j := h.2.2.2.2.2.2.1
theorem relC.o {w : gx_W} {n D E : Nat} (h : relC w n D E) : ∀ j, j < E → ∃ p, p < 28 ∧ chOK n (w_a w 10 j) (w_a w 11 j) p := h.2.2.2.2.2.2.2.1
theorem relC.v {w : gx_W} {n D E : Nat} (h : relC w n D E) : ∀ j, j < E → rI (w_a w 12 j) ∧ rI (w_a w 13 j) := h.2.2.2.2.2.2.2.2
def relB (w : gx_W) (nb R : Nat) : Prop :=
  (w_i w 17 2 = nI nb) ∧
  (nb ≤ 50) ∧
  (w_i w 57 43 = nI nb) ∧
  (∀ j, j < nb → ∃ m, m < 8 ∧ w_a w 18 j = nI m ∧ w_a w 85 j = nI m) ∧
  (w_i w 17 3 = nI R) ∧
  (w_i w 57 45 = nI R) ∧
  (R < 1000) ∧
  (∀ j, j < R → j < 24 → w_a w 19 j = w_a w 86 j)
theorem relB.b2 {w : gx_W} {nb R : Nat} (h : relB w nb R) : w_i w 17 2 = nI nb := h.1
theorem relB.b5 {w : gx_W} {nb R : Nat} (h : relB w nb R) : nb ≤ 50 := h.2.1
theorem relB.m43 {w : gx_W} {nb R : Nat} (h : relB w nb R) : w_i w 57 43 = nI nb := h.2.2.1
theorem relB.k {w : gx_W} {nb R : Nat} (h : relB w nb R) : ∀ j, j < nb → ∃ m, m < 8 ∧ w_a w 18 j = nI m ∧ w_a w 85 j = nI m := h.2.2.2.1
theorem relB.r3 {w : gx_W} {nb R : Nat} (h : relB w nb R) : w_i w 17 3 = nI R := h.2.2.2.2.1
theorem relB.r45 {w : gx_W} {nb R : Nat} (h : relB w nb R) : w_i w 57 45 = nI R := h.2.2.2.2.2.1
theorem relB.R9 {w : gx_W} {nb R : Nat} (h : relB w nb R) : R < 1000 := h.2.2.2.2.2.2.1
theorem relB.t {w : gx_W} {nb R : Nat} (h : relB w nb R) : ∀ j, j < R → j < 24 → w_a w 19 j = w_a w 86 j := h.2.2.2.2.2.2.2
def relh (w : gx_W) (nb i ln : Nat) : Prop :=
  (w_i w (45 + 2 * i) 1 = 0 ∧ w_a w 87 i = -1) ∨
  (w_i w (45 + 2 * i) 1 = 1 ∧ ∃ m, m < nb ∧ w_i w (45 + 2 * i) 2 = nI m ∧ w_a w 87 i = nI m) ∨
  (w_i w (45 + 2 * i) 1 = 2 ∧ ∃ s, s < 5 ∧ w_i w (45 + 2 * i) 3 = nI s ∧ w_a w 87 i = -2 - nI s ∧ shM w i ln (w_l w (46 + 2 * i)))
def relH (w : gx_W) (nb : Nat) (ln : Nat → Nat) : Prop :=
  (∀ i, i < 6 → w_i w (45 + 2 * i) 4 = nI (ln i) ∧ ln i ≤ 60) ∧
  (∀ i, i < 6 → relh w nb i (ln i))
theorem relH.n {w : gx_W} {nb : Nat} {ln : Nat → Nat} (h : relH w nb ln) : ∀ i, i < 6 → w_i w (45 + 2 * i) 4 = nI (ln i) ∧ ln i ≤ 60 := h.1
theorem relH.h {w : gx_W} {nb : Nat} {ln : Nat → Nat} (h : relH w nb ln) : ∀ i, i < 6 → relh w nb i (ln i) := h.2
def relG (w : gx_W) : Prop :=
  (∀ j, j < 4 → w_a w 21 j = w_a w 82 j) ∧
  (w_a w 21 4 = w_i w 57 37)
theorem relG.k {w : gx_W} (h : relG w) : ∀ j, j < 4 → w_a w 21 j = w_a w 82 j := h.1
theorem relG.l {w : gx_W} (h : relG w) : w_a w 21 4 = w_i w 57 37 := h.2
def relI (w : gx_W) (n m : Nat) : Prop :=
  (m ≤ n) ∧
  (w_i w 14 3 = nI m) ∧
  (w_i w 57 39 = nI m) ∧
  (w_i w 14 2 = w_i w 57 38) ∧
  (∀ j, j < m → w_a w 15 j = w_a w 83 j ∧ rI (w_a w 15 j)) ∧
  (∀ j, j < 4 → w_a w 16 j = w_a w 84 j) ∧
  (w_a w 16 4 = w_i w 57 40)
theorem relI.mn {w : gx_W} {n m : Nat} (h : relI w n m) : m ≤ n := h.1
theorem relI.c3 {w : gx_W} {n m : Nat} (h : relI w n m) : w_i w 14 3 = nI m := h.2.1
theorem relI.m39 {w : gx_W} {n m : Nat} (h : relI w n m) : w_i w 57 39 = nI m := h.2.2.1
theorem relI.t {w : gx_W} {n m : Nat} (h : relI w n m) : w_i w 14 2 = w_i w 57 38 := h.2.2.2.1
theorem relI.w {w : gx_W} {n m : Nat} (h : relI w n m) : ∀ j, j < m → w_a w 15 j = w_a w 83 j ∧ rI (w_a w 15 j) := h.2.2.2.2.1
theorem relI.k {w : gx_W} {n m : Nat} (h : relI w n m) : ∀ j, j < 4 → w_a w 16 j = w_a w 84 j := h.2.2.2.2.2.1
theorem relI.l {w : gx_W} {n m : Nat} (h : relI w n m) : w_a w 16 4 = w_i w 57 40 := h.2.2.2.2.2.2
def Rel (w : gx_W) : Prop := ∃ (n l N T : Nat) (g : Nat → Int32) (D E nb R : Nat) (ln : Nat → Nat) (m : Nat), relS w ∧ relL w l N ∧ relN w n ∧ relT w T g ∧ relC w n D E ∧ relB w nb R ∧ relH w nb ln ∧ relG w ∧ relI w n m
theorem relS.sam {w w' : gx_W} (h : relS w) {R : List Nat} {F E : List (Nat × Nat)} (s : sam R F E w w') (c : (nin [1, 2, 3, 4, 5] R && subP E X3) = true) : relS w' := by
  obtain ⟨c1, c2⟩ := Bool.and_eq_true_iff.mp c
  have e1 : w'.1 = w.1 := s.1
  have hr : ∀ k j, (k, j) ∉ X3 → w_r w' k j = w_r w k j := fun k j q => s.2.2.1 k j (fun z => q (subP_h c2 z))
  have hq := s.2.2.2.2
  obtain ⟨h1, h2, h3, h4, h5, h6, h7, h8, h9, h10, h11⟩ := h
  refine ⟨fun k q1 q2 => ⟨by rw [e1]; exact (h1 k q1 q2).1, by rw [(s.2.2.2.1 k (nin_h c1 (by simp; omega))).1]; exact (h1 k q1 q2).2⟩, ?_, ?_, ?_, ?_, ?_, ?_, ?_, ?_, ?_, ?_⟩
  · exact h2.sam s (fun j hj z => absurd (subP_h c2 z) (by simp; omega)) (fun j z => absurd (subP_h c2 z) (by simp)) (fun i hi z => absurd (subP_h c2 z) (by simp))
  · obtain ⟨a0, ⟨a1, a2⟩, ⟨a3, a4⟩, ⟨a5, a6⟩, a7, a8⟩ := h3
    unfold chO
    rw [e1, hr 9 0 (by decide), hr 9 1 (by decide), hr 9 2 (by decide), hr 9 3 (by decide)]
    exact ⟨a0, ⟨a1, a2⟩, ⟨a3, a4⟩, ⟨a5, a6⟩, a7, a8⟩
  · obtain ⟨a0, ⟨a1, a2⟩, a3, a4⟩ := h4
    unfold boO
    rw [e1, hr 17 0 (by decide), hr 17 1 (by decide)]
    exact ⟨a0, ⟨a1, a2⟩, a3, a4⟩
  · unfold tpO
    rw [e1, hr 7 0 (by decide)]
    exact h5
  · unfold thO
    rw [e1, hr 39 0 (by decide), hr 39 1 (by decide), hr 39 2 (by decide), hr 39 3 (by decide)]
    exact h6
  · exact h7.sam s (fun j z => absurd (subP_h c2 z) (by simp))
  · unfold isCr
    rw [e1, hr 37 0 (by decide)]
    exact h8
  · unfold isCr
    rw [e1, hr 43 0 (by decide)]
    exact h9
  · unfold isLw
    rw [e1, hr 27 0 (by decide), hr 27 1 (by decide), hr 27 2 (by decide), hr 27 3 (by decide)]
    exact h10
  · unfold isLw
    rw [e1, hr 32 0 (by decide), hr 32 1 (by decide), hr 32 2 (by decide), hr 32 3 (by decide)]
    exact h11
theorem relL.sam {w w' : gx_W} {l N : Nat} (h : relL w l N) {R : List Nat} {F E : List (Nat × Nat)} (s : sam R F E w w') (c : ((nin [28, 29, 33, 34, 68, 69, 70, 71, 72] R && ninP [(27, 4), (32, 4), (57, 26)] F) && ninP [(37, 2), (6, 10)] E) = true) : relL w' l N := by
  obtain ⟨c0, c3⟩ := Bool.and_eq_true_iff.mp c
  obtain ⟨c1, c2⟩ := Bool.and_eq_true_iff.mp c0
  have ea : ∀ k, k ∈ [28, 29, 33, 34, 68, 69, 70, 71, 72] → w_a w' k = w_a w k := fun k q => (s.2.2.2.1 k (nin_h c1 q)).1
  obtain ⟨h1, h2, h3, h4, h5, h6⟩ := h
  have e1 : w_a w' (l + 1) = w_a w (l + 1) := ea _ (by rcases h1 with q | q <;> subst q <;> decide)
  have e2 : w_a w' (l + 2) = w_a w (l + 2) := ea _ (by rcases h1 with q | q <;> subst q <;> decide)
  refine ⟨h1, (s.2.2.1 37 2 (ninP_h c3 (by decide))).trans h2, (s.2.2.1 6 10 (ninP_h c3 (by decide))).trans h3, (s.2.1 l 4 (ninP_h c2 (by rcases h1 with q | q <;> subst q <;> decide))).trans h4, h5, ?_⟩
  rw [e1, e2]
  have e26 := s.2.1 57 26 (ninP_h c2 (by decide))
  refine ⟨fun q => e26.trans (h6.1 q), fun q => ⟨by rw [e26]; exact (h6.2 q).1, (h6.2 q).2.cg (ea 68 (by decide)) (ea 69 (by decide)) (ea 70 (by decide)) (ea 71 (by decide)) (ea 72 (by decide))⟩⟩
theorem relN.sam {w w' : gx_W} {n : Nat} (h : relN w n) {R : List Nat} {F E : List (Nat × Nat)} (s : sam R F E w w') (c : (nin [38, 58, 59, 60, 61, 62] R && ninP [(37, 1), (57, 1)] F) = true) : relN w' n := by
  obtain ⟨c1, c2⟩ := Bool.and_eq_true_iff.mp c
  have ea : ∀ k, k ∈ [38, 58, 59, 60, 61, 62] → w_a w' k = w_a w k := fun k q => (s.2.2.2.1 k (nin_h c1 q)).1
  obtain ⟨h1, ⟨⟨g1, g2, g3, g4, g5, g6⟩, g7⟩, h3⟩ := h
  refine ⟨(s.2.1 37 1 (ninP_h c2 (by decide))).trans h1, ?_, by rw [ea 38 (by decide)]; exact h3⟩
  unfold mxD mxN
  rw [ea 38 (by decide), ea 58 (by decide), ea 59 (by decide), ea 60 (by decide), ea 61 (by decide), ea 62 (by decide), s.2.1 57 1 (ninP_h c2 (by decide))]
  exact ⟨⟨g1, g2, g3, g4, g5, g6⟩, g7⟩
theorem relT.sam {w w' : gx_W} {T : Nat} {g : Nat → Int32} (h : relT w T g) {R : List Nat} {F E : List (Nat × Nat)} (s : sam R F E w w') (c : (nin [8, 67] R && ninP [(7, 1), (57, 14)] F) = true) : relT w' T g := by
  obtain ⟨c1, c2⟩ := Bool.and_eq_true_iff.mp c
  have ea : ∀ k, k ∈ [8, 67] → w_a w' k = w_a w k := fun k q => (s.2.2.2.1 k (nin_h c1 q)).1
  obtain ⟨h1, h2, h3⟩ := h
  refine ⟨(s.2.1 7 1 (ninP_h c2 (by decide))).trans h1, (ea 8 (by decide)).trans h2, ?_⟩
  unfold prT
  rw [ea 67 (by decide), s.2.1 57 14 (ninP_h c2 (by decide))]
  exact h3
theorem relC.sam {w w' : gx_W} {n D K : Nat} (h : relC w n D K) {R : List Nat} {F E : List (Nat × Nat)} (s : sam R F E w w') (c : (nin [10, 11, 12, 13, 63, 64, 65, 66] R && ninP [(9, 4), (9, 5), (57, 7), (57, 8)] F) = true) : relC w' n D K := by
  obtain ⟨c1, c2⟩ := Bool.and_eq_true_iff.mp c
  have ea : ∀ k, k ∈ [10, 11, 12, 13, 63, 64, 65, 66] → w_a w' k = w_a w k := fun k q => (s.2.2.2.1 k (nin_h c1 q)).1
  have ei : ∀ k j, (k, j) ∈ [(9, 4), (9, 5), (57, 7), (57, 8)] → w_i w' k j = w_i w k j := fun k j q => s.2.1 k j (ninP_h c2 q)
  obtain ⟨h1, h2, h3, h4, h5, h6, h7, h8, h9⟩ := h
  refine ⟨(ei 9 4 (by decide)).trans h1, (ei 9 5 (by decide)).trans h2, h3, h4, (ei 57 7 (by decide)).trans h5, (ei 57 8 (by decide)).trans h6, ?_, ?_, ?_⟩
  · rw [ea 10 (by decide), ea 11 (by decide), ea 12 (by decide), ea 13 (by decide), ea 63 (by decide), ea 64 (by decide), ea 65 (by decide), ea 66 (by decide)]
    exact h7
  · rw [ea 10 (by decide), ea 11 (by decide)]
    exact h8
  · rw [ea 12 (by decide), ea 13 (by decide)]
    exact h9
theorem relB.sam {w w' : gx_W} {nb M : Nat} (h : relB w nb M) {R : List Nat} {F E : List (Nat × Nat)} (s : sam R F E w w') (c : (nin [18, 19, 85, 86] R && ninP [(17, 2), (17, 3), (57, 43), (57, 45)] F) = true) : relB w' nb M := by
  obtain ⟨c1, c2⟩ := Bool.and_eq_true_iff.mp c
  have ea : ∀ k, k ∈ [18, 19, 85, 86] → w_a w' k = w_a w k := fun k q => (s.2.2.2.1 k (nin_h c1 q)).1
  have ei : ∀ k j, (k, j) ∈ [(17, 2), (17, 3), (57, 43), (57, 45)] → w_i w' k j = w_i w k j := fun k j q => s.2.1 k j (ninP_h c2 q)
  obtain ⟨h1, h2, h3, h4, h5, h6, h7, h8⟩ := h
  refine ⟨(ei 17 2 (by decide)).trans h1, h2, (ei 57 43 (by decide)).trans h3, ?_, (ei 17 3 (by decide)).trans h5, (ei 57 45 (by decide)).trans h6, h7, ?_⟩
  · rw [ea 18 (by decide), ea 85 (by decide)]
    exact h4
  · rw [ea 19 (by decide), ea 86 (by decide)]
    exact h8
abbrev shRW : List Nat := [46, 48, 50, 52, 54, 56, 87, 88, 89]
abbrev shFW : List (Nat × Nat) := [(45, 1), (45, 2), (45, 3), (45, 4), (47, 1), (47, 2), (47, 3), (47, 4), (49, 1), (49, 2), (49, 3), (49, 4), (51, 1), (51, 2), (51, 3), (51, 4), (53, 1), (53, 2), (53, 3), (53, 4), (55, 1), (55, 2), (55, 3), (55, 4)]
theorem shRW_m {i : Nat} (h : i < 6) : 46 + 2 * i ∈ shRW := by simp; omega
theorem shFW_d : ∀ i, i < 6 → ∀ j, j < 4 → shFW.contains (45 + 2 * i, j + 1) = true := by decide +kernel
theorem shFW_m {i j : Nat} (h : i < 6) (h1 : 1 ≤ j) (h4 : j ≤ 4) : (45 + 2 * i, j) ∈ shFW := by
  have q := shFW_d i h (j - 1) (by omega)
  rw [show j - 1 + 1 = j by omega] at q
  exact List.contains_iff_mem.mp q
theorem relH.sam {w w' : gx_W} {nb : Nat} {ln : Nat → Nat} (h : relH w nb ln) {R : List Nat} {F E : List (Nat × Nat)} (s : sam R F E w w') (c : (nin shRW R && ninP shFW F) = true) : relH w' nb ln := by
  obtain ⟨c1, c2⟩ := Bool.and_eq_true_iff.mp c
  have ea : ∀ k, k ∈ shRW → w_a w' k = w_a w k := fun k q => (s.2.2.2.1 k (nin_h c1 q)).1
  have el : ∀ k, k ∈ shRW → w_l w' k = w_l w k := fun k q => (s.2.2.2.1 k (nin_h c1 q)).2
  have ei : ∀ k j, (k, j) ∈ shFW → w_i w' k j = w_i w k j := fun k j q => s.2.1 k j (ninP_h c2 q)
  obtain ⟨h1, h2⟩ := h
  refine ⟨fun i hi => by rw [ei _ _ (shFW_m hi (by decide) (by decide))]; exact h1 i hi, fun i hi => ?_⟩
  have q := h2 i hi
  unfold relh shM at q ⊢
  rw [ei _ 1 (shFW_m hi (by decide) (by decide)), ei _ 2 (shFW_m hi (by decide) (by decide)), ei _ 3 (shFW_m hi (by decide) (by decide)), ea 87 (by decide), ea 88 (by decide), el 89 (by decide), el _ (shRW_m hi)]
  exact q
theorem relG.sam {w w' : gx_W} (h : relG w) {R : List Nat} {F E : List (Nat × Nat)} (s : sam R F E w w') (c : (nin [21, 82] R && ninP [(57, 37)] F) = true) : relG w' := by
  obtain ⟨c1, c2⟩ := Bool.and_eq_true_iff.mp c
  obtain ⟨h1, h2⟩ := h
  refine ⟨?_, ?_⟩
  · rw [(s.2.2.2.1 21 (nin_h c1 (by decide))).1, (s.2.2.2.1 82 (nin_h c1 (by decide))).1]
    exact h1
  · rw [(s.2.2.2.1 21 (nin_h c1 (by decide))).1, s.2.1 57 37 (ninP_h c2 (by decide))]
    exact h2
theorem relI.sam {w w' : gx_W} {n m : Nat} (h : relI w n m) {R : List Nat} {F E : List (Nat × Nat)} (s : sam R F E w w') (c : (nin [15, 16, 83, 84] R && ninP [(14, 2), (14, 3), (57, 38), (57, 39), (57, 40)] F) = true) : relI w' n m := by
  obtain ⟨c1, c2⟩ := Bool.and_eq_true_iff.mp c
  have ea : ∀ k, k ∈ [15, 16, 83, 84] → w_a w' k = w_a w k := fun k q => (s.2.2.2.1 k (nin_h c1 q)).1
  have ei : ∀ k j, (k, j) ∈ [(14, 2), (14, 3), (57, 38), (57, 39), (57, 40)] → w_i w' k j = w_i w k j := fun k j q => s.2.1 k j (ninP_h c2 q)
  obtain ⟨h1, h2, h3, h4, h5, h6, h7⟩ := h
  refine ⟨h1, (ei 14 3 (by decide)).trans h2, (ei 57 39 (by decide)).trans h3, ?_, ?_, ?_, ?_⟩
  · rw [ei 14 2 (by decide), ei 57 38 (by decide)]
    exact h4
  · rw [ea 15 (by decide), ea 83 (by decide)]
    exact h5
  · rw [ea 16 (by decide), ea 84 (by decide)]
    exact h6
  · rw [ea 16 (by decide), ei 57 40 (by decide)]
    exact h7
abbrev rlR : List Nat := [1, 2, 3, 4, 5, 8, 10, 11, 12, 13, 15, 16, 18, 19, 21, 28, 29, 33, 34, 38, 46, 48, 50, 52, 54, 56, 58, 59, 60, 61, 62, 63, 64, 65, 66, 67, 68, 69, 70, 71, 72, 82, 83, 84, 85, 86, 87, 88, 89]
abbrev rlF : List (Nat × Nat) := [(7, 1), (9, 4), (9, 5), (14, 2), (14, 3), (17, 2), (17, 3), (27, 4), (32, 4), (37, 1), (57, 1), (57, 7), (57, 8), (57, 14), (57, 26), (57, 37), (57, 38), (57, 39), (57, 40), (57, 43), (57, 45)] ++ shFW
theorem nin_mono {A A' B : List Nat} (h : nin A B = true) (s : ∀ k, k ∈ A' → k ∈ A) : nin A' B = true := List.all_eq_true.mpr (fun k q => List.all_eq_true.mp h k (s k q))
theorem ninP_mono {A A' B : List (Nat × Nat)} (h : ninP A B = true) (s : ∀ k, k ∈ A' → k ∈ A) : ninP A' B = true := List.all_eq_true.mpr (fun k q => List.all_eq_true.mp h k (s k q))
theorem Rel.sam {w w' : gx_W} (h : Rel w) {R : List Nat} {F E : List (Nat × Nat)} (s : sam R F E w w') (c : ((nin rlR R && ninP rlF F) && subP E [(43, 2)]) = true) : Rel w' := by
  obtain ⟨c0, c3⟩ := Bool.and_eq_true_iff.mp c
  obtain ⟨c1, c2⟩ := Bool.and_eq_true_iff.mp c0
  obtain ⟨n, l, N, T, g, D, K, nb, M, ln, m, h1, h2, h3, h4, h5, h6, h7, h8, h9⟩ := h
  have sE : ∀ k, k ∈ E → k = (43, 2) := fun k q => by simpa using subP_h c3 q
  refine ⟨n, l, N, T, g, D, K, nb, M, ln, m, h1.sam s ?_, h2.sam s ?_, h3.sam s ?_, h4.sam s ?_, h5.sam s ?_, h6.sam s ?_, h7.sam s ?_, h8.sam s ?_, h9.sam s ?_⟩
  · exact Bool.and_eq_true_iff.mpr ⟨nin_mono c1 (by decide +kernel), List.all_eq_true.mpr (fun k q => by rw [sE k q]; decide)⟩
  · refine Bool.and_eq_true_iff.mpr ⟨Bool.and_eq_true_iff.mpr ⟨nin_mono c1 (by decide +kernel), ninP_mono c2 (by decide +kernel)⟩, List.all_eq_true.mpr (fun k q => ?_)⟩
    simp only [Bool.not_eq_true', List.contains_eq_mem, decide_eq_false_iff_not]
    intro z
    rw [sE k z] at q
    revert q
    decide
  all_goals exact Bool.and_eq_true_iff.mpr ⟨nin_mono c1 (by decide +kernel), ninP_mono c2 (by decide +kernel)⟩
theorem relNL.ck {w : gx_W} {n l N : Nat} (S : relS w) (L : relL w l N) (M : relN w n) : isCk w 37 38 n l N := by
  obtain ⟨h1, h2, h3, h4, h5, h6⟩ := L
  refine ⟨⟨⟨S.n, M.n1, M.d.1.2.1⟩, h2, ?_, h4, h5, ⟨by omega, by omega, by omega, by omega, by omega⟩, by omega, by omega, by omega⟩, h1⟩
  rcases h1 with q | q
  · subst q; exact S.k1
  · subst q; exact S.k2
theorem relN.cn {w : gx_W} {n : Nat} (S : relS w) (M : relN w n) : isCn w 37 38 n := ⟨S.n, M.n1, M.d.1.2.1⟩
theorem relN.bd {w : gx_W} {n : Nat} (M : relN w n) : bnd (w_a w 38) n := by
  intro m hm
  have hn := M.d.1.2.1
  have a := M.r m (by omega)
  have b := M.r (6 + m) (by omega)
  have c := M.r (18 + m) (by omega)
  unfold rI at a b c
  omega
theorem relT.k {w : gx_W} {T : Nat} {g : Nat → Int32} (S : relS w) (t : relT w T g) : tpK w T g := ⟨S.t, t.k1, t.p.2.1, t.a8⟩
theorem relB.bk {w : gx_W} {nb R : Nat} (S : relS w) (b : relB w nb R) : boK w nb := ⟨S.b, b.b2, b.b5⟩
theorem relH.sn {w : gx_W} {nb : Nat} {ln : Nat → Nat} (S : relS w) (H : relH w nb ln) : ∀ i, i < 6 → isSn w (45 + 2 * i) (46 + 2 * i) (ln i) := fun i hi => ⟨S.c.2.2.1.2.2.2 i hi, (H.n i hi).1, (H.n i hi).2⟩
def OP (d : Nat) (M M' : gx_M) (a : List Value) (w : gx_W) : Prop := gx_C 0 0 d M (.ref 6 :: a) w (Qi fun r w1 => w1.1[57]? = some (10, 0) ∧ gx_C 0 0 d M' (.ref 57 :: a) w1 (Qi fun r' w2 => r' = r ∧ Rel w2))
def OPl (d : Nat) (M M' : gx_M) (a : List Value) (w : gx_W) : Prop := gx_C 0 0 d M (.ref 6 :: a) w (Ql fun r w1 => w1.1[57]? = some (10, 0) ∧ gx_C 0 0 d M' (.ref 57 :: a) w1 (Ql fun r' w2 => r' = r ∧ Rel w2))

/-! The reader's texts: every part lays one number; lines -/
theorem jn_op : ∀ lv, lv < 5 → ∀ s, tp_jn lv s = true → isOp s = true := by
  intro lv hl s h
  rcases (by omega : lv = 0 ∨ lv = 1 ∨ lv = 2 ∨ lv = 3 ∨ lv = 4) with e | e | e | e | e <;> subst e <;> simp only [tp_jn, Bool.or_eq_true, decide_eq_true_eq] at h
  · subst h; decide
  · subst h; decide
  · rcases h with rfl | rfl | rfl <;> decide
  · rcases h with rfl | rfl <;> decide
  · rcases h with rfl | rfl | rfl <;> decide
theorem tp_nm_lt {s : Int32} (h : ¬ tp_nm s < 0) : 0 ≤ tp_nm s ∧ tp_nm s < 6 := by
  refine ⟨Int32.not_lt.mp h, ?_⟩
  unfold tp_nm
  split
  · decide
  · split
    · decide
    · split
      · decide
      · split
        · decide
        · split
          · decide
          · split <;> decide
def exH (lv op : Nat) : Nat := 1 + 5 * (6 - op) + (5 - lv)
theorem ex_lp {g : Nat → Int32} {T lv h : Nat} {rc : Nat → tpT} (hl : lv < 5) (h0 : 0 < h) (hr : ∀ p, (rc p).1 = true → exS (rc p).2.2 h) : ∀ z p (B : List stS), exS B (h + 1) → (tp_lp g T rc lv z p).1 = true → exS (B ++ (tp_lp g T rc lv z p).2.2) (h + 1) := by
  intro z
  induction z with
  | zero => intro p B hB _; show exS (B ++ []) _; rw [List.append_nil]; exact hB
  | succ z ih =>
    intro p B hB
    by_cases hj : tp_jn lv (tp_h g T p) = true
    · by_cases hc : (rc (p + 1)).1 = true
      · rw [lp_go hj hc]
        intro q
        have h1 := exS_bin h0 (jn_op lv hl _ hj) hB (hr _ hc)
        rw [show max (h + 1) (h + 1) = h + 1 from Nat.max_self _] at h1
        have h2 := ih (rc (p + 1)).2.1 _ h1 q
        rw [List.append_assoc, List.append_assoc] at h2
        exact h2
      · intro q
        have e2 : tp_lp g T rc lv (z + 1) p = (false, (rc (p + 1)).2.1, (rc (p + 1)).2.2) := by
          show (if _ then (if _ then _ else _) else _) = _
          rw [if_pos hj, if_neg hc]
        rw [e2] at q
        cases q
    · intro _
      rw [lp_no (by simpa using hj)]
      show exS (B ++ []) _
      rw [List.append_nil]
      exact hB
theorem ex_j {g : Nat → Int32} {T : Nat} : ∀ f lv op p, lv ≤ 5 → op ≤ 6 → (tp_j g T f lv op p).1 = true → exS (tp_j g T f lv op p).2.2 (exH lv op) := by
  intro f
  induction f with
  | zero => intro lv op p _ _ h; cases h
  | succ f ih =>
    intro lv op p hl ho
    by_cases h5 : 5 ≤ lv
    · rw [j_op h5]
      have e5 : exH lv op = 1 + 5 * (6 - op) := by unfold exH; omega
      rw [e5]
      unfold tp_op
      split
      · intro _; exact (exS_num _).mono (by omega)
      · split
        · rename_i hn
          intro _
          exact (exS_nam (tp_nm_lt hn).1 (tp_nm_lt hn).2).mono (by omega)
        · split
          · rename_i hc
            split
            · unfold tp_br
              split
              · rename_i hr
                intro _
                have h1 := ih 0 (op + 1) (p + 1) (by decide) hc.2 hr.1
                exact h1.mono (by unfold exH; omega)
              · intro h; cases h
            · unfold tp_sg
              split
              · rename_i hr
                intro _
                have h1 := ih 5 (op + 1) (p + 1) (by decide) hc.2 hr
                have h2 : exS (tp_j g T f 5 (op + 1) (p + 1)).2.2 (1 + 5 * (6 - op)) := h1.mono (by unfold exH; omega)
                have ho2 : tp_h g T p = 33 ∨ tp_h g T p = 45 := by
                  have q := hc.1
                  unfold tp_opn at q
                  simp only [Bool.or_eq_true, decide_eq_true_eq] at q
                  rename_i hn
                  rcases q with q | q
                  · exact absurd q (by assumption)
                  · exact q
                rcases ho2 with q | q
                · rw [q]; exact exS_not (by omega) h2
                · rw [q]; exact exS_neg (by omega) h2
              · intro h; cases h
          · intro h; cases h
    · have hl5 : lv < 5 := by omega
      by_cases hr : (tp_j g T f (lv + 1) op p).1 = true
      · rw [j_go hl5 hr]
        intro q
        have h1 := ih (lv + 1) op p (by omega) ho hr
        have e : exH lv op = exH (lv + 1) op + 1 := by unfold exH; omega
        rw [e]
        exact ex_lp hl5 (by unfold exH; omega) (fun p' hp' => ih (lv + 1) op p' (by omega) ho hp') _ _ _ (h1.mono (Nat.le_succ _)) q
      · intro q
        have e2 : tp_j g T (f + 1) lv op p = tp_j g T f (lv + 1) op p := by
          show (if 5 ≤ lv then _ else if _ then _ else _) = _
          rw [if_neg h5, if_neg hr]
        rw [e2] at q
        exact absurd q hr
theorem ex_e {g : Nat → Int32} {T p : Nat} (h : (tp_e g T p).1 = true) : exS (tp_e g T p).2.2 36 := ex_j 42 0 0 p (by decide) (by decide) h
/-- what a row holds that has been written on -/
theorem tp_row_in : ∀ (l : List Int32) (g : Nat → Int32) (m j : Nat) (x : Int32), l[j]? = some x → tp_row g m l (m + j) = x := by
  have out : ∀ (l : List Int32) (g : Nat → Int32) (m j : Nat), j < m → tp_row g m l j = g j := by
    intro l
    induction l with
    | nil => intro g m j _; rfl
    | cons a l ih =>
      intro g m j hj
      show tp_row (va_up g m a) (m + 1) l j = _
      rw [ih _ _ _ (by omega), va_up_row (by omega)]
  intro l
  induction l with
  | nil => intro g m j x h; simp at h
  | cons a l ih =>
    intro g m j x h
    cases j with
    | zero =>
      have e : a = x := by simpa using h
      show tp_row (va_up g m a) (m + 1) l m = x
      rw [out _ _ _ _ (by omega), va_up_at, e]
    | succ j =>
      have := ih (va_up g m a) (m + 1) j x (by simpa using h)
      rw [show m + (j + 1) = m + 1 + j by omega]
      exact this
/-! lines -/
abbrev lnS := List stS × List stS
def lsC : List lnS → List stS
  | [] => []
  | q :: r => (if q.1 = [] then q.2 ++ [(59, 0)] else q.1 ++ (63, 0) :: (q.2 ++ [(59, 0)])) ++ lsC r
def lsR : List lnS → List stS
  | [] => []
  | q :: r => (q.1 ++ q.2) ++ lsR r
def teV : Nat → List lnS → List Nat
  | _, [] => []
  | N, q :: r => (N + q.1.length) :: teV (N + q.1.length + q.2.length) r
def leV : Nat → List lnS → List Nat
  | _, [] => []
  | N, q :: r => (N + q.1.length + q.2.length) :: leV (N + q.1.length + q.2.length) r
def exL (Ls : List lnS) : Prop := ∀ q ∈ Ls, (q.1 = [] ∨ exS q.1 36) ∧ exS q.2 36
theorem hC_app {sg va : Nat → Int32} {i : Nat} {L L' : List stS} (h : hC sg va i (L ++ L')) : hC sg va i L ∧ hC sg va (i + L.length) L' := by
  refine ⟨fun j s hj => h j s ?_, fun j s hj => ?_⟩
  · rw [List.getElem?_append_left (List.getElem?_eq_some_iff.mp hj).1]; exact hj
  · have := h (L.length + j) s (by rw [List.getElem?_append_right (by omega), Nat.add_sub_cancel_left]; exact hj)
    rw [← Nat.add_assoc] at this
    exact this
theorem hR_app {A V : Nat → Int32} {i : Nat} {L L' : List stS} (h : hR A V i (L ++ L')) : hR A V i L ∧ hR A V (i + L.length) L' := by
  refine ⟨fun j s hj => h j s ?_, fun j s hj => ?_⟩
  · rw [List.getElem?_append_left (List.getElem?_eq_some_iff.mp hj).1]; exact hj
  · have := h (L.length + j) s (by rw [List.getElem?_append_right (by omega), Nat.add_sub_cancel_left]; exact hj)
    rw [← Nat.add_assoc] at this
    exact this
theorem ls_ln {sg va A V : Nat → Int32} {te le : Nat → Nat} {N : Nat} : ∀ (Ls : List lnS) (l ci ri : Nat), exL Ls → hC sg va ci (lsC Ls) → hR A V ri (lsR Ls) → (∀ j x, (teV ri Ls)[j]? = some x → te (l + j) = x) → (∀ j x, (leV ri Ls)[j]? = some x → le (l + j) = x) → ri + (lsR Ls).length ≤ 130 → ci + (lsC Ls).length = N → lnR sg va A V te le N Ls.length l ci ri := by
  intro Ls
  induction Ls with
  | nil =>
    intro l ci ri _ _ _ _ _ _ hN
    exact hN
  | cons q r ih =>
    intro l ci ri hE hc hr ht hl hb hN
    obtain ⟨t, b⟩ := q
    obtain ⟨e1, e2⟩ := hE (t, b) List.mem_cons_self
    have hE' : exL r := fun q hq => hE q (List.mem_cons_of_mem _ hq)
    have t0 : te l = ri + t.length := ht 0 _ rfl
    have l0 : le l = ri + t.length + b.length := hl 0 _ rfl
    have ht' : ∀ j x, (teV (ri + t.length + b.length) r)[j]? = some x → te (l + 1 + j) = x := fun j x hj => by
      have := ht (j + 1) x hj
      rw [show l + (j + 1) = l + 1 + j by omega] at this
      exact this
    have hl' : ∀ j x, (leV (ri + t.length + b.length) r)[j]? = some x → le (l + 1 + j) = x := fun j x hj => by
      have := hl (j + 1) x hj
      rw [show l + (j + 1) = l + 1 + j by omega] at this
      exact this
    have hr2 := hR_app (show hR A V ri ((t ++ b) ++ lsR r) from hr)
    have hr3 := hR_app hr2.1
    have hbl : ri + ((t ++ b) ++ lsR r).length ≤ 130 := hb
    simp only [List.length_append] at hbl
    rw [List.length_append] at hr2
    refine ⟨by rw [l0]; omega, ?_⟩
    rcases e1 with e1 | e1
    · have e1 : t = [] := e1
      subst e1
      left
      have hc2 : hC sg va ci ((b ++ [(59, 0)]) ++ lsC r) := hc
      have hN2 : ci + ((b ++ [(59, 0)]) ++ lsC r).length = N := hN
      have hc3 := hC_app hc2
      have hc4 := hC_app hc3.1
      have h59 := (hc4.2 0 (59, 0) rfl).1
      simp only [List.length_append, List.length_cons, List.length_nil] at hN2 hc3
      refine ⟨t0, b, e2, hc4.1, hr3.2, h59, l0, by omega, ?_⟩
      rw [l0]
      refine ih (l + 1) _ _ hE' ?_ ?_ ht' hl' (by simp only [List.length_nil] at hbl ⊢; omega) (by omega)
      · have := hc3.2
        rw [show ci + (b.length + (0 + 1)) = ci + b.length + 1 by omega] at this
        exact this
      · have := hr2.2
        rw [show ri + ((([] : List stS)).length + b.length) = ri + (([] : List stS)).length + b.length by omega] at this
        exact this
    · right
      have ht0 := e1.2.1
      have hne : ¬ t = [] := fun z => by
        have ht0 : 0 < t.length := ht0
        rw [z] at ht0
        exact absurd ht0 (by decide)
      have eC : lsC ((t, b) :: r) = (t ++ (63, 0) :: (b ++ [(59, 0)])) ++ lsC r := by
        show (if t = [] then _ else _) ++ _ = _
        rw [if_neg hne]
      rw [eC] at hc hN
      have hc3 := hC_app hc
      have hc4 := hC_app hc3.1
      have h63 := (hc4.2 0 (63, 0) rfl).1
      have hc5 := hC_app hc4.2.tl
      have h59 := (hc5.2 0 (59, 0) rfl).1
      simp only [List.length_append, List.length_cons, List.length_nil] at hN hc3
      refine ⟨t, b, e1, e2, hc4.1, hr3.1, h63, t0, hc5.1, ?_, h59, ?_, by omega, ?_⟩
      · rw [t0]; exact hr3.2
      · rw [l0, t0]
      · rw [l0]
        refine ih (l + 1) _ _ hE' ?_ ?_ ht' hl' (by omega) (by omega)
        · have := hc3.2
          rw [show ci + (t.length + (b.length + (0 + 1) + 1)) = ci + t.length + 1 + b.length + 1 by omega] at this
          exact this
        · have := hr2.2
          rw [← Nat.add_assoc] at this
          exact this

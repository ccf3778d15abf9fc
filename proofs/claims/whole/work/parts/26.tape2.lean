/-! Tape: the reader -/
abbrev tpT := Bool × Nat × List (Int32 × Int32)
/-- digits: where it stands then, and the number -/
def tp_num (g : Nat → Int32) (T : Nat) : Nat → Nat → Int32 → Nat × Int32
  | 0, p, v => (p, v)
  | z + 1, p, v => if tp_dg (tp_h g T p) = true then tp_num g T z (p + 1) (10 * v + tp_h g T p - 48) else (p, v)
def tp_lp (g : Nat → Int32) (T : Nat) (rc : Nat → tpT) (lv : Nat) : Nat → Nat → tpT
  | 0, p => (true, p, [])
  | z + 1, p => if tp_jn lv (tp_h g T p) = true then (if (rc (p + 1)).1 = true then ((tp_lp g T rc lv z (rc (p + 1)).2.1).1, (tp_lp g T rc lv z (rc (p + 1)).2.1).2.1, (rc (p + 1)).2.2 ++ (tp_h g T p, 0) :: (tp_lp g T rc lv z (rc (p + 1)).2.1).2.2) else (false, (rc (p + 1)).2.1, (rc (p + 1)).2.2)) else (true, p, [])
def tp_opn (s : Int32) : Bool := decide (s = 40) || (decide (s = 33) || decide (s = 45))
def tp_br (g : Nat → Int32) (T : Nat) (r : tpT) : tpT := if r.1 = true ∧ tp_h g T r.2.1 = 41 then (true, r.2.1 + 1, r.2.2) else (false, r.2.1, r.2.2)
def tp_sg (s : Int32) (r : tpT) : tpT := if r.1 = true then (true, r.2.1, r.2.2 ++ [(if s = 45 then 126 else s, 0)]) else (false, r.2.1, r.2.2)
def tp_op (g : Nat → Int32) (T : Nat) (rc : Nat → Nat → Nat → tpT) (op p : Nat) : tpT :=
  if tp_dg (tp_h g T p) = true then (true, (tp_num g T 4 p 0).1, [(48, (tp_num g T 4 p 0).2)])
  else if ¬ tp_nm (tp_h g T p) < 0 then (true, p + 1, [(110, tp_nm (tp_h g T p))])
  else if tp_opn (tp_h g T p) = true ∧ op < 6 then (if tp_h g T p = 40 then tp_br g T (rc 0 (op + 1) (p + 1)) else tp_sg (tp_h g T p) (rc 5 (op + 1) (p + 1)))
  else (false, p, [])
def tp_ap (l : List (Int32 × Int32)) (r : tpT) : tpT := (r.1, r.2.1, l ++ r.2.2)
def tp_j (g : Nat → Int32) (T : Nat) : Nat → Nat → Nat → Nat → tpT
  | 0 => fun _ _ p => (false, p, [])
  | f + 1 => fun lv op p => if 5 ≤ lv then tp_op g T (tp_j g T f) op p else if (tp_j g T f (lv + 1) op p).1 = true then tp_ap (tp_j g T f (lv + 1) op p).2.2 (tp_lp g T (tp_j g T f (lv + 1) op) lv (if lv = 2 then 1 else 120) (tp_j g T f (lv + 1) op p).2.1) else tp_j g T f (lv + 1) op p
theorem tp_lt {g : Nat → Int32} {T p : Nat} (h : ¬ tp_h g T p = -1) : p < T := by
  rcases Nat.lt_or_ge p T with q | q
  · exact q
  · exact absurd (if_neg (by omega)) h
theorem tp_dg_ne {s : Int32} (h : tp_dg s = true) : ¬ s = -1 := by
  intro q
  subst q
  exact absurd h (by decide)
theorem tp_nm_ne {s : Int32} (h : ¬ tp_nm s < 0) : ¬ s = -1 := by
  intro q
  subst q
  exact h (by decide)
theorem tp_jn_ne {lv : Nat} {s : Int32} (h : tp_jn lv s = true) : ¬ s = -1 := by
  intro q
  subst q
  match lv with
  | 0 => exact absurd h (by decide)
  | 1 => exact absurd h (by decide)
  | 2 => exact absurd h (by decide)
  | 3 => exact absurd h (by decide)
  | 4 => exact absurd h (by decide)
  | n + 5 => exact absurd h (by simp [tp_jn])
theorem tp_opn_ne {s : Int32} (h : tp_opn s = true) : ¬ s = -1 := by
  intro q
  subst q
  exact absurd h (by decide)
/-- what a reader may do: go on, and give no more steps than it took letters -/
def tpB (T p : Nat) (r : tpT) : Prop := p + r.2.2.length ≤ r.2.1 ∧ r.2.1 ≤ T
theorem tp_num_b {g : Nat → Int32} {T : Nat} : ∀ z p v, p ≤ T → p ≤ (tp_num g T z p v).1 ∧ (tp_num g T z p v).1 ≤ T := by
  intro z
  induction z with
  | zero => intro p v hp; exact ⟨Nat.le_refl _, hp⟩
  | succ z ih =>
    intro p v hp
    unfold tp_num
    split
    · rename_i hc
      have := tp_lt (tp_dg_ne hc)
      have := ih (p + 1) (10 * v + tp_h g T p - 48) (by omega)
      omega
    · exact ⟨Nat.le_refl _, hp⟩
theorem tp_num_b1 {g : Nat → Int32} {T p : Nat} {v : Int32} (hp : p ≤ T) (hc : tp_dg (tp_h g T p) = true) : p + 1 ≤ (tp_num g T 4 p v).1 ∧ (tp_num g T 4 p v).1 ≤ T := by
  have h1 := tp_lt (tp_dg_ne hc)
  have h2 := tp_num_b (g := g) (T := T) 3 (p + 1) (10 * v + tp_h g T p - 48) (by omega)
  rw [show tp_num g T 4 p v = tp_num g T 3 (p + 1) (10 * v + tp_h g T p - 48) from if_pos hc]
  exact h2
theorem tp_lp_b {g : Nat → Int32} {T lv : Nat} {rc : Nat → tpT} (hr : ∀ p, p ≤ T → tpB T p (rc p)) : ∀ z p, p ≤ T → tpB T p (tp_lp g T rc lv z p) := by
  intro z
  induction z with
  | zero => intro p hp; exact ⟨Nat.le_refl _, hp⟩
  | succ z ih =>
    intro p hp
    unfold tp_lp
    split
    · rename_i hc
      have h1 := tp_lt (tp_jn_ne hc)
      have h2 := hr (p + 1) (by omega)
      unfold tpB at h2
      split
      · have h3 := ih (rc (p + 1)).2.1 h2.2
        unfold tpB at h3
        refine ⟨?_, h3.2⟩
        simp only [List.length_append, List.length_cons]
        omega
      · refine ⟨?_, h2.2⟩
        show p + (rc (p + 1)).2.2.length ≤ (rc (p + 1)).2.1
        omega
    · exact ⟨Nat.le_refl _, hp⟩
theorem tp_op_b {g : Nat → Int32} {T : Nat} {rc : Nat → Nat → Nat → tpT} (hr : ∀ lv op p, p ≤ T → tpB T p (rc lv op p)) (op p : Nat) (hp : p ≤ T) : tpB T p (tp_op g T rc op p) := by
  unfold tp_op
  split
  · rename_i hc
    exact tp_num_b1 hp hc
  · split
    · rename_i hc
      have h1 := tp_lt (tp_nm_ne hc)
      exact ⟨Nat.le_refl _, h1⟩
    · split
      · rename_i hc
        have h1 := tp_lt (tp_opn_ne hc.1)
        split
        · have h2 := hr 0 (op + 1) (p + 1) (by omega)
          unfold tpB at h2
          unfold tp_br
          split
          · rename_i hq
            have h3 := tp_lt (T := T) (g := g) (p := (rc 0 (op + 1) (p + 1)).2.1) (by rw [hq.2]; decide)
            refine ⟨?_, h3⟩
            show p + (rc 0 (op + 1) (p + 1)).2.2.length ≤ (rc 0 (op + 1) (p + 1)).2.1 + 1
            omega
          · refine ⟨?_, h2.2⟩
            show p + (rc 0 (op + 1) (p + 1)).2.2.length ≤ (rc 0 (op + 1) (p + 1)).2.1
            omega
        · have h2 := hr 5 (op + 1) (p + 1) (by omega)
          unfold tpB at h2
          unfold tp_sg
          split
          · refine ⟨?_, h2.2⟩
            simp only [List.length_append, List.length_cons, List.length_nil]
            omega
          · refine ⟨?_, h2.2⟩
            show p + (rc 5 (op + 1) (p + 1)).2.2.length ≤ (rc 5 (op + 1) (p + 1)).2.1
            omega
      · exact ⟨Nat.le_refl _, hp⟩
theorem tp_j_b {g : Nat → Int32} {T : Nat} : ∀ f lv op p, p ≤ T → tpB T p (tp_j g T f lv op p) := by
  intro f
  induction f with
  | zero => intro lv op p hp; exact ⟨Nat.le_refl _, hp⟩
  | succ f ih =>
    intro lv op p hp
    show tpB T p (if 5 ≤ lv then _ else _)
    split
    · exact tp_op_b ih op p hp
    · split
      · have h1 := ih (lv + 1) op p hp
        unfold tpB at h1
        have h2 := tp_lp_b (g := g) (lv := lv) (rc := tp_j g T f (lv + 1) op) (fun p hp => ih (lv + 1) op p hp) (if lv = 2 then 1 else 120) _ h1.2
        unfold tpB at h2
        refine ⟨?_, h2.2⟩
        simp only [tp_ap, List.length_append]
        omega
      · exact ih (lv + 1) op p hp
/-- rows that are written on -/
def tp_row : (Nat → Int32) → Nat → List Int32 → Nat → Int32
  | g, _, [] => g
  | g, m, a :: l => tp_row (va_up g m a) (m + 1) l
theorem tp_row_app (l l' : List Int32) : ∀ (g : Nat → Int32) (m : Nat), tp_row g m (l ++ l') = tp_row (tp_row g m l) (m + l.length) l' := by
  induction l with
  | nil => intro g m; rfl
  | cons n l ih =>
    intro g m
    show tp_row _ (m + 1) (l ++ l') = tp_row (tp_row _ (m + 1) l) _ l'
    rw [ih, List.length_cons, show m + 1 + l.length = m + (l.length + 1) by omega]
/-- from N steps on: the reader stands at p then, and has added L -/
def tpR (w w' : gx_W) (l N p : Nat) (L : List (Int32 × Int32)) : Prop := same [l + 1, l + 2] [(7, 2), (l, 4)] w w' ∧ w_i w' 7 2 = nI p ∧ w_i w' l 4 = nI (N + L.length) ∧ w_a w' (l + 1) = tp_row (w_a w (l + 1)) N (L.map Prod.fst) ∧ w_a w' (l + 2) = tp_row (w_a w (l + 2)) N (L.map Prod.snd)
theorem tpR.tr {w w' w'' : gx_W} {l N p p' : Nat} {L L' : List (Int32 × Int32)} (h : tpR w w' l N p L) (h' : tpR w' w'' l (N + L.length) p' L') : tpR w w'' l N p' (L ++ L') := by
  obtain ⟨a1, a2, a3, a4, a5⟩ := h
  obtain ⟨b1, b2, b3, b4, b5⟩ := h'
  refine ⟨a1.tr b1, b2, ?_, ?_, ?_⟩
  · rw [List.length_append, ← Nat.add_assoc]; exact b3
  · rw [List.map_append, tp_row_app, ← a4, List.length_map]; exact b4
  · rw [List.map_append, tp_row_app, ← a5, List.length_map]; exact b5
theorem tpR.tr' {w w' w'' : gx_W} {l N N' p p' : Nat} {L L' L'' : List (Int32 × Int32)} (h : tpR w w' l N p L) (h' : tpR w' w'' l N' p' L') (e : N' = N + L.length) (eL : L'' = L ++ L') : tpR w w'' l N p' L'' := by
  subst e
  subst eL
  exact h.tr h'
/-- the reader at p, N steps -/
def tpI (w : gx_W) (l T : Nat) (g : Nat → Int32) (p N : Nat) : Prop := tpK w T g ∧ isLw w l (l + 1) (l + 2) (l + 3) (l + 4) ∧ w_i w 7 2 = nI p ∧ p ≤ T ∧ w_i w l 4 = nI N ∧ N ≤ 128 ∧ 27 ≤ l
theorem tpI.rf {w : gx_W} {l T p N : Nat} {g : Nat → Int32} (h : tpI w l T g p N) : tpR w w l N p [] := ⟨same.rf, h.2.2.1, h.2.2.2.2.1, rfl, rfl⟩
theorem tpI.step {w w' : gx_W} {l T p N p' : Nat} {g : Nat → Int32} {L : List (Int32 × Int32)} (h : tpI w l T g p N) (r : tpR w w' l N p' L) (hp : p' ≤ T) (hN : N + L.length ≤ 128) : tpI w' l T g p' (N + L.length) := by
  obtain ⟨⟨k1, k2, k3, k4⟩, h2, h3, h4, h5, h6, h7⟩ := h
  obtain ⟨r1, r2, r3, _, _⟩ := r
  refine ⟨⟨k1.same r1, (r1.2.1 7 1 ?_).trans k2, k3, ?_⟩, h2.same r1, r2, hp, r3, hN, h7⟩
  · simp
  · rw [(r1.2.2.2.1 8 (by simp; omega)).1]; exact k4
theorem tpI.mv {w : gx_W} {l T p N : Nat} {g : Nat → Int32} (h : tpI w l T g p N) : tpR w (s_i w 7 2 (nI (p + 1))) l N (p + 1) [] := by
  have h7 := h.2.2.2.2.2.2
  refine ⟨same.si same.rf (by simp), ?_, ?_, rfl, rfl⟩
  · rw [wi_si, if_pos ⟨rfl, rfl⟩]
  · rw [wi_si, if_neg (by omega)]; exact h.2.2.2.2.1
theorem tpI.up {w : gx_W} {l T p N : Nat} {g : Nat → Int32} (h : tpI w l T g p N) : w_i w 7 2 + 1 = nI (p + 1) := by
  rw [h.2.2.1]
  exact (nI_succ p).symm
theorem c_adds {d l T p N : Nat} {w : gx_W} {g : Nat → Int32} {a b : Int32} {k : gx_W → Prop} (h : tpI w l T g p N) (hN : N < 128) (kk : ∀ w', tpR w w' l N p [(a, b)] → k w') : gx_C 0 0 d mX4_add [.ref l, .int a, .int b] w (Qv k) := by
  have h7 := h.2.2.2.2.2.2
  refine c_X4_add (Nat.zero_le _) h.2.1 h.2.2.2.2.1 (by omega) (by omega) (fun _ => kk _ ⟨?_, ?_, ?_, ?_, ?_⟩) (fun e => absurd e (by omega))
  · exact same.si (same.sa (same.sa same.rf (by simp)) (by simp)) (by simp)
  · rw [wi_si, if_neg (by omega)]; exact h.2.2.1
  · rw [wi_si, if_pos ⟨rfl, rfl⟩]; rfl
  · rw [wa_si, wa_sa, if_neg (by omega), wa_sa, if_pos rfl]; rfl
  · rw [wa_si, wa_sa, if_pos rfl]; rfl

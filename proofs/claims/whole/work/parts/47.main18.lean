/-! CrossroadsChoose: firstWrong -/
theorem thF.I {w w' : gx_W} {n l N : Nat} {f : Nat → Int32} (h : thF w w' n l N f) : thI w w' n l N f (w_a w' 40) (w_a w' 41) (w_a w' 42) (w_i w' 39 4) (w_i w' 39 5) (w_i w' 39 6) := ⟨h.1, h.2.1, h.2.2.1, h.2.2.2, fun _ _ => rfl, fun _ _ => rfl, fun _ _ => rfl, rfl, rfl, rfl⟩
theorem c_meetF {d n l N c : Nat} {w w1 : gx_W} {f : Nat → Int32} {k : Int32 → gx_W → Prop} (hd : 6 ≤ d) (hT : isT w) (h : thF w w1 n l N f) (hco : c < 100) (kk : ∀ w', thF w w' n l N (me_nx N (w_a w (l + 1)) (w_a w (l + 2)) f n c) → k (cr_has N (w_a w (l + 1)) (w_a w (l + 2)) f n c) w') : gx_C 0 0 d mX7_meet [.ref 39, .int (nI c)] w1 (Qi k) := by
  have hn : n ≤ 6 := h.2.2.1.1.1.2.2
  refine c_meetI hd hT h.rows h.I hco (fun e w' I => ?_) (fun t ht e w' I => ?_)
  · rw [e, me_nx_A e] at kk
    exact kk w' I.F
  · rw [e, me_nx_B (by omega) e] at kk
    exact kk w' I.F
def me_ok (N : Nat) (sg va : Nat → Int32) (n : Nat) (C : Nat → Int32) (ln two : Nat) (f : Nat → Int32) : Bool := decide (2 * two + 2 ≤ ln) && isCo (C (2 * two)) && decide (0 ≤ C (2 * two + 1) ∧ C (2 * two + 1) < nI n) && decide (cr_has N sg va f n (C (2 * two)).toNatClampNeg = C (2 * two + 1))
def me_fw (N : Nat) (sg va : Nat → Int32) (n : Nat) (C : Nat → Int32) (ln : Nat) : Nat → Nat → (Nat → Int32) → Int32
  | 0, _, _ => -2
  | z + 1, two, f => if me_ok N sg va n C ln two f = true then me_fw N sg va n C ln z (two + 1) (me_nx N sg va f n (C (2 * two)).toNatClampNeg) else nI two
theorem me_nc {C : Nat → Int32} {two : Nat} (h : isCo (C (2 * two)) = true) : C (2 * two) = nI (C (2 * two)).toNatClampNeg ∧ (C (2 * two)).toNatClampNeg < 100 := isCo_val h

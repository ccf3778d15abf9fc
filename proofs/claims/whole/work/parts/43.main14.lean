/-! CrossroadsChoose: a thought's record, comer by comer; thinkDay -/
abbrev thS : Type := (Nat → Int32) × (Nat → Int32) × (Nat → Int32) × (Nat → Int32) × Int32 × Int32 × Int32
def thJ (w w' : gx_W) (n l N : Nat) (s : thS) : Prop := thI w w' n l N s.1 s.2.1 s.2.2.1 s.2.2.2.1 s.2.2.2.2.1 s.2.2.2.2.2.1 s.2.2.2.2.2.2
def th_B (n t : Nat) (s : thS) : thS := (cr_set s.1 n t, va_up s.2.1 t (s.2.1 t + 1), (if s.2.2.1 t = -2 then va_up s.2.2.1 t s.2.2.2.2.1 else s.2.2.1), (fun j => if j < n then mxI (s.2.2.2.1 j) (cr_set s.1 n t (18 + j)) else s.2.2.2.1 j), s.2.2.2.2.1 + 1, nI t, s.2.2.2.2.2.2 + s.1 (12 + t))
def th_A (s : thS) : thS := (s.1, s.2.1, s.2.2.1, s.2.2.2.1, s.2.2.2.2.1 + 1, -2, s.2.2.2.2.2.2)
def th_go (N : Nat) (sg va : Nat → Int32) (n : Nat) (s : thS) (c : Nat) : thS := if cr_has N sg va s.1 n c < 0 then th_A s else th_B n (cr_has N sg va s.1 n c).toNatClampNeg s
def th_0 (w : gx_W) : thS := (w_a w 38, fun _ => 0, fun _ => -2, fun j => w_a w 38 (18 + j), 0, -2, 0)
theorem c_meetS {d n l N c : Nat} {w w1 : gx_W} {s : thS} {k : Int32 → gx_W → Prop} (hd : 6 ≤ d) (hT : isT w) (h : thJ w w1 n l N s) (hco : c < 100) (kk : ∀ w', thJ w w' n l N (th_go N (w_a w (l + 1)) (w_a w (l + 2)) n s c) → k (cr_has N (w_a w (l + 1)) (w_a w (l + 2)) s.1 n c) w') : gx_C 0 0 d mX7_meet [.ref 39, .int (nI c)] w1 (Qi k) := by
  have hn : n ≤ 6 := h.2.2.1.1.1.2.2
  refine c_meetI hd hT h.rows h hco (fun e w' I => ?_) (fun t ht e w' I => ?_)
  · rw [e] at kk
    refine kk w' ?_
    unfold th_go
    rw [e, if_pos (by decide)]
    exact I
  · rw [e] at kk
    refine kk w' ?_
    unfold th_go
    rw [e, if_neg (nI_pos (by omega)), nI_n (by omega)]
    exact I
theorem c_beginS {d n l N : Nat} {w : gx_W} {k : gx_W → Prop} (hd : 2 ≤ d) (h : thO w) (h43 : isCr w 43 44) (hc : isCk w 37 38 n l N) (kk : ∀ w', thJ w w' n l N (th_0 w) → k w') : gx_C 0 0 d mX7_begin [.ref 39, .ref 37] w (Qv k) := c_beginI hd h h43 hc (fun w' I => kk w' I)
/-- the comers C 0, C 1, .. -/
def th_day (N : Nat) (sg va : Nat → Int32) (n : Nat) (C : Nat → Nat) : Nat → thS → thS
  | 0, s => s
  | i + 1, s => th_go N sg va n (th_day N sg va n C i s) (C i)

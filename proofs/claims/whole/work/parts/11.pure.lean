/-! small numbers, worlds that agree but for some rows -/
theorem pI_bmod {x : Int} (h1 : -2147483648 ≤ x) (h2 : x < 2147483648) : x.bmod (2 ^ 32) = x := by
  unfold Int.bmod
  have e : ((2 ^ 32 : Nat) : Int) = 4294967296 := by decide
  rw [e]
  simp only []
  omega
theorem pI_add {a b : Int32} (h1 : -2147483648 ≤ a.toInt + b.toInt) (h2 : a.toInt + b.toInt < 2147483648) : (a + b).toInt = a.toInt + b.toInt := by
  rw [Int32.toInt_add]; exact pI_bmod h1 h2
theorem pI_sub {a b : Int32} (h1 : -2147483648 ≤ a.toInt - b.toInt) (h2 : a.toInt - b.toInt < 2147483648) : (a - b).toInt = a.toInt - b.toInt := by
  rw [Int32.toInt_sub]; exact pI_bmod h1 h2
theorem pI_mul {a b : Int32} (h1 : -2147483648 ≤ a.toInt * b.toInt) (h2 : a.toInt * b.toInt < 2147483648) : (a * b).toInt = a.toInt * b.toInt := by
  rw [Int32.toInt_mul]; exact pI_bmod h1 h2
theorem pI_neg {a : Int32} (h1 : -2147483648 < a.toInt) : (-a).toInt = -a.toInt := by
  rw [Int32.toInt_neg]
  have := Int32.toInt_lt a
  exact pI_bmod (by omega) (by omega)
theorem pI_lt {a b : Int32} : a < b ↔ a.toInt < b.toInt := Int32.lt_iff_toInt_lt
theorem pI_le {a b : Int32} : a ≤ b ↔ a.toInt ≤ b.toInt := Int32.le_iff_toInt_le
theorem pI_gt {a b : Int32} : a > b ↔ b.toInt < a.toInt := Int32.lt_iff_toInt_lt
theorem pI_ge {a b : Int32} : a ≥ b ↔ b.toInt ≤ a.toInt := Int32.le_iff_toInt_le
theorem pI_eq {a b : Int32} : a = b ↔ a.toInt = b.toInt := Int32.toInt_inj.symm
theorem pI_b (a : Int32) : -2147483648 ≤ a.toInt ∧ a.toInt < 2147483648 := by
  have h1 := Int32.le_toInt a
  have h2 := Int32.toInt_lt a
  omega
theorem pI_nat {i : Int32} (h : 0 ≤ i.toInt) : i = nI i.toInt.toNat := by
  rw [pI_eq, nI_toInt (by have := pI_b i; omega)]
  omega
theorem pI_ex {i : Int32} {n : Nat} (h0 : ¬ i < 0) (h1 : i.toInt < n) : ∃ m, m < n ∧ i = nI m := by
  have h : 0 ≤ i.toInt := by
    rw [pI_lt] at h0
    simpa using h0
  exact ⟨i.toInt.toNat, by omega, pI_nat h⟩
theorem pI_inj {a b : Nat} (ha : a < 2 ^ 31) (hb : b < 2 ^ 31) (h : nI a = nI b) : a = b := by
  have := congrArg Int32.toInt h
  rw [nI_toInt ha, nI_toInt hb] at this
  omega
/-- worlds that agree but for the rows R and the int fields F -/
def same (R : List Nat) (F : List (Nat × Nat)) (w w' : gx_W) : Prop := w'.1 = w.1 ∧ (∀ k j, (k, j) ∉ F → w_i w' k j = w_i w k j) ∧ w_r w' = w_r w ∧ (∀ k, k ∉ R → w_a w' k = w_a w k ∧ w_l w' k = w_l w k) ∧ w_q w' = w_q w
theorem same.rf {R : List Nat} {F : List (Nat × Nat)} {w : gx_W} : same R F w w := ⟨rfl, fun _ _ _ => rfl, rfl, fun _ _ => ⟨rfl, rfl⟩, rfl⟩
theorem same.tr {R : List Nat} {F : List (Nat × Nat)} {w w' w'' : gx_W} (h : same R F w w') (h' : same R F w' w'') : same R F w w'' :=
  ⟨h'.1.trans h.1, fun k j q => (h'.2.1 k j q).trans (h.2.1 k j q), h'.2.2.1.trans h.2.2.1, fun k q => ⟨(h'.2.2.2.1 k q).1.trans (h.2.2.2.1 k q).1, (h'.2.2.2.1 k q).2.trans (h.2.2.2.1 k q).2⟩, h'.2.2.2.2.trans h.2.2.2.2⟩
theorem same.wk {R R' : List Nat} {F F' : List (Nat × Nat)} {w w' : gx_W} (h : same R F w w') (hR : ∀ k, k ∈ R → k ∈ R') (hF : ∀ q, q ∈ F → q ∈ F') : same R' F' w w' :=
  ⟨h.1, fun k j q => h.2.1 k j (fun z => q (hF _ z)), h.2.2.1, fun k q => h.2.2.2.1 k (fun z => q (hR _ z)), h.2.2.2.2⟩
theorem same.si {R : List Nat} {F : List (Nat × Nat)} {w w' : gx_W} {k j : Nat} {v : Int32} (h : same R F w w') (hm : (k, j) ∈ F) : same R F w (s_i w' k j v) := by
  refine ⟨h.1, fun k' j' q => ?_, h.2.2.1, h.2.2.2.1, h.2.2.2.2⟩
  show va_up w'.2.1 k (va_up (w'.2.1 k) j v) k' j' = _
  by_cases e : k' = k
  · subst e
    have z : j' ≠ j := fun z => q (by rw [z]; exact hm)
    rw [va_up_at, va_up_row z]
    exact h.2.1 k' j' q
  · rw [va_up_row e]
    exact h.2.1 k' j' q
theorem same.sa {R : List Nat} {F : List (Nat × Nat)} {w w' : gx_W} {k : Nat} {f : Nat → Int32} (h : same R F w w') (hm : k ∈ R) : same R F w (s_a w' k f) := by
  refine ⟨h.1, h.2.1, h.2.2.1, fun k' q => ⟨?_, (h.2.2.2.1 k' q).2⟩, h.2.2.2.2⟩
  have z : k' ≠ k := fun z => q (by rw [z]; exact hm)
  show va_up w'.2.2.2.1 k f k' = _
  rw [va_up_row z]
  exact (h.2.2.2.1 k' q).1
theorem same.sl {R : List Nat} {F : List (Nat × Nat)} {w w' : gx_W} {k : Nat} {f : Nat → Int64} (h : same R F w w') (hm : k ∈ R) : same R F w (s_l w' k f) := by
  refine ⟨h.1, h.2.1, h.2.2.1, fun k' q => ⟨(h.2.2.2.1 k' q).1, ?_⟩, h.2.2.2.2⟩
  have z : k' ≠ k := fun z => q (by rw [z]; exact hm)
  show va_up w'.2.2.2.2.1 k f k' = _
  rw [va_up_row z]
  exact (h.2.2.2.1 k' q).2
/-! what a store leaves -/
theorem wi_si {w : gx_W} {k j : Nat} {v : Int32} (k' j' : Nat) : w_i (s_i w k j v) k' j' = if k' = k ∧ j' = j then v else w_i w k' j' := by
  show va_up w.2.1 k (va_up (w.2.1 k) j v) k' j' = _
  by_cases e : k' = k
  · subst e
    rw [va_up_at]
    by_cases e2 : j' = j
    · subst e2; rw [va_up_at, if_pos ⟨rfl, rfl⟩]
    · rw [va_up_row e2, if_neg (fun z => e2 z.2)]; rfl
  · rw [va_up_row e, if_neg (fun z => e z.1)]; rfl
theorem wa_sa {w : gx_W} {k : Nat} {f : Nat → Int32} (k' : Nat) : w_a (s_a w k f) k' = if k' = k then f else w_a w k' := rfl
theorem wl_sl {w : gx_W} {k : Nat} {f : Nat → Int64} (k' : Nat) : w_l (s_l w k f) k' = if k' = k then f else w_l w k' := rfl
theorem wi_sa {w : gx_W} {k : Nat} {f : Nat → Int32} : w_i (s_a w k f) = w_i w := rfl
theorem wi_sl {w : gx_W} {k : Nat} {f : Nat → Int64} : w_i (s_l w k f) = w_i w := rfl
theorem wr_si {w : gx_W} {k j : Nat} {v : Int32} : w_r (s_i w k j v) = w_r w := rfl
theorem wr_sa {w : gx_W} {k : Nat} {f : Nat → Int32} : w_r (s_a w k f) = w_r w := rfl
theorem wr_sl {w : gx_W} {k : Nat} {f : Nat → Int64} : w_r (s_l w k f) = w_r w := rfl
theorem wa_si {w : gx_W} {k j : Nat} {v : Int32} : w_a (s_i w k j v) = w_a w := rfl
theorem wa_sl {w : gx_W} {k : Nat} {f : Nat → Int64} : w_a (s_l w k f) = w_a w := rfl
theorem wl_si {w : gx_W} {k j : Nat} {v : Int32} : w_l (s_i w k j v) = w_l w := rfl
theorem wl_sa {w : gx_W} {k : Nat} {f : Nat → Int32} : w_l (s_a w k f) = w_l w := rfl
theorem wq_si {w : gx_W} {k j : Nat} {v : Int32} : w_q (s_i w k j v) = w_q w := rfl
theorem wq_sa {w : gx_W} {k : Nat} {f : Nat → Int32} : w_q (s_a w k f) = w_q w := rfl
theorem wq_sl {w : gx_W} {k : Nat} {f : Nat → Int64} : w_q (s_l w k f) = w_q w := rfl
theorem ws_si {w : gx_W} {k j : Nat} {v : Int32} : (s_i w k j v).1 = w.1 := rfl
theorem ws_sa {w : gx_W} {k : Nat} {f : Nat → Int32} : (s_a w k f).1 = w.1 := rfl
theorem ws_sl {w : gx_W} {k : Nat} {f : Nat → Int64} : (s_l w k f).1 = w.1 := rfl
theorem up_at {α : Type} {f : Nat → α} {k : Nat} {v : α} (j : Nat) : va_up f k v j = if j = k then v else f j := rfl
theorem nI_n {n : Nat} (h : n < 2 ^ 31) : (nI n).toNatClampNeg = n := nI_clamp h
/-- an int that is told by its value -/
theorem pI_lit {i : Int32} {n : Nat} (h : i.toInt = n) : i = nI n := by
  rw [pI_eq, h]
  have := pI_b i
  rw [nI_toInt (by omega)]
/-- the law of rows of the given arrays -/
def isT (w : gx_W) : Prop := ∀ k, 1 ≤ k → k < 6 → w.1[k]? = some (30, (gx_tab k).length) ∧ w_a w k = fun j => (gx_tab k).getD j 0
theorem isT.same {R : List Nat} {F : List (Nat × Nat)} {w w' : gx_W} (h : isT w) (hs : same R F w w') (hR : ∀ k, k ∈ R → 6 ≤ k) : isT w' := fun k h1 h2 => by
  have h3 := h k h1 h2
  exact ⟨by rw [hs.1]; exact h3.1, by rw [(hs.2.2.2.1 k (fun z => by have := hR k z; omega)).1]; exact h3.2⟩

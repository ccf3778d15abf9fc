/-! the law's own walk -/
theorem law_holds (Ls : Nat) (xs : Nat → Int32) (hL : Ls ≤ 3072) : gx_G 100000 1000000 800 mL_law (fun r _ => r = some (.int 1)) 0 (gx_in [.ref 0] 4) [] (gx_w0 Ls xs) := by
  sorry

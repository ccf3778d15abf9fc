/-! class and reference stand alike at the start -/
theorem s_T {Ls : Nat} {xs : Nat → Int32} : isT (y181 Ls xs) := by
  intro k h1 h2
  have q : k = 1 ∨ k = 2 ∨ k = 3 ∨ k = 4 ∨ k = 5 := by omega
  rcases q with q | q | q | q | q <;> subst q
  · exact ⟨(y_at yk181 (r := 0) (c := (30, (gx_tab 1).length)) (by decide +kernel)), ya_1⟩
  · exact ⟨(y_at yk181 (r := 1) (c := (30, (gx_tab 2).length)) (by decide +kernel)), ya_2⟩
  · exact ⟨(y_at yk181 (r := 2) (c := (30, (gx_tab 3).length)) (by decide +kernel)), ya_3⟩
  · exact ⟨(y_at yk181 (r := 3) (c := (30, (gx_tab 4).length)) (by decide +kernel)), ya_4⟩
  · exact ⟨(y_at yk181 (r := 4) (c := (30, (gx_tab 5).length)) (by decide +kernel)), ya_5⟩
theorem s_sh {Ls : Nat} {xs : Nat → Int32} : shR (y181 Ls xs) := by
  refine ⟨(y_at yk181 (r := 19) (c := (24, 6)) (by decide +kernel)), fun i hi => ?_, fun i hi => ?_⟩
  · rw [yq_20]
    have q : i = 0 ∨ i = 1 ∨ i = 2 ∨ i = 3 ∨ i = 4 ∨ i = 5 := by omega
    rcases q with q | q | q | q | q | q <;> subst q <;> rfl
  · have q : i = 0 ∨ i = 1 ∨ i = 2 ∨ i = 3 ∨ i = 4 ∨ i = 5 := by omega
    rcases q with q | q | q | q | q | q <;> subst q
    · exact ⟨(y_at yk181 (r := 44) (c := (5, 0)) (by decide +kernel)), yr_45_0, (y_at yk181 (r := 45) (c := (23, 60)) (by decide +kernel))⟩
    · exact ⟨(y_at yk181 (r := 46) (c := (5, 0)) (by decide +kernel)), yr_47_0, (y_at yk181 (r := 47) (c := (23, 60)) (by decide +kernel))⟩
    · exact ⟨(y_at yk181 (r := 48) (c := (5, 0)) (by decide +kernel)), yr_49_0, (y_at yk181 (r := 49) (c := (23, 60)) (by decide +kernel))⟩
    · exact ⟨(y_at yk181 (r := 50) (c := (5, 0)) (by decide +kernel)), yr_51_0, (y_at yk181 (r := 51) (c := (23, 60)) (by decide +kernel))⟩
    · exact ⟨(y_at yk181 (r := 52) (c := (5, 0)) (by decide +kernel)), yr_53_0, (y_at yk181 (r := 53) (c := (23, 60)) (by decide +kernel))⟩
    · exact ⟨(y_at yk181 (r := 54) (c := (5, 0)) (by decide +kernel)), yr_55_0, (y_at yk181 (r := 55) (c := (23, 60)) (by decide +kernel))⟩
theorem s_cl {Ls : Nat} {xs : Nat → Int32} : clO (y181 Ls xs) := by
  refine ⟨(y_at yk181 (r := 5) (c := (9, 0)) (by decide +kernel)), ⟨yr_6_0, yr_6_1, yr_6_2, yr_6_3, yr_6_4, yr_6_5⟩, ⟨yr_6_6, s_sh⟩, ⟨yr_6_7, (y_at yk181 (r := 20) (c := (20, 5)) (by decide +kernel))⟩, ⟨yr_6_8, (y_at yk181 (r := 21) (c := (20, 3)) (by decide +kernel))⟩, ⟨yr_6_9, (y_at yk181 (r := 22) (c := (25, 3)) (by decide +kernel)), fun i hi => ?_, fun i hi => ?_⟩, (y_at yk181 (r := 13) (c := (3, 0)) (by decide +kernel)), ⟨yr_14_0, (y_at yk181 (r := 14) (c := (20, 6)) (by decide +kernel))⟩, ⟨yr_14_1, (y_at yk181 (r := 15) (c := (20, 5)) (by decide +kernel))⟩⟩
  · rw [yq_23]
    show (if i < 3 then some (23 + 1 + i) else none) = _
    rw [if_pos hi]
  · have q : i = 0 ∨ i = 1 ∨ i = 2 := by omega
    rcases q with q | q | q <;> subst q
    · exact (y_at yk181 (r := 23) (c := (20, 6)) (by decide +kernel))
    · exact (y_at yk181 (r := 24) (c := (20, 6)) (by decide +kernel))
    · exact (y_at yk181 (r := 25) (c := (20, 6)) (by decide +kernel))
theorem s_ch {Ls : Nat} {xs : Nat → Int32} : chO (y181 Ls xs) := ⟨(y_at yk181 (r := 8) (c := (1, 0)) (by decide +kernel)), ⟨yr_9_0, (y_at yk181 (r := 9) (c := (20, 40)) (by decide +kernel))⟩, ⟨yr_9_1, (y_at yk181 (r := 10) (c := (20, 40)) (by decide +kernel))⟩, ⟨yr_9_2, (y_at yk181 (r := 11) (c := (20, 40)) (by decide +kernel))⟩, ⟨yr_9_3, (y_at yk181 (r := 12) (c := (20, 40)) (by decide +kernel))⟩⟩
theorem s_bo {Ls : Nat} {xs : Nat → Int32} : boO (y181 Ls xs) := ⟨(y_at yk181 (r := 16) (c := (0, 0)) (by decide +kernel)), ⟨yr_17_0, (y_at yk181 (r := 17) (c := (20, 50)) (by decide +kernel))⟩, ⟨yr_17_1, (y_at yk181 (r := 18) (c := (20, 24)) (by decide +kernel))⟩⟩
theorem s_tp {Ls : Nat} {xs : Nat → Int32} : tpO (y181 Ls xs) := ⟨(y_at yk181 (r := 6) (c := (6, 0)) (by decide +kernel)), yr_7_0, (y_at yk181 (r := 7) (c := (20, 120)) (by decide +kernel))⟩
theorem s_th {Ls : Nat} {xs : Nat → Int32} : thO (y181 Ls xs) := ⟨(y_at yk181 (r := 38) (c := (7, 0)) (by decide +kernel)), yr_39_0, ⟨yr_39_1, (y_at yk181 (r := 39) (c := (20, 6)) (by decide +kernel))⟩, ⟨yr_39_2, (y_at yk181 (r := 40) (c := (20, 6)) (by decide +kernel))⟩, ⟨yr_39_3, (y_at yk181 (r := 41) (c := (20, 6)) (by decide +kernel))⟩⟩
theorem mo_c {w : gx_W} {a : Nat × Nat × Nat × Nat} {L : List (Nat × Nat × Nat × Nat)} (h : w_r w 57 a.1 = some a.2.1 ∧ w.1[a.2.1]? = some (a.2.2.1, a.2.2.2)) (k : ∀ q ∈ L, w_r w 57 q.1 = some q.2.1 ∧ w.1[q.2.1]? = some (q.2.2.1, q.2.2.2)) : ∀ q ∈ a :: L, w_r w 57 q.1 = some q.2.1 ∧ w.1[q.2.1]? = some (q.2.2.1, q.2.2.2) := by
  intro q hq
  rcases List.mem_cons.mp hq with e | e
  · subst e; exact h
  · exact k q e
theorem s_mo {Ls : Nat} {xs : Nat → Int32} : moO (y181 Ls xs) := ⟨(y_at yk181 (r := 56) (c := (10, 0)) (by decide +kernel)), (mo_c ⟨yr_57_2, (y_at yk181 (r := 57) (c := (20, 6)) (by decide +kernel))⟩ (mo_c ⟨yr_57_3, (y_at yk181 (r := 58) (c := (20, 6)) (by decide +kernel))⟩ (mo_c ⟨yr_57_4, (y_at yk181 (r := 59) (c := (20, 6)) (by decide +kernel))⟩ (mo_c ⟨yr_57_5, (y_at yk181 (r := 60) (c := (20, 6)) (by decide +kernel))⟩ (mo_c ⟨yr_57_6, (y_at yk181 (r := 61) (c := (20, 4)) (by decide +kernel))⟩ (mo_c ⟨yr_57_9, (y_at yk181 (r := 62) (c := (20, 40)) (by decide +kernel))⟩ (mo_c ⟨yr_57_10, (y_at yk181 (r := 63) (c := (20, 40)) (by decide +kernel))⟩ (mo_c ⟨yr_57_11, (y_at yk181 (r := 64) (c := (20, 40)) (by decide +kernel))⟩ (mo_c ⟨yr_57_12, (y_at yk181 (r := 65) (c := (20, 40)) (by decide +kernel))⟩ (mo_c ⟨yr_57_13, (y_at yk181 (r := 66) (c := (21, 120)) (by decide +kernel))⟩ (mo_c ⟨yr_57_19, (y_at yk181 (r := 67) (c := (21, 260)) (by decide +kernel))⟩ (mo_c ⟨yr_57_20, (y_at yk181 (r := 68) (c := (20, 260)) (by decide +kernel))⟩ (mo_c ⟨yr_57_21, (y_at yk181 (r := 69) (c := (20, 2)) (by decide +kernel))⟩ (mo_c ⟨yr_57_22, (y_at yk181 (r := 70) (c := (22, 122)) (by decide +kernel))⟩ (mo_c ⟨yr_57_23, (y_at yk181 (r := 71) (c := (22, 122)) (by decide +kernel))⟩ (mo_c ⟨yr_57_24, (y_at yk181 (r := 72) (c := (20, 6)) (by decide +kernel))⟩ (mo_c ⟨yr_57_25, (y_at yk181 (r := 73) (c := (20, 130)) (by decide +kernel))⟩ (mo_c ⟨yr_57_27, (y_at yk181 (r := 74) (c := (20, 6)) (by decide +kernel))⟩ (mo_c ⟨yr_57_28, (y_at yk181 (r := 75) (c := (20, 6)) (by decide +kernel))⟩ (mo_c ⟨yr_57_29, (y_at yk181 (r := 76) (c := (20, 6)) (by decide +kernel))⟩ (mo_c ⟨yr_57_30, (y_at yk181 (r := 77) (c := (20, 6)) (by decide +kernel))⟩ (mo_c ⟨yr_57_32, (y_at yk181 (r := 78) (c := (20, 24)) (by decide +kernel))⟩ (mo_c ⟨yr_57_33, (y_at yk181 (r := 79) (c := (20, 3)) (by decide +kernel))⟩ (mo_c ⟨yr_57_34, (y_at yk181 (r := 80) (c := (20, 6)) (by decide +kernel))⟩ (mo_c ⟨yr_57_36, (y_at yk181 (r := 81) (c := (20, 4)) (by decide +kernel))⟩ (mo_c ⟨yr_57_41, (y_at yk181 (r := 82) (c := (20, 6)) (by decide +kernel))⟩ (mo_c ⟨yr_57_42, (y_at yk181 (r := 83) (c := (20, 4)) (by decide +kernel))⟩ (mo_c ⟨yr_57_44, (y_at yk181 (r := 84) (c := (20, 50)) (by decide +kernel))⟩ (mo_c ⟨yr_57_46, (y_at yk181 (r := 85) (c := (20, 24)) (by decide +kernel))⟩ (mo_c ⟨yr_57_47, (y_at yk181 (r := 86) (c := (20, 6)) (by decide +kernel))⟩ (mo_c ⟨yr_57_48, (y_at yk181 (r := 87) (c := (20, 6)) (by decide +kernel))⟩ (mo_c ⟨yr_57_49, (y_at yk181 (r := 88) (c := (23, 360)) (by decide +kernel))⟩ (mo_c ⟨yr_57_50, (y_at yk181 (r := 89) (c := (23, 60)) (by decide +kernel))⟩ (fun q hq => absurd hq List.not_mem_nil))))))))))))))))))))))))))))))))))⟩
theorem s_n {Ls : Nat} {xs : Nat → Int32} : isCr (y181 Ls xs) 37 38 := ⟨(y_at yk181 (r := 36) (c := (2, 0)) (by decide +kernel)), yr_37_0, (y_at yk181 (r := 37) (c := (20, 28)) (by decide +kernel))⟩
theorem s_x {Ls : Nat} {xs : Nat → Int32} : isCr (y181 Ls xs) 43 44 := ⟨(y_at yk181 (r := 42) (c := (2, 0)) (by decide +kernel)), yr_43_0, (y_at yk181 (r := 43) (c := (20, 28)) (by decide +kernel))⟩
theorem s_k1 {Ls : Nat} {xs : Nat → Int32} : isLw (y181 Ls xs) 27 28 29 30 31 := ⟨(y_at yk181 (r := 26) (c := (4, 0)) (by decide +kernel)), ⟨yr_27_0, (y_at yk181 (r := 27) (c := (20, 128)) (by decide +kernel))⟩, ⟨yr_27_1, (y_at yk181 (r := 28) (c := (20, 128)) (by decide +kernel))⟩, ⟨yr_27_2, (y_at yk181 (r := 29) (c := (20, 64)) (by decide +kernel))⟩, ⟨yr_27_3, (y_at yk181 (r := 30) (c := (20, 6)) (by decide +kernel))⟩⟩
theorem s_k2 {Ls : Nat} {xs : Nat → Int32} : isLw (y181 Ls xs) 32 33 34 35 36 := ⟨(y_at yk181 (r := 31) (c := (4, 0)) (by decide +kernel)), ⟨yr_32_0, (y_at yk181 (r := 32) (c := (20, 128)) (by decide +kernel))⟩, ⟨yr_32_1, (y_at yk181 (r := 33) (c := (20, 128)) (by decide +kernel))⟩, ⟨yr_32_2, (y_at yk181 (r := 34) (c := (20, 64)) (by decide +kernel))⟩, ⟨yr_32_3, (y_at yk181 (r := 35) (c := (20, 6)) (by decide +kernel))⟩⟩
theorem s_rI {Ls : Nat} {xs : Nat → Int32} : ∀ p, p < 28 → rI (w_a (y181 Ls xs) 38 p) := by
  rw [ya_38]
  unfold rI
  decide
theorem rel_start (Ls : Nat) (xs : Nat → Int32) : Rel (y181 Ls xs) := by
  refine ⟨0, 32, 0, 0, w_a (y181 Ls xs) 8, 0, 0, 0, 0, fun _ => 0, 0, ⟨s_T, s_cl, s_ch, s_bo, s_tp, s_th, s_mo, s_n, s_x, s_k1, s_k2⟩, ⟨Or.inr rfl, yr_37_2, yr_6_10, yi_32_4, by decide, ⟨fun _ => yi_57_26, fun h => absurd h (by decide)⟩⟩, ⟨yi_37_1, ⟨⟨yi_57_1, by decide, fun j hj => absurd hj (Nat.not_lt_zero _), fun j hj => absurd hj (Nat.not_lt_zero _), fun j hj => absurd hj (Nat.not_lt_zero _), fun j hj => ?_⟩, fun j hj => absurd hj (Nat.not_lt_zero _)⟩, s_rI⟩, ⟨yi_7_1, rfl, yi_57_14, by decide, fun j hj => absurd hj (Nat.not_lt_zero _)⟩, ⟨yi_9_4, yi_9_5, Nat.le_refl _, by decide, yi_57_7, yi_57_8, fun j hj => absurd hj (Nat.not_lt_zero _), fun j hj => absurd hj (Nat.not_lt_zero _), fun j hj => absurd hj (Nat.not_lt_zero _)⟩, ⟨yi_17_2, by decide, yi_57_43, fun j hj => absurd hj (Nat.not_lt_zero _), yi_17_3, yi_57_45, by decide, fun j hj => absurd hj (Nat.not_lt_zero _)⟩, ⟨fun i hi => ?_, fun i hi => Or.inl ⟨?_, ?_⟩⟩, ⟨fun j hj => ?_, ?_⟩, ⟨Nat.le_refl _, yi_14_3, yi_57_39, yi_14_2.trans yi_57_38.symm, fun j hj => absurd hj (Nat.not_lt_zero _), fun j hj => ?_, ?_⟩⟩
  · rw [ya_62, ya_38]
    have q : j = 0 ∨ j = 1 ∨ j = 2 ∨ j = 3 := by omega
    rcases q with q | q | q | q <;> subst q <;> decide
  · have q : i = 0 ∨ i = 1 ∨ i = 2 ∨ i = 3 ∨ i = 4 ∨ i = 5 := by omega
    rcases q with q | q | q | q | q | q <;> subst q
    · exact ⟨yi_45_4, by decide⟩
    · exact ⟨yi_47_4, by decide⟩
    · exact ⟨yi_49_4, by decide⟩
    · exact ⟨yi_51_4, by decide⟩
    · exact ⟨yi_53_4, by decide⟩
    · exact ⟨yi_55_4, by decide⟩
  · have q : i = 0 ∨ i = 1 ∨ i = 2 ∨ i = 3 ∨ i = 4 ∨ i = 5 := by omega
    rcases q with q | q | q | q | q | q <;> subst q
    · exact yi_45_1
    · exact yi_47_1
    · exact yi_49_1
    · exact yi_51_1
    · exact yi_53_1
    · exact yi_55_1
  · rw [ya_87]
    have q : i = 0 ∨ i = 1 ∨ i = 2 ∨ i = 3 ∨ i = 4 ∨ i = 5 := by omega
    rcases q with q | q | q | q | q | q <;> subst q <;> decide
  · rw [ya_21, ya_82, va_up_row (by omega)]
  · rw [ya_21, yi_57_37, va_up_at]
  · rw [ya_16, ya_84]
  · rw [ya_16, yi_57_40]
theorem start_0 (Ls : Nat) (xs : Nat → Int32) : (y181 Ls xs).1[0]? = some (30, Ls) := by rw [yk181]; rfl

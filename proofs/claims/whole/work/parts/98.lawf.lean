/-! the law: its loop -/
theorem lw_sub {i Ls : Nat} (hL : Ls ≤ 3072) (hi : i ≤ 4000) : (nI Ls - 6 < nI i → Ls < i + 6) ∧ (¬ nI Ls - 6 < nI i → i + 6 ≤ Ls) := by
  have e6 : (6 : Int32).toInt = 6 := by decide
  have e : (nI Ls - 6).toInt = (Ls : Int) - 6 := by
    rw [pI_sub (by rw [nI_toInt (by omega), e6]; omega) (by rw [nI_toInt (by omega), e6]; omega), nI_toInt (by omega), e6]
  rw [pI_lt, e, nI_toInt (by omega)]
  omega
theorem lw_6 (i : Nat) : nI i + Int32.ofInt 6 = nI (i + 6) := nI_add i 6
set_option maxHeartbeats 4000000 in
theorem law_loop {nc ns d Ls : Nat} (hd : 141 ≤ d) (hL : Ls ≤ 3072) : ∀ (z i : Nat) (w : gx_W), Ls ≤ i + 6 * z → i ≤ Ls + 6 → Rel w → w.1[0]? = some (30, Ls) → gx_G nc ns d mL_law (fun r _ => r = some (.int 1)) 18 [.ref 0, .ref 6, .ref 57, .int (nI i)] [] w := by
  intro z
  induction z with
  | zero =>
    intro i w h1 h2 R0 hs0
    refine g_iload_n dL_law_18 rfl ?_
    refine g_aload_n dL_law_19 rfl ?_
    refine g_rlen dL_law_20 (by decide) hs0 ?_
    refine g_bipush (v := 6) dL_law_21 rfl ?_
    refine g_isub dL_law_23 ?_
    rw [show Int32.ofNat Ls - 6 = nI Ls - 6 from rfl]
    refine g_icmp_gt (tgt := 1584) dL_law_24 (by decide) (fun zc24 => ?_) (fun zc24 => ?_)
    · refine g_iconst (v := 1) dL_law_1584 rfl ?_
      exact g_zret dL_law_1585 rfl (Or.inr rfl) rfl
    · exact absurd ((lw_sub hL (by omega)).2 zc24) (by omega)
  | succ z ih =>
    intro i w h1 h2 R0 hs0
    refine g_iload_n dL_law_18 rfl ?_
    refine g_aload_n dL_law_19 rfl ?_
    refine g_rlen dL_law_20 (by decide) hs0 ?_
    refine g_bipush (v := 6) dL_law_21 rfl ?_
    refine g_isub dL_law_23 ?_
    rw [show Int32.ofNat Ls - 6 = nI Ls - 6 from rfl]
    refine g_icmp_gt (tgt := 1584) dL_law_24 (by decide) (fun zc24 => ?_) (fun zc24 => ?_)
    · refine g_iconst (v := 1) dL_law_1584 rfl ?_
      exact g_zret dL_law_1585 rfl (Or.inr rfl) rfl
    · have hi6 := (lw_sub hL (by omega)).2 zc24
      have kk : ∀ w2, Rel w2 → kp w w2 → gx_G nc ns d mL_law (fun r _ => r = some (.int 1)) 1578 [.ref 0, .ref 6, .ref 57, .int (nI i)] [] w2 := fun w2 R2 k2 => by
        refine g_iinc dL_law_1578 rfl rfl ?_
        refine g_goto (tgt := 18) dL_law_1581 (by decide) ?_
        rw [lw_6]
        exact ih (i + 6) w2 (by omega) (by omega) R2 ((k2 0 (by decide)).1.trans hs0)
      refine g_aload_n dL_law_27 rfl ?_
      refine g_iload_n dL_law_28 rfl ?_
      refine g_rald dL_law_29 (by decide) hs0 (vp_in_nI (by omega) (by omega)) ?_
      refine g_bipush (v := 63) dL_law_30 rfl ?_
      refine g_iand dL_law_32 ?_
      generalize hx : w_a w 0 (nI i).toNatClampNeg &&& 63 = x
      rcases pk_ix x (n := 44) (by decide) with hx0 | hx0 | ⟨j, hj, ej⟩
      · refine g_tableOut (tgt := 1578) dL_law_33 (Or.inl ?_) (by decide) ?_
        · rw [pI_lt] at hx0
          exact hx0
        · exact kk w R0 (fun _ _ => ⟨rfl, rfl⟩)
      · refine g_tableOut (tgt := 1578) dL_law_33 (Or.inr ?_) (by decide) ?_
        · rw [pI_le, nI_toInt (by decide)] at hx0
          omega
        · exact kk w R0 (fun _ _ => ⟨rfl, rfl⟩)
      · subst ej
        have g0 : 0 ≤ j := Nat.zero_le j
        by_cases e0 : j = 0
        · subst e0
          exact g_tableIn (off := 191) (tgt := 224) dL_law_33 (by decide) (by decide) (by rfl) (by decide) (law_c0 hd hL hi6 R0 hs0 kk)
        have g1 : 1 ≤ j := by omega
        by_cases e1 : j = 1
        · subst e1
          exact g_tableIn (off := 224) (tgt := 257) dL_law_33 (by decide) (by decide) (by rfl) (by decide) (law_c1 hd hL hi6 R0 hs0 kk)
        have g2 : 2 ≤ j := by omega
        by_cases e2 : j = 2
        · subst e2
          exact g_tableIn (off := 267) (tgt := 300) dL_law_33 (by decide) (by decide) (by rfl) (by decide) (law_c2 hd hL hi6 R0 hs0 kk)
        have g3 : 3 ≤ j := by omega
        by_cases e3 : j = 3
        · subst e3
          exact g_tableIn (off := 310) (tgt := 343) dL_law_33 (by decide) (by decide) (by rfl) (by decide) (law_c3 hd hL hi6 R0 hs0 kk)
        have g4 : 4 ≤ j := by omega
        by_cases e4 : j = 4
        · subst e4
          exact g_tableIn (off := 343) (tgt := 376) dL_law_33 (by decide) (by decide) (by rfl) (by decide) (law_c4 hd hL hi6 R0 hs0 kk)
        have g5 : 5 ≤ j := by omega
        by_cases e5 : j = 5
        · subst e5
          exact g_tableIn (off := 366) (tgt := 399) dL_law_33 (by decide) (by decide) (by rfl) (by decide) (law_c5 hd hL hi6 R0 hs0 kk)
        have g6 : 6 ≤ j := by omega
        by_cases e6 : j = 6
        · subst e6
          exact g_tableIn (off := 379) (tgt := 412) dL_law_33 (by decide) (by decide) (by rfl) (by decide) (law_c6 hd hL hi6 R0 hs0 kk)
        have g7 : 7 ≤ j := by omega
        by_cases e7 : j = 7
        · subst e7
          exact g_tableIn (off := 412) (tgt := 445) dL_law_33 (by decide) (by decide) (by rfl) (by decide) (law_c7 hd hL hi6 R0 hs0 kk)
        have g8 : 8 ≤ j := by omega
        by_cases e8 : j = 8
        · subst e8
          exact g_tableIn (off := 435) (tgt := 468) dL_law_33 (by decide) (by decide) (by rfl) (by decide) (law_c8 hd hL hi6 R0 hs0 kk)
        have g9 : 9 ≤ j := by omega
        by_cases e9 : j = 9
        · subst e9
          exact g_tableIn (off := 468) (tgt := 501) dL_law_33 (by decide) (by decide) (by rfl) (by decide) (law_c9 hd hL hi6 R0 hs0 kk)
        have g10 : 10 ≤ j := by omega
        by_cases e10 : j = 10
        · subst e10
          exact g_tableIn (off := 521) (tgt := 554) dL_law_33 (by decide) (by decide) (by rfl) (by decide) (law_c10 hd hL hi6 R0 hs0 kk)
        have g11 : 11 ≤ j := by omega
        by_cases e11 : j = 11
        · subst e11
          exact g_tableIn (off := 554) (tgt := 587) dL_law_33 (by decide) (by decide) (by rfl) (by decide) (law_c11 hd hL hi6 R0 hs0 kk)
        have g12 : 12 ≤ j := by omega
        by_cases e12 : j = 12
        · subst e12
          exact g_tableIn (off := 587) (tgt := 620) dL_law_33 (by decide) (by decide) (by rfl) (by decide) (law_c12 hd hL hi6 R0 hs0 kk)
        have g13 : 13 ≤ j := by omega
        by_cases e13 : j = 13
        · subst e13
          exact g_tableIn (off := 620) (tgt := 653) dL_law_33 (by decide) (by decide) (by rfl) (by decide) (law_c13 hd hL hi6 R0 hs0 kk)
        have g14 : 14 ≤ j := by omega
        by_cases e14 : j = 14
        · subst e14
          exact g_tableIn (off := 643) (tgt := 676) dL_law_33 (by decide) (by decide) (by rfl) (by decide) (law_c14 hd hL hi6 R0 hs0 kk)
        have g15 : 15 ≤ j := by omega
        by_cases e15 : j = 15
        · subst e15
          exact g_tableIn (off := 656) (tgt := 689) dL_law_33 (by decide) (by decide) (by rfl) (by decide) (law_c15 hd hL hi6 R0 hs0 kk)
        have g16 : 16 ≤ j := by omega
        by_cases e16 : j = 16
        · subst e16
          exact g_tableIn (off := 689) (tgt := 722) dL_law_33 (by decide) (by decide) (by rfl) (by decide) (law_c16 hd hL hi6 R0 hs0 kk)
        have g17 : 17 ≤ j := by omega
        by_cases e17 : j = 17
        · subst e17
          exact g_tableIn (off := 722) (tgt := 755) dL_law_33 (by decide) (by decide) (by rfl) (by decide) (law_c17 hd hL hi6 R0 hs0 kk)
        have g18 : 18 ≤ j := by omega
        by_cases e18 : j = 18
        · subst e18
          exact g_tableIn (off := 756) (tgt := 789) dL_law_33 (by decide) (by decide) (by rfl) (by decide) (law_c18 hd hL hi6 R0 hs0 kk)
        have g19 : 19 ≤ j := by omega
        by_cases e19 : j = 19
        · subst e19
          exact g_tableIn (off := 779) (tgt := 812) dL_law_33 (by decide) (by decide) (by rfl) (by decide) (law_c19 hd hL hi6 R0 hs0 kk)
        have g20 : 20 ≤ j := by omega
        by_cases e20 : j = 20
        · subst e20
          exact g_tableIn (off := 802) (tgt := 835) dL_law_33 (by decide) (by decide) (by rfl) (by decide) (law_c20 hd hL hi6 R0 hs0 kk)
        have g21 : 21 ≤ j := by omega
        by_cases e21 : j = 21
        · subst e21
          exact g_tableIn (off := 835) (tgt := 868) dL_law_33 (by decide) (by decide) (by rfl) (by decide) (law_c21 hd hL hi6 R0 hs0 kk)
        have g22 : 22 ≤ j := by omega
        by_cases e22 : j = 22
        · subst e22
          exact g_tableIn (off := 848) (tgt := 881) dL_law_33 (by decide) (by decide) (by rfl) (by decide) (law_c22 hd hL hi6 R0 hs0 kk)
        have g23 : 23 ≤ j := by omega
        by_cases e23 : j = 23
        · subst e23
          exact g_tableIn (off := 871) (tgt := 904) dL_law_33 (by decide) (by decide) (by rfl) (by decide) (law_c23 hd hL hi6 R0 hs0 kk)
        have g24 : 24 ≤ j := by omega
        by_cases e24 : j = 24
        · subst e24
          exact g_tableIn (off := 914) (tgt := 947) dL_law_33 (by decide) (by decide) (by rfl) (by decide) (law_c24 hd hL hi6 R0 hs0 kk)
        have g25 : 25 ≤ j := by omega
        by_cases e25 : j = 25
        · subst e25
          exact g_tableIn (off := 957) (tgt := 990) dL_law_33 (by decide) (by decide) (by rfl) (by decide) (law_c25 hd hL hi6 R0 hs0 kk)
        have g26 : 26 ≤ j := by omega
        by_cases e26 : j = 26
        · subst e26
          exact g_tableIn (off := 990) (tgt := 1023) dL_law_33 (by decide) (by decide) (by rfl) (by decide) (law_c26 hd hL hi6 R0 hs0 kk)
        have g27 : 27 ≤ j := by omega
        by_cases e27 : j = 27
        · subst e27
          exact g_tableIn (off := 1033) (tgt := 1066) dL_law_33 (by decide) (by decide) (by rfl) (by decide) (law_c27 hd hL hi6 R0 hs0 kk)
        have g28 : 28 ≤ j := by omega
        by_cases e28 : j = 28
        · subst e28
          exact g_tableIn (off := 1056) (tgt := 1089) dL_law_33 (by decide) (by decide) (by rfl) (by decide) (law_c28 hd hL hi6 R0 hs0 kk)
        have g29 : 29 ≤ j := by omega
        by_cases e29 : j = 29
        · subst e29
          exact g_tableIn (off := 1079) (tgt := 1112) dL_law_33 (by decide) (by decide) (by rfl) (by decide) (law_c29 hd hL hi6 R0 hs0 kk)
        have g30 : 30 ≤ j := by omega
        by_cases e30 : j = 30
        · subst e30
          exact g_tableIn (off := 1102) (tgt := 1135) dL_law_33 (by decide) (by decide) (by rfl) (by decide) (law_c30 hd hL hi6 R0 hs0 kk)
        have g31 : 31 ≤ j := by omega
        by_cases e31 : j = 31
        · subst e31
          exact g_tableIn (off := 1115) (tgt := 1148) dL_law_33 (by decide) (by decide) (by rfl) (by decide) (law_c31 hd hL hi6 R0 hs0 kk)
        have g32 : 32 ≤ j := by omega
        by_cases e32 : j = 32
        · subst e32
          exact g_tableIn (off := 1128) (tgt := 1161) dL_law_33 (by decide) (by decide) (by rfl) (by decide) (law_c32 hd hL hi6 R0 hs0 kk)
        have g33 : 33 ≤ j := by omega
        by_cases e33 : j = 33
        · subst e33
          exact g_tableIn (off := 1141) (tgt := 1174) dL_law_33 (by decide) (by decide) (by rfl) (by decide) (law_c33 hd hL hi6 R0 hs0 kk)
        have g34 : 34 ≤ j := by omega
        by_cases e34 : j = 34
        · subst e34
          exact g_tableIn (off := 1154) (tgt := 1187) dL_law_33 (by decide) (by decide) (by rfl) (by decide) (law_c34 hd hL hi6 R0 hs0 kk)
        have g35 : 35 ≤ j := by omega
        by_cases e35 : j = 35
        · subst e35
          exact g_tableIn (off := 1177) (tgt := 1210) dL_law_33 (by decide) (by decide) (by rfl) (by decide) (law_c35 hd hL hi6 R0 hs0 kk)
        have g36 : 36 ≤ j := by omega
        by_cases e36 : j = 36
        · subst e36
          exact g_tableIn (off := 1220) (tgt := 1253) dL_law_33 (by decide) (by decide) (by rfl) (by decide) (law_c36 hd hL hi6 R0 hs0 kk)
        have g37 : 37 ≤ j := by omega
        by_cases e37 : j = 37
        · subst e37
          exact g_tableIn (off := 1243) (tgt := 1276) dL_law_33 (by decide) (by decide) (by rfl) (by decide) (law_c37 hd hL hi6 R0 hs0 kk)
        have g38 : 38 ≤ j := by omega
        by_cases e38 : j = 38
        · subst e38
          exact g_tableIn (off := 1276) (tgt := 1309) dL_law_33 (by decide) (by decide) (by rfl) (by decide) (law_c38 hd hL hi6 R0 hs0 kk)
        have g39 : 39 ≤ j := by omega
        by_cases e39 : j = 39
        · subst e39
          exact g_tableIn (off := 1319) (tgt := 1352) dL_law_33 (by decide) (by decide) (by rfl) (by decide) (law_c39 hd hL hi6 R0 hs0 kk)
        have g40 : 40 ≤ j := by omega
        by_cases e40 : j = 40
        · subst e40
          exact g_tableIn (off := 1392) (tgt := 1425) dL_law_33 (by decide) (by decide) (by rfl) (by decide) (law_c40 hd hL hi6 R0 hs0 kk)
        have g41 : 41 ≤ j := by omega
        by_cases e41 : j = 41
        · subst e41
          exact g_tableIn (off := 1426) (tgt := 1459) dL_law_33 (by decide) (by decide) (by rfl) (by decide) (law_c41 hd hL hi6 R0 hs0 kk)
        have g42 : 42 ≤ j := by omega
        by_cases e42 : j = 42
        · subst e42
          exact g_tableIn (off := 1489) (tgt := 1522) dL_law_33 (by decide) (by decide) (by rfl) (by decide) (law_c42 hd hL hi6 R0 hs0 kk)
        have g43 : 43 ≤ j := by omega
        by_cases e43 : j = 43
        · subst e43
          exact g_tableIn (off := 1522) (tgt := 1555) dL_law_33 (by decide) (by decide) (by rfl) (by decide) (law_c43 hd hL hi6 R0 hs0 kk)
        have g44 : 44 ≤ j := by omega
        omega

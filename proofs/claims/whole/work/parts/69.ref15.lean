/-! The reference: bodies -/
theorem bo_tab : ∀ u, u < 8 → ∀ q, q < 8 → bo_un (nI u) 8 q = decide (u = 0 ∨ q = u ∨ (u = 1 ∧ q = 4) ∨ (u = 2 ∧ (q = 3 ∨ q = 5)) ∨ (u = 3 ∧ q = 5) ∨ (u = 6 ∧ q = 7)) := by decide +kernel
theorem c_X10_isUnder {d : Nat} {w : gx_W} {q u : Nat} {k : Int32 → gx_W → Prop} (hd : 0 ≤ d) (hq : q < 8) (hu : u < 8) (kt : bo_un (nI u) 8 q = true → k 1 w) (kf : bo_un (nI u) 8 q = false → k 0 w) : gx_C 0 0 d mX10_isUnder [.int (nI q), .int (nI u)] w (Qi k) := by
  refine gx_C_of' (L := [.int (nI q), .int (nI u)]) (by decide +kernel) rfl (Nat.le_of_ble_eq_true rfl) ?_
  refine g_iload_n dX10_isUnder_0 rfl ?_
  refine g_if_eq (tgt := 56) dX10_isUnder_1 (by decide) (fun zc1 => ?_) (fun zc1 => ?_)
  · refine g_iconst (v := 1) dX10_isUnder_56 rfl ?_
    refine g_goto (tgt := 61) dX10_isUnder_57 (by decide) ?_
    refine g_zret dX10_isUnder_61 rfl (Or.inr rfl) ⟨_, rfl, ?_⟩
    rw [bo_tab u hu q hq] at kt kf
    have y1 : u = 0 := pI_inj (a := u) (b := 0) (by omega) (by omega) zc1
    exact kt (decide_eq_true (by omega))
  · refine g_iload_n dX10_isUnder_4 rfl ?_
    refine g_iload_n dX10_isUnder_5 rfl ?_
    refine g_icmp_eq (tgt := 56) dX10_isUnder_6 (by decide) (fun zc6 => ?_) (fun zc6 => ?_)
    · refine g_iconst (v := 1) dX10_isUnder_56 rfl ?_
      refine g_goto (tgt := 61) dX10_isUnder_57 (by decide) ?_
      refine g_zret dX10_isUnder_61 rfl (Or.inr rfl) ⟨_, rfl, ?_⟩
      rw [bo_tab u hu q hq] at kt kf
      have y1 : ¬ u = 0 := fun z => zc1 (by rw [z]; rfl)
      have y6 : q = u := pI_inj (a := q) (b := u) (by omega) (by omega) zc6
      exact kt (decide_eq_true (by omega))
    · refine g_iload_n dX10_isUnder_9 rfl ?_
      refine g_iconst (v := 1) dX10_isUnder_10 rfl ?_
      refine g_icmp_ne (tgt := 19) dX10_isUnder_11 (by decide) (fun zc11 => ?_) (fun zc11 => ?_)
      · refine g_iload_n dX10_isUnder_19 rfl ?_
        refine g_iconst (v := 2) dX10_isUnder_20 rfl ?_
        refine g_icmp_ne (tgt := 34) dX10_isUnder_21 (by decide) (fun zc21 => ?_) (fun zc21 => ?_)
        · refine g_iload_n dX10_isUnder_34 rfl ?_
          refine g_iconst (v := 3) dX10_isUnder_35 rfl ?_
          refine g_icmp_ne (tgt := 44) dX10_isUnder_36 (by decide) (fun zc36 => ?_) (fun zc36 => ?_)
          · refine g_iload_n dX10_isUnder_44 rfl ?_
            refine g_bipush (v := 6) dX10_isUnder_45 rfl ?_
            refine g_icmp_ne (tgt := 60) dX10_isUnder_47 (by decide) (fun zc47 => ?_) (fun zc47 => ?_)
            · refine g_iconst (v := 0) dX10_isUnder_60 rfl ?_
              refine g_zret dX10_isUnder_61 rfl (Or.inl rfl) ⟨_, rfl, ?_⟩
              rw [bo_tab u hu q hq] at kt kf
              have y1 : ¬ u = 0 := fun z => zc1 (by rw [z]; rfl)
              have y6 : ¬ q = u := fun z => zc6 (by rw [z])
              have y11 : ¬ u = 1 := fun z => zc11 (by rw [z]; rfl)
              have y21 : ¬ u = 2 := fun z => zc21 (by rw [z]; rfl)
              have y36 : ¬ u = 3 := fun z => zc36 (by rw [z]; rfl)
              have y47 : ¬ u = 6 := fun z => zc47 (by rw [z]; rfl)
              exact kf (decide_eq_false (by omega))
            · refine g_iload_n dX10_isUnder_50 rfl ?_
              refine g_bipush (v := 7) dX10_isUnder_51 rfl ?_
              refine g_icmp_ne (tgt := 60) dX10_isUnder_53 (by decide) (fun zc53 => ?_) (fun zc53 => ?_)
              · refine g_iconst (v := 0) dX10_isUnder_60 rfl ?_
                refine g_zret dX10_isUnder_61 rfl (Or.inl rfl) ⟨_, rfl, ?_⟩
                rw [bo_tab u hu q hq] at kt kf
                have y1 : ¬ u = 0 := fun z => zc1 (by rw [z]; rfl)
                have y6 : ¬ q = u := fun z => zc6 (by rw [z])
                have y11 : ¬ u = 1 := fun z => zc11 (by rw [z]; rfl)
                have y21 : ¬ u = 2 := fun z => zc21 (by rw [z]; rfl)
                have y36 : ¬ u = 3 := fun z => zc36 (by rw [z]; rfl)
                have y47 : u = 6 := pI_inj (a := u) (b := 6) (by omega) (by omega) zc47
                have y53 : ¬ q = 7 := fun z => zc53 (by rw [z]; rfl)
                exact kf (decide_eq_false (by omega))
              · refine g_iconst (v := 1) dX10_isUnder_56 rfl ?_
                refine g_goto (tgt := 61) dX10_isUnder_57 (by decide) ?_
                refine g_zret dX10_isUnder_61 rfl (Or.inr rfl) ⟨_, rfl, ?_⟩
                rw [bo_tab u hu q hq] at kt kf
                have y1 : ¬ u = 0 := fun z => zc1 (by rw [z]; rfl)
                have y6 : ¬ q = u := fun z => zc6 (by rw [z])
                have y11 : ¬ u = 1 := fun z => zc11 (by rw [z]; rfl)
                have y21 : ¬ u = 2 := fun z => zc21 (by rw [z]; rfl)
                have y36 : ¬ u = 3 := fun z => zc36 (by rw [z]; rfl)
                have y47 : u = 6 := pI_inj (a := u) (b := 6) (by omega) (by omega) zc47
                have y53 : q = 7 := pI_inj (a := q) (b := 7) (by omega) (by omega) zc53
                exact kt (decide_eq_true (by omega))
          · refine g_iload_n dX10_isUnder_39 rfl ?_
            refine g_iconst (v := 5) dX10_isUnder_40 rfl ?_
            refine g_icmp_eq (tgt := 56) dX10_isUnder_41 (by decide) (fun zc41 => ?_) (fun zc41 => ?_)
            · refine g_iconst (v := 1) dX10_isUnder_56 rfl ?_
              refine g_goto (tgt := 61) dX10_isUnder_57 (by decide) ?_
              refine g_zret dX10_isUnder_61 rfl (Or.inr rfl) ⟨_, rfl, ?_⟩
              rw [bo_tab u hu q hq] at kt kf
              have y1 : ¬ u = 0 := fun z => zc1 (by rw [z]; rfl)
              have y6 : ¬ q = u := fun z => zc6 (by rw [z])
              have y11 : ¬ u = 1 := fun z => zc11 (by rw [z]; rfl)
              have y21 : ¬ u = 2 := fun z => zc21 (by rw [z]; rfl)
              have y36 : u = 3 := pI_inj (a := u) (b := 3) (by omega) (by omega) zc36
              have y41 : q = 5 := pI_inj (a := q) (b := 5) (by omega) (by omega) zc41
              exact kt (decide_eq_true (by omega))
            · refine g_iload_n dX10_isUnder_44 rfl ?_
              refine g_bipush (v := 6) dX10_isUnder_45 rfl ?_
              refine g_icmp_ne (tgt := 60) dX10_isUnder_47 (by decide) (fun zc47 => ?_) (fun zc47 => ?_)
              · refine g_iconst (v := 0) dX10_isUnder_60 rfl ?_
                refine g_zret dX10_isUnder_61 rfl (Or.inl rfl) ⟨_, rfl, ?_⟩
                rw [bo_tab u hu q hq] at kt kf
                have y1 : ¬ u = 0 := fun z => zc1 (by rw [z]; rfl)
                have y6 : ¬ q = u := fun z => zc6 (by rw [z])
                have y11 : ¬ u = 1 := fun z => zc11 (by rw [z]; rfl)
                have y21 : ¬ u = 2 := fun z => zc21 (by rw [z]; rfl)
                have y36 : u = 3 := pI_inj (a := u) (b := 3) (by omega) (by omega) zc36
                have y41 : ¬ q = 5 := fun z => zc41 (by rw [z]; rfl)
                have y47 : ¬ u = 6 := fun z => zc47 (by rw [z]; rfl)
                exact kf (decide_eq_false (by omega))
              · refine g_iload_n dX10_isUnder_50 rfl ?_
                refine g_bipush (v := 7) dX10_isUnder_51 rfl ?_
                refine g_icmp_ne (tgt := 60) dX10_isUnder_53 (by decide) (fun zc53 => ?_) (fun zc53 => ?_)
                · refine g_iconst (v := 0) dX10_isUnder_60 rfl ?_
                  refine g_zret dX10_isUnder_61 rfl (Or.inl rfl) ⟨_, rfl, ?_⟩
                  rw [bo_tab u hu q hq] at kt kf
                  have y1 : ¬ u = 0 := fun z => zc1 (by rw [z]; rfl)
                  have y6 : ¬ q = u := fun z => zc6 (by rw [z])
                  have y11 : ¬ u = 1 := fun z => zc11 (by rw [z]; rfl)
                  have y21 : ¬ u = 2 := fun z => zc21 (by rw [z]; rfl)
                  have y36 : u = 3 := pI_inj (a := u) (b := 3) (by omega) (by omega) zc36
                  have y41 : ¬ q = 5 := fun z => zc41 (by rw [z]; rfl)
                  have y47 : u = 6 := pI_inj (a := u) (b := 6) (by omega) (by omega) zc47
                  have y53 : ¬ q = 7 := fun z => zc53 (by rw [z]; rfl)
                  exact kf (decide_eq_false (by omega))
                · refine g_iconst (v := 1) dX10_isUnder_56 rfl ?_
                  refine g_goto (tgt := 61) dX10_isUnder_57 (by decide) ?_
                  refine g_zret dX10_isUnder_61 rfl (Or.inr rfl) ⟨_, rfl, ?_⟩
                  rw [bo_tab u hu q hq] at kt kf
                  have y1 : ¬ u = 0 := fun z => zc1 (by rw [z]; rfl)
                  have y6 : ¬ q = u := fun z => zc6 (by rw [z])
                  have y11 : ¬ u = 1 := fun z => zc11 (by rw [z]; rfl)
                  have y21 : ¬ u = 2 := fun z => zc21 (by rw [z]; rfl)
                  have y36 : u = 3 := pI_inj (a := u) (b := 3) (by omega) (by omega) zc36
                  have y41 : ¬ q = 5 := fun z => zc41 (by rw [z]; rfl)
                  have y47 : u = 6 := pI_inj (a := u) (b := 6) (by omega) (by omega) zc47
                  have y53 : q = 7 := pI_inj (a := q) (b := 7) (by omega) (by omega) zc53
                  exact kt (decide_eq_true (by omega))
        · refine g_iload_n dX10_isUnder_24 rfl ?_
          refine g_iconst (v := 3) dX10_isUnder_25 rfl ?_
          refine g_icmp_eq (tgt := 56) dX10_isUnder_26 (by decide) (fun zc26 => ?_) (fun zc26 => ?_)
          · refine g_iconst (v := 1) dX10_isUnder_56 rfl ?_
            refine g_goto (tgt := 61) dX10_isUnder_57 (by decide) ?_
            refine g_zret dX10_isUnder_61 rfl (Or.inr rfl) ⟨_, rfl, ?_⟩
            rw [bo_tab u hu q hq] at kt kf
            have y1 : ¬ u = 0 := fun z => zc1 (by rw [z]; rfl)
            have y6 : ¬ q = u := fun z => zc6 (by rw [z])
            have y11 : ¬ u = 1 := fun z => zc11 (by rw [z]; rfl)
            have y21 : u = 2 := pI_inj (a := u) (b := 2) (by omega) (by omega) zc21
            have y26 : q = 3 := pI_inj (a := q) (b := 3) (by omega) (by omega) zc26
            exact kt (decide_eq_true (by omega))
          · refine g_iload_n dX10_isUnder_29 rfl ?_
            refine g_iconst (v := 5) dX10_isUnder_30 rfl ?_
            refine g_icmp_eq (tgt := 56) dX10_isUnder_31 (by decide) (fun zc31 => ?_) (fun zc31 => ?_)
            · refine g_iconst (v := 1) dX10_isUnder_56 rfl ?_
              refine g_goto (tgt := 61) dX10_isUnder_57 (by decide) ?_
              refine g_zret dX10_isUnder_61 rfl (Or.inr rfl) ⟨_, rfl, ?_⟩
              rw [bo_tab u hu q hq] at kt kf
              have y1 : ¬ u = 0 := fun z => zc1 (by rw [z]; rfl)
              have y6 : ¬ q = u := fun z => zc6 (by rw [z])
              have y11 : ¬ u = 1 := fun z => zc11 (by rw [z]; rfl)
              have y21 : u = 2 := pI_inj (a := u) (b := 2) (by omega) (by omega) zc21
              have y26 : ¬ q = 3 := fun z => zc26 (by rw [z]; rfl)
              have y31 : q = 5 := pI_inj (a := q) (b := 5) (by omega) (by omega) zc31
              exact kt (decide_eq_true (by omega))
            · refine g_iload_n dX10_isUnder_34 rfl ?_
              refine g_iconst (v := 3) dX10_isUnder_35 rfl ?_
              refine g_icmp_ne (tgt := 44) dX10_isUnder_36 (by decide) (fun zc36 => ?_) (fun zc36 => ?_)
              · refine g_iload_n dX10_isUnder_44 rfl ?_
                refine g_bipush (v := 6) dX10_isUnder_45 rfl ?_
                refine g_icmp_ne (tgt := 60) dX10_isUnder_47 (by decide) (fun zc47 => ?_) (fun zc47 => ?_)
                · refine g_iconst (v := 0) dX10_isUnder_60 rfl ?_
                  refine g_zret dX10_isUnder_61 rfl (Or.inl rfl) ⟨_, rfl, ?_⟩
                  rw [bo_tab u hu q hq] at kt kf
                  have y1 : ¬ u = 0 := fun z => zc1 (by rw [z]; rfl)
                  have y6 : ¬ q = u := fun z => zc6 (by rw [z])
                  have y11 : ¬ u = 1 := fun z => zc11 (by rw [z]; rfl)
                  have y21 : u = 2 := pI_inj (a := u) (b := 2) (by omega) (by omega) zc21
                  have y26 : ¬ q = 3 := fun z => zc26 (by rw [z]; rfl)
                  have y31 : ¬ q = 5 := fun z => zc31 (by rw [z]; rfl)
                  have y36 : ¬ u = 3 := fun z => zc36 (by rw [z]; rfl)
                  have y47 : ¬ u = 6 := fun z => zc47 (by rw [z]; rfl)
                  exact kf (decide_eq_false (by omega))
                · refine g_iload_n dX10_isUnder_50 rfl ?_
                  refine g_bipush (v := 7) dX10_isUnder_51 rfl ?_
                  refine g_icmp_ne (tgt := 60) dX10_isUnder_53 (by decide) (fun zc53 => ?_) (fun zc53 => ?_)
                  · refine g_iconst (v := 0) dX10_isUnder_60 rfl ?_
                    refine g_zret dX10_isUnder_61 rfl (Or.inl rfl) ⟨_, rfl, ?_⟩
                    rw [bo_tab u hu q hq] at kt kf
                    have y1 : ¬ u = 0 := fun z => zc1 (by rw [z]; rfl)
                    have y6 : ¬ q = u := fun z => zc6 (by rw [z])
                    have y11 : ¬ u = 1 := fun z => zc11 (by rw [z]; rfl)
                    have y21 : u = 2 := pI_inj (a := u) (b := 2) (by omega) (by omega) zc21
                    have y26 : ¬ q = 3 := fun z => zc26 (by rw [z]; rfl)
                    have y31 : ¬ q = 5 := fun z => zc31 (by rw [z]; rfl)
                    have y36 : ¬ u = 3 := fun z => zc36 (by rw [z]; rfl)
                    have y47 : u = 6 := pI_inj (a := u) (b := 6) (by omega) (by omega) zc47
                    have y53 : ¬ q = 7 := fun z => zc53 (by rw [z]; rfl)
                    exact kf (decide_eq_false (by omega))
                  · refine g_iconst (v := 1) dX10_isUnder_56 rfl ?_
                    refine g_goto (tgt := 61) dX10_isUnder_57 (by decide) ?_
                    refine g_zret dX10_isUnder_61 rfl (Or.inr rfl) ⟨_, rfl, ?_⟩
                    rw [bo_tab u hu q hq] at kt kf
                    have y1 : ¬ u = 0 := fun z => zc1 (by rw [z]; rfl)
                    have y6 : ¬ q = u := fun z => zc6 (by rw [z])
                    have y11 : ¬ u = 1 := fun z => zc11 (by rw [z]; rfl)
                    have y21 : u = 2 := pI_inj (a := u) (b := 2) (by omega) (by omega) zc21
                    have y26 : ¬ q = 3 := fun z => zc26 (by rw [z]; rfl)
                    have y31 : ¬ q = 5 := fun z => zc31 (by rw [z]; rfl)
                    have y36 : ¬ u = 3 := fun z => zc36 (by rw [z]; rfl)
                    have y47 : u = 6 := pI_inj (a := u) (b := 6) (by omega) (by omega) zc47
                    have y53 : q = 7 := pI_inj (a := q) (b := 7) (by omega) (by omega) zc53
                    exact kt (decide_eq_true (by omega))
              · refine g_iload_n dX10_isUnder_39 rfl ?_
                refine g_iconst (v := 5) dX10_isUnder_40 rfl ?_
                refine g_icmp_eq (tgt := 56) dX10_isUnder_41 (by decide) (fun zc41 => ?_) (fun zc41 => ?_)
                · refine g_iconst (v := 1) dX10_isUnder_56 rfl ?_
                  refine g_goto (tgt := 61) dX10_isUnder_57 (by decide) ?_
                  refine g_zret dX10_isUnder_61 rfl (Or.inr rfl) ⟨_, rfl, ?_⟩
                  rw [bo_tab u hu q hq] at kt kf
                  have y1 : ¬ u = 0 := fun z => zc1 (by rw [z]; rfl)
                  have y6 : ¬ q = u := fun z => zc6 (by rw [z])
                  have y11 : ¬ u = 1 := fun z => zc11 (by rw [z]; rfl)
                  have y21 : u = 2 := pI_inj (a := u) (b := 2) (by omega) (by omega) zc21
                  have y26 : ¬ q = 3 := fun z => zc26 (by rw [z]; rfl)
                  have y31 : ¬ q = 5 := fun z => zc31 (by rw [z]; rfl)
                  have y36 : u = 3 := pI_inj (a := u) (b := 3) (by omega) (by omega) zc36
                  have y41 : q = 5 := pI_inj (a := q) (b := 5) (by omega) (by omega) zc41
                  exact kt (decide_eq_true (by omega))
                · refine g_iload_n dX10_isUnder_44 rfl ?_
                  refine g_bipush (v := 6) dX10_isUnder_45 rfl ?_
                  refine g_icmp_ne (tgt := 60) dX10_isUnder_47 (by decide) (fun zc47 => ?_) (fun zc47 => ?_)
                  · refine g_iconst (v := 0) dX10_isUnder_60 rfl ?_
                    refine g_zret dX10_isUnder_61 rfl (Or.inl rfl) ⟨_, rfl, ?_⟩
                    rw [bo_tab u hu q hq] at kt kf
                    have y1 : ¬ u = 0 := fun z => zc1 (by rw [z]; rfl)
                    have y6 : ¬ q = u := fun z => zc6 (by rw [z])
                    have y11 : ¬ u = 1 := fun z => zc11 (by rw [z]; rfl)
                    have y21 : u = 2 := pI_inj (a := u) (b := 2) (by omega) (by omega) zc21
                    have y26 : ¬ q = 3 := fun z => zc26 (by rw [z]; rfl)
                    have y31 : ¬ q = 5 := fun z => zc31 (by rw [z]; rfl)
                    have y36 : u = 3 := pI_inj (a := u) (b := 3) (by omega) (by omega) zc36
                    have y41 : ¬ q = 5 := fun z => zc41 (by rw [z]; rfl)
                    have y47 : ¬ u = 6 := fun z => zc47 (by rw [z]; rfl)
                    exact kf (decide_eq_false (by omega))
                  · refine g_iload_n dX10_isUnder_50 rfl ?_
                    refine g_bipush (v := 7) dX10_isUnder_51 rfl ?_
                    refine g_icmp_ne (tgt := 60) dX10_isUnder_53 (by decide) (fun zc53 => ?_) (fun zc53 => ?_)
                    · refine g_iconst (v := 0) dX10_isUnder_60 rfl ?_
                      refine g_zret dX10_isUnder_61 rfl (Or.inl rfl) ⟨_, rfl, ?_⟩
                      rw [bo_tab u hu q hq] at kt kf
                      have y1 : ¬ u = 0 := fun z => zc1 (by rw [z]; rfl)
                      have y6 : ¬ q = u := fun z => zc6 (by rw [z])
                      have y11 : ¬ u = 1 := fun z => zc11 (by rw [z]; rfl)
                      have y21 : u = 2 := pI_inj (a := u) (b := 2) (by omega) (by omega) zc21
                      have y26 : ¬ q = 3 := fun z => zc26 (by rw [z]; rfl)
                      have y31 : ¬ q = 5 := fun z => zc31 (by rw [z]; rfl)
                      have y36 : u = 3 := pI_inj (a := u) (b := 3) (by omega) (by omega) zc36
                      have y41 : ¬ q = 5 := fun z => zc41 (by rw [z]; rfl)
                      have y47 : u = 6 := pI_inj (a := u) (b := 6) (by omega) (by omega) zc47
                      have y53 : ¬ q = 7 := fun z => zc53 (by rw [z]; rfl)
                      exact kf (decide_eq_false (by omega))
                    · refine g_iconst (v := 1) dX10_isUnder_56 rfl ?_
                      refine g_goto (tgt := 61) dX10_isUnder_57 (by decide) ?_
                      refine g_zret dX10_isUnder_61 rfl (Or.inr rfl) ⟨_, rfl, ?_⟩
                      rw [bo_tab u hu q hq] at kt kf
                      have y1 : ¬ u = 0 := fun z => zc1 (by rw [z]; rfl)
                      have y6 : ¬ q = u := fun z => zc6 (by rw [z])
                      have y11 : ¬ u = 1 := fun z => zc11 (by rw [z]; rfl)
                      have y21 : u = 2 := pI_inj (a := u) (b := 2) (by omega) (by omega) zc21
                      have y26 : ¬ q = 3 := fun z => zc26 (by rw [z]; rfl)
                      have y31 : ¬ q = 5 := fun z => zc31 (by rw [z]; rfl)
                      have y36 : u = 3 := pI_inj (a := u) (b := 3) (by omega) (by omega) zc36
                      have y41 : ¬ q = 5 := fun z => zc41 (by rw [z]; rfl)
                      have y47 : u = 6 := pI_inj (a := u) (b := 6) (by omega) (by omega) zc47
                      have y53 : q = 7 := pI_inj (a := q) (b := 7) (by omega) (by omega) zc53
                      exact kt (decide_eq_true (by omega))
      · refine g_iload_n dX10_isUnder_14 rfl ?_
        refine g_iconst (v := 4) dX10_isUnder_15 rfl ?_
        refine g_icmp_eq (tgt := 56) dX10_isUnder_16 (by decide) (fun zc16 => ?_) (fun zc16 => ?_)
        · refine g_iconst (v := 1) dX10_isUnder_56 rfl ?_
          refine g_goto (tgt := 61) dX10_isUnder_57 (by decide) ?_
          refine g_zret dX10_isUnder_61 rfl (Or.inr rfl) ⟨_, rfl, ?_⟩
          rw [bo_tab u hu q hq] at kt kf
          have y1 : ¬ u = 0 := fun z => zc1 (by rw [z]; rfl)
          have y6 : ¬ q = u := fun z => zc6 (by rw [z])
          have y11 : u = 1 := pI_inj (a := u) (b := 1) (by omega) (by omega) zc11
          have y16 : q = 4 := pI_inj (a := q) (b := 4) (by omega) (by omega) zc16
          exact kt (decide_eq_true (by omega))
        · refine g_iload_n dX10_isUnder_19 rfl ?_
          refine g_iconst (v := 2) dX10_isUnder_20 rfl ?_
          refine g_icmp_ne (tgt := 34) dX10_isUnder_21 (by decide) (fun zc21 => ?_) (fun zc21 => ?_)
          · refine g_iload_n dX10_isUnder_34 rfl ?_
            refine g_iconst (v := 3) dX10_isUnder_35 rfl ?_
            refine g_icmp_ne (tgt := 44) dX10_isUnder_36 (by decide) (fun zc36 => ?_) (fun zc36 => ?_)
            · refine g_iload_n dX10_isUnder_44 rfl ?_
              refine g_bipush (v := 6) dX10_isUnder_45 rfl ?_
              refine g_icmp_ne (tgt := 60) dX10_isUnder_47 (by decide) (fun zc47 => ?_) (fun zc47 => ?_)
              · refine g_iconst (v := 0) dX10_isUnder_60 rfl ?_
                refine g_zret dX10_isUnder_61 rfl (Or.inl rfl) ⟨_, rfl, ?_⟩
                rw [bo_tab u hu q hq] at kt kf
                have y1 : ¬ u = 0 := fun z => zc1 (by rw [z]; rfl)
                have y6 : ¬ q = u := fun z => zc6 (by rw [z])
                have y11 : u = 1 := pI_inj (a := u) (b := 1) (by omega) (by omega) zc11
                have y16 : ¬ q = 4 := fun z => zc16 (by rw [z]; rfl)
                have y21 : ¬ u = 2 := fun z => zc21 (by rw [z]; rfl)
                have y36 : ¬ u = 3 := fun z => zc36 (by rw [z]; rfl)
                have y47 : ¬ u = 6 := fun z => zc47 (by rw [z]; rfl)
                exact kf (decide_eq_false (by omega))
              · refine g_iload_n dX10_isUnder_50 rfl ?_
                refine g_bipush (v := 7) dX10_isUnder_51 rfl ?_
                refine g_icmp_ne (tgt := 60) dX10_isUnder_53 (by decide) (fun zc53 => ?_) (fun zc53 => ?_)
                · refine g_iconst (v := 0) dX10_isUnder_60 rfl ?_
                  refine g_zret dX10_isUnder_61 rfl (Or.inl rfl) ⟨_, rfl, ?_⟩
                  rw [bo_tab u hu q hq] at kt kf
                  have y1 : ¬ u = 0 := fun z => zc1 (by rw [z]; rfl)
                  have y6 : ¬ q = u := fun z => zc6 (by rw [z])
                  have y11 : u = 1 := pI_inj (a := u) (b := 1) (by omega) (by omega) zc11
                  have y16 : ¬ q = 4 := fun z => zc16 (by rw [z]; rfl)
                  have y21 : ¬ u = 2 := fun z => zc21 (by rw [z]; rfl)
                  have y36 : ¬ u = 3 := fun z => zc36 (by rw [z]; rfl)
                  have y47 : u = 6 := pI_inj (a := u) (b := 6) (by omega) (by omega) zc47
                  have y53 : ¬ q = 7 := fun z => zc53 (by rw [z]; rfl)
                  exact kf (decide_eq_false (by omega))
                · refine g_iconst (v := 1) dX10_isUnder_56 rfl ?_
                  refine g_goto (tgt := 61) dX10_isUnder_57 (by decide) ?_
                  refine g_zret dX10_isUnder_61 rfl (Or.inr rfl) ⟨_, rfl, ?_⟩
                  rw [bo_tab u hu q hq] at kt kf
                  have y1 : ¬ u = 0 := fun z => zc1 (by rw [z]; rfl)
                  have y6 : ¬ q = u := fun z => zc6 (by rw [z])
                  have y11 : u = 1 := pI_inj (a := u) (b := 1) (by omega) (by omega) zc11
                  have y16 : ¬ q = 4 := fun z => zc16 (by rw [z]; rfl)
                  have y21 : ¬ u = 2 := fun z => zc21 (by rw [z]; rfl)
                  have y36 : ¬ u = 3 := fun z => zc36 (by rw [z]; rfl)
                  have y47 : u = 6 := pI_inj (a := u) (b := 6) (by omega) (by omega) zc47
                  have y53 : q = 7 := pI_inj (a := q) (b := 7) (by omega) (by omega) zc53
                  exact kt (decide_eq_true (by omega))
            · refine g_iload_n dX10_isUnder_39 rfl ?_
              refine g_iconst (v := 5) dX10_isUnder_40 rfl ?_
              refine g_icmp_eq (tgt := 56) dX10_isUnder_41 (by decide) (fun zc41 => ?_) (fun zc41 => ?_)
              · refine g_iconst (v := 1) dX10_isUnder_56 rfl ?_
                refine g_goto (tgt := 61) dX10_isUnder_57 (by decide) ?_
                refine g_zret dX10_isUnder_61 rfl (Or.inr rfl) ⟨_, rfl, ?_⟩
                rw [bo_tab u hu q hq] at kt kf
                have y1 : ¬ u = 0 := fun z => zc1 (by rw [z]; rfl)
                have y6 : ¬ q = u := fun z => zc6 (by rw [z])
                have y11 : u = 1 := pI_inj (a := u) (b := 1) (by omega) (by omega) zc11
                have y16 : ¬ q = 4 := fun z => zc16 (by rw [z]; rfl)
                have y21 : ¬ u = 2 := fun z => zc21 (by rw [z]; rfl)
                have y36 : u = 3 := pI_inj (a := u) (b := 3) (by omega) (by omega) zc36
                have y41 : q = 5 := pI_inj (a := q) (b := 5) (by omega) (by omega) zc41
                exact kt (decide_eq_true (by omega))
              · refine g_iload_n dX10_isUnder_44 rfl ?_
                refine g_bipush (v := 6) dX10_isUnder_45 rfl ?_
                refine g_icmp_ne (tgt := 60) dX10_isUnder_47 (by decide) (fun zc47 => ?_) (fun zc47 => ?_)
                · refine g_iconst (v := 0) dX10_isUnder_60 rfl ?_
                  refine g_zret dX10_isUnder_61 rfl (Or.inl rfl) ⟨_, rfl, ?_⟩
                  rw [bo_tab u hu q hq] at kt kf
                  have y1 : ¬ u = 0 := fun z => zc1 (by rw [z]; rfl)
                  have y6 : ¬ q = u := fun z => zc6 (by rw [z])
                  have y11 : u = 1 := pI_inj (a := u) (b := 1) (by omega) (by omega) zc11
                  have y16 : ¬ q = 4 := fun z => zc16 (by rw [z]; rfl)
                  have y21 : ¬ u = 2 := fun z => zc21 (by rw [z]; rfl)
                  have y36 : u = 3 := pI_inj (a := u) (b := 3) (by omega) (by omega) zc36
                  have y41 : ¬ q = 5 := fun z => zc41 (by rw [z]; rfl)
                  have y47 : ¬ u = 6 := fun z => zc47 (by rw [z]; rfl)
                  exact kf (decide_eq_false (by omega))
                · refine g_iload_n dX10_isUnder_50 rfl ?_
                  refine g_bipush (v := 7) dX10_isUnder_51 rfl ?_
                  refine g_icmp_ne (tgt := 60) dX10_isUnder_53 (by decide) (fun zc53 => ?_) (fun zc53 => ?_)
                  · refine g_iconst (v := 0) dX10_isUnder_60 rfl ?_
                    refine g_zret dX10_isUnder_61 rfl (Or.inl rfl) ⟨_, rfl, ?_⟩
                    rw [bo_tab u hu q hq] at kt kf
                    have y1 : ¬ u = 0 := fun z => zc1 (by rw [z]; rfl)
                    have y6 : ¬ q = u := fun z => zc6 (by rw [z])
                    have y11 : u = 1 := pI_inj (a := u) (b := 1) (by omega) (by omega) zc11
                    have y16 : ¬ q = 4 := fun z => zc16 (by rw [z]; rfl)
                    have y21 : ¬ u = 2 := fun z => zc21 (by rw [z]; rfl)
                    have y36 : u = 3 := pI_inj (a := u) (b := 3) (by omega) (by omega) zc36
                    have y41 : ¬ q = 5 := fun z => zc41 (by rw [z]; rfl)
                    have y47 : u = 6 := pI_inj (a := u) (b := 6) (by omega) (by omega) zc47
                    have y53 : ¬ q = 7 := fun z => zc53 (by rw [z]; rfl)
                    exact kf (decide_eq_false (by omega))
                  · refine g_iconst (v := 1) dX10_isUnder_56 rfl ?_
                    refine g_goto (tgt := 61) dX10_isUnder_57 (by decide) ?_
                    refine g_zret dX10_isUnder_61 rfl (Or.inr rfl) ⟨_, rfl, ?_⟩
                    rw [bo_tab u hu q hq] at kt kf
                    have y1 : ¬ u = 0 := fun z => zc1 (by rw [z]; rfl)
                    have y6 : ¬ q = u := fun z => zc6 (by rw [z])
                    have y11 : u = 1 := pI_inj (a := u) (b := 1) (by omega) (by omega) zc11
                    have y16 : ¬ q = 4 := fun z => zc16 (by rw [z]; rfl)
                    have y21 : ¬ u = 2 := fun z => zc21 (by rw [z]; rfl)
                    have y36 : u = 3 := pI_inj (a := u) (b := 3) (by omega) (by omega) zc36
                    have y41 : ¬ q = 5 := fun z => zc41 (by rw [z]; rfl)
                    have y47 : u = 6 := pI_inj (a := u) (b := 6) (by omega) (by omega) zc47
                    have y53 : q = 7 := pI_inj (a := q) (b := 7) (by omega) (by omega) zc53
                    exact kt (decide_eq_true (by omega))
          · refine g_iload_n dX10_isUnder_24 rfl ?_
            refine g_iconst (v := 3) dX10_isUnder_25 rfl ?_
            refine g_icmp_eq (tgt := 56) dX10_isUnder_26 (by decide) (fun zc26 => ?_) (fun zc26 => ?_)
            · refine g_iconst (v := 1) dX10_isUnder_56 rfl ?_
              refine g_goto (tgt := 61) dX10_isUnder_57 (by decide) ?_
              refine g_zret dX10_isUnder_61 rfl (Or.inr rfl) ⟨_, rfl, ?_⟩
              rw [bo_tab u hu q hq] at kt kf
              have y1 : ¬ u = 0 := fun z => zc1 (by rw [z]; rfl)
              have y6 : ¬ q = u := fun z => zc6 (by rw [z])
              have y11 : u = 1 := pI_inj (a := u) (b := 1) (by omega) (by omega) zc11
              have y16 : ¬ q = 4 := fun z => zc16 (by rw [z]; rfl)
              have y21 : u = 2 := pI_inj (a := u) (b := 2) (by omega) (by omega) zc21
              have y26 : q = 3 := pI_inj (a := q) (b := 3) (by omega) (by omega) zc26
              exact kt (decide_eq_true (by omega))
            · refine g_iload_n dX10_isUnder_29 rfl ?_
              refine g_iconst (v := 5) dX10_isUnder_30 rfl ?_
              refine g_icmp_eq (tgt := 56) dX10_isUnder_31 (by decide) (fun zc31 => ?_) (fun zc31 => ?_)
              · refine g_iconst (v := 1) dX10_isUnder_56 rfl ?_
                refine g_goto (tgt := 61) dX10_isUnder_57 (by decide) ?_
                refine g_zret dX10_isUnder_61 rfl (Or.inr rfl) ⟨_, rfl, ?_⟩
                rw [bo_tab u hu q hq] at kt kf
                have y1 : ¬ u = 0 := fun z => zc1 (by rw [z]; rfl)
                have y6 : ¬ q = u := fun z => zc6 (by rw [z])
                have y11 : u = 1 := pI_inj (a := u) (b := 1) (by omega) (by omega) zc11
                have y16 : ¬ q = 4 := fun z => zc16 (by rw [z]; rfl)
                have y21 : u = 2 := pI_inj (a := u) (b := 2) (by omega) (by omega) zc21
                have y26 : ¬ q = 3 := fun z => zc26 (by rw [z]; rfl)
                have y31 : q = 5 := pI_inj (a := q) (b := 5) (by omega) (by omega) zc31
                exact kt (decide_eq_true (by omega))
              · refine g_iload_n dX10_isUnder_34 rfl ?_
                refine g_iconst (v := 3) dX10_isUnder_35 rfl ?_
                refine g_icmp_ne (tgt := 44) dX10_isUnder_36 (by decide) (fun zc36 => ?_) (fun zc36 => ?_)
                · refine g_iload_n dX10_isUnder_44 rfl ?_
                  refine g_bipush (v := 6) dX10_isUnder_45 rfl ?_
                  refine g_icmp_ne (tgt := 60) dX10_isUnder_47 (by decide) (fun zc47 => ?_) (fun zc47 => ?_)
                  · refine g_iconst (v := 0) dX10_isUnder_60 rfl ?_
                    refine g_zret dX10_isUnder_61 rfl (Or.inl rfl) ⟨_, rfl, ?_⟩
                    rw [bo_tab u hu q hq] at kt kf
                    have y1 : ¬ u = 0 := fun z => zc1 (by rw [z]; rfl)
                    have y6 : ¬ q = u := fun z => zc6 (by rw [z])
                    have y11 : u = 1 := pI_inj (a := u) (b := 1) (by omega) (by omega) zc11
                    have y16 : ¬ q = 4 := fun z => zc16 (by rw [z]; rfl)
                    have y21 : u = 2 := pI_inj (a := u) (b := 2) (by omega) (by omega) zc21
                    have y26 : ¬ q = 3 := fun z => zc26 (by rw [z]; rfl)
                    have y31 : ¬ q = 5 := fun z => zc31 (by rw [z]; rfl)
                    have y36 : ¬ u = 3 := fun z => zc36 (by rw [z]; rfl)
                    have y47 : ¬ u = 6 := fun z => zc47 (by rw [z]; rfl)
                    exact kf (decide_eq_false (by omega))
                  · refine g_iload_n dX10_isUnder_50 rfl ?_
                    refine g_bipush (v := 7) dX10_isUnder_51 rfl ?_
                    refine g_icmp_ne (tgt := 60) dX10_isUnder_53 (by decide) (fun zc53 => ?_) (fun zc53 => ?_)
                    · refine g_iconst (v := 0) dX10_isUnder_60 rfl ?_
                      refine g_zret dX10_isUnder_61 rfl (Or.inl rfl) ⟨_, rfl, ?_⟩
                      rw [bo_tab u hu q hq] at kt kf
                      have y1 : ¬ u = 0 := fun z => zc1 (by rw [z]; rfl)
                      have y6 : ¬ q = u := fun z => zc6 (by rw [z])
                      have y11 : u = 1 := pI_inj (a := u) (b := 1) (by omega) (by omega) zc11
                      have y16 : ¬ q = 4 := fun z => zc16 (by rw [z]; rfl)
                      have y21 : u = 2 := pI_inj (a := u) (b := 2) (by omega) (by omega) zc21
                      have y26 : ¬ q = 3 := fun z => zc26 (by rw [z]; rfl)
                      have y31 : ¬ q = 5 := fun z => zc31 (by rw [z]; rfl)
                      have y36 : ¬ u = 3 := fun z => zc36 (by rw [z]; rfl)
                      have y47 : u = 6 := pI_inj (a := u) (b := 6) (by omega) (by omega) zc47
                      have y53 : ¬ q = 7 := fun z => zc53 (by rw [z]; rfl)
                      exact kf (decide_eq_false (by omega))
                    · refine g_iconst (v := 1) dX10_isUnder_56 rfl ?_
                      refine g_goto (tgt := 61) dX10_isUnder_57 (by decide) ?_
                      refine g_zret dX10_isUnder_61 rfl (Or.inr rfl) ⟨_, rfl, ?_⟩
                      rw [bo_tab u hu q hq] at kt kf
                      have y1 : ¬ u = 0 := fun z => zc1 (by rw [z]; rfl)
                      have y6 : ¬ q = u := fun z => zc6 (by rw [z])
                      have y11 : u = 1 := pI_inj (a := u) (b := 1) (by omega) (by omega) zc11
                      have y16 : ¬ q = 4 := fun z => zc16 (by rw [z]; rfl)
                      have y21 : u = 2 := pI_inj (a := u) (b := 2) (by omega) (by omega) zc21
                      have y26 : ¬ q = 3 := fun z => zc26 (by rw [z]; rfl)
                      have y31 : ¬ q = 5 := fun z => zc31 (by rw [z]; rfl)
                      have y36 : ¬ u = 3 := fun z => zc36 (by rw [z]; rfl)
                      have y47 : u = 6 := pI_inj (a := u) (b := 6) (by omega) (by omega) zc47
                      have y53 : q = 7 := pI_inj (a := q) (b := 7) (by omega) (by omega) zc53
                      exact kt (decide_eq_true (by omega))
                · refine g_iload_n dX10_isUnder_39 rfl ?_
                  refine g_iconst (v := 5) dX10_isUnder_40 rfl ?_
                  refine g_icmp_eq (tgt := 56) dX10_isUnder_41 (by decide) (fun zc41 => ?_) (fun zc41 => ?_)
                  · refine g_iconst (v := 1) dX10_isUnder_56 rfl ?_
                    refine g_goto (tgt := 61) dX10_isUnder_57 (by decide) ?_
                    refine g_zret dX10_isUnder_61 rfl (Or.inr rfl) ⟨_, rfl, ?_⟩
                    rw [bo_tab u hu q hq] at kt kf
                    have y1 : ¬ u = 0 := fun z => zc1 (by rw [z]; rfl)
                    have y6 : ¬ q = u := fun z => zc6 (by rw [z])
                    have y11 : u = 1 := pI_inj (a := u) (b := 1) (by omega) (by omega) zc11
                    have y16 : ¬ q = 4 := fun z => zc16 (by rw [z]; rfl)
                    have y21 : u = 2 := pI_inj (a := u) (b := 2) (by omega) (by omega) zc21
                    have y26 : ¬ q = 3 := fun z => zc26 (by rw [z]; rfl)
                    have y31 : ¬ q = 5 := fun z => zc31 (by rw [z]; rfl)
                    have y36 : u = 3 := pI_inj (a := u) (b := 3) (by omega) (by omega) zc36
                    have y41 : q = 5 := pI_inj (a := q) (b := 5) (by omega) (by omega) zc41
                    exact kt (decide_eq_true (by omega))
                  · refine g_iload_n dX10_isUnder_44 rfl ?_
                    refine g_bipush (v := 6) dX10_isUnder_45 rfl ?_
                    refine g_icmp_ne (tgt := 60) dX10_isUnder_47 (by decide) (fun zc47 => ?_) (fun zc47 => ?_)
                    · refine g_iconst (v := 0) dX10_isUnder_60 rfl ?_
                      refine g_zret dX10_isUnder_61 rfl (Or.inl rfl) ⟨_, rfl, ?_⟩
                      rw [bo_tab u hu q hq] at kt kf
                      have y1 : ¬ u = 0 := fun z => zc1 (by rw [z]; rfl)
                      have y6 : ¬ q = u := fun z => zc6 (by rw [z])
                      have y11 : u = 1 := pI_inj (a := u) (b := 1) (by omega) (by omega) zc11
                      have y16 : ¬ q = 4 := fun z => zc16 (by rw [z]; rfl)
                      have y21 : u = 2 := pI_inj (a := u) (b := 2) (by omega) (by omega) zc21
                      have y26 : ¬ q = 3 := fun z => zc26 (by rw [z]; rfl)
                      have y31 : ¬ q = 5 := fun z => zc31 (by rw [z]; rfl)
                      have y36 : u = 3 := pI_inj (a := u) (b := 3) (by omega) (by omega) zc36
                      have y41 : ¬ q = 5 := fun z => zc41 (by rw [z]; rfl)
                      have y47 : ¬ u = 6 := fun z => zc47 (by rw [z]; rfl)
                      exact kf (decide_eq_false (by omega))
                    · refine g_iload_n dX10_isUnder_50 rfl ?_
                      refine g_bipush (v := 7) dX10_isUnder_51 rfl ?_
                      refine g_icmp_ne (tgt := 60) dX10_isUnder_53 (by decide) (fun zc53 => ?_) (fun zc53 => ?_)
                      · refine g_iconst (v := 0) dX10_isUnder_60 rfl ?_
                        refine g_zret dX10_isUnder_61 rfl (Or.inl rfl) ⟨_, rfl, ?_⟩
                        rw [bo_tab u hu q hq] at kt kf
                        have y1 : ¬ u = 0 := fun z => zc1 (by rw [z]; rfl)
                        have y6 : ¬ q = u := fun z => zc6 (by rw [z])
                        have y11 : u = 1 := pI_inj (a := u) (b := 1) (by omega) (by omega) zc11
                        have y16 : ¬ q = 4 := fun z => zc16 (by rw [z]; rfl)
                        have y21 : u = 2 := pI_inj (a := u) (b := 2) (by omega) (by omega) zc21
                        have y26 : ¬ q = 3 := fun z => zc26 (by rw [z]; rfl)
                        have y31 : ¬ q = 5 := fun z => zc31 (by rw [z]; rfl)
                        have y36 : u = 3 := pI_inj (a := u) (b := 3) (by omega) (by omega) zc36
                        have y41 : ¬ q = 5 := fun z => zc41 (by rw [z]; rfl)
                        have y47 : u = 6 := pI_inj (a := u) (b := 6) (by omega) (by omega) zc47
                        have y53 : ¬ q = 7 := fun z => zc53 (by rw [z]; rfl)
                        exact kf (decide_eq_false (by omega))
                      · refine g_iconst (v := 1) dX10_isUnder_56 rfl ?_
                        refine g_goto (tgt := 61) dX10_isUnder_57 (by decide) ?_
                        refine g_zret dX10_isUnder_61 rfl (Or.inr rfl) ⟨_, rfl, ?_⟩
                        rw [bo_tab u hu q hq] at kt kf
                        have y1 : ¬ u = 0 := fun z => zc1 (by rw [z]; rfl)
                        have y6 : ¬ q = u := fun z => zc6 (by rw [z])
                        have y11 : u = 1 := pI_inj (a := u) (b := 1) (by omega) (by omega) zc11
                        have y16 : ¬ q = 4 := fun z => zc16 (by rw [z]; rfl)
                        have y21 : u = 2 := pI_inj (a := u) (b := 2) (by omega) (by omega) zc21
                        have y26 : ¬ q = 3 := fun z => zc26 (by rw [z]; rfl)
                        have y31 : ¬ q = 5 := fun z => zc31 (by rw [z]; rfl)
                        have y36 : u = 3 := pI_inj (a := u) (b := 3) (by omega) (by omega) zc36
                        have y41 : ¬ q = 5 := fun z => zc41 (by rw [z]; rfl)
                        have y47 : u = 6 := pI_inj (a := u) (b := 6) (by omega) (by omega) zc47
                        have y53 : q = 7 := pI_inj (a := q) (b := 7) (by omega) (by omega) zc53
                        exact kt (decide_eq_true (by omega))
def trR (w w' : gx_W) (m : Nat) (l : List Nat) : Prop := same [86] [(57, 45)] w w' ∧ w_i w' 57 45 = nI (m + l.length) ∧ w_a w' 86 = bo_row (w_a w 86) m l
theorem trR.tr {w w' w'' : gx_W} {m : Nat} {l l' : List Nat} (h : trR w w' m l) (h' : trR w' w'' (m + l.length) l') : trR w w'' m (l ++ l') := by
  refine ⟨h.1.tr h'.1, ?_, ?_⟩
  · rw [List.length_append, ← Nat.add_assoc]; exact h'.2.1
  · rw [bo_row_app, ← h.2.2]; exact h'.2.2
/-- where a body stands: its kind, and how many have run -/
def bdM (w : gx_W) (bb kd m : Nat) : Prop := moO w ∧ bb < 50 ∧ w_a w 85 bb = nI kd ∧ kd < 8 ∧ w_i w 57 45 = nI m
theorem bdM.go {w w' : gx_W} {bb kd m : Nat} {l : List Nat} (h : bdM w bb kd m) (h' : trR w w' m l) : bdM w' bb kd (m + l.length) := ⟨h.1.same h'.1, h.2.1, by rw [(h'.1.2.2.2.1 85 (by simp)).1]; exact h.2.2.1, h.2.2.2.1, h'.2.1⟩
theorem c_X10_ran {d : Nat} {w : gx_W} {bb kd m r : Nat} {k : gx_W → Prop} (hd : 0 ≤ d) (h : bdM w bb kd m) (hm : m < 2 ^ 30) (kk : ∀ w', trR w w' m [r] → k w') : gx_C 0 0 d mX10_ran [.ref 57, .int (nI r)] w (Qv k) := by
  refine gx_C_of' (L := [.ref 57, .int (nI r)]) (by decide +kernel) rfl (Nat.le_of_ble_eq_true rfl) ?_
  refine g_aload_n dX10_ran_0 rfl ?_
  refine g_geti dX10_ran_1 fl_X10_336 h.1.1 ?_
  refine g_bipush (v := 24) dX10_ran_4 rfl ?_
  rw [h.2.2.2.2]
  refine g_icmp_ge (tgt := 19) dX10_ran_6 (by decide) (fun zc6 => ?_) (fun zc6 => ?_)
  · refine g_aload_n dX10_ran_19 rfl ?_
    refine g_dup dX10_ran_20 rfl ?_
    refine g_geti dX10_ran_21 fl_X10_336 h.1.1 ?_
    refine g_iconst (v := 1) dX10_ran_24 rfl ?_
    refine g_iadd dX10_ran_25 ?_
    refine g_puti dX10_ran_26 fl_X10_336 ft_10_45 h.1.1 ?_
    refine g_vret dX10_ran_29 rfl ⟨rfl, ?_⟩
    refine kk _ ⟨same.rf.si (by simp), by rw [wi_si, if_pos ⟨rfl, rfl⟩, h.2.2.2.2]; exact nI_1 m, ?_⟩
    show w_a w 86 = (if m < 24 then va_up (w_a w 86) m (nI r) else w_a w 86)
    rw [if_neg (fun q => absurd zc6 (nI_ge (b := 24) q (by decide)))]
  · refine g_aload_n dX10_ran_9 rfl ?_
    refine g_getr dX10_ran_10 fl_X10_102 h.1.1 (moR_86 h.1) ?_
    refine g_aload_n dX10_ran_13 rfl ?_
    refine g_geti dX10_ran_14 fl_X10_336 h.1.1 ?_
    rw [h.2.2.2.2]
    refine g_iload_n dX10_ran_17 rfl ?_
    refine g_iast dX10_ran_18 (moA_86 h.1) (vp_in_nI (show m < 24 from by rcases Nat.lt_or_ge m 24 with q | q; exact q; exact absurd (nI_le (b := m) q (by omega)) zc6) (by decide)) ?_
    rw [nI_n (show m < 2 ^ 31 by omega)]
    refine g_aload_n dX10_ran_19 rfl ?_
    refine g_dup dX10_ran_20 rfl ?_
    refine g_geti dX10_ran_21 fl_X10_336 h.1.1 ?_
    refine g_iconst (v := 1) dX10_ran_24 rfl ?_
    refine g_iadd dX10_ran_25 ?_
    refine g_puti dX10_ran_26 fl_X10_336 ft_10_45 h.1.1 ?_
    refine g_vret dX10_ran_29 rfl ⟨rfl, ?_⟩
    have hm24 : m < 24 := by rcases Nat.lt_or_ge m 24 with q | q; exact q; exact absurd (nI_le (b := m) q (by omega)) zc6
    refine kk _ ⟨(same.rf.sa (by simp)).si (by simp), by rw [wi_si, if_pos ⟨rfl, rfl⟩, show w_i (s_a w 86 (va_up (w_a w 86) m (nI r))) 57 45 = nI m from h.2.2.2.2]; exact nI_1 m, ?_⟩
    show w_a (s_a w 86 (va_up (w_a w 86) m (nI r))) 86 = (if m < 24 then va_up (w_a w 86) m (nI r) else w_a w 86)
    rw [wa_sat, if_pos hm24]
def pW (b x : Int32) : Int32 × List Nat := (x + b, [1])
def eW (b x : Int32) : Int32 × List Nat := ((pW b x).1 * 2, 70 :: (pW b x).2)
def aW (kd : Nat) (b x : Int32) : Int32 × List Nat := if kd = 1 ∨ kd = 4 then ((pW b x).1 + 3, 20 :: (pW b x).2) else if kd = 7 then ((eW b x).1 - 1, 81 :: (eW b x).2) else if kd = 6 then eW b x else pW b x
def pV (kd : Nat) (b x : Int32) : Int32 × List Nat := ((aW kd b x).1 * 2, 10 :: (aW kd b x).2)
def gV (kd : Nat) (b x : Int32) : Int32 × List Nat := (-(pV kd b x).1, 30 :: (pV kd b x).2)
def pT (b x : Int32) : Int32 × List Nat := (x ^^^ b, [11])
def kT (b x : Int32) : Int32 × List Nat := ((pT b x).1 * 3, 40 :: (pT b x).2)
def aT (kd : Nat) (b x : Int32) : Int32 × List Nat := if kd = 5 then ((kT b x).1 - (aW kd b 2).1, 60 :: ((kT b x).2 ++ (aW kd b 2).2)) else if kd = 3 then kT b x else pT b x
def aV (kd : Nat) (b x : Int32) : Int32 × List Nat := if kd = 3 ∨ kd = 5 then ((gV kd b (x + 1)).1, 41 :: (gV kd b (x + 1)).2) else if kd = 7 then ((pV kd b x).1 + (aT kd b 2).1, 80 :: ((pV kd b x).2 ++ (aT kd b 2).2)) else if kd = 2 then gV kd b x else pV kd b x
def pL (kd : Nat) (b x : Int32) : Int32 × List Nat := ((aV kd b x).1 - (aT kd b 1).1, 2 :: ((aV kd b x).2 ++ (aT kd b 1).2))
def aL (kd : Nat) (b x : Int32) : Int32 × List Nat := if kd = 4 then ((pL kd b x).1 ^^^ 5, 50 :: (pL kd b x).2) else if kd = 5 then ((pL kd b x).1 + 1, 61 :: (pL kd b x).2) else pL kd b x
/-- the two programs' acts are one -/
theorem act_same (b x : Int32) : ∀ kd, kd < 8 → bw kd b 41 0 kd x = aW kd b x ∧ bw kd b 41 1 kd x = aV kd b x ∧ bw kd b 41 2 kd x = aT kd b x ∧ bw kd b 41 3 kd x = aL kd b x := by
  intro kd hk
  rcases (by omega : kd = 0 ∨ kd = 1 ∨ kd = 2 ∨ kd = 3 ∨ kd = 4 ∨ kd = 5 ∨ kd = 6 ∨ kd = 7) with e | e | e | e | e | e | e | e <;> subst e <;> exact ⟨rfl, rfl, rfl, rfl⟩

/-! CrossroadsChoose: addedFrom, roads, shift -/
def me_ad (E : Nat → Int32) (ln p n : Nat) : Prop := p + 3 ≤ ln ∧ n < 6 ∧ me_fits 0 (E p) = true ∧ me_fits 1 (E (p + 1)) = true ∧ me_fits 2 (E (p + 2)) = true
theorem nI_2p (a : Nat) : nI a + 2 = nI (a + 2) := nI_add a 2
theorem c_X9_addedFrom {d : Nat} {w : gx_W} {n i ln : Nat} {x : Int32} {k : Int32 → gx_W → Prop} (hd : 4 ≤ d) (hT : isT w) (h : clO w) (hc : isCn w 37 38 n) (hsn : isSn w (45 + 2 * i) (46 + 2 * i) ln) (k1 : ∀ p, x = nI p → me_ad (fun j => (w_l w (46 + 2 * i) j).toInt32) ln p n → k 1 (s_a (s_i w 37 1 (nI (n + 1))) 38 (cr_put (w_a w 38) n ((fun j => (w_l w (46 + 2 * i) j).toInt32) p) ((fun j => (w_l w (46 + 2 * i) j).toInt32) (p + 1)) ((fun j => (w_l w (46 + 2 * i) j).toInt32) (p + 2))))) (k0 : (∀ p, x = nI p → ¬ me_ad (fun j => (w_l w (46 + 2 * i) j).toInt32) ln p n) → k 0 w) : gx_C 0 0 d mX9_addedFrom [.ref 6, .ref (45 + 2 * i), .int x] w (Qi k) := by
  refine gx_C_of' (L := [.ref 6, .ref (45 + 2 * i), .int x, .retAddr 0, .retAddr 0, .retAddr 0]) (by decide +kernel) rfl (Nat.le_of_ble_eq_true rfl) ?_
  have hln := hsn.2.2
  have hn6 := hc.2.2
  refine g_aload_n dX9_addedFrom_0 rfl ?_
  refine g_iload_n dX9_addedFrom_1 rfl ?_
  refine g_iconst (v := 3) dX9_addedFrom_2 rfl ?_
  refine g_cV2i dX9_addedFrom_3 ml_X9_105 mi_X5_hasRoom mv_X5_hasRoom hsn.1.1 ⟨_, rfl, rfl⟩ (Nat.le_of_ble_eq_true rfl) rfl (by omega) ?_
  refine c_X5_hasRoomN (m := 3) hsn (by decide) rfl (fun p ep hp => ?_) (fun nr => ?_)
  · refine g_if_eq (tgt := 19) dX9_addedFrom_6 (by decide) (fun q => absurd q (by decide)) (fun _ => ?_)
    refine g_aload_n dX9_addedFrom_9 rfl ?_
    refine g_getr dX9_addedFrom_10 fl_X9_67 h.1 h.2.1.1 ?_
    refine g_cV0i dX9_addedFrom_13 ml_X9_83 mi_X2_isFull mv_X2_isFull hc.1.1 ⟨_, rfl, rfl⟩ (Nat.le_of_ble_eq_true rfl) rfl (by omega) ?_
    refine c_X2_isFull (by omega) hc (fun n6 => ?_) (fun n6 => ?_)
    · refine g_if_eq (tgt := 21) dX9_addedFrom_16 (by decide) (fun q => absurd q (by decide)) (fun _ => ?_)
      refine g_iconst (v := 0) dX9_addedFrom_19 rfl ?_
      refine g_zret dX9_addedFrom_20 rfl (Or.inl rfl) ⟨_, rfl, ?_⟩
      exact k0 (fun _ _ q => absurd q.2.1 (by omega))
    · refine g_if_eq (tgt := 21) dX9_addedFrom_16 (by decide) (fun _ => ?_) (fun q => absurd q (by decide))
      refine g_aload_n dX9_addedFrom_21 rfl ?_
      refine g_iload_n dX9_addedFrom_22 rfl ?_
      subst ep
      refine g_cV1i dX9_addedFrom_23 ml_X9_108 mi_X5_small mv_X5_small hsn.1.1 ⟨_, rfl, rfl⟩ (Nat.le_of_ble_eq_true rfl) rfl (by omega) ?_
      refine c_X5_small (by omega) hsn (fun p1 e1 h1 => ?_) (fun nx1 => ?_)
      · have q1 : p = p1 := pI_inj (by omega) (by omega) e1
        subst q1
        refine g_istore_n dX9_addedFrom_26 (Nat.le_of_ble_eq_true rfl) rfl ?_
        refine g_aload_n dX9_addedFrom_27 rfl ?_
        refine g_iload_n dX9_addedFrom_28 rfl ?_
        refine g_iconst (v := 1) dX9_addedFrom_29 rfl ?_
        refine g_iadd dX9_addedFrom_30 ?_
        rw [nI_1]
        refine g_cV1i dX9_addedFrom_31 ml_X9_108 mi_X5_small mv_X5_small hsn.1.1 ⟨_, rfl, rfl⟩ (Nat.le_of_ble_eq_true rfl) rfl (by omega) ?_
        refine c_X5_small (by omega) hsn (fun p2 e2 h2 => ?_) (fun nx2 => ?_)
        · have q2 : p + 1 = p2 := pI_inj (by omega) (by omega) e2
          subst q2
          refine g_istore dX9_addedFrom_34 (Nat.le_of_ble_eq_true rfl) rfl ?_
          refine g_aload_n dX9_addedFrom_36 rfl ?_
          refine g_iload_n dX9_addedFrom_37 rfl ?_
          refine g_iconst (v := 2) dX9_addedFrom_38 rfl ?_
          refine g_iadd dX9_addedFrom_39 ?_
          rw [nI_2p]
          refine g_cV1i dX9_addedFrom_40 ml_X9_108 mi_X5_small mv_X5_small hsn.1.1 ⟨_, rfl, rfl⟩ (Nat.le_of_ble_eq_true rfl) rfl (by omega) ?_
          refine c_X5_small (by omega) hsn (fun p3 e3 h3 => ?_) (fun nx3 => ?_)
          · have q3 : p + 2 = p3 := pI_inj (by omega) (by omega) e3
            subst q3
            refine g_istore dX9_addedFrom_43 (Nat.le_of_ble_eq_true rfl) rfl ?_
            refine g_iconst (v := 0) dX9_addedFrom_45 rfl ?_
            refine g_iload_n dX9_addedFrom_46 rfl ?_
            refine g_cS2i dX9_addedFrom_47 ml_X9_79 mi_X9_fits ms_X9_fits (Nat.le_of_ble_eq_true rfl) rfl (by omega) ?_
            refine c_X9_fits (by omega) hT (fun t1 => ?_) (fun ff => ?_)
            · refine g_if_eq (tgt := 71) dX9_addedFrom_50 (by decide) (fun q => absurd q (by decide)) (fun _ => ?_)
              refine g_iconst (v := 1) dX9_addedFrom_53 rfl ?_
              refine g_iload dX9_addedFrom_54 rfl ?_
              refine g_cS2i dX9_addedFrom_56 ml_X9_79 mi_X9_fits ms_X9_fits (Nat.le_of_ble_eq_true rfl) rfl (by omega) ?_
              refine c_X9_fits (by omega) hT (fun t2 => ?_) (fun ff => ?_)
              · refine g_if_eq (tgt := 71) dX9_addedFrom_59 (by decide) (fun q => absurd q (by decide)) (fun _ => ?_)
                refine g_iconst (v := 2) dX9_addedFrom_62 rfl ?_
                refine g_iload dX9_addedFrom_63 rfl ?_
                refine g_cS2i dX9_addedFrom_65 ml_X9_79 mi_X9_fits ms_X9_fits (Nat.le_of_ble_eq_true rfl) rfl (by omega) ?_
                refine c_X9_fits (by omega) hT (fun t3 => ?_) (fun ff => ?_)
                · refine g_if_ne (tgt := 73) dX9_addedFrom_68 (by decide) (fun _ => ?_) (fun q => absurd q (by decide))
                  refine g_aload_n dX9_addedFrom_73 rfl ?_
                  refine g_getr dX9_addedFrom_74 fl_X9_67 h.1 h.2.1.1 ?_
                  refine g_iload_n dX9_addedFrom_77 rfl ?_
                  refine g_iload dX9_addedFrom_78 rfl ?_
                  refine g_iload dX9_addedFrom_80 rfl ?_
                  refine g_cV3i dX9_addedFrom_82 ml_X9_87 mi_X2_add mv_X2_add hc.1.1 ⟨_, rfl, rfl⟩ (Nat.le_of_ble_eq_true rfl) rfl (by omega) ?_
                  refine c_X2_add (by omega) hc (fun h6 => ?_) (fun h6 => ?_)
                  · refine g_if_lt (tgt := 92) dX9_addedFrom_85 (by decide) (fun zc85 => ?_) (fun zc85 => ?_)
                    · refine g_iconst (v := 0) dX9_addedFrom_92 rfl ?_
                      refine g_zret dX9_addedFrom_93 rfl (Or.inl rfl) ⟨_, rfl, ?_⟩
                      exact absurd zc85 (nI_pos (by omega))
                    · refine g_iconst (v := 1) dX9_addedFrom_88 rfl ?_
                      refine g_goto (tgt := 93) dX9_addedFrom_89 (by decide) ?_
                      refine g_zret dX9_addedFrom_93 rfl (Or.inr rfl) ⟨_, rfl, ?_⟩
                      exact k1 p rfl ⟨hp, h6, t1, t2, t3⟩
                  · exact absurd h6 (by omega)
                · refine g_if_ne (tgt := 73) dX9_addedFrom_68 (by decide) (fun q => absurd q (by decide)) (fun _ => ?_)
                  refine g_iconst (v := 0) dX9_addedFrom_71 rfl ?_
                  refine g_zret dX9_addedFrom_72 rfl (Or.inl rfl) ⟨_, rfl, ?_⟩
                  refine k0 (fun p2 ep q => ?_)
                  have q9 : p = p2 := pI_inj (by omega) (by have := q.1; omega) ep
                  subst q9
                  exact absurd (ff.symm.trans q.2.2.2.2) (by decide)
              · refine g_if_eq (tgt := 71) dX9_addedFrom_59 (by decide) (fun _ => ?_) (fun q => absurd q (by decide))
                refine g_iconst (v := 0) dX9_addedFrom_71 rfl ?_
                refine g_zret dX9_addedFrom_72 rfl (Or.inl rfl) ⟨_, rfl, ?_⟩
                refine k0 (fun p2 ep q => ?_)
                have q9 : p = p2 := pI_inj (by omega) (by have := q.1; omega) ep
                subst q9
                exact absurd (ff.symm.trans q.2.2.2.1) (by decide)
            · refine g_if_eq (tgt := 71) dX9_addedFrom_50 (by decide) (fun _ => ?_) (fun q => absurd q (by decide))
              refine g_iconst (v := 0) dX9_addedFrom_71 rfl ?_
              refine g_zret dX9_addedFrom_72 rfl (Or.inl rfl) ⟨_, rfl, ?_⟩
              refine k0 (fun p2 ep q => ?_)
              have q9 : p = p2 := pI_inj (by omega) (by have := q.1; omega) ep
              subst q9
              exact absurd (ff.symm.trans q.2.2.1) (by decide)
          · exact absurd (show p + 2 < ln by omega) (nx3 (p + 2) (by omega) rfl)
        · exact absurd (show p + 1 < ln by omega) (nx2 (p + 1) (by omega) rfl)
      · exact absurd (show p < ln by omega) (nx1 (p) (by omega) rfl)
  · refine g_if_eq (tgt := 19) dX9_addedFrom_6 (by decide) (fun _ => ?_) (fun q => absurd q (by decide))
    refine g_iconst (v := 0) dX9_addedFrom_19 rfl ?_
    refine g_zret dX9_addedFrom_20 rfl (Or.inl rfl) ⟨_, rfl, ?_⟩
    exact k0 (fun p ep q => nr p (by have := q.1; omega) ep q.1)
def me_rd (E : Nat → Int32) (ln p : Nat) : Nat → Nat → Nat → (Nat → Int32) → Nat × Nat × (Nat → Int32)
  | 0, c, n, f => (c, n, f)
  | z + 1, c, n, f => if p + 3 * c + 3 ≤ ln ∧ n < 6 ∧ me_fits 0 (E (p + 3 * c)) = true ∧ me_fits 1 (E (p + 3 * c + 1)) = true ∧ me_fits 2 (E (p + 3 * c + 2)) = true then me_rd E ln p z (c + 1) (n + 1) (cr_put f n (E (p + 3 * c)) (E (p + 3 * c + 1)) (E (p + 3 * c + 2))) else (c, n, f)
def rdR (w w' : gx_W) (n : Nat) (f : Nat → Int32) : Prop := same [38] [(37, 1)] w w' ∧ w_i w' 37 1 = nI n ∧ w_a w' 38 = f ∧ n ≤ 6
theorem me_rd_stop {E : Nat → Int32} {ln p z c n : Nat} {f : Nat → Int32} (h : ¬ me_ad E ln (p + 3 * c) n) : me_rd E ln p (z + 1) c n f = (c, n, f) := if_neg h
theorem me_rd_go {E : Nat → Int32} {ln p z c n : Nat} {f : Nat → Int32} (h : me_ad E ln (p + 3 * c) n) : me_rd E ln p (z + 1) c n f = me_rd E ln p z (c + 1) (n + 1) (cr_put f n (E (p + 3 * c)) (E (p + 3 * c + 1)) (E (p + 3 * c + 2))) := if_pos h
theorem nI_3x (p c : Nat) : nI p + 3 * nI c = nI (p + 3 * c) := by
  rw [show (3 : Int32) * nI c = nI (3 * c) from pk_mul 3 c, nI_add]
set_option maxHeartbeats 4000000 in
theorem l_X9_roads {d n i ln p M : Nat} {w : gx_W} {x : Int32} {k : Int32 → gx_W → Prop} (hd : 5 ≤ d) (hT : isT w) (h : clO w) (hc : isCn w 37 38 n) (hi6 : i < 6) (hsn : isSn w (45 + 2 * i) (46 + 2 * i) ln) (hM : M ≤ 6) : ∀ (z c n1 : Nat) (f : Nat → Int32) (w1 : gx_W), c + z = M → rdR w w1 n1 f → p + 3 * c < 2 ^ 31 → (∀ w', rdR w w' (me_rd (fun j => (w_l w (46 + 2 * i) j).toInt32) ln p z c n1 f).2.1 (me_rd (fun j => (w_l w (46 + 2 * i) j).toInt32) ln p z c n1 f).2.2 → k (nI (me_rd (fun j => (w_l w (46 + 2 * i) j).toInt32) ln p z c n1 f).1) w') → gx_G 0 0 d mX9_roads (Qi k) 49 [.ref 6, .int x, .int (nI p), .int (nI M), .ref (45 + 2 * i), .int (nI c)] [] w1 := by
  intro z
  have hln := hsn.2.2
  induction z with
  | zero =>
    intro c n1 f w1 hj hI hb kk
    have ec : c = M := by omega
    subst ec
    refine g_iload dX9_roads_49 rfl ?_
    refine g_iload_n dX9_roads_51 rfl ?_
    refine g_icmp_ge (tgt := 76) dX9_roads_52 (by decide) (fun zc52 => ?_) (fun zc52 => ?_)
    · refine g_iload dX9_roads_76 rfl ?_
      refine g_iret dX9_roads_78 rfl ⟨_, rfl, ?_⟩
      exact kk w1 hI
    · exact absurd (Int32.le_refl _) zc52
  | succ z ih =>
    intro c n1 f w1 hj hI hb kk
    have hl1 : w_l w1 (46 + 2 * i) = w_l w (46 + 2 * i) := (hI.1.2.2.2.1 (46 + 2 * i) (by simp; omega)).2
    have hs1 : isSn w1 (45 + 2 * i) (46 + 2 * i) ln := by
      obtain ⟨⟨a1, a2, a3⟩, a4, a5⟩ := hsn
      exact ⟨⟨by rw [hI.1.1]; exact a1, by rw [hI.1.2.2.1]; exact a2, by rw [hI.1.1]; exact a3⟩, (hI.1.2.1 _ 4 (by simp)).trans a4, a5⟩
    have hc1 : isCn w1 37 38 n1 := ⟨hc.1.same hI.1, hI.2.1, hI.2.2.2⟩
    refine g_iload dX9_roads_49 rfl ?_
    refine g_iload_n dX9_roads_51 rfl ?_
    refine g_icmp_ge (tgt := 76) dX9_roads_52 (by decide) (fun zc52 => ?_) (fun zc52 => ?_)
    · refine g_iload dX9_roads_76 rfl ?_
      refine g_iret dX9_roads_78 rfl ⟨_, rfl, ?_⟩
      exact absurd zc52 (nI_ge (by omega) (by omega))
    · refine g_aload_n dX9_roads_55 rfl ?_
      refine g_aload dX9_roads_56 rfl ?_
      refine g_iload_n dX9_roads_58 rfl ?_
      refine g_iconst (v := 3) dX9_roads_59 rfl ?_
      refine g_iload dX9_roads_60 rfl ?_
      refine g_imul dX9_roads_62 ?_
      refine g_iadd dX9_roads_63 ?_
      rw [nI_3x]
      refine g_cV2i dX9_roads_64 ml_X9_101 mi_X9_addedFrom mv_X9_addedFrom (h.same hI.1).1 ⟨_, rfl, rfl⟩ (Nat.le_of_ble_eq_true rfl) rfl (by omega) ?_
      refine c_X9_addedFrom (by omega) (hT.same hI.1 (by simp)) (h.same hI.1) hc1 hs1 (fun p2 ep hok => ?_) (fun hno => ?_)
      · refine g_if_eq (tgt := 76) dX9_roads_67 (by decide) (fun q => absurd q (by decide)) (fun _ => ?_)
        refine g_iinc dX9_roads_70 rfl rfl ?_
        refine g_goto (tgt := 49) dX9_roads_73 (by decide) ?_
        have q9 : p2 = p + 3 * c := (pI_inj (by omega) (by have := hok.1; omega) ep).symm
        subst q9
        rw [hl1] at hok ⊢
        rw [me_rd_go hok] at kk
        rw [nI_1', hI.2.2.1]
        exact ih (c + 1) _ _ _ (by omega) ⟨(hI.1.si (by simp)).sa (by simp), (by rw [wi_sa, wi_si, if_pos ⟨rfl, rfl⟩]), rfl, hok.2.1⟩ (by have := hok.1; omega) kk
      · refine g_if_eq (tgt := 76) dX9_roads_67 (by decide) (fun _ => ?_) (fun q => absurd q (by decide))
        refine g_iload dX9_roads_76 rfl ?_
        refine g_iret dX9_roads_78 rfl ⟨_, rfl, ?_⟩
        have hno2 := hno _ rfl
        rw [hl1] at hno2
        rw [me_rd_stop hno2] at kk
        exact kk w1 hI
set_option maxHeartbeats 4000000 in
theorem l_X9_roads0 {d n i ln M : Nat} {w : gx_W} {x y : Int32} {k : Int32 → gx_W → Prop} (hd : 5 ≤ d) (hT : isT w) (h : clO w) (hc : isCn w 37 38 n) (hsn : isSn w (45 + 2 * i) (46 + 2 * i) ln) (hy : y < 0) (hM1 : 1 ≤ M) (hM : M ≤ 6) (kk : k 0 w) : gx_G 0 0 d mX9_roads (Qi k) 49 [.ref 6, .int x, .int y, .int (nI M), .ref (45 + 2 * i), .int 0] [] w := by
  refine g_iload dX9_roads_49 rfl ?_
  refine g_iload_n dX9_roads_51 rfl ?_
  refine g_icmp_ge (tgt := 76) dX9_roads_52 (by decide) (fun zc52 => ?_) (fun zc52 => ?_)
  · refine g_iload dX9_roads_76 rfl ?_
    refine g_iret dX9_roads_78 rfl ⟨_, rfl, ?_⟩
    exact absurd (show nI (M) ≤ nI 0 from zc52) (nI_ge (by omega) (by omega))
  · refine g_aload_n dX9_roads_55 rfl ?_
    refine g_aload dX9_roads_56 rfl ?_
    refine g_iload_n dX9_roads_58 rfl ?_
    refine g_iconst (v := 3) dX9_roads_59 rfl ?_
    refine g_iload dX9_roads_60 rfl ?_
    refine g_imul dX9_roads_62 ?_
    refine g_iadd dX9_roads_63 ?_
    refine g_cV2i dX9_roads_64 ml_X9_101 mi_X9_addedFrom mv_X9_addedFrom h.1 ⟨_, rfl, rfl⟩ (Nat.le_of_ble_eq_true rfl) rfl (by omega) ?_
    refine c_X9_addedFrom (by omega) hT h hc hsn (fun p2 ep hok => ?_) (fun hno => ?_)
    · refine g_if_eq (tgt := 76) dX9_roads_67 (by decide) (fun q => absurd q (by decide)) (fun _ => ?_)
      have e2 : y = nI p2 := by rw [← ep]; exact (by simp : y = y + 3 * 0)
      have := hok.1
      have := hsn.2.2
      rw [e2] at hy
      exact absurd hy (nI_pos (by omega))
    · refine g_if_eq (tgt := 76) dX9_roads_67 (by decide) (fun _ => ?_) (fun q => absurd q (by decide))
      refine g_iload dX9_roads_76 rfl ?_
      refine g_iret dX9_roads_78 rfl ⟨_, rfl, ?_⟩
      exact kk
set_option maxHeartbeats 4000000 in
theorem c_X9_roads {d : Nat} {w : gx_W} {n : Nat} {ln : Nat → Nat} {x y m : Int32} {k : Int32 → gx_W → Prop} (hd : 5 ≤ d) (hT : isT w) (h : clO w) (hc : isCn w 37 38 n) (hl : ∀ i, i < 6 → isSn w (45 + 2 * i) (46 + 2 * i) (ln i)) (k1 : (∀ i, i < 6 → x ≠ nI i) → k (-1) w) (k2 : (m < 1 ∨ 6 < m) → k (-1) w) (k3 : ∀ i, x = nI i → i < 6 → ¬ m < 1 → ¬ 6 < m → w_i w (45 + 2 * i) 1 = 0 → k 0 w) (k4 : ∀ i, x = nI i → i < 6 → ¬ m < 1 → ¬ 6 < m → ¬ w_i w (45 + 2 * i) 1 = 0 → ¬ (w_i w (45 + 2 * i) 1 = 2 ∧ w_i w (45 + 2 * i) 3 = 0) → k (-12) w) (k5 : ∀ i M, x = nI i → i < 6 → m = nI (M + 1) → M < 6 → w_i w (45 + 2 * i) 1 = 2 → w_i w (45 + 2 * i) 3 = 0 → y < 0 → k 0 w) (k6 : ∀ i M p, x = nI i → i < 6 → m = nI M → 1 ≤ M → M ≤ 6 → w_i w (45 + 2 * i) 1 = 2 → w_i w (45 + 2 * i) 3 = 0 → y = nI p → p < 2 ^ 31 → ∀ w', rdR w w' (me_rd (fun j => (w_l w (46 + 2 * i) j).toInt32) (ln i) p M 0 n (w_a w 38)).2.1 (me_rd (fun j => (w_l w (46 + 2 * i) j).toInt32) (ln i) p M 0 n (w_a w 38)).2.2 → k (nI (me_rd (fun j => (w_l w (46 + 2 * i) j).toInt32) (ln i) p M 0 n (w_a w 38)).1) w') : gx_C 0 0 d mX9_roads [.ref 6, .int x, .int y, .int m] w (Qi k) := by
  refine gx_C_of' (L := [.ref 6, .int x, .int y, .int m, .retAddr 0, .retAddr 0]) (by decide +kernel) rfl (Nat.le_of_ble_eq_true rfl) ?_
  refine g_aload_n dX9_roads_0 rfl ?_
  refine g_iload_n dX9_roads_1 rfl ?_
  refine g_cV1q dX9_roads_2 ml_X9_91 mi_X9_shelfAt mv_X9_shelfAt h.1 ⟨_, rfl, rfl⟩ (Nat.le_of_ble_eq_true rfl) rfl (by omega) ?_
  refine c_X9_shelfAt (by omega) h (fun i e hi => ?_) (fun hn => ?_)
  · refine g_astore dX9_roads_5 (Nat.le_of_ble_eq_true rfl) rfl ?_
    refine g_aload dX9_roads_7 rfl ?_
    refine g_ifnull dX9_roads_9 ?_
    refine g_iload_n dX9_roads_12 rfl ?_
    refine g_iconst (v := 1) dX9_roads_13 rfl ?_
    refine g_icmp_lt (tgt := 23) dX9_roads_14 (by decide) (fun zc14 => ?_) (fun zc14 => ?_)
    · refine g_iconst (v := -1) dX9_roads_23 rfl ?_
      refine g_iret dX9_roads_24 rfl ⟨_, rfl, ?_⟩
      exact k2 (Or.inl zc14)
    · refine g_iload_n dX9_roads_17 rfl ?_
      refine g_bipush (v := 6) dX9_roads_18 rfl ?_
      refine g_icmp_le (tgt := 25) dX9_roads_20 (by decide) (fun zc20 => ?_) (fun zc20 => ?_)
      · refine g_aload dX9_roads_25 rfl ?_
        refine g_cV0i dX9_roads_27 ml_X9_95 mi_X5_holdsNothing mv_X5_holdsNothing (hl i hi).1.1 ⟨_, rfl, rfl⟩ (Nat.le_of_ble_eq_true rfl) rfl (by omega) ?_
        refine c_X5_holdsNothing (by omega) (hl i hi).1 (fun f1 => ?_) (fun f1 => ?_)
        · refine g_if_eq (tgt := 35) dX9_roads_30 (by decide) (fun q => absurd q (by decide)) (fun _ => ?_)
          refine g_iconst (v := 0) dX9_roads_33 rfl ?_
          refine g_iret dX9_roads_34 rfl ⟨_, rfl, ?_⟩
          exact k3 i e hi (Int32.not_lt.mpr (Int32.not_lt.mp zc14)) (Int32.not_lt.mpr zc20) f1
        · refine g_if_eq (tgt := 35) dX9_roads_30 (by decide) (fun _ => ?_) (fun q => absurd q (by decide))
          refine g_aload dX9_roads_35 rfl ?_
          refine g_cV0i dX9_roads_37 ml_X9_98 mi_X5_holdsBytes mv_X5_holdsBytes (hl i hi).1.1 ⟨_, rfl, rfl⟩ (Nat.le_of_ble_eq_true rfl) rfl (by omega) ?_
          refine c_X5_holdsBytes (by omega) (hl i hi).1 (fun f2 f3 => ?_) (fun f2 => ?_)
          · refine g_if_ne (tgt := 46) dX9_roads_40 (by decide) (fun _ => ?_) (fun q => absurd q (by decide))
            refine g_iconst (v := 0) dX9_roads_46 rfl ?_
            refine g_istore dX9_roads_47 (Nat.le_of_ble_eq_true rfl) rfl ?_
            obtain ⟨M, hM, em⟩ : ∃ M : Nat, M ≤ 6 ∧ m = nI M := nI_of2 (M := 6) (n := 6) (by decide) (fun q => zc14 (by rw [pI_lt] at q ⊢; simp at q ⊢; omega)) zc20
            subst em
            have hM1 : 1 ≤ M := by
              have z := Int32.not_lt.mp zc14
              rw [pI_le, nI_toInt (by omega)] at z
              have : (1 : Int32).toInt = 1 := by decide
              omega
            subst e
            by_cases hy : y < 0
            · obtain ⟨M, rfl⟩ : ∃ M', M = M' + 1 := ⟨M - 1, by omega⟩
              exact l_X9_roads0 (by omega) hT h hc (hl i hi) hy hM1 hM (k5 i M rfl hi rfl (by omega) f2 f3 hy)
            · obtain ⟨p, hp, rfl⟩ := nI_of hy
              exact l_X9_roads hd hT h hc hi (hl i hi) hM M 0 n _ w (Nat.zero_add _) ⟨same.rf, hc.2.1, rfl, hc.2.2⟩ (by omega) (k6 i M p rfl hi rfl hM1 hM f2 f3 rfl hp)
          · refine g_if_ne (tgt := 46) dX9_roads_40 (by decide) (fun q => absurd q (by decide)) (fun _ => ?_)
            refine g_bipush (v := -12) dX9_roads_43 rfl ?_
            refine g_iret dX9_roads_45 rfl ⟨_, rfl, ?_⟩
            exact k4 i e hi (Int32.not_lt.mpr (Int32.not_lt.mp zc14)) (Int32.not_lt.mpr zc20) f1 f2
      · refine g_iconst (v := -1) dX9_roads_23 rfl ?_
        refine g_iret dX9_roads_24 rfl ⟨_, rfl, ?_⟩
        exact k2 (Or.inr (Int32.not_le.mp zc20))
  · refine g_astoreN dX9_roads_5 (Nat.le_of_ble_eq_true rfl) rfl ?_
    refine g_aloadN dX9_roads_7 rfl ?_
    refine g_ifnullN (tgt := 23) dX9_roads_9 (by decide) ?_
    refine g_iconst (v := -1) dX9_roads_23 rfl ?_
    refine g_iret dX9_roads_24 rfl ⟨_, rfl, ?_⟩
    exact k1 hn

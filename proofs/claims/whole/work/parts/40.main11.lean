/-! CrossroadsChoose: thoughts of which only the numbers count -/
def thF (w w' : gx_W) (n l N : Nat) (f : Nat → Int32) : Prop := sam TR TG [(43, 2)] w w' ∧ thO w' ∧ isCk w' 43 44 n l N ∧ ∀ j, j < 28 → w_a w' 44 j = f j
theorem thI.F {w w' : gx_W} {n l N : Nat} {f a b g : Nat → Int32} {cm lt wo : Int32} (h : thI w w' n l N f a b g cm lt wo) : thF w w' n l N f := ⟨h.1, h.2.1, h.2.2.1, h.2.2.2.1⟩
theorem thF.rows {w w' : gx_W} {n l N : Nat} {f : Nat → Int32} (h : thF w w' n l N f) : w_a w' (l + 1) = w_a w (l + 1) ∧ w_a w' (l + 2) = w_a w (l + 2) := by
  have hl := h.2.2.1.2
  exact ⟨(h.1.2.2.2.1 _ (by rcases hl with rfl | rfl <;> decide)).1, (h.1.2.2.2.1 _ (by rcases hl with rfl | rfl <;> decide)).1⟩
theorem thF.go {w w1 w' : gx_W} {n l N : Nat} {f f' : Nat → Int32} (h : thF w w1 n l N f) (hs : same TR TF w1 w') (hf : ∀ j, j < 28 → w_a w' 44 j = f' j) : thF w w' n l N f' := by
  obtain ⟨s1, s2, s3, _⟩ := h
  have hs' : sam TR TG [(43, 2)] w1 w' := hs.sam.wk (fun _ z => z) (fun _ z => List.mem_cons_of_mem _ z) (fun _ z => z)
  exact ⟨s1.tr hs', s2.same hs, s3.th hs' ((hs.2.1 43 1 (by simp)).trans s3.1.1.2.1) ((by rw [hs.2.2.1] : w_r w' 43 2 = w_r w1 43 2).trans s3.1.2.1) s3.1.1.1, hf⟩
theorem c_haverF {d n l N c : Nat} {w w1 : gx_W} {f : Nat → Int32} {k : Int32 → gx_W → Prop} (hd : 5 ≤ d) (h : thF w w1 n l N f) (hc : c < 100) (kk : ∀ w', thF w w' n l N f → k (cr_has N (w_a w (l + 1)) (w_a w (l + 2)) f n c) w') : gx_C 0 0 d mX2_haver [.ref 43, .int (nI c)] w1 (Qi k) := by
  refine c_X2_haver hd h.2.2.1.1 hc (fun w' hs => ?_)
  have hj := isCk.junk h.2.2.1.2 hs
  rw [h.rows.1, h.rows.2, cr_has_congr h.2.2.2 h.2.2.1.1.1.2.2]
  refine kk w' (h.go (hj.wk (by simp) (by simp)) (fun j hj2 => ?_))
  rw [(hj.2.2.2.1 44 (by decide)).1]
  exact h.2.2.2 j hj2
theorem c_becomeF {d n l N q y : Nat} {w w1 : gx_W} {f : Nat → Int32} {yy v : Int32} {k : gx_W → Prop} (hd : 1 ≤ d) (h : thF w w1 n l N f) (hq : q < n) (hy : y < 4) (ey : yy = nI y) (kk : ∀ w', thF w w' n l N (va_up f (y * 6 + q) v) → k w') : gx_C 0 0 d mX2_become [.ref 43, .int (nI q), .int yy, .int v] w1 (Qv k) := by
  refine c_become_r hd h.2.2.1.1.1 hy hq ey rfl (kk _ (h.go (same.sa same.rf (by simp)) (fun j hj => ?_)))
  rw [wa_sa, if_pos rfl, up_at, up_at, h.2.2.2 j hj]
/-- the least dust from t on with which a road has him -/
def me_mo (N : Nat) (sg va : Nat → Int32) (n c q : Nat) : Nat → Nat → (Nat → Int32) → Int32
  | 0, _, _ => -2
  | z + 1, t, f => if cr_has N sg va (va_up f (6 + q) (nI t)) n c = nI q then nI t else me_mo N sg va n c q z (t + 1) (va_up f (6 + q) (nI t))
set_option maxHeartbeats 4000000 in
theorem l_X9_more {d n l N q c : Nat} {w : gx_W} {k : Int32 → gx_W → Prop} (hd : 7 ≤ d) (hT : isT w) (h : clO w) (hq : q < n) (hc : c < 100) (hn : n ≤ 6) : ∀ (z t : Nat) (f : Nat → Int32) (w1 : gx_W), t + z = 10 → thF w w1 n l N f → (∀ w', sam TR TG [(43, 2)] w w' → k (me_mo N (w_a w (l + 1)) (w_a w (l + 2)) n c q z t f) w') → gx_G 0 0 d mX9_more (Qi k) 27 [.ref 6, .int (nI (100 * q + c)), .int (nI t)] [] w1 := by
  intro z
  induction z with
  | zero =>
    intro t f w1 hi hI kk
    have e : t = 10 := by omega
    subst e
    have hT2 : w1.1[2]? = some (30, 8) := (hT.sam hI.1 (by simp) 2 (by decide) (by decide)).1
    have hv2 : w_a w1 2 = fun j => (gx_tab 2).getD j 0 := (hT.sam hI.1 (by simp) 2 (by decide) (by decide)).2
    refine g_iload_n dX9_more_27 rfl ?_
    refine g_gets (a := 2) dX9_more_28 gs_X9_138 (by decide) (by decide) ?_
    refine g_iconst (v := 1) dX9_more_31 rfl ?_
    refine g_rald dX9_more_32 (by decide) hT2 (by first | assumption | exact vp_in_iff.mpr (by decide)) ?_
    rw [hv2]
    refine g_icmp_gt (tgt := 81) dX9_more_33 (by decide) (fun zc33 => ?_) (fun zc33 => ?_)
    · refine g_bipush (v := -2) dX9_more_81 rfl ?_
      refine g_iret dX9_more_83 rfl ⟨_, rfl, ?_⟩
      exact kk w1 hI.1
    · exact absurd (by decide) zc33
  | succ z ih =>
    intro t f w1 hi hI kk
    have hT2 : w1.1[2]? = some (30, 8) := (hT.sam hI.1 (by simp) 2 (by decide) (by decide)).1
    have hv2 : w_a w1 2 = fun j => (gx_tab 2).getD j 0 := (hT.sam hI.1 (by simp) 2 (by decide) (by decide)).2
    have e100 : (100 : Int32) = nI 100 := rfl
    have hrem : nI (100 * q + c) - nI (100 * q + c) / 100 * 100 = nI c := by
      rw [e100, pk_rem (by omega) (by decide) (by decide), show (100 * q + c) % 100 = c by omega]
    have hdiv : nI (100 * q + c) / 100 = nI q := by
      rw [e100, pk_div (by omega) (by decide) (by decide), show (100 * q + c) / 100 = q by omega]
    refine g_iload_n dX9_more_27 rfl ?_
    refine g_gets (a := 2) dX9_more_28 gs_X9_138 (by decide) (by decide) ?_
    refine g_iconst (v := 1) dX9_more_31 rfl ?_
    refine g_rald dX9_more_32 (by decide) hT2 (by first | assumption | exact vp_in_iff.mpr (by decide)) ?_
    rw [hv2]
    refine g_icmp_gt (tgt := 81) dX9_more_33 (by decide) (fun zc33 => ?_) (fun zc33 => ?_)
    · refine g_bipush (v := -2) dX9_more_81 rfl ?_
      refine g_iret dX9_more_83 rfl ⟨_, rfl, ?_⟩
      exact absurd (show nI 9 < nI t from zc33) (by rw [pI_lt, nI_toInt (by omega), nI_toInt (by omega)]; omega)
    · refine g_aload_n dX9_more_36 rfl ?_
      refine g_getr dX9_more_37 fl_X9_74 (clO_th h hI.1).1 (clO_th h hI.1).2.1.2.1 ?_
      refine g_getr dX9_more_40 fl_X9_165 hI.2.1.1 hI.2.1.2.1 ?_
      refine g_iload_n dX9_more_43 rfl ?_
      refine g_bipush (v := 100) dX9_more_44 rfl ?_
      refine g_idiv dX9_more_46 (by decide) ?_
      rw [hdiv]
      refine g_iconst (v := 1) dX9_more_47 rfl ?_
      refine g_iload_n dX9_more_48 rfl ?_
      refine g_cV3v dX9_more_49 ml_X9_121 mi_X2_become mv_X2_become hI.2.2.1.1.1.1.1 ⟨_, rfl, rfl⟩ (Nat.le_of_ble_eq_true rfl) rfl (by omega) ?_
      refine c_becomeF (y := 1) (by omega) hI hq (by decide) rfl (fun w2 hI => ?_)
      refine g_aload_n dX9_more_52 rfl ?_
      refine g_getr dX9_more_53 fl_X9_74 (clO_th h hI.1).1 (clO_th h hI.1).2.1.2.1 ?_
      refine g_getr dX9_more_56 fl_X9_165 hI.2.1.1 hI.2.1.2.1 ?_
      refine g_iload_n dX9_more_59 rfl ?_
      refine g_bipush (v := 100) dX9_more_60 rfl ?_
      refine g_irem dX9_more_62 (by decide) ?_
      rw [hrem]
      refine g_cV1i dX9_more_63 ml_X9_151 mi_X2_haver mv_X2_haver hI.2.2.1.1.1.1.1 ⟨_, rfl, rfl⟩ (Nat.le_of_ble_eq_true rfl) rfl (by omega) ?_
      refine c_haverF (by omega) hI hc (fun w3 hI => ?_)
      refine g_iload_n dX9_more_66 rfl ?_
      refine g_bipush (v := 100) dX9_more_67 rfl ?_
      refine g_idiv dX9_more_69 (by decide) ?_
      rw [hdiv]
      refine g_icmp_ne (tgt := 75) dX9_more_70 (by decide) (fun zc70 => ?_) (fun zc70 => ?_)
      · refine g_iinc dX9_more_75 rfl rfl ?_
        refine g_goto (tgt := 27) dX9_more_78 (by decide) ?_
        rw [show me_mo N (w_a w (l + 1)) (w_a w (l + 2)) n c q (z + 1) t f = me_mo N (w_a w (l + 1)) (w_a w (l + 2)) n c q z (t + 1) (va_up f (6 + q) (nI t)) from if_neg zc70] at kk
        rw [nI_1']
        exact ih (t + 1) _ w3 (by omega) hI kk
      · refine g_iload_n dX9_more_73 rfl ?_
        refine g_iret dX9_more_74 rfl ⟨_, rfl, ?_⟩
        rw [show me_mo N (w_a w (l + 1)) (w_a w (l + 2)) n c q (z + 1) t f = nI t from if_pos (by first | exact zc70 | exact Classical.not_not.mp zc70)] at kk
        exact kk w3 hI.1
theorem c_X9_more {d : Nat} {w : gx_W} {n l N : Nat} {x : Int32} {k : Int32 → gx_W → Prop} (hd : 7 ≤ d) (hT : isT w) (h : clO w) (hc : isCk w 37 38 n l N) (ho : thO w) (h43 : isCr w 43 44) (k1 : (∀ q c, c < 100 → q < n → x ≠ nI (100 * q + c)) → k (-1) w) (kk : ∀ q c, x = nI (100 * q + c) → c < 100 → q < n → ∀ w', sam TR TG [(43, 2)] w w' → k (me_mo N (w_a w (l + 1)) (w_a w (l + 2)) n c q 10 0 (w_a w 38)) w') : gx_C 0 0 d mX9_more [.ref 6, .int x] w (Qi k) := by
  refine gx_C_of' (L := [.ref 6, .int x, .retAddr 0]) (by decide +kernel) rfl (Nat.le_of_ble_eq_true rfl) ?_
  refine g_aload_n dX9_more_0 rfl ?_
  refine g_iload_n dX9_more_1 rfl ?_
  refine g_cV1i dX9_more_2 ml_X9_181 mi_X9_isPair mv_X9_isPair h.1 ⟨_, rfl, rfl⟩ (Nat.le_of_ble_eq_true rfl) rfl (by omega) ?_
  refine c_X9_isPair (by omega) h hc (fun q c e hco hq => ?_) (fun np => ?_)
  · refine g_if_ne (tgt := 10) dX9_more_5 (by decide) (fun _ => ?_) (fun q => absurd q (by decide))
    refine g_aload_n dX9_more_10 rfl ?_
    refine g_getr dX9_more_11 fl_X9_74 h.1 h.2.1.2.1 ?_
    refine g_aload_n dX9_more_14 rfl ?_
    refine g_getr dX9_more_15 fl_X9_67 h.1 h.2.1.1 ?_
    refine g_cV1v dX9_more_18 ml_X9_184 mi_X7_begin mv_X7_begin ho.1 ⟨_, rfl, rfl⟩ (Nat.le_of_ble_eq_true rfl) rfl (by omega) ?_
    refine c_beginI (by omega) ho h43 hc (fun w1 I1 => ?_)
    have hT1 : w1.1[1]? = some (30, 8) := (hT.sam I1.1 (by simp) 1 (by decide) (by decide)).1
    have hv1 : w_a w1 1 = fun j => (gx_tab 1).getD j 0 := (hT.sam I1.1 (by simp) 1 (by decide) (by decide)).2
    refine g_gets (a := 1) dX9_more_21 gs_X9_135 (by decide) (by decide) ?_
    refine g_iconst (v := 1) dX9_more_24 rfl ?_
    refine g_rald dX9_more_25 (by decide) hT1 (by first | assumption | exact vp_in_iff.mpr (by decide)) ?_
    rw [hv1]
    refine g_istore_n dX9_more_26 (Nat.le_of_ble_eq_true rfl) rfl ?_
    subst e
    exact l_X9_more hd hT h hq hco hc.1.1.2.2 10 0 _ w1 rfl I1.F (kk q c rfl hco hq)
  · refine g_if_ne (tgt := 10) dX9_more_5 (by decide) (fun q => absurd q (by decide)) (fun _ => ?_)
    refine g_iconst (v := -1) dX9_more_8 rfl ?_
    refine g_iret dX9_more_9 rfl ⟨_, rfl, ?_⟩
    exact k1 np

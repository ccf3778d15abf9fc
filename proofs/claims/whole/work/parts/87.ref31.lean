/-! The reference: unlike second sit -/
def ulm (a : Nat → Int32) : Nat → Int32
  | 0 => 60
  | r + 1 => th_min a r
def ulM (a : Nat → Int32) : Nat → Int32
  | 0 => 0
  | r + 1 => th_max a r
theorem ul_m1 {a : Nat → Int32} {i : Nat} (hu : ∃ u, u ≤ 60 ∧ a i = nI u) (h : ulm a i ≤ a i) : ulm a (i + 1) = ulm a i := by
  obtain ⟨u, u1, u2⟩ := hu
  cases i with
  | zero =>
    show a 0 = 60
    have h2 : (60 : Int32) ≤ a 0 := h
    rw [u2] at h2 ⊢
    rw [pI_le, nI_toInt (by omega)] at h2
    have e : (60 : Int32).toInt = 60 := by decide
    rw [show u = 60 by omega]
    rfl
  | succ r =>
    show mnI (th_min a r) (a (r + 1)) = th_min a r
    unfold mnI
    exact if_neg (fun q => by have h2 : th_min a r ≤ a (r + 1) := h; rw [pI_le] at h2; rw [pI_gt] at q; omega)
theorem ul_m2 {a : Nat → Int32} {i : Nat} (h : ¬ ulm a i ≤ a i) : ulm a (i + 1) = a i := by
  cases i with
  | zero => rfl
  | succ r =>
    show mnI (th_min a r) (a (r + 1)) = a (r + 1)
    unfold mnI
    exact if_pos (by have h2 : ¬ th_min a r ≤ a (r + 1) := h; rw [pI_le] at h2; rw [pI_gt]; omega)
theorem ul_M1 {a : Nat → Int32} {i : Nat} (hu : ∃ u, u ≤ 60 ∧ a i = nI u) (h : a i ≤ ulM a i) : ulM a (i + 1) = ulM a i := by
  obtain ⟨u, u1, u2⟩ := hu
  cases i with
  | zero =>
    show a 0 = 0
    have h2 : a 0 ≤ (0 : Int32) := h
    rw [u2] at h2 ⊢
    rw [pI_le, nI_toInt (by omega)] at h2
    have e : (0 : Int32).toInt = 0 := by decide
    rw [show u = 0 by omega]
    rfl
  | succ r =>
    show mxI (th_max a r) (a (r + 1)) = th_max a r
    unfold mxI
    exact if_neg (fun q => by have h2 : a (r + 1) ≤ th_max a r := h; rw [pI_le] at h2; rw [pI_lt] at q; omega)
theorem ul_M2 {a : Nat → Int32} {i : Nat} (h : ¬ a i ≤ ulM a i) : ulM a (i + 1) = a i := by
  cases i with
  | zero => rfl
  | succ r =>
    show mxI (th_max a r) (a (r + 1)) = a (r + 1)
    unfold mxI
    exact if_pos (by have h2 : ¬ a (r + 1) ≤ th_max a r := h; rw [pI_le] at h2; rw [pI_lt]; omega)
theorem th_max_cg {a b : Nat → Int32} : ∀ r, (∀ j, j ≤ r → a j = b j) → th_max a r = th_max b r := by
  intro r
  induction r with
  | zero => intro h; exact h 0 (Nat.le_refl _)
  | succ r ih =>
    intro h
    show mxI (th_max a r) (a (r + 1)) = mxI (th_max b r) (b (r + 1))
    rw [ih (fun j hj => h j (by omega)), h (r + 1) (Nat.le_refl _)]
theorem th_min_cg {a b : Nat → Int32} : ∀ r, (∀ j, j ≤ r → a j = b j) → th_min a r = th_min b r := by
  intro r
  induction r with
  | zero => intro h; exact h 0 (Nat.le_refl _)
  | succ r ih =>
    intro h
    show mnI (th_min a r) (a (r + 1)) = mnI (th_min b r) (b (r + 1))
    rw [ih (fun j hj => h j (by omega)), h (r + 1) (Nat.le_refl _)]
theorem l_X10_unlike {d n : Nat} {w : gx_W} {x y : Int32} {k : Int32 → gx_W → Prop} (h : moO w) (hn : w_i w 57 1 = nI n) (hn6 : n ≤ 6) (hb : ∀ j, j < n → ∃ u, u ≤ 60 ∧ w_a w 76 j = nI u) (k0 : n = 0 → k 0 w) (k1 : ∀ r, n = r + 1 → k (th_max (w_a w 76) r - th_min (w_a w 76) r) w) : ∀ z i : Nat, i + z = n → gx_G 0 0 d mX10_unlike (Qi k) 45 [.ref 57, .int x, .int y, .int (ulm (w_a w 76) i), .int (ulM (w_a w 76) i), .int (nI i)] [] w := by
  intro z
  induction z with
  | zero =>
    intro i hi
    have e : i = n := by omega
    subst e
    refine g_iload dX10_unlike_45 rfl ?_
    refine g_aload_n dX10_unlike_47 rfl ?_
    refine g_geti dX10_unlike_48 fl_X10_121 h.1 ?_
    rw [hn]
    refine g_icmp_ge (tgt := 100) dX10_unlike_51 (by decide) (fun zc51 => ?_) (fun zc51 => ?_)
    · refine g_aload_n dX10_unlike_100 rfl ?_
      refine g_geti dX10_unlike_101 fl_X10_121 h.1 ?_
      rw [hn]
      refine g_if_ne (tgt := 111) dX10_unlike_104 (by decide) (fun zc104 => ?_) (fun zc104 => ?_)
      · refine g_iload dX10_unlike_111 rfl ?_
        refine g_iload_n dX10_unlike_113 rfl ?_
        refine g_isub dX10_unlike_114 ?_
        refine g_iret dX10_unlike_115 rfl ⟨_, rfl, ?_⟩
        cases i with
        | zero => exact absurd rfl zc104
        | succ r => exact k1 r rfl
      · refine g_iconst (v := 0) dX10_unlike_107 rfl ?_
        refine g_goto (tgt := 115) dX10_unlike_108 (by decide) ?_
        refine g_iret dX10_unlike_115 rfl ⟨_, rfl, ?_⟩
        refine k0 ?_
        exact pI_inj (b := 0) (by omega) (by decide) zc104
    · exact absurd (Int32.le_refl _) zc51
  | succ z ih =>
    intro i hi
    have hu := hb i (by omega)
    have ihs := ih (i + 1) (by omega)
    refine g_iload dX10_unlike_45 rfl ?_
    refine g_aload_n dX10_unlike_47 rfl ?_
    refine g_geti dX10_unlike_48 fl_X10_121 h.1 ?_
    rw [hn]
    refine g_icmp_ge (tgt := 100) dX10_unlike_51 (by decide) (fun zc51 => ?_) (fun zc51 => ?_)
    · exact absurd zc51 (nI_ge (by omega) (by omega))
    · refine g_aload_n dX10_unlike_54 rfl ?_
      refine g_getr dX10_unlike_55 fl_X10_68 h.1 (moR_76 h) ?_
      refine g_iload dX10_unlike_58 rfl ?_
      refine g_iald dX10_unlike_60 (moA_76 h) (vp_in_nI (by omega) (by decide)) ?_
      rw [nI_n (show i < 2 ^ 31 by omega)]
      refine g_iload_n dX10_unlike_61 rfl ?_
      refine g_icmp_ge (tgt := 73) dX10_unlike_62 (by decide) (fun zc62 => ?_) (fun zc62 => ?_)
      · refine g_aload_n dX10_unlike_73 rfl ?_
        refine g_getr dX10_unlike_74 fl_X10_68 h.1 (moR_76 h) ?_
        refine g_iload dX10_unlike_77 rfl ?_
        refine g_iald dX10_unlike_79 (moA_76 h) (vp_in_nI (by omega) (by decide)) ?_
        rw [nI_n (show i < 2 ^ 31 by omega)]
        refine g_iload dX10_unlike_80 rfl ?_
        refine g_icmp_le (tgt := 94) dX10_unlike_82 (by decide) (fun zc82 => ?_) (fun zc82 => ?_)
        · refine g_iinc dX10_unlike_94 rfl rfl ?_
          refine g_goto (tgt := 45) dX10_unlike_97 (by decide) ?_
          rw [nI_1']
          rw [ul_m1 hu zc62, ul_M1 hu zc82] at ihs
          exact ihs
        · refine g_aload_n dX10_unlike_85 rfl ?_
          refine g_getr dX10_unlike_86 fl_X10_68 h.1 (moR_76 h) ?_
          refine g_iload dX10_unlike_89 rfl ?_
          refine g_iald dX10_unlike_91 (moA_76 h) (vp_in_nI (by omega) (by decide)) ?_
          rw [nI_n (show i < 2 ^ 31 by omega)]
          refine g_istore dX10_unlike_92 (Nat.le_of_ble_eq_true rfl) rfl ?_
          refine g_iinc dX10_unlike_94 rfl rfl ?_
          refine g_goto (tgt := 45) dX10_unlike_97 (by decide) ?_
          rw [nI_1']
          rw [ul_m1 hu zc62, ul_M2 zc82] at ihs
          exact ihs
      · refine g_aload_n dX10_unlike_65 rfl ?_
        refine g_getr dX10_unlike_66 fl_X10_68 h.1 (moR_76 h) ?_
        refine g_iload dX10_unlike_69 rfl ?_
        refine g_iald dX10_unlike_71 (moA_76 h) (vp_in_nI (by omega) (by decide)) ?_
        rw [nI_n (show i < 2 ^ 31 by omega)]
        refine g_istore_n dX10_unlike_72 (Nat.le_of_ble_eq_true rfl) rfl ?_
        refine g_aload_n dX10_unlike_73 rfl ?_
        refine g_getr dX10_unlike_74 fl_X10_68 h.1 (moR_76 h) ?_
        refine g_iload dX10_unlike_77 rfl ?_
        refine g_iald dX10_unlike_79 (moA_76 h) (vp_in_nI (by omega) (by decide)) ?_
        rw [nI_n (show i < 2 ^ 31 by omega)]
        refine g_iload dX10_unlike_80 rfl ?_
        refine g_icmp_le (tgt := 94) dX10_unlike_82 (by decide) (fun zc82 => ?_) (fun zc82 => ?_)
        · refine g_iinc dX10_unlike_94 rfl rfl ?_
          refine g_goto (tgt := 45) dX10_unlike_97 (by decide) ?_
          rw [nI_1']
          rw [ul_m2 zc62, ul_M1 hu zc82] at ihs
          exact ihs
        · refine g_aload_n dX10_unlike_85 rfl ?_
          refine g_getr dX10_unlike_86 fl_X10_68 h.1 (moR_76 h) ?_
          refine g_iload dX10_unlike_89 rfl ?_
          refine g_iald dX10_unlike_91 (moA_76 h) (vp_in_nI (by omega) (by decide)) ?_
          rw [nI_n (show i < 2 ^ 31 by omega)]
          refine g_istore dX10_unlike_92 (Nat.le_of_ble_eq_true rfl) rfl ?_
          refine g_iinc dX10_unlike_94 rfl rfl ?_
          refine g_goto (tgt := 45) dX10_unlike_97 (by decide) ?_
          rw [nI_1']
          rw [ul_m2 zc62, ul_M2 zc82] at ihs
          exact ihs
theorem c_X10_unlike {d : Nat} {w : gx_W} {f : Nat → Int32} {n N : Nat} {sg va : Nat → Int32} {ln : Nat → Nat} {C : Nat → Nat → Int64} {x y : Int32} {k : Int32 → gx_W → Prop} (hd : 8 ≤ d) (h : moO w) (hx : mxD w f n) (hl : lwM w N sg va) (hb : bnd f n) (hsh : ∀ i, i < 6 → w_a w 87 i = -2 → shM w i (ln i) (C i)) (k1 : (∀ m, m < 6 → x ≠ nI m) → k (-1) w) (k2 : (∀ m, m < 61 → y ≠ nI m) → k (-1) w) (k3 : ∀ i m, x = nI i → i < 6 → y = nI m → m < 61 → w_a w 87 i = -1 → k (-11) w) (k4 : ∀ i m, x = nI i → i < 6 → y = nI m → m < 61 → ¬ w_a w 87 i = -1 → ¬ w_a w 87 i = -2 → k (-12) w) (kk : ∀ i m, x = nI i → i < 6 → y = nI m → m < 61 → w_a w 87 i = -2 → ∀ w', same [73, 74, 75, 76, 77, 78] [(57, 31)] w w' → dyS w' n N sg va (th_day N sg va n (fun j => (C i j).toInt32.toNatClampNeg) (sh_com (fun j => isCo (C i j).toInt32) (min m (ln i))) (th_00 f)) → (n = 0 → k 0 w') ∧ ∀ r, n = r + 1 → k (th_max (th_day N sg va n (fun j => (C i j).toInt32.toNatClampNeg) (sh_com (fun j => isCo (C i j).toInt32) (min m (ln i))) (th_00 f)).2.1 r - th_min (th_day N sg va n (fun j => (C i j).toInt32.toNatClampNeg) (sh_com (fun j => isCo (C i j).toInt32) (min m (ln i))) (th_00 f)).2.1 r) w') : gx_C 0 0 d mX10_unlike [.ref 57, .int x, .int y] w (Qi k) := by
  refine gx_C_of' (L := [.ref 57, .int x, .int y, .retAddr 0, .retAddr 0, .retAddr 0]) (by decide +kernel) rfl (Nat.le_of_ble_eq_true rfl) ?_
  refine g_iload_n dX10_unlike_0 rfl ?_
  refine g_cS1i dX10_unlike_1 ml_X10_136 mi_X10_isShelf ms_X10_isShelf (Nat.le_of_ble_eq_true rfl) rfl (by omega) ?_
  refine c_X10_isShelf (by omega) (fun i ei hi => ?_) (fun nx => ?_)
  · refine g_if_eq (tgt := 14) dX10_unlike_4 (by decide) (fun q => absurd q (by decide)) (fun _ => ?_)
    refine g_iload_n dX10_unlike_7 rfl ?_
    refine g_cS1i dX10_unlike_8 ml_X10_274 mi_X10_areMany ms_X10_areMany (Nat.le_of_ble_eq_true rfl) rfl (by omega) ?_
    refine c_X10_areMany (by omega) (fun m em hm => ?_) (fun ny => ?_)
    · refine g_if_ne (tgt := 16) dX10_unlike_11 (by decide) (fun _ => ?_) (fun q => absurd q (by decide))
      subst ei
      subst em
      refine g_aload_n dX10_unlike_16 rfl ?_
      refine g_iload_n dX10_unlike_17 rfl ?_
      refine g_cV1i dX10_unlike_18 ml_X10_277 mi_X10_rowFault mv_X10_rowFault h.1 ⟨_, rfl, rfl⟩ (Nat.le_of_ble_eq_true rfl) rfl (by omega) ?_
      refine c_X10_rowFault (by omega) h hi (fun e1 => ?_) (fun e1 => ?_) (fun e1 e2 => ?_)
      · refine g_if_ge (tgt := 30) dX10_unlike_21 (by decide) (fun q => absurd q (by decide)) (fun _ => ?_)
        refine g_aload_n dX10_unlike_24 rfl ?_
        refine g_iload_n dX10_unlike_25 rfl ?_
        refine g_cV1i dX10_unlike_26 ml_X10_277 mi_X10_rowFault mv_X10_rowFault h.1 ⟨_, rfl, rfl⟩ (Nat.le_of_ble_eq_true rfl) rfl (by omega) ?_
        refine c_X10_rowFault (by omega) h hi (fun _ => ?_) (fun q => absurd (e1.symm.trans q) (by decide)) (fun q _ => absurd e1 q)
        refine g_iret dX10_unlike_29 rfl ⟨_, rfl, ?_⟩
        exact k3 i m rfl hi rfl hm e1
      · refine g_if_ge (tgt := 30) dX10_unlike_21 (by decide) (fun _ => ?_) (fun q => absurd q (by decide))
        refine g_aload_n dX10_unlike_30 rfl ?_
        refine g_iload_n dX10_unlike_31 rfl ?_
        refine g_iload_n dX10_unlike_32 rfl ?_
        refine g_cV2v dX10_unlike_33 ml_X10_280 mi_X10_goDay mv_X10_goDay h.1 ⟨_, rfl, rfl⟩ (Nat.le_of_ble_eq_true rfl) rfl (by omega) ?_
        refine c_X10_goDay (by omega) h hx hl hb hi (hsh i hi e1) (by omega) (fun w1 hs1 h1 => ?_)
        refine g_bipush (v := 60) dX10_unlike_36 rfl ?_
        refine g_istore_n dX10_unlike_38 (Nat.le_of_ble_eq_true rfl) rfl ?_
        refine g_iconst (v := 0) dX10_unlike_39 rfl ?_
        refine g_istore dX10_unlike_40 (Nat.le_of_ble_eq_true rfl) rfl ?_
        refine g_iconst (v := 0) dX10_unlike_42 rfl ?_
        refine g_istore dX10_unlike_43 (Nat.le_of_ble_eq_true rfl) rfl ?_
        have hn6 := hx.1.2.1
        have K := kk i m rfl hi rfl hm e1 w1 hs1 h1
        have hM := sh_com_le (fun j => isCo (C i j).toInt32) (min m (ln i))
        have hiv := dyI.day (N := N) (sg := sg) (va := va) (C := fun j => (C i j).toInt32.toNatClampNeg) hn6 (dyI_0 n f) (sh_com (fun j => isCo (C i j).toInt32) (min m (ln i))) (by omega)
        refine l_X10_unlike h1.1.1 h1.1.2.1.1.1 hn6 (fun j hj => ?_) K.1 (fun r er => ?_) n 0 (Nat.zero_add _)
        · obtain ⟨u, u1, u2, u3⟩ := hiv.2 j hj
          exact ⟨u, by omega, (h1.2.1 j hj).trans u2⟩
        · rw [th_max_cg r (fun j hj => h1.2.1 j (by omega)), th_min_cg r (fun j hj => h1.2.1 j (by omega))]
          exact K.2 r er
      · refine g_if_ge (tgt := 30) dX10_unlike_21 (by decide) (fun q => absurd q (by decide)) (fun _ => ?_)
        refine g_aload_n dX10_unlike_24 rfl ?_
        refine g_iload_n dX10_unlike_25 rfl ?_
        refine g_cV1i dX10_unlike_26 ml_X10_277 mi_X10_rowFault mv_X10_rowFault h.1 ⟨_, rfl, rfl⟩ (Nat.le_of_ble_eq_true rfl) rfl (by omega) ?_
        refine c_X10_rowFault (by omega) h hi (fun q => absurd q e1) (fun q => absurd q e2) (fun _ _ => ?_)
        refine g_iret dX10_unlike_29 rfl ⟨_, rfl, ?_⟩
        exact k4 i m rfl hi rfl hm e1 e2
    · refine g_if_ne (tgt := 16) dX10_unlike_11 (by decide) (fun q => absurd q (by decide)) (fun _ => ?_)
      refine g_iconst (v := -1) dX10_unlike_14 rfl ?_
      refine g_iret dX10_unlike_15 rfl ⟨_, rfl, ?_⟩
      exact k2 ny
  · refine g_if_eq (tgt := 14) dX10_unlike_4 (by decide) (fun _ => ?_) (fun q => absurd q (by decide))
    refine g_iconst (v := -1) dX10_unlike_14 rfl ?_
    refine g_iret dX10_unlike_15 rfl ⟨_, rfl, ?_⟩
    exact k1 nx
/-! who is asked, one behind the other -/
theorem cr_most_ob {W : Nat → Int32} {out : Nat → Bool} {b : Nat} {m : Int32} : ∀ i, cr_most W out i = some (b, m) → out b = false := by
  intro i
  induction i with
  | zero => intro h; cases h
  | succ i ih =>
    intro h
    unfold cr_most at h
    split at h
    · split at h
      · cases h
      · rename_i hh
        cases h
        simpa using hh
    · rename_i bb mm hh
      split at h
      · cases h
        exact ih hh
      · rename_i ho
        split at h
        · cases h
          simpa using ho
        · cases h
          exact ih hh
def bcN (m : Nat) : Nat := ((List.range 6).filter (fun t => m.testBit t)).length
theorem bcN_or : ∀ m, m < 64 → ∀ t, t < 6 → m.testBit t = false → bcN (m ||| 2 ^ t) = bcN m + 1 := by decide +kernel
theorem bcN_ex : ∀ n, n ≤ 6 → ∀ m, m < 2 ^ n → bcN m < n → ∃ t, t < n ∧ m.testBit t = false := by decide +kernel
theorem cr_dis_bc {W : Nat → Int32} {n : Nat} (hn : n ≤ 6) : ∀ j, j ≤ n → ∃ m, m < 2 ^ n ∧ cr_dis W n j = nI m ∧ bcN m = j := by
  intro j
  have h64 := p2_le n hn
  induction j with
  | zero => intro _; exact ⟨0, Nat.two_pow_pos n, rfl, by decide⟩
  | succ j ih =>
    intro hj
    obtain ⟨m, m1, m2, m3⟩ := ih (by omega)
    obtain ⟨t, t1, t2⟩ := bcN_ex n hn m m1 (by omega)
    have hne : ¬ cr_most W (cr_out (cr_dis W n j)) n = none := fun q => by
      have := cr_most_none.mp q t t1
      rw [m2, gR_bit m (by omega) t (by omega), t2] at this
      cases this
    cases e : cr_most W (cr_out (cr_dis W n j)) n with
    | none => exact absurd e hne
    | some bm =>
      obtain ⟨b, v⟩ := bm
      have hb := cr_most_lt e
      have ho := cr_most_ob n e
      rw [m2, gR_bit m (by omega) b (by omega)] at ho
      refine ⟨m ||| 2 ^ b, gR_orlt n hn m m1 b hb, ?_, ?_⟩
      · show cr_dis W n j ||| (1 <<< (cr_b (cr_most W (cr_out (cr_dis W n j)) n) &&& 31)) = _
        rw [e, m2]
        exact gR_or m (by omega) b (by omega)
      · rw [bcN_or m (by omega) b (by omega) ho, m3]
theorem cr_road_ex {W : Nat → Int32} {n j : Nat} (hn : n ≤ 6) (hj : j < n) : ∃ t, t < n ∧ cr_road W n j = nI t := by
  have h64 := p2_le n hn
  obtain ⟨m, m1, m2, m3⟩ := cr_dis_bc (W := W) hn j (by omega)
  obtain ⟨t, t1, t2⟩ := bcN_ex n hn m m1 (by omega)
  unfold cr_road
  cases e : cr_most W (cr_out (cr_dis W n j)) n with
  | none =>
    have := cr_most_none.mp e t t1
    rw [m2, gR_bit m (by omega) t (by omega), t2] at this
    cases this
  | some bm => exact ⟨bm.1, cr_most_lt (b := bm.1) (m := bm.2) e, rfl⟩
theorem cr_runs_ex {f : Nat → Int32} {n c : Nat} (h : cr_runs f n c = true) (hn : n ≤ 6) : ∃ t, t < n ∧ f 25 = nI t := by
  unfold cr_runs at h
  simp only [Bool.and_eq_true, decide_eq_true_eq] at h
  obtain ⟨h1, h2, h3⟩ := h
  refine pI_ex (by rw [pI_lt]; rw [pI_le] at h2; omega) ?_
  rw [pI_lt, nI_toInt (by omega)] at h3
  exact h3
theorem me_as_r {N : Nat} {sg va f : Nat → Int32} {n c : Nat} (h : cr_runs f n c = true) : me_as N sg va f n c 0 = f 25 := by
  unfold me_as
  rw [if_pos h, if_pos rfl]
theorem me_as_r1 {N : Nat} {sg va f : Nat → Int32} {n c j : Nat} (h : cr_runs f n c = true) (hj : ¬ j = 0) : me_as N sg va f n c j = -2 := by
  unfold me_as
  rw [if_pos h, if_neg hj]
theorem me_as_n {N : Nat} {sg va f : Nat → Int32} {n c j : Nat} (h : cr_runs f n c = false) : me_as N sg va f n c j = cr_road (cr_want N sg va f · c) n j := by
  unfold me_as
  rw [if_neg (by rw [h]; decide)]
theorem sec_ix1 {y : Int32} (h0 : 0 ≤ y) (h1 : ¬ (1 : Int32) ≤ y) : y = 0 := by
  have e1 : (1 : Int32).toInt = 1 := by decide
  have e0 : (0 : Int32).toInt = 0 := by decide
  rw [pI_eq]
  rw [pI_le] at h0 h1
  omega
theorem sec_nn {y : Int32} (h0 : 0 ≤ y) : ¬ y < 0 := by
  rw [pI_lt]; rw [pI_le] at h0; omega
theorem c_X10_second {d : Nat} {w : gx_W} {f : Nat → Int32} {n N : Nat} {sg va : Nat → Int32} {x y : Int32} {k : Int32 → gx_W → Prop} (hd : 6 ≤ d) (h : moO w) (hx : mxD w f n) (hl : lwM w N sg va) (hb : bnd f n) (k1 : (∀ c, c < 100 → x ≠ nI c) → k (-1) w) (k2 : y < 0 → k (-1) w) (k3 : ∀ c, x = nI c → c < 100 → cr_runs f n c = true → y = 0 → ∀ w', same [73, 74, 75, 81] [(57, 35)] w w' → k (f 25) w') (k4 : ∀ c, x = nI c → c < 100 → ¬ y < 0 → cr_runs f n c = true → ¬ y = 0 → ∀ w', same [73, 74, 75, 81] [(57, 35)] w w' → k (-2) w') (k5 : ∀ c, x = nI c → c < 100 → cr_runs f n c = false → ∀ w', same [73, 74, 75, 81] [(57, 35)] w w' → ∀ m, y = nI m → m < n → k (cr_road (cr_want N sg va f · c) n m) w') (k6 : ∀ c, x = nI c → c < 100 → ¬ y < 0 → cr_runs f n c = false → ∀ w', same [73, 74, 75, 81] [(57, 35)] w w' → (∀ m, m < n → y ≠ nI m) → k (-2) w') : gx_C 0 0 d mX10_second [.ref 57, .int x, .int y] w (Qi k) := by
  refine gx_C_of' (L := [.ref 57, .int x, .int y]) (by decide +kernel) rfl (Nat.le_of_ble_eq_true rfl) ?_
  refine g_iload_n dX10_second_0 rfl ?_
  refine g_cS1i dX10_second_1 ml_X10_256 mi_X10_isComer ms_X10_isComer (Nat.le_of_ble_eq_true rfl) rfl (by omega) ?_
  refine c_X10_isComer (by omega) (fun c ec hc => ?_) (fun nx => ?_)
  · refine g_if_eq (tgt := 11) dX10_second_4 (by decide) (fun q => absurd q (by decide)) (fun _ => ?_)
    refine g_iload_n dX10_second_7 rfl ?_
    refine g_if_ge (tgt := 13) dX10_second_8 (by decide) (fun zc8 => ?_) (fun zc8 => ?_)
    · subst ec
      have hn6 := hx.1.2.1
      refine g_aload_n dX10_second_13 rfl ?_
      refine g_iload_n dX10_second_14 rfl ?_
      refine g_cV1v dX10_second_15 ml_X10_293 mi_X10_findAsked mv_X10_findAsked h.1 ⟨_, rfl, rfl⟩ (Nat.le_of_ble_eq_true rfl) rfl (by omega) ?_
      refine c_X10_findAsked (by omega) h hx hl hb hc (fun hr w2 hs2 e35 e81 => ?_) (fun hr w2 hs2 e35 e81 => ?_)
      · refine g_iload_n dX10_second_18 rfl ?_
        refine g_aload_n dX10_second_19 rfl ?_
        refine g_geti dX10_second_20 fl_X10_290 (h.same hs2).1 ?_
        rw [e35]
        refine g_icmp_ge (tgt := 35) dX10_second_23 (by decide) (fun zc23 => ?_) (fun zc23 => ?_)
        · refine g_bipush (v := -2) dX10_second_35 rfl ?_
          refine g_iret dX10_second_37 rfl ⟨_, rfl, ?_⟩
          exact k4 c rfl hc (sec_nn zc8) hr (fun q => absurd zc23 (by rw [q]; decide)) w2 hs2
        · have ey := sec_ix1 zc8 zc23
          subst ey
          refine g_aload_n dX10_second_26 rfl ?_
          refine g_getr dX10_second_27 fl_X10_83 (h.same hs2).1 (moR_81 (h.same hs2)) ?_
          refine g_iload_n dX10_second_30 rfl ?_
          refine g_iald dX10_second_31 (moA_81 (h.same hs2)) (by first | exact vp_in_nI (n := 0) (by decide) (by decide) | exact vp_in_nI (by omega) (by decide)) ?_
          refine g_goto (tgt := 37) dX10_second_32 (by decide) ?_
          refine g_iret dX10_second_37 rfl ⟨_, rfl, ?_⟩
          rw [show w_a w2 81 (0 : Int32).toNatClampNeg = f 25 from e81]
          exact k3 c rfl hc hr rfl w2 hs2
      · refine g_iload_n dX10_second_18 rfl ?_
        refine g_aload_n dX10_second_19 rfl ?_
        refine g_geti dX10_second_20 fl_X10_290 (h.same hs2).1 ?_
        rw [e35]
        refine g_icmp_ge (tgt := 35) dX10_second_23 (by decide) (fun zc23 => ?_) (fun zc23 => ?_)
        · refine g_bipush (v := -2) dX10_second_35 rfl ?_
          refine g_iret dX10_second_37 rfl ⟨_, rfl, ?_⟩
          exact k6 c rfl hc (sec_nn zc8) hr w2 hs2 (fun m hm e => absurd zc23 (by rw [e]; exact nI_ge hm (by omega)))
        · obtain ⟨m, hm, em⟩ : ∃ m, m < n ∧ y = nI m := by
            refine pI_ex (sec_nn zc8) ?_
            rw [pI_le, nI_toInt (by omega)] at zc23
            omega
          subst em
          refine g_aload_n dX10_second_26 rfl ?_
          refine g_getr dX10_second_27 fl_X10_83 (h.same hs2).1 (moR_81 (h.same hs2)) ?_
          refine g_iload_n dX10_second_30 rfl ?_
          refine g_iald dX10_second_31 (moA_81 (h.same hs2)) (by first | exact vp_in_nI (n := 0) (by decide) (by decide) | exact vp_in_nI (by omega) (by decide)) ?_
          refine g_goto (tgt := 37) dX10_second_32 (by decide) ?_
          refine g_iret dX10_second_37 rfl ⟨_, rfl, ?_⟩
          have eb := e81 m hm
          rw [me_as_n hr] at eb
          rw [nI_n (by omega), eb]
          exact k5 c rfl hc hr w2 hs2 m rfl hm
    · refine g_iconst (v := -1) dX10_second_11 rfl ?_
      refine g_iret dX10_second_12 rfl ⟨_, rfl, ?_⟩
      exact k2 (by rw [pI_lt]; rw [pI_le] at zc8; omega)
  · refine g_if_eq (tgt := 11) dX10_second_4 (by decide) (fun _ => ?_) (fun q => absurd q (by decide))
    refine g_iconst (v := -1) dX10_second_11 rfl ?_
    refine g_iret dX10_second_12 rfl ⟨_, rfl, ?_⟩
    exact k1 nx
def siV (A f : Nat → Int32) (j : Nat) : Int32 := f (12 + (A j).toNatClampNeg) - nI j * f 26
theorem me_si_t {A f : Nat → Int32} {z m : Nat} {b s : Int32} (h : ¬ A m < 0) (h2 : b < siV A f m) : me_si A f (z + 1) m b s = me_si A f z (m + 1) (siV A f m) (nI m) := (if_neg h).trans (if_pos h2)
theorem me_si_f {A f : Nat → Int32} {z m : Nat} {b s : Int32} (h : ¬ A m < 0) (h2 : ¬ b < siV A f m) : me_si A f (z + 1) m b s = me_si A f z (m + 1) b s := (if_neg h).trans (if_neg h2)
theorem me_si_n {A f : Nat → Int32} {z m : Nat} {b s : Int32} (h : A m < 0) : me_si A f (z + 1) m b s = (b, s) := if_pos h
theorem l_X10_sit {d n M : Nat} {w : gx_W} {f A : Nat → Int32} {x y : Int32} {k : Int32 → gx_W → Prop} (h : moO w) (hx : mxN w f n) (h35 : w_i w 57 35 = nI M) (hM : M ≤ 6) (hA : ∀ j, j < M → ∃ a, a < n ∧ A j = nI a) (h81 : ∀ j, j < M → w_a w 81 j = A j) : ∀ z m bi : Nat, m + z = M → bi < m → k (if y = 0 then (me_si A f z m (siV A f bi) (nI bi)).1 else (me_si A f z m (siV A f bi) (nI bi)).2) w → gx_G 0 0 d mX10_sit (Qi k) 36 [.ref 57, .int x, .int y, .int (nI bi), .int (nI m)] [] w := by
  intro z
  have hn6 := hx.2.1
  have e26 : w_a w 62 (2 : Int32).toNatClampNeg = f 26 := hx.2.2.2.2.2 2 (by decide)
  induction z with
  | zero =>
    intro m bi hm hbi kk
    have e : m = M := by omega
    subst e
    obtain ⟨b, hb, eb⟩ := hA bi hbi
    have eV : siV A f bi = f (12 + b) - nI bi * f 26 := by unfold siV; rw [eb, nI_n (by omega)]
    refine g_iload dX10_sit_36 rfl ?_
    refine g_aload_n dX10_sit_38 rfl ?_
    refine g_geti dX10_sit_39 fl_X10_290 h.1 ?_
    rw [h35]
    refine g_icmp_ge (tgt := 99) dX10_sit_42 (by decide) (fun zc42 => ?_) (fun zc42 => ?_)
    · refine g_iload_n dX10_sit_99 rfl ?_
      refine g_if_ne (tgt := 126) dX10_sit_100 (by decide) (fun zc100 => ?_) (fun zc100 => ?_)
      · refine g_iload_n dX10_sit_126 rfl ?_
        refine g_iret dX10_sit_127 rfl ⟨_, rfl, ?_⟩
        rw [if_neg zc100] at kk
        exact kk
      · refine g_aload_n dX10_sit_103 rfl ?_
        refine g_getr dX10_sit_104 fl_X10_18 h.1 (moR_60 h) ?_
        refine g_aload_n dX10_sit_107 rfl ?_
        refine g_getr dX10_sit_108 fl_X10_83 h.1 (moR_81 h) ?_
        refine g_iload_n dX10_sit_111 rfl ?_
        refine g_iald dX10_sit_112 (moA_81 h) (vp_in_nI (by omega) (by decide)) ?_
        rw [nI_n (show bi < 2 ^ 31 by omega), h81 bi hbi, eb]
        refine g_iald dX10_sit_113 (moA_60 h) (vp_in_nI (by omega) (by decide)) ?_
        rw [nI_n (show b < 2 ^ 31 by omega), hx.2.2.2.2.1 b hb]
        refine g_iload_n dX10_sit_114 rfl ?_
        refine g_aload_n dX10_sit_115 rfl ?_
        refine g_getr dX10_sit_116 fl_X10_24 h.1 (moR_62 h) ?_
        refine g_iconst (v := 2) dX10_sit_119 rfl ?_
        refine g_iald dX10_sit_120 (moA_62 h) (vp_in_nI (n := 2) (by decide) (by decide)) ?_
        rw [e26]
        refine g_imul dX10_sit_121 ?_
        refine g_isub dX10_sit_122 ?_
        refine g_goto (tgt := 127) dX10_sit_123 (by decide) ?_
        refine g_iret dX10_sit_127 rfl ⟨_, rfl, ?_⟩
        rw [if_pos zc100] at kk
        rw [← eV]
        exact kk
    · exact absurd (Int32.le_refl _) zc42
  | succ z ih =>
    intro m bi hm hbi kk
    obtain ⟨a, ha, ea⟩ := hA m (by omega)
    obtain ⟨b, hb, eb⟩ := hA bi (by omega)
    have eV : siV A f bi = f (12 + b) - nI bi * f 26 := by unfold siV; rw [eb, nI_n (by omega)]
    have eU : siV A f m = f (12 + a) - nI m * f 26 := by unfold siV; rw [ea, nI_n (by omega)]
    have hA0 : ¬ A m < 0 := by rw [ea]; exact nI_pos (by omega)
    refine g_iload dX10_sit_36 rfl ?_
    refine g_aload_n dX10_sit_38 rfl ?_
    refine g_geti dX10_sit_39 fl_X10_290 h.1 ?_
    rw [h35]
    refine g_icmp_ge (tgt := 99) dX10_sit_42 (by decide) (fun zc42 => ?_) (fun zc42 => ?_)
    · exact absurd zc42 (nI_ge (by omega) (by omega))
    · refine g_aload_n dX10_sit_45 rfl ?_
      refine g_getr dX10_sit_46 fl_X10_18 h.1 (moR_60 h) ?_
      refine g_aload_n dX10_sit_49 rfl ?_
      refine g_getr dX10_sit_50 fl_X10_83 h.1 (moR_81 h) ?_
      refine g_iload dX10_sit_53 rfl ?_
      refine g_iald dX10_sit_55 (moA_81 h) (vp_in_nI (by omega) (by decide)) ?_
      rw [nI_n (show m < 2 ^ 31 by omega), h81 m (by omega), ea]
      refine g_iald dX10_sit_56 (moA_60 h) (vp_in_nI (by omega) (by decide)) ?_
      rw [nI_n (show a < 2 ^ 31 by omega), hx.2.2.2.2.1 a ha]
      refine g_iload dX10_sit_57 rfl ?_
      refine g_aload_n dX10_sit_59 rfl ?_
      refine g_getr dX10_sit_60 fl_X10_24 h.1 (moR_62 h) ?_
      refine g_iconst (v := 2) dX10_sit_63 rfl ?_
      refine g_iald dX10_sit_64 (moA_62 h) (vp_in_nI (n := 2) (by decide) (by decide)) ?_
      rw [e26]
      refine g_imul dX10_sit_65 ?_
      refine g_isub dX10_sit_66 ?_
      refine g_aload_n dX10_sit_67 rfl ?_
      refine g_getr dX10_sit_68 fl_X10_18 h.1 (moR_60 h) ?_
      refine g_aload_n dX10_sit_71 rfl ?_
      refine g_getr dX10_sit_72 fl_X10_83 h.1 (moR_81 h) ?_
      refine g_iload_n dX10_sit_75 rfl ?_
      refine g_iald dX10_sit_76 (moA_81 h) (vp_in_nI (by omega) (by decide)) ?_
      rw [nI_n (show bi < 2 ^ 31 by omega), h81 bi (by omega), eb]
      refine g_iald dX10_sit_77 (moA_60 h) (vp_in_nI (by omega) (by decide)) ?_
      rw [nI_n (show b < 2 ^ 31 by omega), hx.2.2.2.2.1 b hb]
      refine g_iload_n dX10_sit_78 rfl ?_
      refine g_aload_n dX10_sit_79 rfl ?_
      refine g_getr dX10_sit_80 fl_X10_24 h.1 (moR_62 h) ?_
      refine g_iconst (v := 2) dX10_sit_83 rfl ?_
      refine g_iald dX10_sit_84 (moA_62 h) (vp_in_nI (n := 2) (by decide) (by decide)) ?_
      rw [e26]
      refine g_imul dX10_sit_85 ?_
      refine g_isub dX10_sit_86 ?_
      refine g_icmp_le (tgt := 93) dX10_sit_87 (by decide) (fun zc87 => ?_) (fun zc87 => ?_)
      · refine g_iinc dX10_sit_93 rfl rfl ?_
        refine g_goto (tgt := 36) dX10_sit_96 (by decide) ?_
        rw [nI_1']
        rw [me_si_f hA0 (fun q => by rw [pI_lt] at q; rw [← eV, ← eU, pI_le] at zc87; omega)] at kk
        exact ih (m + 1) bi (by omega) (by omega) kk
      · refine g_iload dX10_sit_90 rfl ?_
        refine g_istore_n dX10_sit_92 (Nat.le_of_ble_eq_true rfl) rfl ?_
        refine g_iinc dX10_sit_93 rfl rfl ?_
        refine g_goto (tgt := 36) dX10_sit_96 (by decide) ?_
        rw [nI_1']
        rw [me_si_t hA0 (by rw [pI_lt]; rw [← eV, ← eU, pI_le] at zc87; omega)] at kk
        exact ih (m + 1) m (by omega) (by omega) kk
theorem c_X10_sit {d : Nat} {w : gx_W} {f : Nat → Int32} {n N : Nat} {sg va : Nat → Int32} {x y : Int32} {k : Int32 → gx_W → Prop} (hd : 6 ≤ d) (h : moO w) (hx : mxD w f n) (hl : lwM w N sg va) (hb : bnd f n) (hr28 : ∀ p, p < 28 → rI (f p)) (k1 : (∀ c, c < 100 → x ≠ nI c) → k (-2000000000) w) (k2 : (∀ m, m ≤ 1 → y ≠ nI m) → k (-2000000000) w) (k3 : n = 0 → k (-2000000000) w) (kk : ∀ c, x = nI c → c < 100 → ∀ u, y = nI u → u ≤ 1 → 0 < n → ∀ w', same [73, 74, 75, 81] [(57, 35)] w w' → k (if y = 0 then (me_si (me_as N sg va f n c) f n 0 (-2000000000) 0).1 else (me_si (me_as N sg va f n c) f n 0 (-2000000000) 0).2) w') : gx_C 0 0 d mX10_sit [.ref 57, .int x, .int y] w (Qi k) := by
  refine gx_C_of' (L := [.ref 57, .int x, .int y, .retAddr 0, .retAddr 0]) (by decide +kernel) rfl (Nat.le_of_ble_eq_true rfl) ?_
  refine g_iload_n dX10_sit_0 rfl ?_
  refine g_cS1i dX10_sit_1 ml_X10_256 mi_X10_isComer ms_X10_isComer (Nat.le_of_ble_eq_true rfl) rfl (by omega) ?_
  refine c_X10_isComer (by omega) (fun c ec hc => ?_) (fun nx => ?_)
  · refine g_if_eq (tgt := 23) dX10_sit_4 (by decide) (fun q => absurd q (by decide)) (fun _ => ?_)
    refine g_iload_n dX10_sit_7 rfl ?_
    refine g_iconst (v := 0) dX10_sit_8 rfl ?_
    refine g_iconst (v := 1) dX10_sit_9 rfl ?_
    refine g_cS3i dX10_sit_10 ml_X10_124 mi_X10_in ms_X10_in (Nat.le_of_ble_eq_true rfl) rfl (by omega) ?_
    refine c_inN (H := 1) rfl (by decide) (fun u eu hu => ?_) (fun ny => ?_)
    · refine g_if_eq (tgt := 23) dX10_sit_13 (by decide) (fun q => absurd q (by decide)) (fun _ => ?_)
      refine g_aload_n dX10_sit_16 rfl ?_
      refine g_geti dX10_sit_17 fl_X10_121 h.1 ?_
      have hn6 := hx.1.2.1
      rw [hx.1.1]
      refine g_if_ne (tgt := 26) dX10_sit_20 (by decide) (fun zc20 => ?_) (fun zc20 => ?_)
      · subst ec
        subst eu
        have h0 : 0 < n := by
          rcases Nat.eq_zero_or_pos n with e | e
          · subst e; exact absurd rfl zc20
          · exact e
        have hV0 : ∀ t, t < n → ∀ A : Nat → Int32, A 0 = nI t → (-2000000000 : Int32) < siV A f 0 := fun t ht A e => by
          have q := hr28 (12 + t) (by omega)
          have e1 : (-2000000000 : Int32).toInt = -2000000000 := by decide
          unfold siV
          rw [e, nI_n (by omega), show nI 0 = 0 from rfl, Int32.zero_mul, Int32.sub_zero, pI_lt]
          unfold rI at q
          omega
        refine g_aload_n dX10_sit_26 rfl ?_
        refine g_iload_n dX10_sit_27 rfl ?_
        refine g_cV1v dX10_sit_28 ml_X10_293 mi_X10_findAsked mv_X10_findAsked h.1 ⟨_, rfl, rfl⟩ (Nat.le_of_ble_eq_true rfl) rfl (by omega) ?_
        refine c_X10_findAsked (by omega) h hx hl hb hc (fun hr w2 hs2 e35 e81 => ?_) (fun hr w2 hs2 e35 e81 => ?_)
        · refine g_iconst (v := 0) dX10_sit_31 rfl ?_
          refine g_istore_n dX10_sit_32 (Nat.le_of_ble_eq_true rfl) rfl ?_
          refine g_iconst (v := 1) dX10_sit_33 rfl ?_
          refine g_istore dX10_sit_34 (Nat.le_of_ble_eq_true rfl) rfl ?_
          obtain ⟨t, ht, et⟩ := cr_runs_ex hr hn6
          have eA : me_as N sg va f n c 0 = nI t := (me_as_r hr).trans et
          refine l_X10_sit (A := me_as N sg va f n c) (f := f) (M := 1) (h.same hs2) (hx.1.same hs2 (by simp) (by simp)) e35 (by decide) (fun j hj => ⟨t, ht, by rw [show j = 0 by omega]; exact eA⟩) (fun j hj => by rw [show j = 0 by omega, eA, e81, et]) 0 1 0 rfl (by decide) ?_
          have K := kk c rfl hc u rfl hu h0 w2 hs2
          obtain ⟨n', en⟩ : ∃ n', n = n' + 1 := ⟨n - 1, by omega⟩
          have e1 : me_si (me_as N sg va f n c) f n 0 (-2000000000) 0 = (siV (me_as N sg va f n c) f 0, nI 0) := by
            conv => lhs; arg 3; rw [en]
            rw [me_si_t (by rw [eA]; exact nI_pos (by omega)) (hV0 t ht _ eA)]
            cases n' with
            | zero => rfl
            | succ q => exact me_si_n (by rw [me_as_r1 hr (by decide)]; decide)
          rw [e1] at K
          exact K
        · refine g_iconst (v := 0) dX10_sit_31 rfl ?_
          refine g_istore_n dX10_sit_32 (Nat.le_of_ble_eq_true rfl) rfl ?_
          refine g_iconst (v := 1) dX10_sit_33 rfl ?_
          refine g_istore dX10_sit_34 (Nat.le_of_ble_eq_true rfl) rfl ?_
          have hAr : ∀ j, j < n → ∃ a, a < n ∧ me_as N sg va f n c j = nI a := fun j hj => by
            rw [me_as_n hr]
            exact cr_road_ex hn6 hj
          obtain ⟨t, ht, et⟩ := hAr 0 h0
          refine l_X10_sit (A := me_as N sg va f n c) (f := f) (M := n) (h.same hs2) (hx.1.same hs2 (by simp) (by simp)) e35 hn6 hAr e81 (n - 1) 1 0 (by omega) (by decide) ?_
          have K := kk c rfl hc u rfl hu h0 w2 hs2
          obtain ⟨n', en⟩ : ∃ n', n = n' + 1 := ⟨n - 1, by omega⟩
          have e1 : me_si (me_as N sg va f n c) f n 0 (-2000000000) 0 = me_si (me_as N sg va f n c) f (n - 1) 1 (siV (me_as N sg va f n c) f 0) (nI 0) := by
            rw [show n - 1 = n' by omega]
            conv => lhs; arg 3; rw [en]
            exact me_si_t (by rw [et]; exact nI_pos (by omega)) (hV0 t ht _ et)
          rw [e1] at K
          exact K
      · refine g_ldc dX10_sit_23 ct_X10_165 ?_
        refine g_iret dX10_sit_25 rfl ⟨_, rfl, ?_⟩
        exact k3 (pI_inj (b := 0) (by omega) (by decide) zc20)
    · refine g_if_eq (tgt := 23) dX10_sit_13 (by decide) (fun _ => ?_) (fun q => absurd q (by decide))
      refine g_ldc dX10_sit_23 ct_X10_165 ?_
      refine g_iret dX10_sit_25 rfl ⟨_, rfl, ?_⟩
      exact k2 ny
  · refine g_if_eq (tgt := 23) dX10_sit_4 (by decide) (fun _ => ?_) (fun q => absurd q (by decide))
    refine g_ldc dX10_sit_23 ct_X10_165 ?_
    refine g_iret dX10_sit_25 rfl ⟨_, rfl, ?_⟩
    exact k1 nx

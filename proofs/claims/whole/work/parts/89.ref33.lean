/-! The reference: fair drawn ahead -/
def smF (a f : Nat → Int32) : Nat → Int32
  | 0 => 0
  | r + 1 => smF a f r + a r * f (12 + r)
theorem smF_lo {a f : Nat → Int32} {t : Nat} {v : Int32} : ∀ r, r ≤ t → smF (va_up a t v) f r = smF a f r := by
  intro r
  induction r with
  | zero => intro _; rfl
  | succ r ih =>
    intro h
    show smF (va_up a t v) f r + va_up a t v r * f (12 + r) = _
    rw [ih (by omega), va_up_row (by omega)]
    rfl
theorem smF_up {a f : Nat → Int32} {t : Nat} : ∀ r, t < r → smF (va_up a t (a t + 1)) f r = smF a f r + f (12 + t) := by
  intro r
  induction r with
  | zero => intro h; omega
  | succ r ih =>
    intro h
    show smF (va_up a t (a t + 1)) f r + va_up a t (a t + 1) r * f (12 + r) = smF a f r + a r * f (12 + r) + f (12 + t)
    by_cases e : r = t
    · subst e
      rw [smF_lo r (Nat.le_refl _), va_up_at, Int32.add_mul, Int32.one_mul, Int32.add_assoc]
    · rw [ih (by omega), va_up_row e, Int32.add_assoc, Int32.add_comm (f (12 + t)), ← Int32.add_assoc]
theorem smF_cg {a b f : Nat → Int32} : ∀ r, (∀ j, j < r → a j = b j) → smF a f r = smF b f r := by
  intro r
  induction r with
  | zero => intro _; rfl
  | succ r ih =>
    intro h
    show smF a f r + a r * f (12 + r) = smF b f r + b r * f (12 + r)
    rw [ih (fun j hj => h j (by omega)), h r (by omega)]
def fxI (n : Nat) (g : Nat → Int32) (s : thS) : Prop := ∀ p, ¬ (18 ≤ p ∧ p < 18 + n) → s.1 p = g p
theorem fxI.go {N : Nat} {sg va g : Nat → Int32} {n c : Nat} {s : thS} (h : fxI n g s) : fxI n g (th_go N sg va n s c) := by
  intro p hp
  unfold th_go
  split
  · exact h p hp
  · show cr_set s.1 n _ p = g p
    unfold cr_set
    rw [if_neg hp]
    exact h p hp
theorem go_wo {N : Nat} {sg va g : Nat → Int32} {n c : Nat} {s : thS} (hn : n ≤ 6) (h : fxI n g s) (hs : s.2.2.2.2.2.2 = smF s.2.1 g n) : (th_go N sg va n s c).2.2.2.2.2.2 = smF (th_go N sg va n s c).2.1 g n := by
  unfold th_go
  rcases cr_has_cases (N := N) (sg := sg) (va := va) (f := s.1) (c := c) hn with e | ⟨t, ht, e⟩
  · rw [e, if_pos (by decide)]
    exact hs
  · rw [e, if_neg (nI_pos (by omega)), nI_n (by omega)]
    show s.2.2.2.2.2.2 + s.1 (12 + t) = smF (va_up s.2.1 t (s.2.1 t + 1)) g n
    rw [smF_up n ht, hs, h (12 + t) (by omega)]
theorem day_wo {N : Nat} {sg va g : Nat → Int32} {n : Nat} {C : Nat → Nat} (hn : n ≤ 6) : ∀ k, fxI n g (th_day N sg va n C k (th_00 g)) ∧ (th_day N sg va n C k (th_00 g)).2.2.2.2.2.2 = smF (th_day N sg va n C k (th_00 g)).2.1 g n := by
  have z : ∀ r, smF (fun _ => 0) g r = 0 := by
    intro r
    induction r with
    | zero => rfl
    | succ r ih =>
      show smF (fun _ => 0) g r + 0 * g (12 + r) = 0
      rw [ih, Int32.zero_mul]
      rfl
  intro k
  induction k with
  | zero => exact ⟨fun p _ => rfl, (z n).symm⟩
  | succ k ih => exact ⟨ih.1.go, go_wo hn ih.1 ih.2⟩
theorem l_X10_fair0 {d n M : Nat} {w : gx_W} {f : Nat → Int32} {x : Int32} {k : Int32 → gx_W → Prop} (h : moO w) (hx : mxN w f n) (h0 : 0 < n) (hM : M ≤ 60) (kk : k (me_fa f n M) w) : ∀ z j : Nat, j + z = M → gx_G 0 0 d mX10_fair (Qi k) 55 [.ref 57, .int x, .int 0, .int (nI M), .int (me_fa f n j), .int (nI j)] [] w := by
  intro z
  have hn6 := hx.2.1
  induction z with
  | zero =>
    intro j hj
    have e : j = M := by omega
    subst e
    refine g_iload dX10_fair_55 rfl ?_
    refine g_iload_n dX10_fair_57 rfl ?_
    refine g_icmp_ge (tgt := 88) dX10_fair_58 (by decide) (fun zc58 => ?_) (fun zc58 => ?_)
    · refine g_iconst (v := 0) dX10_fair_88 rfl ?_
      refine g_istore dX10_fair_89 (Nat.le_of_ble_eq_true rfl) rfl ?_
      refine g_iload dX10_fair_91 rfl ?_
      refine g_aload_n dX10_fair_93 rfl ?_
      refine g_geti dX10_fair_94 fl_X10_121 h.1 ?_
      refine g_icmp_ge (tgt := 131) dX10_fair_97 (by decide) (fun zc97 => ?_) (fun zc97 => ?_)
      · refine g_iload dX10_fair_131 rfl ?_
        refine g_iret dX10_fair_133 rfl ⟨_, rfl, ?_⟩
        exact kk
      · refine g_iload_n dX10_fair_100 rfl ?_
        refine g_iconst (v := 1) dX10_fair_101 rfl ?_
        refine g_icmp_ne (tgt := 131) dX10_fair_102 (by decide) (fun _ => ?_) (fun q => absurd q (by decide))
        refine g_iload dX10_fair_131 rfl ?_
        refine g_iret dX10_fair_133 rfl ⟨_, rfl, ?_⟩
        exact kk
    · exact absurd (Int32.le_refl _) zc58
  | succ z ih =>
    intro j hj
    have hmod : j % n < n := Nat.mod_lt _ h0
    have ihs := ih (j + 1) (by omega)
    refine g_iload dX10_fair_55 rfl ?_
    refine g_iload_n dX10_fair_57 rfl ?_
    refine g_icmp_ge (tgt := 88) dX10_fair_58 (by decide) (fun zc58 => ?_) (fun zc58 => ?_)
    · exact absurd zc58 (nI_ge (by omega) (by omega))
    · refine g_iload_n dX10_fair_61 rfl ?_
      refine g_if_ne (tgt := 88) dX10_fair_62 (by decide) (fun q => absurd q (by decide)) (fun _ => ?_)
      refine g_iload dX10_fair_65 rfl ?_
      refine g_aload_n dX10_fair_67 rfl ?_
      refine g_getr dX10_fair_68 fl_X10_18 h.1 (moR_60 h) ?_
      refine g_iload dX10_fair_71 rfl ?_
      refine g_aload_n dX10_fair_73 rfl ?_
      refine g_geti dX10_fair_74 fl_X10_121 h.1 ?_
      refine g_irem dX10_fair_77 (by rw [hx.1]; exact nI_ne0 h0 (by omega)) ?_
      rw [hx.1, pk_rem (by omega) h0 (by omega)]
      refine g_iald dX10_fair_78 (moA_60 h) (vp_in_nI (by omega) (by decide)) ?_
      rw [nI_n (show j % n < 2 ^ 31 by omega), hx.2.2.2.2.1 _ hmod]
      refine g_iadd dX10_fair_79 ?_
      refine g_istore dX10_fair_80 (Nat.le_of_ble_eq_true rfl) rfl ?_
      refine g_iinc dX10_fair_82 rfl rfl ?_
      refine g_goto (tgt := 55) dX10_fair_85 (by decide) ?_
      rw [nI_1']
      exact ihs
theorem l_X10_fair1 {d n : Nat} {w : gx_W} {f a : Nat → Int32} {x y3 : Int32} {k : Int32 → gx_W → Prop} (h : moO w) (hx : mxN w f n) (ha : ∀ j, j < n → w_a w 76 j = a j) (kk : k (smF a f n) w) : ∀ z j : Nat, j + z = n → gx_G 0 0 d mX10_fair (Qi k) 91 [.ref 57, .int x, .int 1, .int y3, .int (smF a f j), .int (nI j)] [] w := by
  intro z
  have hn6 := hx.2.1
  have en := hx.1
  induction z with
  | zero =>
    intro j hj
    have e : j = n := by omega
    subst e
    refine g_iload dX10_fair_91 rfl ?_
    refine g_aload_n dX10_fair_93 rfl ?_
    refine g_geti dX10_fair_94 fl_X10_121 h.1 ?_
    rw [en]
    refine g_icmp_ge (tgt := 131) dX10_fair_97 (by decide) (fun zc97 => ?_) (fun zc97 => ?_)
    · refine g_iload dX10_fair_131 rfl ?_
      refine g_iret dX10_fair_133 rfl ⟨_, rfl, ?_⟩
      exact kk
    · exact absurd (Int32.le_refl _) zc97
  | succ z ih =>
    intro j hj
    have ihs := ih (j + 1) (by omega)
    refine g_iload dX10_fair_91 rfl ?_
    refine g_aload_n dX10_fair_93 rfl ?_
    refine g_geti dX10_fair_94 fl_X10_121 h.1 ?_
    rw [en]
    refine g_icmp_ge (tgt := 131) dX10_fair_97 (by decide) (fun zc97 => ?_) (fun zc97 => ?_)
    · exact absurd zc97 (nI_ge (by omega) (by omega))
    · refine g_iload_n dX10_fair_100 rfl ?_
      refine g_iconst (v := 1) dX10_fair_101 rfl ?_
      refine g_icmp_ne (tgt := 131) dX10_fair_102 (by decide) (fun q => absurd q (by decide)) (fun _ => ?_)
      refine g_iload dX10_fair_105 rfl ?_
      refine g_aload_n dX10_fair_107 rfl ?_
      refine g_getr dX10_fair_108 fl_X10_68 h.1 (moR_76 h) ?_
      refine g_iload dX10_fair_111 rfl ?_
      refine g_iald dX10_fair_113 (moA_76 h) (vp_in_nI (by omega) (by decide)) ?_
      rw [nI_n (show j < 2 ^ 31 by omega), ha j (by omega)]
      refine g_aload_n dX10_fair_114 rfl ?_
      refine g_getr dX10_fair_115 fl_X10_18 h.1 (moR_60 h) ?_
      refine g_iload dX10_fair_118 rfl ?_
      refine g_iald dX10_fair_120 (moA_60 h) (vp_in_nI (by omega) (by decide)) ?_
      rw [nI_n (show j < 2 ^ 31 by omega), hx.2.2.2.2.1 j (by omega)]
      refine g_imul dX10_fair_121 ?_
      refine g_iadd dX10_fair_122 ?_
      refine g_istore dX10_fair_123 (Nat.le_of_ble_eq_true rfl) rfl ?_
      refine g_iinc dX10_fair_125 rfl rfl ?_
      refine g_goto (tgt := 91) dX10_fair_128 (by decide) ?_
      rw [nI_1']
      exact ihs
theorem c_X10_fair {d : Nat} {w : gx_W} {f : Nat → Int32} {n N : Nat} {sg va : Nat → Int32} {ln : Nat → Nat} {C : Nat → Nat → Int64} {x y : Int32} {k : Int32 → gx_W → Prop} (hd : 8 ≤ d) (h : moO w) (hx : mxD w f n) (hl : lwM w N sg va) (hb : bnd f n) (hsh : ∀ i, i < 6 → w_a w 87 i = -2 → shM w i (ln i) (C i)) (k1 : (∀ i, i < 6 → x ≠ nI i) → k (-2000000000) w) (k6 : (∀ m, m ≤ 1 → y ≠ nI m) → k (-2000000000) w) (k7 : n = 0 → k (-2000000000) w) (k2 : ∀ i, x = nI i → i < 6 → w_a w 87 i = -1 → k (-2000000000) w) (k4 : ∀ i, x = nI i → i < 6 → ¬ w_a w 87 i = -1 → ¬ w_a w 87 i = -2 → k (-2000000000) w) (k3 : ∀ i, x = nI i → i < 6 → w_a w 87 i = -2 → 0 < n → y = 1 → ∀ w', same [73, 74, 75, 76, 77, 78] [(57, 31)] w w' → k (th_day N sg va n (fun j => (C i j).toInt32.toNatClampNeg) (sh_com (fun j => isCo (C i j).toInt32) (min 60 (ln i))) (th_00 f)).2.2.2.2.2.2 w') (k5 : ∀ i, x = nI i → i < 6 → w_a w 87 i = -2 → 0 < n → y = 0 → ∀ w', same [73, 74, 75, 76, 77, 78] [(57, 31)] w w' → k (me_fa f n (sh_com (fun j => isCo (C i j).toInt32) (min 60 (ln i)))) w') : gx_C 0 0 d mX10_fair [.ref 57, .int x, .int y] w (Qi k) := by
  refine gx_C_of' (L := [.ref 57, .int x, .int y, .retAddr 0, .retAddr 0, .retAddr 0]) (by decide +kernel) rfl (Nat.le_of_ble_eq_true rfl) ?_
  refine g_iload_n dX10_fair_0 rfl ?_
  refine g_cS1i dX10_fair_1 ml_X10_136 mi_X10_isShelf ms_X10_isShelf (Nat.le_of_ble_eq_true rfl) rfl (by omega) ?_
  refine c_X10_isShelf (by omega) (fun i ei hi => ?_) (fun nx => ?_)
  · refine g_if_eq (tgt := 31) dX10_fair_4 (by decide) (fun q => absurd q (by decide)) (fun _ => ?_)
    refine g_iload_n dX10_fair_7 rfl ?_
    refine g_iconst (v := 0) dX10_fair_8 rfl ?_
    refine g_iconst (v := 1) dX10_fair_9 rfl ?_
    refine g_cS3i dX10_fair_10 ml_X10_124 mi_X10_in ms_X10_in (Nat.le_of_ble_eq_true rfl) rfl (by omega) ?_
    refine c_inN (H := 1) rfl (by decide) (fun u eu hu => ?_) (fun ny => ?_)
    · refine g_if_eq (tgt := 31) dX10_fair_13 (by decide) (fun q => absurd q (by decide)) (fun _ => ?_)
      subst ei
      have hn6 := hx.1.2.1
      refine g_aload_n dX10_fair_16 rfl ?_
      refine g_geti dX10_fair_17 fl_X10_121 h.1 ?_
      rw [hx.1.1]
      refine g_if_eq (tgt := 31) dX10_fair_20 (by decide) (fun zc20 => ?_) (fun zc20 => ?_)
      · refine g_ldc dX10_fair_31 ct_X10_165 ?_
        refine g_iret dX10_fair_33 rfl ⟨_, rfl, ?_⟩
        exact k7 (pI_inj (b := 0) (by omega) (by decide) zc20)
      · refine g_aload_n dX10_fair_23 rfl ?_
        refine g_iload_n dX10_fair_24 rfl ?_
        refine g_cV1i dX10_fair_25 ml_X10_277 mi_X10_rowFault mv_X10_rowFault h.1 ⟨_, rfl, rfl⟩ (Nat.le_of_ble_eq_true rfl) rfl (by omega) ?_
        refine c_X10_rowFault (by omega) h hi (fun e1 => ?_) (fun e1 => ?_) (fun e1 e2 => ?_)
        · refine g_if_ge (tgt := 34) dX10_fair_28 (by decide) (fun q => absurd q (by decide)) (fun _ => ?_)
          refine g_ldc dX10_fair_31 ct_X10_165 ?_
          refine g_iret dX10_fair_33 rfl ⟨_, rfl, ?_⟩
          exact k2 i rfl hi e1
        · refine g_if_ge (tgt := 34) dX10_fair_28 (by decide) (fun _ => ?_) (fun q => absurd q (by decide))
          have h0 : 0 < n := by
            rcases Nat.eq_zero_or_pos n with e | e
            · subst e; exact absurd rfl zc20
            · exact e
          refine g_aload_n dX10_fair_34 rfl ?_
          refine g_iload_n dX10_fair_35 rfl ?_
          refine g_bipush (v := 60) dX10_fair_36 rfl ?_
          refine g_cV2v dX10_fair_38 ml_X10_280 mi_X10_goDay mv_X10_goDay h.1 ⟨_, rfl, rfl⟩ (Nat.le_of_ble_eq_true rfl) rfl (by omega) ?_
          refine c_X10_goDay (m := 60) (by omega) h hx hl hb hi (hsh i hi e1) (Nat.le_refl _) (fun w1 hs1 h1 => ?_)
          refine g_aload_n dX10_fair_41 rfl ?_
          refine g_iload_n dX10_fair_42 rfl ?_
          refine g_bipush (v := 60) dX10_fair_43 rfl ?_
          refine g_cV2i dX10_fair_45 ml_X10_268 mi_X10_longOf mv_X10_longOf h1.1.1.1 ⟨_, rfl, rfl⟩ (Nat.le_of_ble_eq_true rfl) rfl (by omega) ?_
          refine c_X10_longOf (m := 60) (by omega) h1.1.1 hi ((hsh i hi e1).same hs1 (by simp)) (Nat.le_refl _) ?_
          refine g_istore_n dX10_fair_48 (Nat.le_of_ble_eq_true rfl) rfl ?_
          refine g_iconst (v := 0) dX10_fair_49 rfl ?_
          refine g_istore dX10_fair_50 (Nat.le_of_ble_eq_true rfl) rfl ?_
          refine g_iconst (v := 0) dX10_fair_52 rfl ?_
          refine g_istore dX10_fair_53 (Nat.le_of_ble_eq_true rfl) rfl ?_
          have hM := sh_com_le (fun j => isCo (C i j).toInt32) (min 60 (ln i))
          have hx1 : mxN w1 f n := hx.1.same hs1 (by simp) (by simp)
          have hu01 : u = 0 ∨ u = 1 := by omega
          rcases hu01 with e | e
          · subst e
            subst eu
            exact l_X10_fair0 h1.1.1 hx1 h0 (by omega) (k5 i rfl hi e1 h0 rfl w1 hs1) (sh_com (fun j => isCo (C i j).toInt32) (min 60 (ln i))) 0 (Nat.zero_add _)
          · subst e
            subst eu
            refine g_iload dX10_fair_55 rfl ?_
            refine g_iload_n dX10_fair_57 rfl ?_
            refine g_icmp_ge (tgt := 88) dX10_fair_58 (by decide) (fun zc58 => ?_) (fun zc58 => ?_)
            · refine g_iconst (v := 0) dX10_fair_88 rfl ?_
              refine g_istore dX10_fair_89 (Nat.le_of_ble_eq_true rfl) rfl ?_
              refine l_X10_fair1 h1.1.1 hx1 h1.2.1 ?_ n 0 (Nat.zero_add _)
              rw [← (day_wo (N := N) (sg := sg) (va := va) (g := f) hn6 _).2]
              exact k3 i rfl hi e1 h0 rfl w1 hs1
            · refine g_iload_n dX10_fair_61 rfl ?_
              refine g_if_ne (tgt := 88) dX10_fair_62 (by decide) (fun _ => ?_) (fun q => absurd q (by decide))
              refine g_iconst (v := 0) dX10_fair_88 rfl ?_
              refine g_istore dX10_fair_89 (Nat.le_of_ble_eq_true rfl) rfl ?_
              refine l_X10_fair1 h1.1.1 hx1 h1.2.1 ?_ n 0 (Nat.zero_add _)
              rw [← (day_wo (N := N) (sg := sg) (va := va) (g := f) hn6 _).2]
              exact k3 i rfl hi e1 h0 rfl w1 hs1
        · refine g_if_ge (tgt := 34) dX10_fair_28 (by decide) (fun q => absurd q (by decide)) (fun _ => ?_)
          refine g_ldc dX10_fair_31 ct_X10_165 ?_
          refine g_iret dX10_fair_33 rfl ⟨_, rfl, ?_⟩
          exact k4 i rfl hi e1 e2
    · refine g_if_eq (tgt := 31) dX10_fair_13 (by decide) (fun _ => ?_) (fun q => absurd q (by decide))
      refine g_ldc dX10_fair_31 ct_X10_165 ?_
      refine g_iret dX10_fair_33 rfl ⟨_, rfl, ?_⟩
      exact k6 ny
  · refine g_if_eq (tgt := 31) dX10_fair_4 (by decide) (fun _ => ?_) (fun q => absurd q (by decide))
    refine g_ldc dX10_fair_31 ct_X10_165 ?_
    refine g_iret dX10_fair_33 rfl ⟨_, rfl, ?_⟩
    exact k1 nx
/-! drawn -/
theorem nI_m1 {k : Nat} (h : k < 2 ^ 31) : ¬ nI k = -1 := fun q => by
  have := congrArg Int32.toInt q
  rw [nI_toInt h] at this
  have e : (-1 : Int32).toInt = -1 := by decide
  omega
theorem fxI.wa {n : Nat} {g : Nat → Int32} {s : thS} (h : fxI n g s) : th_wa g n s = (g, s.2) := by
  unfold th_wa
  have e : (fun j => if 18 ≤ j ∧ j < 18 + n then g j else s.1 j) = g := by
    funext j
    by_cases q : 18 ≤ j ∧ j < 18 + n
    · rw [if_pos q]
    · rw [if_neg q, h j q]
  rw [e]
theorem fxI_0 (n : Nat) (g : Nat → Int32) (s : thS) : fxI n g (g, s.2) := fun _ _ => rfl
theorem fxI.inn {Z : Int32 → Int32} {N : Nat} {sg va g : Nat → Int32} {n : Nat} : ∀ (j : Nat) (q : Int32 × thS), fxI n g q.2 → fxI n g (dr_in Z N sg va n j q).2 := by
  intro j
  induction j with
  | zero => intro q h; exact h
  | succ j ih => intro q h; exact ih _ h.go
def drH (v : Int32) (s : thS) : Int32 := if v < 0 then 0 else s.2.1 v.toNatClampNeg
theorem dr_zero {Z : Int32 → Int32} {N : Nat} {sg va g : Nat → Int32} : ∀ (j : Nat) (q : Int32 × thS), (dr_in Z N sg va 0 j q).2.2.2.2.2.2.2 = q.2.2.2.2.2.2.2 := by
  intro j
  induction j with
  | zero => intro q; rfl
  | succ j ih =>
    intro q
    refine (ih _).trans ?_
    show (th_go N sg va 0 q.2 (dr_c (Z q.1))).2.2.2.2.2.2 = _
    unfold th_go
    rcases cr_has_cases (N := N) (sg := sg) (va := va) (f := q.2.1) (c := dr_c (Z q.1)) (Nat.zero_le 6) with e | ⟨t, ht, e⟩
    · rw [e, if_pos (by decide)]
      rfl
    · omega
theorem dro_zero {Z : Int32 → Int32} {N : Nat} {sg va g : Nat → Int32} {C : Nat} : ∀ (j : Nat) (q : Int32 × thS), (dr_out Z N sg va 0 C g j q).2.2.2.2.2.2.2 = q.2.2.2.2.2.2.2 := by
  intro j
  induction j with
  | zero => intro q; rfl
  | succ j ih =>
    intro q
    refine (ih _).trans ?_
    rw [dr_zero (g := g)]
    rfl
set_option maxHeartbeats 4000000 in
theorem l_X10_drawn1 {Z : Int32 → Int32} (hZ : ∀ x : Int32, x * 1103515245 + 12345 = Z x) {d n N D C : Nat} {w : gx_W} {g sg va : Nat → Int32} {x v i7 : Int32} {k : Int32 → gx_W → Prop} (hd : 7 ≤ d) (hC : C ≤ 60) (hD : D ≤ 30) (h0 : 0 < n) (hn6 : n ≤ 6) (hv : v = -1 ∨ ∃ t, t < n ∧ v = nI t) (hm : mxN w g n) : ∀ (z j : Nat) (q : Int32 × thS) (x9 : Value) (w1 : gx_W), j + z = C → same [73, 74, 75] [] w w1 → moT w1 q.2.1 n N sg va → fxI n g q.2 → (∀ w', same [73, 74, 75] [] w w' → ∀ x9 : Value, gx_G 0 0 d mX10_drawn (Qi k) 144 [.ref 57, .int x, .int (nI (100 * D + C)), .int v, .int (dr_in Z N sg va n z q).1, .int (drH v (dr_in Z N sg va n z q).2), .int (dr_in Z N sg va n z q).2.2.2.2.2.2.2, .int i7, .int (nI C), x9] [] w') → gx_G 0 0 d mX10_drawn (Qi k) 82 [.ref 57, .int x, .int (nI (100 * D + C)), .int v, .int q.1, .int (drH v q.2), .int q.2.2.2.2.2.2.2, .int i7, .int (nI j), x9] [] w1 := by
  intro z
  have hrem := (dr_dc hD hC).2
  have hvr : ∀ t, t < n → ∀ s : thS, (nI t = v → drH v (th_B n t s) = drH v s + 1) ∧ (¬ nI t = v → drH v (th_B n t s) = drH v s) := by
    intro t ht s
    unfold drH
    rcases hv with e | ⟨u, hu, e⟩
    · subst e
      exact ⟨fun q => absurd q (nI_m1 (by omega)), fun _ => rfl⟩
    · subst e
      rw [if_neg (nI_pos (by omega)), if_neg (nI_pos (by omega)), nI_n (by omega)]
      show (_ → va_up s.2.1 t (s.2.1 t + 1) u = _) ∧ (_ → va_up s.2.1 t (s.2.1 t + 1) u = _)
      refine ⟨fun q => ?_, fun q => va_up_row (fun y => q (by rw [y]))⟩
      have := pI_inj (by omega) (by omega) q
      subst this
      exact va_up_at
  induction z with
  | zero =>
    intro j q x9 w1 hj hs hI hf kk
    have e : j = C := by omega
    subst e
    refine g_iload dX10_drawn_82 rfl ?_
    refine g_iload_n dX10_drawn_84 rfl ?_
    refine g_bipush (v := 100) dX10_drawn_85 rfl ?_
    refine g_irem dX10_drawn_87 (by decide) ?_
    rw [hrem]
    refine g_icmp_ge (tgt := 144) dX10_drawn_88 (by decide) (fun zc88 => ?_) (fun zc88 => ?_)
    · exact kk w1 hs x9
    · exact absurd (Int32.le_refl _) zc88
  | succ z ih =>
    intro j q x9 w1 hj hs hI hf kk
    obtain ⟨t, ht, et⟩ := cr_has_pos (N := N) (sg := sg) (va := va) (f := q.2.1) (c := dr_c (Z q.1)) hn6 h0
    have hgo : th_go N sg va n q.2 (dr_c (Z q.1)) = th_B n t q.2 := by
      unfold th_go
      rw [et, if_neg (nI_pos (by omega)), nI_n (by omega)]
    have hnx : me_nx N sg va q.2.1 n (dr_c (Z q.1)) = cr_set q.2.1 n t := me_nx_B (by omega) et
    have hin : dr_in Z N sg va n (z + 1) q = dr_in Z N sg va n z (Z q.1, th_B n t q.2) := by
      rw [← hgo]
      rfl
    have hf2 : fxI n g (th_B n t q.2) := by
      rw [← hgo]
      exact hf.go
    rw [hin] at kk
    refine g_iload dX10_drawn_82 rfl ?_
    refine g_iload_n dX10_drawn_84 rfl ?_
    refine g_bipush (v := 100) dX10_drawn_85 rfl ?_
    refine g_irem dX10_drawn_87 (by decide) ?_
    rw [hrem]
    refine g_icmp_ge (tgt := 144) dX10_drawn_88 (by decide) (fun zc88 => ?_) (fun zc88 => ?_)
    · exact absurd zc88 (nI_ge (by omega) (by omega))
    · refine g_iload dX10_drawn_91 rfl ?_
      refine g_ldcw dX10_drawn_93 ct_X10_320 ?_
      refine g_imul dX10_drawn_96 ?_
      refine g_sipush (v := 12345) dX10_drawn_97 rfl ?_
      refine g_iadd dX10_drawn_100 ?_
      rw [hZ]
      refine g_istore dX10_drawn_101 (Nat.le_of_ble_eq_true rfl) rfl ?_
      refine g_aload_n dX10_drawn_103 rfl ?_
      refine g_iload dX10_drawn_104 rfl ?_
      refine g_bipush (v := 8) dX10_drawn_106 rfl ?_
      refine g_iushr dX10_drawn_108 ?_
      refine g_bipush (v := 100) dX10_drawn_109 rfl ?_
      refine g_irem dX10_drawn_111 (by decide) ?_
      rw [dr_co]
      refine g_cV1i dX10_drawn_112 ml_X10_271 mi_X10_goComer mv_X10_goComer hI.1.1 ⟨_, rfl, rfl⟩ (Nat.le_of_ble_eq_true rfl) rfl (by omega) ?_
      refine c_X10_goComer (by omega) hI (dr_c_lt _) (fun w2 hs2 h2 => ?_)
      rw [et]
      refine g_istore dX10_drawn_115 (Nat.le_of_ble_eq_true rfl) rfl ?_
      refine g_iload dX10_drawn_117 rfl ?_
      refine g_aload_n dX10_drawn_119 rfl ?_
      refine g_getr dX10_drawn_120 fl_X10_18 h2.1.1 (moR_60 h2.1) ?_
      refine g_iload dX10_drawn_123 rfl ?_
      refine g_iald dX10_drawn_125 (moA_60 h2.1) (vp_in_nI (by omega) (by decide)) ?_
      rw [nI_n (show t < 2 ^ 31 by omega), (hs2.2.2.2.1 60 (by simp)).1, (hs.2.2.2.1 60 (by simp)).1, hm.2.2.2.2.1 t ht]
      refine g_iadd dX10_drawn_126 ?_
      refine g_istore dX10_drawn_127 (Nat.le_of_ble_eq_true rfl) rfl ?_
      refine g_iload dX10_drawn_129 rfl ?_
      refine g_iload_n dX10_drawn_131 rfl ?_
      refine g_icmp_ne (tgt := 138) dX10_drawn_132 (by decide) (fun zc132 => ?_) (fun zc132 => ?_)
      · refine g_iinc dX10_drawn_138 rfl rfl ?_
        refine g_goto (tgt := 82) dX10_drawn_141 (by decide) ?_
        rw [nI_1']
        have K : gx_G 0 0 d mX10_drawn (Qi k) 82 [.ref 57, .int x, .int (nI (100 * D + C)), .int v, .int (Z q.1), .int (drH v (th_B n t q.2)), .int (q.2.2.2.2.2.2.2 + q.2.1 (12 + t)), .int i7, .int (nI (j + 1)), .int (nI t)] [] w2 := by
          exact ih (j + 1) (Z q.1, th_B n t q.2) _ w2 (by omega) (hs.tr hs2) (by rw [hnx] at h2; exact h2) hf2 kk
        rw [(hvr t ht q.2).2 zc132, hf (12 + t) (by omega)] at K
        exact K
      · refine g_iinc dX10_drawn_135 rfl rfl ?_
        refine g_iinc dX10_drawn_138 rfl rfl ?_
        refine g_goto (tgt := 82) dX10_drawn_141 (by decide) ?_
        rw [nI_1']
        have K : gx_G 0 0 d mX10_drawn (Qi k) 82 [.ref 57, .int x, .int (nI (100 * D + C)), .int v, .int (Z q.1), .int (drH v (th_B n t q.2)), .int (q.2.2.2.2.2.2.2 + q.2.1 (12 + t)), .int i7, .int (nI (j + 1)), .int (nI t)] [] w2 := by
          exact ih (j + 1) (Z q.1, th_B n t q.2) _ w2 (by omega) (hs.tr hs2) (by rw [hnx] at h2; exact h2) hf2 kk
        rw [(hvr t ht q.2).1 zc132, hf (12 + t) (by omega)] at K
        exact K
set_option maxHeartbeats 4000000 in
theorem l_X10_drawn {Z : Int32 → Int32} (hZ : ∀ x : Int32, x * 1103515245 + 12345 = Z x) {d n N D C : Nat} {w : gx_W} {g sg va : Nat → Int32} {x v : Int32} {k : Int32 → gx_W → Prop} (hd : 7 ≤ d) (hC : C ≤ 60) (hD : D ≤ 30) (h0 : 0 < n) (hv : v = -1 ∨ ∃ t, t < n ∧ v = nI t) (h : moO w) (hx : mxD w g n) (hl : lwM w N sg va) (hb : bnd g n) : ∀ (z i : Nat) (q : Int32 × thS) (x8 x9 : Value) (w1 : gx_W), i + z = D → same [73, 74, 75] [] w w1 → fxI n g q.2 → (∀ w', same [73, 74, 75] [] w w' → ∀ x8 x9 : Value, gx_G 0 0 d mX10_drawn (Qi k) 150 [.ref 57, .int x, .int (nI (100 * D + C)), .int v, .int (dr_out Z N sg va n C g z q).1, .int (drH v (dr_out Z N sg va n C g z q).2), .int (dr_out Z N sg va n C g z q).2.2.2.2.2.2.2, .int (nI D), x8, x9] [] w') → gx_G 0 0 d mX10_drawn (Qi k) 59 [.ref 57, .int x, .int (nI (100 * D + C)), .int v, .int q.1, .int (drH v q.2), .int q.2.2.2.2.2.2.2, .int (nI i), x8, x9] [] w1 := by
  intro z
  have hdiv := (dr_dc hD hC).1
  have hn6 := hx.1.2.1
  induction z with
  | zero =>
    intro i q x8 x9 w1 hi hs hf kk
    have h1 := h.same hs
    have e : i = D := by omega
    subst e
    refine g_iload dX10_drawn_59 rfl ?_
    refine g_iload_n dX10_drawn_61 rfl ?_
    refine g_bipush (v := 100) dX10_drawn_62 rfl ?_
    refine g_idiv dX10_drawn_64 (by decide) ?_
    rw [hdiv]
    refine g_icmp_ge (tgt := 150) dX10_drawn_65 (by decide) (fun zc65 => ?_) (fun zc65 => ?_)
    · exact kk w1 hs x8 x9
    · exact absurd (Int32.le_refl _) zc65
  | succ z ih =>
    intro i q x8 x9 w1 hi hs hf kk
    have h1 := h.same hs
    have hx1 : mxD w1 g n := ⟨hx.1.same hs (by simp) (by simp), fun j hj => by rw [(hs.2.2.2.1 61 (by simp)).1]; exact hx.2 j hj⟩
    have hl1 := hl.same hs (by simp) (fun k k1 k2 => by simp; omega)
    have hout : dr_out Z N sg va n C g (z + 1) q = dr_out Z N sg va n C g z (dr_in Z N sg va n C (q.1, (g, q.2.2))) := by
      rw [← hf.wa]
      rfl
    rw [hout] at kk
    refine g_iload dX10_drawn_59 rfl ?_
    refine g_iload_n dX10_drawn_61 rfl ?_
    refine g_bipush (v := 100) dX10_drawn_62 rfl ?_
    refine g_idiv dX10_drawn_64 (by decide) ?_
    rw [hdiv]
    refine g_icmp_ge (tgt := 150) dX10_drawn_65 (by decide) (fun zc65 => ?_) (fun zc65 => ?_)
    · exact absurd zc65 (nI_ge (by omega) (by omega))
    · refine g_aload_n dX10_drawn_68 rfl ?_
      refine g_geti dX10_drawn_69 fl_X10_121 h1.1 ?_
      rw [hx1.1.1]
      refine g_if_le (tgt := 150) dX10_drawn_72 (by decide) (fun zc72 => ?_) (fun zc72 => ?_)
      · exact absurd zc72 (nI_nle h0 (by omega))
      · refine g_aload_n dX10_drawn_75 rfl ?_
        refine g_cV0v dX10_drawn_76 ml_X10_259 mi_X10_layNow mv_X10_layNow h1.1 ⟨_, rfl, rfl⟩ (Nat.le_of_ble_eq_true rfl) rfl (by omega) ?_
        refine c_X10_layNow (by omega) h1 hx1 hl1 hb (fun w2 hs2 h2 => ?_)
        refine g_iconst (v := 0) dX10_drawn_79 rfl ?_
        refine g_istore dX10_drawn_80 (Nat.le_of_ble_eq_true rfl) rfl ?_
        refine l_X10_drawn1 hZ (w := w) (g := g) hd hC hD h0 hn6 hv hx.1 C 0 (q.1, (g, q.2.2)) _ w2 (Nat.zero_add _) (hs.tr (hs2.wk (by simp) (by simp))) h2 (fxI_0 n g q.2) (fun w3 hs3 x9 => ?_)
        refine g_iinc dX10_drawn_144 rfl rfl ?_
        refine g_goto (tgt := 59) dX10_drawn_147 (by decide) ?_
        rw [nI_1']
        exact ih (i + 1) (dr_in Z N sg va n C (q.1, (g, q.2.2))) _ _ w3 (by omega) hs3 (fxI.inn C _ (fxI_0 n g q.2)) kk
theorem dr_vl {n : Nat} {v : Int32} (hn : n ≤ 6) (h1 : (-1 : Int32) ≤ v) (h2 : v ≤ nI n - 1) : v = -1 ∨ ∃ t, t < n ∧ v = nI t := by
  have em : (-1 : Int32).toInt = -1 := by decide
  have e1 : (1 : Int32).toInt = 1 := by decide
  have en : (nI n - 1).toInt = (n : Int) - 1 := by
    rw [pI_sub (by rw [nI_toInt (by omega), e1]; omega) (by rw [nI_toInt (by omega), e1]; omega), nI_toInt (by omega), e1]
  rw [pI_le, em] at h1
  rw [pI_le, en] at h2
  by_cases q : v.toInt = -1
  · exact Or.inl (by rw [pI_eq, em]; exact q)
  · exact Or.inr (pI_ex (by rw [pI_lt]; have e0 : (0 : Int32).toInt = 0 := by decide
                            omega) (by omega))
theorem dr_vn {n : Nat} {v : Int32} (hn : n ≤ 6) (h : ¬ ((-1 : Int32) ≤ v ∧ v ≤ nI n - 1)) : ¬ v = -1 ∧ ∀ t, t < n → v ≠ nI t := by
  have em : (-1 : Int32).toInt = -1 := by decide
  have e1 : (1 : Int32).toInt = 1 := by decide
  have en : (nI n - 1).toInt = (n : Int) - 1 := by
    rw [pI_sub (by rw [nI_toInt (by omega), e1]; omega) (by rw [nI_toInt (by omega), e1]; omega), nI_toInt (by omega), e1]
  rw [pI_le, pI_le, em, en] at h
  refine ⟨fun q => h (by rw [q, em]; omega), fun t ht q => h (by rw [q, nI_toInt (by omega)]; omega)⟩
theorem dr_nm {y : Int32} (h1 : (1 : Int32) ≤ y / 100) (h2 : y / 100 ≤ 30) (h3 : (1 : Int32) ≤ y - y / 100 * 100) (h4 : y - y / 100 * 100 ≤ 60) : ∃ D C, 1 ≤ D ∧ D ≤ 30 ∧ 1 ≤ C ∧ C ≤ 60 ∧ y = nI (100 * D + C) :=
  dr_ex (Int32.not_lt.mpr h1) (Int32.not_lt.mpr h2) (Int32.not_lt.mpr h3) (Int32.not_lt.mpr h4)
set_option maxHeartbeats 4000000 in
theorem c_X10_drawn {d : Nat} {w : gx_W} {f : Nat → Int32} {n N : Nat} {sg va : Nat → Int32} {x y v : Int32} {k : Int32 → gx_W → Prop} (hd : 8 ≤ d) (h : moO w) (hx : mxD w f n) (hl : lwM w N sg va) (hb : bnd f n) (k1 : (∀ D C, 1 ≤ D → D ≤ 30 → 1 ≤ C → C ≤ 60 → y ≠ nI (100 * D + C)) → k (-2000000000) w) (k2 : ¬ v = -1 → (∀ t, t < n → v ≠ nI t) → k (-2000000000) w) (k3 : ∀ D C, y = nI (100 * D + C) → 1 ≤ D → D ≤ 30 → 1 ≤ C → C ≤ 60 → v = -1 → ∀ w', same [73, 74, 75] [] w w' → k (dr_out dr_z N sg va n C f D (x, th_00 f)).2.2.2.2.2.2.2 w') (k4 : ∀ D C t, y = nI (100 * D + C) → 1 ≤ D → D ≤ 30 → 1 ≤ C → C ≤ 60 → v = nI t → t < n → ∀ w', same [73, 74, 75] [] w w' → k ((dr_out dr_z N sg va n C f D (x, th_00 f)).2.2.1 t) w') : gx_C 0 0 d mX10_drawn [.ref 57, .int x, .int y, .int v] w (Qi k) := by
  refine gx_C_of' (L := [.ref 57, .int x, .int y, .int v, .retAddr 0, .retAddr 0, .retAddr 0, .retAddr 0, .retAddr 0, .retAddr 0]) (by decide +kernel) rfl (Nat.le_of_ble_eq_true rfl) ?_
  have hn6 := hx.1.2.1
  refine g_iload_n dX10_drawn_0 rfl ?_
  refine g_if_lt (tgt := 44) dX10_drawn_1 (by decide) (fun zc1 => ?_) (fun zc1 => ?_)
  · refine g_ldc dX10_drawn_44 ct_X10_165 ?_
    refine g_iret dX10_drawn_46 rfl ⟨_, rfl, ?_⟩
    refine k1 (fun D C h1 h2 h3 h4 e => ?_)
    obtain ⟨g1, g2⟩ := dr_dc (D := D) (C := C) h2 h4
    rw [← e] at g1 g2
    rw [e] at zc1
    exact absurd zc1 (nI_pos (by omega))
  · refine g_iload_n dX10_drawn_4 rfl ?_
    refine g_bipush (v := 100) dX10_drawn_5 rfl ?_
    refine g_idiv dX10_drawn_7 (by decide) ?_
    refine g_iconst (v := 1) dX10_drawn_8 rfl ?_
    refine g_bipush (v := 30) dX10_drawn_9 rfl ?_
    refine g_cS3i dX10_drawn_11 ml_X10_124 mi_X10_in ms_X10_in (Nat.le_of_ble_eq_true rfl) rfl (by omega) ?_
    refine c_X10_in (by omega) (fun a1 a2 => ?_) (fun na => ?_)
    · refine g_if_eq (tgt := 44) dX10_drawn_14 (by decide) (fun q => absurd q (by decide)) (fun _ => ?_)
      refine g_iload_n dX10_drawn_17 rfl ?_
      refine g_bipush (v := 100) dX10_drawn_18 rfl ?_
      refine g_irem dX10_drawn_20 (by decide) ?_
      refine g_iconst (v := 1) dX10_drawn_21 rfl ?_
      refine g_bipush (v := 60) dX10_drawn_22 rfl ?_
      refine g_cS3i dX10_drawn_24 ml_X10_124 mi_X10_in ms_X10_in (Nat.le_of_ble_eq_true rfl) rfl (by omega) ?_
      refine c_X10_in (by omega) (fun b1 b2 => ?_) (fun nb => ?_)
      · refine g_if_eq (tgt := 44) dX10_drawn_27 (by decide) (fun q => absurd q (by decide)) (fun _ => ?_)
        refine g_iload_n dX10_drawn_30 rfl ?_
        refine g_iconst (v := -1) dX10_drawn_31 rfl ?_
        refine g_aload_n dX10_drawn_32 rfl ?_
        refine g_geti dX10_drawn_33 fl_X10_121 h.1 ?_
        rw [hx.1.1]
        refine g_iconst (v := 1) dX10_drawn_36 rfl ?_
        refine g_isub dX10_drawn_37 ?_
        refine g_cS3i dX10_drawn_38 ml_X10_124 mi_X10_in ms_X10_in (Nat.le_of_ble_eq_true rfl) rfl (by omega) ?_
        refine c_X10_in (by omega) (fun c1 c2 => ?_) (fun nc => ?_)
        · refine g_if_ne (tgt := 47) dX10_drawn_41 (by decide) (fun _ => ?_) (fun q => absurd q (by decide))
          refine g_iload_n dX10_drawn_47 rfl ?_
          refine g_istore dX10_drawn_48 (Nat.le_of_ble_eq_true rfl) rfl ?_
          refine g_iconst (v := 0) dX10_drawn_50 rfl ?_
          refine g_istore dX10_drawn_51 (Nat.le_of_ble_eq_true rfl) rfl ?_
          refine g_iconst (v := 0) dX10_drawn_53 rfl ?_
          refine g_istore dX10_drawn_54 (Nat.le_of_ble_eq_true rfl) rfl ?_
          refine g_iconst (v := 0) dX10_drawn_56 rfl ?_
          refine g_istore dX10_drawn_57 (Nat.le_of_ble_eq_true rfl) rfl ?_
          obtain ⟨D, C, q1, q2, q3, q4, ey⟩ := dr_nm a1 a2 b1 b2
          subst ey
          have hv := dr_vl hn6 c1 c2
          have hfin : ∀ w' (x8 x9 : Value), same [73, 74, 75] [] w w' → gx_G 0 0 d mX10_drawn (Qi k) 150 [.ref 57, .int x, .int (nI (100 * D + C)), .int v, .int (dr_out dr_z N sg va n C f D (x, th_00 f)).1, .int (drH v (dr_out dr_z N sg va n C f D (x, th_00 f)).2), .int (dr_out dr_z N sg va n C f D (x, th_00 f)).2.2.2.2.2.2.2, .int (nI D), x8, x9] [] w' := by
            intro w' x8 x9 hs
            refine g_iload_n dX10_drawn_150 rfl ?_
            refine g_if_ge (tgt := 159) dX10_drawn_151 (by decide) (fun zc151 => ?_) (fun zc151 => ?_)
            · refine g_iload dX10_drawn_159 rfl ?_
              refine g_iret dX10_drawn_161 rfl ⟨_, rfl, ?_⟩
              rcases hv with e | ⟨t, ht, e⟩
              · rw [e] at zc151; exact absurd zc151 (by decide)
              · have K := k4 D C t rfl q1 q2 q3 q4 e ht w' hs
                subst e
                unfold drH
                rw [if_neg (nI_pos (by omega)), nI_n (by omega)]
                exact K
            · refine g_iload dX10_drawn_154 rfl ?_
              refine g_goto (tgt := 161) dX10_drawn_156 (by decide) ?_
              refine g_iret dX10_drawn_161 rfl ⟨_, rfl, ?_⟩
              rcases hv with e | ⟨t, ht, e⟩
              · exact k3 D C rfl q1 q2 q3 q4 e w' hs
              · rw [e] at zc151; exact absurd (nI_pos' (by omega)) zc151
          have hH : drH v (th_00 f) = 0 := by
            unfold drH
            split <;> rfl
          by_cases h0 : 0 < n
          · have K := l_X10_drawn (Z := dr_z) (fun _ => rfl) (x := x) (v := v) (k := k) (C := C) (D := D) (by omega) q4 q2 h0 hv h hx hl hb D 0 (x, th_00 f) (.retAddr 0) (.retAddr 0) w (Nat.zero_add _) same.rf (fun _ _ => rfl) (fun w' hs x8 x9 => hfin w' x8 x9 hs)
            rw [show drH v (x, th_00 f).2 = 0 from hH] at K
            exact K
          · have e0 : n = 0 := by omega
            have ev : v = -1 := by
              rcases hv with e | ⟨t, ht, e⟩
              · exact e
              · omega
            have K := k3 D C rfl q1 q2 q3 q4 ev w same.rf
            subst e0
            rw [dro_zero] at K
            refine g_iload dX10_drawn_59 rfl ?_
            refine g_iload_n dX10_drawn_61 rfl ?_
            refine g_bipush (v := 100) dX10_drawn_62 rfl ?_
            refine g_idiv dX10_drawn_64 (by decide) ?_
            refine g_icmp_ge (tgt := 150) dX10_drawn_65 (by decide) (fun zc65 => ?_) (fun zc65 => ?_)
            · refine g_iload_n dX10_drawn_150 rfl ?_
              rw [ev]
              refine g_if_ge (tgt := 159) dX10_drawn_151 (by decide) (fun q => absurd q (by decide)) (fun _ => ?_)
              refine g_iload dX10_drawn_154 rfl ?_
              refine g_goto (tgt := 161) dX10_drawn_156 (by decide) ?_
              refine g_iret dX10_drawn_161 rfl ⟨_, rfl, ?_⟩
              exact K
            · refine g_aload_n dX10_drawn_68 rfl ?_
              refine g_geti dX10_drawn_69 fl_X10_121 h.1 ?_
              rw [hx.1.1]
              refine g_if_le (tgt := 150) dX10_drawn_72 (by decide) (fun zc72 => ?_) (fun zc72 => ?_)
              · refine g_iload_n dX10_drawn_150 rfl ?_
                rw [ev]
                refine g_if_ge (tgt := 159) dX10_drawn_151 (by decide) (fun q => absurd q (by decide)) (fun _ => ?_)
                refine g_iload dX10_drawn_154 rfl ?_
                refine g_goto (tgt := 161) dX10_drawn_156 (by decide) ?_
                refine g_iret dX10_drawn_161 rfl ⟨_, rfl, ?_⟩
                exact K
              · exact absurd (by decide) zc72
        · refine g_if_ne (tgt := 47) dX10_drawn_41 (by decide) (fun q => absurd q (by decide)) (fun _ => ?_)
          refine g_ldc dX10_drawn_44 ct_X10_165 ?_
          refine g_iret dX10_drawn_46 rfl ⟨_, rfl, ?_⟩
          exact k2 (dr_vn hn6 nc).1 (dr_vn hn6 nc).2
      · refine g_if_eq (tgt := 44) dX10_drawn_27 (by decide) (fun _ => ?_) (fun q => absurd q (by decide))
        refine g_ldc dX10_drawn_44 ct_X10_165 ?_
        refine g_iret dX10_drawn_46 rfl ⟨_, rfl, ?_⟩
        refine k1 (fun D C h1 h2 h3 h4 e => ?_)
        obtain ⟨g1, g2⟩ := dr_dc (D := D) (C := C) h2 h4
        rw [← e] at g1 g2
        exact nb ⟨by rw [g2]; exact nI_le h3 (by omega), by rw [g2]; exact nI_le h4 (by decide)⟩
    · refine g_if_eq (tgt := 44) dX10_drawn_14 (by decide) (fun _ => ?_) (fun q => absurd q (by decide))
      refine g_ldc dX10_drawn_44 ct_X10_165 ?_
      refine g_iret dX10_drawn_46 rfl ⟨_, rfl, ?_⟩
      refine k1 (fun D C h1 h2 h3 h4 e => ?_)
      obtain ⟨g1, g2⟩ := dr_dc (D := D) (C := C) h2 h4
      rw [← e] at g1 g2
      exact na ⟨by rw [g1]; exact nI_le h1 (by omega), by rw [g1]; exact nI_le h2 (by decide)⟩
theorem l_X10_ahead {d n N q c : Nat} {w : gx_W} {f sg va : Nat → Int32} {y : Int32} {k : Int32 → gx_W → Prop} (hd : 10 ≤ d) (hq : q < n) (hc : c < 100) (h : moO w) (hx : mxD w f n) (hl : lwM w N sg va) (hb : bnd f n) : ∀ (z m : Nat) (w1 : gx_W), m + z = 4 → same GR [] w w1 → (∀ w', same GR [] w w' → k (me_av y (me_ah N sg va n c q f z m)) w') → gx_G 0 0 d mX10_ahead (Qi k) 17 [.ref 57, .int (nI (100 * q + c)), .int y, .int (nI m)] [] w1 := by
  intro z
  have hn6 := hx.1.2.1
  induction z with
  | zero =>
    intro m w1 hm hs kk
    have h1 := h.same hs
    have e : m = 4 := by omega
    subst e
    refine g_iload_n dX10_ahead_17 rfl ?_
    refine g_iconst (v := 3) dX10_ahead_18 rfl ?_
    refine g_icmp_gt (tgt := 74) dX10_ahead_19 (by decide) (fun zc19 => ?_) (fun zc19 => ?_)
    · refine g_bipush (v := -2) dX10_ahead_74 rfl ?_
      refine g_iret dX10_ahead_76 rfl ⟨_, rfl, ?_⟩
      exact kk w1 hs
    · exact absurd (by decide) zc19
  | succ z ih =>
    intro m w1 hm hs kk
    have h1 := h.same hs
    have hrem := rc_rem (q := q) (c := c) (by omega) hc
    have hdiv := rc_div (q := q) (c := c) (by omega) hc
    have hx1 : mxD w1 f n := ⟨hx.1.same hs (by simp) (by simp), fun j hj => by rw [(hs.2.2.2.1 61 (by simp)).1]; exact hx.2 j hj⟩
    have hl1 := hl.same hs (by simp) (fun k k1 k2 => by simp; omega)
    refine g_iload_n dX10_ahead_17 rfl ?_
    refine g_iconst (v := 3) dX10_ahead_18 rfl ?_
    refine g_icmp_gt (tgt := 74) dX10_ahead_19 (by decide) (fun zc19 => ?_) (fun zc19 => ?_)
    · refine g_bipush (v := -2) dX10_ahead_74 rfl ?_
      refine g_iret dX10_ahead_76 rfl ⟨_, rfl, ?_⟩
      exact absurd zc19 (show ¬ nI 3 < nI m from nI_nlt (by omega) (by omega))
    · refine g_aload_n dX10_ahead_22 rfl ?_
      refine g_cV0v dX10_ahead_23 ml_X10_259 mi_X10_layNow mv_X10_layNow h1.1 ⟨_, rfl, rfl⟩ (Nat.le_of_ble_eq_true rfl) rfl (by omega) ?_
      refine c_X10_layNow (by omega) h1 hx1 hl1 hb (fun w2 hs2 h2 => ?_)
      refine g_aload_n dX10_ahead_26 rfl ?_
      refine g_iload_n dX10_ahead_27 rfl ?_
      refine g_bipush (v := 100) dX10_ahead_28 rfl ?_
      refine g_idiv dX10_ahead_30 (by decide) ?_
      rw [hdiv]
      refine g_iload_n dX10_ahead_31 rfl ?_
      refine g_bipush (v := 100) dX10_ahead_32 rfl ?_
      refine g_irem dX10_ahead_34 (by decide) ?_
      rw [hrem]
      refine g_iconst (v := 0) dX10_ahead_35 rfl ?_
      refine g_iload_n dX10_ahead_36 rfl ?_
      rw [show nI m = nI (0 + m) from by rw [Nat.zero_add]]
      refine g_cV4i dX10_ahead_37 ml_X10_283 mi_X10_goAhead mv_X10_goAhead h2.1.1 ⟨_, rfl, rfl⟩ (Nat.le_of_ble_eq_true rfl) rfl (by omega) ?_
      refine ga_all hn6 hq hc m (by omega) 0 _ f w2 _ (by omega) (by omega) h2 (fun l2 hsome w3 hs3 hl2 _ => ?_) (fun hnone w3 hs3 h3 _ _ => ?_)
      · refine g_if_eq (tgt := 68) dX10_ahead_40 (by decide) (fun q => absurd q (by decide)) (fun _ => ?_)
        refine g_iload_n dX10_ahead_43 rfl ?_
        refine g_if_ge (tgt := 51) dX10_ahead_44 (by decide) (fun zc44 => ?_) (fun zc44 => ?_)
        · refine g_iload_n dX10_ahead_51 rfl ?_
          refine g_iload_n dX10_ahead_52 rfl ?_
          refine g_icmp_ge (tgt := 65) dX10_ahead_53 (by decide) (fun zc53 => ?_) (fun zc53 => ?_)
          · refine g_bipush (v := -2) dX10_ahead_65 rfl ?_
            refine g_iret dX10_ahead_67 rfl ⟨_, rfl, ?_⟩
            have K := kk w3 (hs.tr ((hs2.wk (by simp) (by simp)).tr hs3))
            rw [show me_ah N sg va n c q f (z + 1) m = some (m, l2) from by unfold me_ah; rw [hsome]] at K
            rw [show me_av y (some (m, l2)) = -2 from by show (if _ then _ else if _ then _ else _) = _; rw [if_neg (by simpa using zc44), if_neg (by simpa using zc53)]] at K
            exact K
          · obtain ⟨j2, hj2, exj⟩ : ∃ j2, j2 < m ∧ y = nI j2 := pI_cases (by omega) (Int32.not_lt.mpr zc44) (by simpa using zc53)
            refine g_aload_n dX10_ahead_56 rfl ?_
            refine g_getr dX10_ahead_57 fl_X10_80 (h2.1.same hs3).1 (moR_80 (h2.1.same hs3)) ?_
            refine g_iload_n dX10_ahead_60 rfl ?_
            refine g_iald dX10_ahead_61 (moA_80 (h2.1.same hs3)) (by rw [exj]; exact vp_in_nI (by omega) (by decide)) ?_
            refine g_goto (tgt := 67) dX10_ahead_62 (by decide) ?_
            refine g_iret dX10_ahead_67 rfl ⟨_, rfl, ?_⟩
            have K := kk w3 (hs.tr ((hs2.wk (by simp) (by simp)).tr hs3))
            rw [show me_ah N sg va n c q f (z + 1) m = some (m, l2) from by unfold me_ah; rw [hsome]] at K
            rw [show me_av y (some (m, l2)) = nI (l2.getD y.toNatClampNeg 0) from by show (if _ then _ else if _ then _ else _) = _; rw [if_neg (by simpa using zc44), if_pos (by simpa using zc53)]] at K
            subst exj
            rw [nI_n (by omega)] at K ⊢
            have h80 := hl2 j2 (l2.getD j2 0) (by rw [List.getElem?_eq_getElem (by rw [me_re_len _ _ _ hsome]; omega), List.getD_eq_getElem?_getD, List.getElem?_eq_getElem (by rw [me_re_len _ _ _ hsome]; omega)]; rfl)
            rw [Nat.zero_add] at h80
            rw [h80]
            exact K
        · refine g_iload_n dX10_ahead_47 rfl ?_
          refine g_goto (tgt := 67) dX10_ahead_48 (by decide) ?_
          refine g_iret dX10_ahead_67 rfl ⟨_, rfl, ?_⟩
          have K := kk w3 (hs.tr ((hs2.wk (by simp) (by simp)).tr hs3))
          rw [show me_ah N sg va n c q f (z + 1) m = some (m, l2) from by unfold me_ah; rw [hsome]] at K
          rw [show me_av y (some (m, l2)) = nI m from if_pos (by simpa using zc44)] at K
          rw [Nat.zero_add]
          exact K
      · refine g_if_eq (tgt := 68) dX10_ahead_40 (by decide) (fun _ => ?_) (fun q => absurd q (by decide))
        refine g_iinc dX10_ahead_68 rfl rfl ?_
        refine g_goto (tgt := 17) dX10_ahead_71 (by decide) ?_
        rw [show me_ah N sg va n c q f (z + 1) m = me_ah N sg va n c q f z (m + 1) from by rw [me_ah, hnone]] at kk
        rw [Nat.zero_add, nI_1']
        exact ih (m + 1) w3 (by omega) (hs.tr ((hs2.wk (by simp) (by simp)).tr hs3)) kk
theorem c_X10_ahead {d : Nat} {w : gx_W} {f : Nat → Int32} {n N : Nat} {sg va : Nat → Int32} {x y : Int32} {k : Int32 → gx_W → Prop} (hd : 10 ≤ d) (h : moO w) (hx : mxD w f n) (hl : lwM w N sg va) (hb : bnd f n) (k1 : (∀ q c, c < 100 → q < n → x ≠ nI (100 * q + c)) → k (-1) w) (k2 : y < -1 → k (-1) w) (kk : ∀ q c, x = nI (100 * q + c) → c < 100 → q < n → ¬ y < -1 → ∀ w', same GR [] w w' → k (me_av y (me_ah N sg va n c q f 4 0)) w') : gx_C 0 0 d mX10_ahead [.ref 57, .int x, .int y] w (Qi k) := by
  refine gx_C_of' (L := [.ref 57, .int x, .int y, .retAddr 0]) (by decide +kernel) rfl (Nat.le_of_ble_eq_true rfl) ?_
  refine g_aload_n dX10_ahead_0 rfl ?_
  refine g_iload_n dX10_ahead_1 rfl ?_
  refine g_cV1i dX10_ahead_2 ml_X10_287 mi_X10_areComer mv_X10_areComer h.1 ⟨_, rfl, rfl⟩ (Nat.le_of_ble_eq_true rfl) rfl (by omega) ?_
  refine c_X10_areComer (by omega) h hx.1.1 hx.1.2.1 (fun q c e hco hq => ?_) (fun np => ?_)
  · refine g_if_eq (tgt := 13) dX10_ahead_5 (by decide) (fun q => absurd q (by decide)) (fun _ => ?_)
    refine g_iload_n dX10_ahead_8 rfl ?_
    refine g_iconst (v := -1) dX10_ahead_9 rfl ?_
    refine g_icmp_ge (tgt := 15) dX10_ahead_10 (by decide) (fun zc10 => ?_) (fun zc10 => ?_)
    · refine g_iconst (v := 0) dX10_ahead_15 rfl ?_
      refine g_istore_n dX10_ahead_16 (Nat.le_of_ble_eq_true rfl) rfl ?_
      subst e
      exact l_X10_ahead hd hq hco h hx hl hb 4 0 w rfl same.rf (kk q c rfl hco hq (Int32.not_lt.mpr zc10))
    · refine g_iconst (v := -1) dX10_ahead_13 rfl ?_
      refine g_iret dX10_ahead_14 rfl ⟨_, rfl, ?_⟩
      exact k2 (by rw [pI_lt]; rw [pI_le] at zc10; omega)
  · refine g_if_eq (tgt := 13) dX10_ahead_5 (by decide) (fun _ => ?_) (fun q => absurd q (by decide))
    refine g_iconst (v := -1) dX10_ahead_13 rfl ?_
    refine g_iret dX10_ahead_14 rfl ⟨_, rfl, ?_⟩
    exact k1 np

/-! CrossroadsChoose: fair, drawn -/
/-- the worths of the roads in turn -/
def me_fa (f : Nat → Int32) (n : Nat) : Nat → Int32
  | 0 => 0
  | j + 1 => me_fa f n j + f (12 + j % n)
theorem me_fa_t {j n : Nat} (h : j % n + 1 < n) : (j + 1) % n = j % n + 1 := by
  rw [Nat.add_mod, Nat.mod_eq_of_lt (show 1 < n by omega), Nat.mod_eq_of_lt h]
theorem me_fa_u {j n : Nat} (hn : 0 < n) (h : ¬ j % n + 1 < n) : (j + 1) % n = 0 := by
  have := Nat.mod_lt j hn
  have e : j % n + 1 = n := by omega
  rcases Nat.lt_or_ge 1 n with z | z
  · rw [Nat.add_mod, Nat.mod_eq_of_lt z, e, Nat.mod_self]
  · rw [show n = 1 by omega, Nat.mod_one]
set_option maxHeartbeats 4000000 in
theorem l_X9_fair {d n M : Nat} {w : gx_W} {x y : Int32} {r : Value} {k : Int32 → gx_W → Prop} (hd : 3 ≤ d) (h : clO w) (hc : isCn w 37 38 n) (hn0 : 0 < n) (hM : M ≤ 60) (hr : r.category = 1) (kk : k (me_fa (w_a w 38) n M) w) : ∀ (z j : Nat), j + z = M → gx_G 0 0 d mX9_fair (Qi k) 81 [.ref 6, .int x, .int y, r, .int (nI M), .int (me_fa (w_a w 38) n j), .int (nI j), .int (nI (j % n))] [] w := by
  intro z
  have hn := hc.2.2
  have e1 := hc.2.1
  induction z with
  | zero =>
    intro j hj
    have e : j = M := by omega
    subst e
    refine g_iload dX9_fair_81 rfl ?_
    refine g_iload dX9_fair_83 rfl ?_
    refine g_icmp_ge (tgt := 133) dX9_fair_85 (by decide) (fun zc85 => ?_) (fun zc85 => ?_)
    · refine g_iload dX9_fair_133 rfl ?_
      refine g_iret dX9_fair_135 rfl ⟨_, rfl, ?_⟩
      exact kk
    · exact absurd (Int32.le_refl _) zc85
  | succ z ih =>
    intro j hj
    have hjn := Nat.mod_lt j hn0
    refine g_iload dX9_fair_81 rfl ?_
    refine g_iload dX9_fair_83 rfl ?_
    refine g_icmp_ge (tgt := 133) dX9_fair_85 (by decide) (fun zc85 => ?_) (fun zc85 => ?_)
    · refine g_iload dX9_fair_133 rfl ?_
      refine g_iret dX9_fair_135 rfl ⟨_, rfl, ?_⟩
      exact absurd zc85 (nI_ge (by omega) (by omega))
    · refine g_iload dX9_fair_88 rfl ?_
      refine g_aload_n dX9_fair_90 rfl ?_
      refine g_getr dX9_fair_91 fl_X9_67 h.1 h.2.1.1 ?_
      refine g_iload dX9_fair_94 rfl ?_
      refine g_iconst (v := 2) dX9_fair_96 rfl ?_
      refine g_cV2i dX9_fair_97 ml_X9_112 mi_X2_number mv_X2_number hc.1.1 ⟨_, rfl, rfl⟩ (Nat.le_of_ble_eq_true rfl) rfl (by omega) ?_
      refine c_number_r (q := 2) (m := j % n) (by omega) hc (by decide) hjn rfl rfl ?_
      refine g_iadd dX9_fair_100 ?_
      refine g_istore dX9_fair_101 (Nat.le_of_ble_eq_true rfl) rfl ?_
      refine g_iload dX9_fair_103 rfl ?_
      refine g_iconst (v := 1) dX9_fair_105 rfl ?_
      refine g_iadd dX9_fair_106 ?_
      refine g_aload_n dX9_fair_107 rfl ?_
      refine g_getr dX9_fair_108 fl_X9_67 h.1 h.2.1.1 ?_
      refine g_geti dX9_fair_111 fl_X9_196 hc.1.1 ?_
      rw [e1, nI_1]
      refine g_icmp_ge (tgt := 124) dX9_fair_114 (by decide) (fun zc114 => ?_) (fun zc114 => ?_)
      · refine g_iconst (v := 0) dX9_fair_124 rfl ?_
        refine g_istore dX9_fair_125 (Nat.le_of_ble_eq_true rfl) rfl ?_
        refine g_iinc dX9_fair_127 rfl rfl ?_
        refine g_goto (tgt := 81) dX9_fair_130 (by decide) ?_
        have K := ih (j + 1) (by omega)
        rw [me_fa_u hn0 (fun q => absurd zc114 (nI_ge q (by omega)))] at K
        try rw [nI_1]
        rw [nI_1']
        exact K
      · refine g_iload dX9_fair_117 rfl ?_
        refine g_iconst (v := 1) dX9_fair_119 rfl ?_
        refine g_iadd dX9_fair_120 ?_
        refine g_goto (tgt := 125) dX9_fair_121 (by decide) ?_
        refine g_istore dX9_fair_125 (Nat.le_of_ble_eq_true rfl) rfl ?_
        refine g_iinc dX9_fair_127 rfl rfl ?_
        refine g_goto (tgt := 81) dX9_fair_130 (by decide) ?_
        have K := ih (j + 1) (by omega)
        rw [me_fa_t (by rcases Nat.lt_or_ge (j % n + 1) n with q | q; exact q; exact absurd (nI_le q (by omega)) zc114)] at K
        try rw [nI_1]
        rw [nI_1']
        exact K
set_option maxHeartbeats 4000000 in
theorem c_X9_fair {d : Nat} {w : gx_W} {n l N : Nat} {ln : Nat → Nat} {x y : Int32} {k : Int32 → gx_W → Prop} (hd : 8 ≤ d) (hT : isT w) (h : clO w) (hc : isCk w 37 38 n l N) (ho : thO w) (h43 : isCr w 43 44) (hl : ∀ i, i < 6 → isSn w (45 + 2 * i) (46 + 2 * i) (ln i)) (k1 : (∀ i, i < 6 → x ≠ nI i) → k (-2000000000) w) (k2 : ∀ i, x = nI i → i < 6 → w_i w (45 + 2 * i) 1 = 0 → k (-2000000000) w) (k4 : ∀ i, x = nI i → i < 6 → ¬ w_i w (45 + 2 * i) 1 = 0 → ¬ (w_i w (45 + 2 * i) 1 = 2 ∧ w_i w (45 + 2 * i) 3 = 0) → k (-2000000000) w) (k6 : (y < 0 ∨ 1 < y) → k (-2000000000) w) (k7 : n = 0 → k (-2000000000) w) (k3 : ∀ i, x = nI i → i < 6 → w_i w (45 + 2 * i) 1 = 2 → w_i w (45 + 2 * i) 3 = 0 → 0 < n → y = 1 → ∀ w', thJ w w' n l N (me_day w n l N i 60 (ln i)) → k (me_day w n l N i 60 (ln i)).2.2.2.2.2.2 w') (k5 : ∀ i, x = nI i → i < 6 → w_i w (45 + 2 * i) 1 = 2 → w_i w (45 + 2 * i) 3 = 0 → 0 < n → ¬ y < 0 → ¬ 1 < y → ¬ y = 1 → k (me_fa (w_a w 38) n (sh_com (fun j => isCo (w_l w (46 + 2 * i) j).toInt32) (min 60 (ln i)))) w) : gx_C 0 0 d mX9_fair [.ref 6, .int x, .int y] w (Qi k) := by
  refine gx_C_of' (L := [.ref 6, .int x, .int y, .retAddr 0, .retAddr 0, .retAddr 0, .retAddr 0, .retAddr 0]) (by decide +kernel) rfl (Nat.le_of_ble_eq_true rfl) ?_
  refine g_aload_n dX9_fair_0 rfl ?_
  refine g_iload_n dX9_fair_1 rfl ?_
  refine g_cV1i dX9_fair_2 ml_X9_216 mi_X9_bytesRefusal mv_X9_bytesRefusal h.1 ⟨_, rfl, rfl⟩ (Nat.le_of_ble_eq_true rfl) rfl (by omega) ?_
  refine c_X9_bytesRefusal (by omega) h (fun nn => ?_) (fun i e hi f1 => ?_) (fun i e hi f1 f2 => ?_) (fun i e hi f1 f2 => ?_)
  · refine g_if_ne (tgt := 27) dX9_fair_5 (by decide) (fun _ => ?_) (fun q => absurd q (by decide))
    refine g_ldc dX9_fair_27 ct_X9_116 ?_
    refine g_iret dX9_fair_29 rfl ⟨_, rfl, ?_⟩
    exact k1 nn
  · refine g_if_ne (tgt := 27) dX9_fair_5 (by decide) (fun _ => ?_) (fun q => absurd q (by decide))
    refine g_ldc dX9_fair_27 ct_X9_116 ?_
    refine g_iret dX9_fair_29 rfl ⟨_, rfl, ?_⟩
    exact k2 i e hi f1
  · refine g_if_ne (tgt := 27) dX9_fair_5 (by decide) (fun q => absurd q (by decide)) (fun _ => ?_)
    refine g_iload_n dX9_fair_8 rfl ?_
    refine g_if_lt (tgt := 27) dX9_fair_9 (by decide) (fun zc9 => ?_) (fun zc9 => ?_)
    · refine g_ldc dX9_fair_27 ct_X9_116 ?_
      refine g_iret dX9_fair_29 rfl ⟨_, rfl, ?_⟩
      exact k6 (Or.inl zc9)
    · refine g_iload_n dX9_fair_12 rfl ?_
      refine g_iconst (v := 1) dX9_fair_13 rfl ?_
      refine g_icmp_gt (tgt := 27) dX9_fair_14 (by decide) (fun zc14 => ?_) (fun zc14 => ?_)
      · refine g_ldc dX9_fair_27 ct_X9_116 ?_
        refine g_iret dX9_fair_29 rfl ⟨_, rfl, ?_⟩
        exact k6 (Or.inr zc14)
      · refine g_aload_n dX9_fair_17 rfl ?_
        refine g_getr dX9_fair_18 fl_X9_67 h.1 h.2.1.1 ?_
        refine g_geti dX9_fair_21 fl_X9_196 hc.1.1.1.1 ?_
        rw [hc.1.1.2.1]
        refine g_if_ne (tgt := 30) dX9_fair_24 (by decide) (fun zc24 => ?_) (fun zc24 => ?_)
        · have hnp : 0 < n := Nat.pos_of_ne_zero (fun z => zc24 (by rw [z]; rfl))
          refine g_aload_n dX9_fair_30 rfl ?_
          refine g_iload_n dX9_fair_31 rfl ?_
          refine g_cV1q dX9_fair_32 ml_X9_91 mi_X9_shelfAt mv_X9_shelfAt h.1 ⟨_, rfl, rfl⟩ (Nat.le_of_ble_eq_true rfl) rfl (by omega) ?_
          refine c_X9_shelfAt (by omega) h (fun j e2 hj => ?_) (fun hn2 => ?_)
          · have ej : i = j := pI_inj (by omega) (by omega) (e.symm.trans e2)
            subst ej
            refine g_astore_n dX9_fair_35 (Nat.le_of_ble_eq_true rfl) rfl ?_
            refine g_iload_n dX9_fair_36 rfl ?_
            refine g_iconst (v := 1) dX9_fair_37 rfl ?_
            refine g_icmp_ne (tgt := 56) dX9_fair_38 (by decide) (fun zc38 => ?_) (fun zc38 => ?_)
            · refine g_aload_n dX9_fair_56 rfl ?_
              refine g_ifnonnull (tgt := 64) dX9_fair_57 (by decide) ?_
              refine g_aload_n dX9_fair_64 rfl ?_
              refine g_bipush (v := 60) dX9_fair_65 rfl ?_
              rw [show (60 : Int32) = nI 60 from rfl]
              refine g_cV1i dX9_fair_67 ml_X9_222 mi_X5_comers mv_X5_comers (hl i hi).1.1 ⟨_, rfl, rfl⟩ (Nat.le_of_ble_eq_true rfl) rfl (by omega) ?_
              refine c_X5_comers (m := 60) (by omega) (hl i hi) (Nat.le_refl _) ?_
              refine g_istore dX9_fair_70 (Nat.le_of_ble_eq_true rfl) rfl ?_
              refine g_iconst (v := 0) dX9_fair_72 rfl ?_
              refine g_istore dX9_fair_73 (Nat.le_of_ble_eq_true rfl) rfl ?_
              refine g_iconst (v := 0) dX9_fair_75 rfl ?_
              refine g_istore dX9_fair_76 (Nat.le_of_ble_eq_true rfl) rfl ?_
              refine g_iconst (v := 0) dX9_fair_78 rfl ?_
              refine g_istore dX9_fair_79 (Nat.le_of_ble_eq_true rfl) rfl ?_
              have K := l_X9_fair (x := x) (y := y) (r := .ref (45 + 2 * i)) (d := d) (M := sh_com (fun j => isCo (w_l w (46 + 2 * i) j).toInt32) (min 60 (ln i))) (by omega) h hc.1.1 hnp (Nat.le_trans (sh_com_le _ _) (Nat.min_le_left _ _)) rfl (k5 i e hi f1 f2 hnp (Int32.not_lt.mpr (Int32.not_lt.mp zc9)) (Int32.not_lt.mpr (Int32.not_lt.mp zc14)) zc38) _ 0 (Nat.zero_add _)
              rw [Nat.zero_mod] at K
              exact K
            · refine g_aload_n dX9_fair_41 rfl ?_
              refine g_aload_n dX9_fair_42 rfl ?_
              refine g_bipush (v := 60) dX9_fair_43 rfl ?_
              rw [show (60 : Int32) = nI 60 from rfl]
              refine g_cV2v dX9_fair_45 ml_X9_157 mi_X9_thinkDay mv_X9_thinkDay h.1 ⟨_, rfl, rfl⟩ (Nat.le_of_ble_eq_true rfl) rfl (by omega) ?_
              refine c_X9_thinkDay (m := 60) (by omega) hT h hc ho h43 hi (hl i hi) (Nat.le_refl _) (fun w1 I1 => ?_)
              refine g_aload_n dX9_fair_48 rfl ?_
              refine g_getr dX9_fair_49 fl_X9_74 (clO_th h I1.1).1 (clO_th h I1.1).2.1.2.1 ?_
              refine g_geti dX9_fair_52 fl_X9_249 I1.2.1.1 ?_
              refine g_iret dX9_fair_55 rfl ⟨_, rfl, ?_⟩
              have e9 : w_i w1 39 6 = (me_day w n l N i 60 (ln i)).2.2.2.2.2.2 := I1.2.2.2.2.2.2.2.2.2
              rw [e9]
              have en : (1 : Int32) ≠ 0 := by decide
              exact k3 i e hi f1 f2 hnp zc38 w1 I1
          · exact absurd e (hn2 i hi)
        · refine g_ldc dX9_fair_27 ct_X9_116 ?_
          refine g_iret dX9_fair_29 rfl ⟨_, rfl, ?_⟩
          exact k7 (pI_inj (a := n) (b := 0) (by have := hc.1.1.2.2; omega) (by omega) zc24)
  · refine g_if_ne (tgt := 27) dX9_fair_5 (by decide) (fun _ => ?_) (fun q => absurd q (by decide))
    refine g_ldc dX9_fair_27 ct_X9_116 ?_
    refine g_iret dX9_fair_29 rfl ⟨_, rfl, ?_⟩
    exact k4 i e hi f1 f2
def dr_z (z : Int32) : Int32 := z * 1103515245 + 12345
def dr_c (z : Int32) : Nat := z.toBitVec.toNat / 2 ^ 8 % 100
def dr_in (Z : Int32 → Int32) (N : Nat) (sg va : Nat → Int32) (n : Nat) : Nat → Int32 × thS → Int32 × thS
  | 0, q => q
  | j + 1, q => dr_in Z N sg va n j (Z q.1, th_go N sg va n q.2 (dr_c (Z q.1)))
def th_wa (g : Nat → Int32) (n : Nat) (s : thS) : thS := (fun j => if 18 ≤ j ∧ j < 18 + n then g j else s.1 j, s.2)
def dr_out (Z : Int32 → Int32) (N : Nat) (sg va : Nat → Int32) (n C : Nat) (g : Nat → Int32) : Nat → Int32 × thS → Int32 × thS
  | 0, q => q
  | j + 1, q => dr_out Z N sg va n C g j (dr_in Z N sg va n C (q.1, th_wa g n q.2))
theorem dr_ush (x : Int32) : (x.toUInt32 >>> ((8 : Int32).toUInt32 &&& Int32.toUInt32 31)).toInt32 = nI (x.toBitVec.toNat / 2 ^ 8) := by
  have hx := x.toBitVec.isLt
  apply Int32.toBitVec_inj.mp
  apply BitVec.eq_of_toNat_eq
  rw [pk_ushr x 8 8 (by decide)]
  exact (pk_tn (by omega)).symm
theorem dr_co (x : Int32) : (x.toUInt32 >>> ((8 : Int32).toUInt32 &&& Int32.toUInt32 31)).toInt32 - (x.toUInt32 >>> ((8 : Int32).toUInt32 &&& Int32.toUInt32 31)).toInt32 / 100 * 100 = nI (dr_c x) := by
  have hx := x.toBitVec.isLt
  rw [dr_ush, show (100 : Int32) = nI 100 from rfl, pk_rem (by omega) (by decide) (by decide)]
  rfl
theorem dr_c_lt (x : Int32) : dr_c x < 100 := Nat.mod_lt _ (by decide)
theorem dr_neg {y : Int32} (h : y < 0) : y / 100 < 1 := by
  have hb := pI_b y
  rw [pI_lt] at h
  have h0 : (0 : Int32).toInt = 0 := by decide
  have h1 : (1 : Int32).toInt = 1 := by decide
  have h100 : (100 : Int32).toInt = ((100 : Nat) : Int) := by decide
  rw [pI_lt, Int32.toInt_div, h100, h1]
  obtain ⟨m, hm⟩ : ∃ m : Nat, y.toInt = -(m : Int) := ⟨(-y.toInt).toNat, by omega⟩
  have e : y.toInt.tdiv ((100 : Nat) : Int) = -((m / 100 : Nat) : Int) := by
    rw [hm, Int.neg_tdiv]
    rfl
  rw [e, pI_bmod (by omega) (by omega)]
  omega
theorem dr_ex {y : Int32} (h1 : ¬ y / 100 < 1) (h2 : ¬ 30 < y / 100) (h3 : ¬ y - y / 100 * 100 < 1) (h4 : ¬ 60 < y - y / 100 * 100) : ∃ D C, 1 ≤ D ∧ D ≤ 30 ∧ 1 ≤ C ∧ C ≤ 60 ∧ y = nI (100 * D + C) := by
  by_cases h : y < 0
  · exact absurd (dr_neg h) h1
  · obtain ⟨m, hm, rfl⟩ := nI_of h
    rw [show (100 : Int32) = nI 100 from rfl] at h1 h2 h3 h4
    rw [pk_div hm (by decide) (by decide)] at h1 h2
    rw [pk_rem hm (by decide) (by decide)] at h3 h4
    rw [show (1 : Int32) = nI 1 from rfl, nI_ltI (by omega) (by decide)] at h1 h3
    rw [show (30 : Int32) = nI 30 from rfl, nI_ltI (by decide) (by omega)] at h2
    rw [show (60 : Int32) = nI 60 from rfl, nI_ltI (by decide) (by omega)] at h4
    exact ⟨m / 100, m % 100, by omega, by omega, by omega, by omega, by rw [Nat.div_add_mod]⟩
theorem dr_dc {D C : Nat} (hD : D ≤ 30) (hC : C ≤ 60) : nI (100 * D + C) / 100 = nI D ∧ nI (100 * D + C) - nI (100 * D + C) / 100 * 100 = nI C := by
  rw [show (100 : Int32) = nI 100 from rfl, pk_rem (by omega) (by decide) (by decide), pk_div (by omega) (by decide) (by decide), show (100 * D + C) / 100 = D by omega, show (100 * D + C) % 100 = C by omega]
  exact ⟨rfl, rfl⟩
theorem c_waitAsS {d n l N : Nat} {w w1 : gx_W} {s : thS} {k : gx_W → Prop} (hd : 2 ≤ d) (hc : isCn w 37 38 n) (h : thJ w w1 n l N s) (kk : ∀ w', thJ w w' n l N (th_wa (w_a w 38) n s) → k w') : gx_C 0 0 d mX7_waitAs [.ref 39, .ref 37] w1 (Qv k) := by
  obtain ⟨i1, i2, i3, i4, i5, i6, i7, i8, i9, i10⟩ := h
  refine c_X7_waitAs hd i2 i3.1.1 (hc.th2 i1) (kk _ ?_)
  have hs : same [44] [] w1 (s_a w1 44 (fun j => if 18 ≤ j ∧ j < 18 + n then w_a w1 38 j else w_a w1 44 j)) := same.rf.sa (by simp)
  have hs' : same TR TF w1 (s_a w1 44 (fun j => if 18 ≤ j ∧ j < 18 + n then w_a w1 38 j else w_a w1 44 j)) := hs.wk (by simp) (by simp)
  have hF := thF.go (f' := (th_wa (w_a w 38) n s).1) ⟨i1, i2, i3, i4⟩ hs' (fun j hj => by
    rw [wa_sa, if_pos rfl, (i1.2.2.2.1 38 (by decide)).1, i4 j hj]; rfl)
  exact ⟨hF.1, hF.2.1, hF.2.2.1, hF.2.2.2, i5, i6, i7, i8, i9, i10⟩
set_option maxHeartbeats 4000000 in
theorem l_X9_drawn1 {Z : Int32 → Int32} (hZ : ∀ x : Int32, x * 1103515245 + 12345 = Z x) {d n l N D C : Nat} {w : gx_W} {x y v : Int32} {k : Int32 → gx_W → Prop} (hd : 7 ≤ d) (hT : isT w) (h : clO w) (hC : C ≤ 60) : ∀ (z j : Nat) (q : Int32 × thS) (i : Int32) (w1 : gx_W), j + z = C → thJ w w1 n l N q.2 → (∀ w', thJ w w' n l N (dr_in Z N (w_a w (l + 1)) (w_a w (l + 2)) n z q).2 → gx_G 0 0 d mX9_drawn (Qi k) 138 [.ref 6, .int x, .int y, .int v, .int (nI D), .int (nI C), .int (dr_in Z N (w_a w (l + 1)) (w_a w (l + 2)) n z q).1, .int i, .int (nI C)] [] w') → gx_G 0 0 d mX9_drawn (Qi k) 98 [.ref 6, .int x, .int y, .int v, .int (nI D), .int (nI C), .int q.1, .int i, .int (nI j)] [] w1 := by
  intro z
  induction z with
  | zero =>
    intro j q i w1 hj hI kk
    have e : j = C := by omega
    subst e
    refine g_iload dX9_drawn_98 rfl ?_
    refine g_iload dX9_drawn_100 rfl ?_
    refine g_icmp_ge (tgt := 138) dX9_drawn_102 (by decide) (fun zc102 => ?_) (fun zc102 => ?_)
    · exact kk w1 hI
    · exact absurd (Int32.le_refl _) zc102
  | succ z ih =>
    intro j q i w1 hj hI kk
    refine g_iload dX9_drawn_98 rfl ?_
    refine g_iload dX9_drawn_100 rfl ?_
    refine g_icmp_ge (tgt := 138) dX9_drawn_102 (by decide) (fun zc102 => ?_) (fun zc102 => ?_)
    · exact absurd zc102 (nI_ge (by omega) (by omega))
    · refine g_iload dX9_drawn_105 rfl ?_
      refine g_ldc dX9_drawn_107 ct_X9_255 ?_
      refine g_imul dX9_drawn_109 ?_
      refine g_sipush (v := 12345) dX9_drawn_110 rfl ?_
      refine g_iadd dX9_drawn_113 ?_
      rw [hZ]
      refine g_istore dX9_drawn_114 (Nat.le_of_ble_eq_true rfl) rfl ?_
      refine g_aload_n dX9_drawn_116 rfl ?_
      refine g_getr dX9_drawn_117 fl_X9_74 (clO_th h hI.1).1 (clO_th h hI.1).2.1.2.1 ?_
      refine g_iload dX9_drawn_120 rfl ?_
      refine g_bipush (v := 8) dX9_drawn_122 rfl ?_
      refine g_iushr dX9_drawn_124 ?_
      refine g_bipush (v := 100) dX9_drawn_125 rfl ?_
      refine g_irem dX9_drawn_127 (by first | assumption | decide) ?_
      rw [dr_co]
      refine g_cV1i dX9_drawn_128 ml_X9_207 mi_X7_meet mv_X7_meet hI.2.1.1 ⟨_, rfl, rfl⟩ (Nat.le_of_ble_eq_true rfl) rfl (by omega) ?_
      refine c_meetS (c := dr_c (Z q.1)) (by omega) hT hI (dr_c_lt _) (fun w2 I2 => ?_)
      refine g_pop dX9_drawn_131 rfl ?_
      refine g_iinc dX9_drawn_132 rfl rfl ?_
      refine g_goto (tgt := 98) dX9_drawn_135 (by decide) ?_
      rw [nI_1']
      exact ih (j + 1) (Z q.1, th_go N (w_a w (l + 1)) (w_a w (l + 2)) n q.2 (dr_c (Z q.1))) i w2 (by omega) I2 kk
set_option maxHeartbeats 4000000 in
theorem l_X9_drawn {Z : Int32 → Int32} (hZ : ∀ x : Int32, x * 1103515245 + 12345 = Z x) {d n l N D C : Nat} {w : gx_W} {x y v : Int32} {k : Int32 → gx_W → Prop} (hd : 7 ≤ d) (hT : isT w) (h : clO w) (hc : isCn w 37 38 n) (hD : D ≤ 30) (hC : C ≤ 60) : ∀ (z i : Nat) (q : Int32 × thS) (x8 : Value) (w1 : gx_W), i + z = D → thJ w w1 n l N q.2 → (∀ w', thJ w w' n l N (dr_out Z N (w_a w (l + 1)) (w_a w (l + 2)) n C (w_a w 38) z q).2 → ∀ x8 : Value, gx_G 0 0 d mX9_drawn (Qi k) 144 [.ref 6, .int x, .int y, .int v, .int (nI D), .int (nI C), .int (dr_out Z N (w_a w (l + 1)) (w_a w (l + 2)) n C (w_a w 38) z q).1, .int (nI D), x8] [] w') → gx_G 0 0 d mX9_drawn (Qi k) 77 [.ref 6, .int x, .int y, .int v, .int (nI D), .int (nI C), .int q.1, .int (nI i), x8] [] w1 := by
  intro z
  induction z with
  | zero =>
    intro i q x8 w1 hj hI kk
    have e : i = D := by omega
    subst e
    refine g_iload dX9_drawn_77 rfl ?_
    refine g_iload dX9_drawn_79 rfl ?_
    refine g_icmp_ge (tgt := 144) dX9_drawn_81 (by decide) (fun zc81 => ?_) (fun zc81 => ?_)
    · exact kk w1 hI _
    · exact absurd (Int32.le_refl _) zc81
  | succ z ih =>
    intro i q x8 w1 hj hI kk
    refine g_iload dX9_drawn_77 rfl ?_
    refine g_iload dX9_drawn_79 rfl ?_
    refine g_icmp_ge (tgt := 144) dX9_drawn_81 (by decide) (fun zc81 => ?_) (fun zc81 => ?_)
    · exact absurd zc81 (nI_ge (by omega) (by omega))
    · refine g_aload_n dX9_drawn_84 rfl ?_
      refine g_getr dX9_drawn_85 fl_X9_74 (clO_th h hI.1).1 (clO_th h hI.1).2.1.2.1 ?_
      refine g_aload_n dX9_drawn_88 rfl ?_
      refine g_getr dX9_drawn_89 fl_X9_67 (clO_th h hI.1).1 (clO_th h hI.1).2.1.1 ?_
      refine g_cV1v dX9_drawn_92 ml_X9_252 mi_X7_waitAs mv_X7_waitAs hI.2.1.1 ⟨_, rfl, rfl⟩ (Nat.le_of_ble_eq_true rfl) rfl (by omega) ?_
      refine c_waitAsS (by omega) hc hI (fun w2 I2 => ?_)
      refine g_iconst (v := 0) dX9_drawn_95 rfl ?_
      refine g_istore dX9_drawn_96 (Nat.le_of_ble_eq_true rfl) rfl ?_
      refine l_X9_drawn1 hZ hd hT h hC C 0 (q.1, th_wa (w_a w 38) n q.2) (nI i) w2 (Nat.zero_add _) I2 (fun w3 I3 => ?_)
      refine g_iinc dX9_drawn_138 rfl rfl ?_
      refine g_goto (tgt := 77) dX9_drawn_141 (by decide) ?_
      rw [nI_1']
      exact ih (i + 1) (dr_in Z N (w_a w (l + 1)) (w_a w (l + 2)) n C (q.1, th_wa (w_a w 38) n q.2)) _ w3 (by omega) I3 kk
set_option maxHeartbeats 4000000 in
theorem c_X9_drawn {d : Nat} {w : gx_W} {n l N : Nat} {x y v : Int32} {k : Int32 → gx_W → Prop} (hd : 8 ≤ d) (hT : isT w) (h : clO w) (hc : isCk w 37 38 n l N) (ho : thO w) (h43 : isCr w 43 44) (k1 : (∀ D C, 1 ≤ D → D ≤ 30 → 1 ≤ C → C ≤ 60 → y ≠ nI (100 * D + C)) → k (-2000000000) w) (k2 : ¬ v = -1 → (∀ t, t < n → v ≠ nI t) → k (-2000000000) w) (k3 : ∀ D C, y = nI (100 * D + C) → 1 ≤ D → D ≤ 30 → 1 ≤ C → C ≤ 60 → v = -1 → ∀ w', thJ w w' n l N (dr_out dr_z N (w_a w (l + 1)) (w_a w (l + 2)) n C (w_a w 38) D (x, th_0 w)).2 → k (dr_out dr_z N (w_a w (l + 1)) (w_a w (l + 2)) n C (w_a w 38) D (x, th_0 w)).2.2.2.2.2.2.2 w') (k4 : ∀ D C t, y = nI (100 * D + C) → 1 ≤ D → D ≤ 30 → 1 ≤ C → C ≤ 60 → v = nI t → t < n → ∀ w', thJ w w' n l N (dr_out dr_z N (w_a w (l + 1)) (w_a w (l + 2)) n C (w_a w 38) D (x, th_0 w)).2 → k ((dr_out dr_z N (w_a w (l + 1)) (w_a w (l + 2)) n C (w_a w 38) D (x, th_0 w)).2.2.1 t) w') : gx_C 0 0 d mX9_drawn [.ref 6, .int x, .int y, .int v] w (Qi k) := by
  refine gx_C_of' (L := [.ref 6, .int x, .int y, .int v, .retAddr 0, .retAddr 0, .retAddr 0, .retAddr 0, .retAddr 0]) (by decide +kernel) rfl (Nat.le_of_ble_eq_true rfl) ?_
  refine g_iload_n dX9_drawn_0 rfl ?_
  refine g_bipush (v := 100) dX9_drawn_1 rfl ?_
  refine g_idiv dX9_drawn_3 (by first | assumption | decide) ?_
  refine g_istore dX9_drawn_4 (Nat.le_of_ble_eq_true rfl) rfl ?_
  refine g_iload_n dX9_drawn_6 rfl ?_
  refine g_bipush (v := 100) dX9_drawn_7 rfl ?_
  refine g_irem dX9_drawn_9 (by first | assumption | decide) ?_
  refine g_istore dX9_drawn_10 (Nat.le_of_ble_eq_true rfl) rfl ?_
  refine g_iload dX9_drawn_12 rfl ?_
  refine g_iconst (v := 1) dX9_drawn_14 rfl ?_
  refine g_icmp_lt (tgt := 38) dX9_drawn_15 (by decide) (fun zc15 => ?_) (fun zc15 => ?_)
  · refine g_ldc dX9_drawn_38 ct_X9_116 ?_
    refine g_iret dX9_drawn_40 rfl ⟨_, rfl, ?_⟩
    refine k1 (fun D C h1 h2 h3 h4 e => ?_)
    obtain ⟨g1, g2⟩ := dr_dc (D := D) (C := C) h2 h4
    rw [← e] at g1 g2
    rw [g1] at zc15; exact absurd zc15 (nI_nlt h1 (by omega))
  · refine g_iload dX9_drawn_18 rfl ?_
    refine g_bipush (v := 30) dX9_drawn_20 rfl ?_
    refine g_icmp_gt (tgt := 38) dX9_drawn_22 (by decide) (fun zc22 => ?_) (fun zc22 => ?_)
    · refine g_ldc dX9_drawn_38 ct_X9_116 ?_
      refine g_iret dX9_drawn_40 rfl ⟨_, rfl, ?_⟩
      refine k1 (fun D C h1 h2 h3 h4 e => ?_)
      obtain ⟨g1, g2⟩ := dr_dc (D := D) (C := C) h2 h4
      rw [← e] at g1 g2
      rw [g1] at zc22; exact absurd zc22 (nI_nlt h2 (by decide))
    · refine g_iload dX9_drawn_25 rfl ?_
      refine g_iconst (v := 1) dX9_drawn_27 rfl ?_
      refine g_icmp_lt (tgt := 38) dX9_drawn_28 (by decide) (fun zc28 => ?_) (fun zc28 => ?_)
      · refine g_ldc dX9_drawn_38 ct_X9_116 ?_
        refine g_iret dX9_drawn_40 rfl ⟨_, rfl, ?_⟩
        refine k1 (fun D C h1 h2 h3 h4 e => ?_)
        obtain ⟨g1, g2⟩ := dr_dc (D := D) (C := C) h2 h4
        rw [← e] at g1 g2
        rw [g2] at zc28; exact absurd zc28 (nI_nlt h3 (by omega))
      · refine g_iload dX9_drawn_31 rfl ?_
        refine g_bipush (v := 60) dX9_drawn_33 rfl ?_
        refine g_icmp_le (tgt := 41) dX9_drawn_35 (by decide) (fun zc35 => ?_) (fun zc35 => ?_)
        · refine g_iload_n dX9_drawn_41 rfl ?_
          refine g_iconst (v := -1) dX9_drawn_42 rfl ?_
          refine g_icmp_eq (tgt := 60) dX9_drawn_43 (by decide) (fun zc43 => ?_) (fun zc43 => ?_)
          · refine g_aload_n dX9_drawn_60 rfl ?_
            refine g_getr dX9_drawn_61 fl_X9_74 h.1 h.2.1.2.1 ?_
            refine g_aload_n dX9_drawn_64 rfl ?_
            refine g_getr dX9_drawn_65 fl_X9_67 h.1 h.2.1.1 ?_
            refine g_cV1v dX9_drawn_68 ml_X9_184 mi_X7_begin mv_X7_begin ho.1 ⟨_, rfl, rfl⟩ (Nat.le_of_ble_eq_true rfl) rfl (by omega) ?_
            refine c_beginS (by omega) ho h43 hc (fun w1 I1 => ?_)
            refine g_iload_n dX9_drawn_71 rfl ?_
            refine g_istore dX9_drawn_72 (Nat.le_of_ble_eq_true rfl) rfl ?_
            refine g_iconst (v := 0) dX9_drawn_74 rfl ?_
            refine g_istore dX9_drawn_75 (Nat.le_of_ble_eq_true rfl) rfl ?_
            obtain ⟨D, C, h1, h2, h3, h4, ey⟩ := dr_ex zc15 zc22 zc28 (Int32.not_lt.mpr zc35)
            have g := dr_dc (D := D) (C := C) h2 h4
            rw [← ey] at g
            rw [g.2, g.1]
            refine l_X9_drawn (Z := dr_z) (fun _ => rfl) (C := C) (by omega) hT h hc.1.1 h2 h4 D 0 (x, th_0 w) _ w1 (Nat.zero_add _) I1 (fun w2 I2 x8 => ?_)
            have ev : v = -1 := zc43
            refine g_iload_n dX9_drawn_144 rfl ?_
            refine g_if_ge (tgt := 158) dX9_drawn_145 (by decide) (fun zc145 => ?_) (fun zc145 => ?_)
            · rw [ev] at zc145; exact absurd zc145 (by decide)
            · refine g_aload_n dX9_drawn_148 rfl ?_
              refine g_getr dX9_drawn_149 fl_X9_74 (clO_th h I2.1).1 (clO_th h I2.1).2.1.2.1 ?_
              refine g_geti dX9_drawn_152 fl_X9_249 I2.2.1.1 ?_
              refine g_goto (tgt := 167) dX9_drawn_155 (by decide) ?_
              refine g_iret dX9_drawn_167 rfl ⟨_, rfl, ?_⟩
              have e9 : w_i w2 39 6 = (dr_out dr_z N (w_a w (l + 1)) (w_a w (l + 2)) n C (w_a w 38) D (x, th_0 w)).2.2.2.2.2.2.2 := I2.2.2.2.2.2.2.2.2.2
              rw [e9]
              exact k3 D C ey h1 h2 h3 h4 ev w2 I2
          · refine g_aload_n dX9_drawn_46 rfl ?_
            refine g_getr dX9_drawn_47 fl_X9_67 h.1 h.2.1.1 ?_
            refine g_iload_n dX9_drawn_50 rfl ?_
            refine g_cV1i dX9_drawn_51 ml_X9_141 mi_X2_isRoad mv_X2_isRoad hc.1.1.1.1 ⟨_, rfl, rfl⟩ (Nat.le_of_ble_eq_true rfl) rfl (by omega) ?_
            refine c_X2_isRoad (by omega) hc.1.1 (fun t em hm => ?_) (fun nv => ?_)
            · refine g_if_ne (tgt := 60) dX9_drawn_54 (by decide) (fun _ => ?_) (fun q => absurd q (by decide))
              refine g_aload_n dX9_drawn_60 rfl ?_
              refine g_getr dX9_drawn_61 fl_X9_74 h.1 h.2.1.2.1 ?_
              refine g_aload_n dX9_drawn_64 rfl ?_
              refine g_getr dX9_drawn_65 fl_X9_67 h.1 h.2.1.1 ?_
              refine g_cV1v dX9_drawn_68 ml_X9_184 mi_X7_begin mv_X7_begin ho.1 ⟨_, rfl, rfl⟩ (Nat.le_of_ble_eq_true rfl) rfl (by omega) ?_
              refine c_beginS (by omega) ho h43 hc (fun w1 I1 => ?_)
              refine g_iload_n dX9_drawn_71 rfl ?_
              refine g_istore dX9_drawn_72 (Nat.le_of_ble_eq_true rfl) rfl ?_
              refine g_iconst (v := 0) dX9_drawn_74 rfl ?_
              refine g_istore dX9_drawn_75 (Nat.le_of_ble_eq_true rfl) rfl ?_
              obtain ⟨D, C, h1, h2, h3, h4, ey⟩ := dr_ex zc15 zc22 zc28 (Int32.not_lt.mpr zc35)
              have g := dr_dc (D := D) (C := C) h2 h4
              rw [← ey] at g
              rw [g.2, g.1]
              refine l_X9_drawn (Z := dr_z) (fun _ => rfl) (C := C) (by omega) hT h hc.1.1 h2 h4 D 0 (x, th_0 w) _ w1 (Nat.zero_add _) I1 (fun w2 I2 x8 => ?_)
              have ev : v = nI t := em
              refine g_iload_n dX9_drawn_144 rfl ?_
              refine g_if_ge (tgt := 158) dX9_drawn_145 (by decide) (fun zc145 => ?_) (fun zc145 => ?_)
              · refine g_aload_n dX9_drawn_158 rfl ?_
                refine g_getr dX9_drawn_159 fl_X9_74 (clO_th h I2.1).1 (clO_th h I2.1).2.1.2.1 ?_
                refine g_getr dX9_drawn_162 fl_X9_168 I2.2.1.1 I2.2.1.2.2.1.1 ?_
                refine g_iload_n dX9_drawn_165 rfl ?_
                refine g_iald dX9_drawn_166 I2.2.1.2.2.1.2 (by rw [em]; exact vp_in_nI (by have := hc.1.1.2.2; omega) (by decide)) ?_
                refine g_iret dX9_drawn_167 rfl ⟨_, rfl, ?_⟩
                rw [em, nI_n (by have := hc.1.1.2.2; omega), I2.2.2.2.2.1 t (by have := hc.1.1.2.2; omega)]
                exact k4 D C t ey h1 h2 h3 h4 ev hm w2 I2
              · rw [ev] at zc145; exact absurd (nI_pos' (by have := hc.1.1.2.2; omega)) zc145
            · refine g_if_ne (tgt := 60) dX9_drawn_54 (by decide) (fun q => absurd q (by decide)) (fun _ => ?_)
              refine g_ldc dX9_drawn_57 ct_X9_116 ?_
              refine g_iret dX9_drawn_59 rfl ⟨_, rfl, ?_⟩
              exact k2 zc43 nv
        · refine g_ldc dX9_drawn_38 ct_X9_116 ?_
          refine g_iret dX9_drawn_40 rfl ⟨_, rfl, ?_⟩
          refine k1 (fun D C h1 h2 h3 h4 e => ?_)
          obtain ⟨g1, g2⟩ := dr_dc (D := D) (C := C) h2 h4
          rw [← e] at g1 g2
          rw [g2] at zc35; exact absurd (nI_le h4 (by decide)) zc35

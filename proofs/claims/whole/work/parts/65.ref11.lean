/-! The reference: lowest, power, winning -/
theorem vt_sd_gcd {a b : Nat} (hb : 0 < b) : ∀ d, 1 ≤ d → Nat.gcd a b ≤ d → vt_sd a b d = Nat.gcd a b := by
  intro d
  have hg : 0 < Nat.gcd a b := Nat.gcd_pos_of_pos_right a hb
  induction d with
  | zero => intro h; omega
  | succ d ih =>
    intro _ hle
    unfold vt_sd
    by_cases q : d = 0
    · rw [if_pos q]; omega
    · rw [if_neg q]
      by_cases y : a % (d + 1) = 0 ∧ b % (d + 1) = 0
      · rw [if_pos y]
        have := Nat.le_of_dvd hg (Nat.dvd_gcd (Nat.dvd_of_mod_eq_zero y.1) (Nat.dvd_of_mod_eq_zero y.2))
        omega
      · rw [if_neg y]
        refine ih (by omega) ?_
        rcases Nat.lt_or_ge d (Nat.gcd a b) with z | z
        · have e : Nat.gcd a b = d + 1 := by omega
          exact absurd ⟨by rw [← e]; exact Nat.mod_eq_zero_of_dvd (Nat.gcd_dvd_left a b), by rw [← e]; exact Nat.mod_eq_zero_of_dvd (Nat.gcd_dvd_right a b)⟩ y
        · exact z
theorem lN_0 : lN 0 = 0 := rfl
theorem l_X10_lowest {d a b : Nat} {w : gx_W} {p : Int32} {k : Int64 → gx_W → Prop} (kk : ∀ x9 x10, gx_G 0 0 d mX10_lowest (Ql k) 31 [.long (lN a), .retAddr 0, .long (lN b), .retAddr 0, .int p, .long (lN (Nat.gcd a b)), .retAddr 0, .long (lN 0), .retAddr 0, x9, x10] [] w) : ∀ z x y : Nat, ∀ x9 x10 : Value, y ≤ z → x < 2 ^ 31 → y < 2 ^ 31 → Nat.gcd x y = Nat.gcd a b → gx_G 0 0 d mX10_lowest (Ql k) 6 [.long (lN a), .retAddr 0, .long (lN b), .retAddr 0, .int p, .long (lN x), .retAddr 0, .long (lN y), .retAddr 0, x9, x10] [] w := by
  intro z
  induction z with
  | zero =>
    intro x y x9 x10 hy hx hy2 hg
    have e : y = 0 := by omega
    subst e
    rw [Nat.gcd_zero_right] at hg
    subst hg
    refine g_lload dX10_lowest_6 rfl ?_
    refine g_lconst (v := 0) dX10_lowest_8 rfl ?_
    refine g_lcmp dX10_lowest_9 ?_
    refine g_if_eq (tgt := 31) dX10_lowest_10 (by decide) (fun zc10 => ?_) (fun zc10 => ?_)
    · exact kk _ _
    · exact absurd ((lg_cmp_eq _ _).mpr rfl) zc10
  | succ z ih =>
    intro x y x9 x10 hy hx hy2 hg
    refine g_lload dX10_lowest_6 rfl ?_
    refine g_lconst (v := 0) dX10_lowest_8 rfl ?_
    refine g_lcmp dX10_lowest_9 ?_
    refine g_if_eq (tgt := 31) dX10_lowest_10 (by decide) (fun zc10 => ?_) (fun zc10 => ?_)
    · have e : y = 0 := by
        have q := (lg_cmp_eq _ _).mp zc10
        exact (pk_lEQ (a := y) (b := 0) (by omega) (by omega)).mp q
      subst e
      rw [Nat.gcd_zero_right] at hg
      subst hg
      exact kk _ _
    · have hy0 : 0 < y := Nat.pos_of_ne_zero (fun q => zc10 ((lg_cmp_eq _ _).mpr (by rw [q]; rfl)))
      refine g_lload dX10_lowest_13 rfl ?_
      refine g_lload dX10_lowest_15 rfl ?_
      refine g_lrem dX10_lowest_17 (fun q => zc10 ((lg_cmp_eq _ _).mpr q)) ?_
      rw [pk_lRem (by omega) hy0 (by omega)]
      refine g_lstore dX10_lowest_18 (Nat.le_of_ble_eq_true rfl) rfl ?_
      refine g_lload dX10_lowest_20 rfl ?_
      refine g_lstore dX10_lowest_22 (Nat.le_of_ble_eq_true rfl) rfl ?_
      refine g_lload dX10_lowest_24 rfl ?_
      refine g_lstore dX10_lowest_26 (Nat.le_of_ble_eq_true rfl) rfl ?_
      refine g_goto (tgt := 6) dX10_lowest_28 (by decide) ?_
      exact ih y (x % y) _ _ (by have := Nat.mod_lt x hy0; omega) hy2 (by have := Nat.mod_lt x hy0; omega) (by rw [Nat.gcd_comm, ← Nat.gcd_rec, Nat.gcd_comm]; exact hg)
theorem c_X10_lowest {d : Nat} {w : gx_W} {a b : Nat} {p : Int32} {k : Int64 → gx_W → Prop} (hd : 0 ≤ d) (ha : a < 2 ^ 31) (hb : b < 2 ^ 31) (hb0 : 0 < b) (kk : k (lN ((if p = 0 then a else b) / Nat.gcd a b)) w) : gx_C 0 0 d mX10_lowest [.long (lN a), .long (lN b), .int p] w (Ql k) := by
  refine gx_C_of' (L := [.long (lN a), .retAddr 0, .long (lN b), .retAddr 0, .int p, .retAddr 0, .retAddr 0, .retAddr 0, .retAddr 0, .retAddr 0, .retAddr 0]) (by decide +kernel) rfl (Nat.le_of_ble_eq_true rfl) ?_
  refine g_lload_n dX10_lowest_0 rfl ?_
  refine g_lstore dX10_lowest_1 (Nat.le_of_ble_eq_true rfl) rfl ?_
  refine g_lload_n dX10_lowest_3 rfl ?_
  refine g_lstore dX10_lowest_4 (Nat.le_of_ble_eq_true rfl) rfl ?_
  refine l_X10_lowest (fun x9 x10 => ?_) b a b _ _ (Nat.le_refl _) ha hb rfl
  have hg : 0 < Nat.gcd a b := Nat.gcd_pos_of_pos_right a hb0
  have hgb : Nat.gcd a b ≤ b := Nat.gcd_le_right a hb0
  have hgn : ¬ lN (Nat.gcd a b) = 0 := fun q => by
    have := (pk_lEQ (a := Nat.gcd a b) (b := 0) (by omega) (by omega)).mp q
    omega
  refine g_iload dX10_lowest_31 rfl ?_
  refine g_if_ne (tgt := 43) dX10_lowest_33 (by decide) (fun zc33 => ?_) (fun zc33 => ?_)
  · refine g_lload_n dX10_lowest_43 rfl ?_
    refine g_lload dX10_lowest_44 rfl ?_
    refine g_ldiv dX10_lowest_46 hgn ?_
    refine g_lret dX10_lowest_47 rfl ⟨_, rfl, ?_⟩
    rw [pk_lDiv (by omega) hg (by omega)]; rw [if_neg zc33] at kk; exact kk
  · refine g_lload_n dX10_lowest_36 rfl ?_
    refine g_lload dX10_lowest_37 rfl ?_
    refine g_ldiv dX10_lowest_39 hgn ?_
    rw [pk_lDiv (by omega) hg (by omega)]
    refine g_goto (tgt := 47) dX10_lowest_40 (by decide) ?_
    refine g_lret dX10_lowest_47 rfl ⟨_, rfl, ?_⟩
    rw [if_pos zc33] at kk; exact kk
set_option maxHeartbeats 4000000 in
theorem l_X10_power {d n t : Nat} {w : gx_W} {f : Nat → Int32} {p : Int32} {k : Int64 → gx_W → Prop} (hd : 1 ≤ d) (h : moO w) (hx : mxN w f n) (ht : t < n) (kk : k (lN ((if p = 0 then vt_wy f n t (2 ^ n) else vt_f n) / Nat.gcd (vt_wy f n t (2 ^ n)) (vt_f n))) w) : ∀ z i : Nat, i + z = 2 ^ n → gx_G 0 0 d mX10_power (Ql k) 26 [.ref 57, .int (nI t), .int p, .long (lN (vt_wy f n t i)), .retAddr 0, .int (nI i)] [] w := by
  intro z
  have hn6 := hx.2.1
  have en := hx.1
  have h64 := p2_le n hn6
  induction z with
  | zero =>
    intro i hi
    have e : i = 2 ^ n := by omega
    subst e
    have hwy := vt_wy_le f hn6 ht (2 ^ n) (Nat.le_refl _)
    have hf720 : ∀ n, n ≤ 6 → 0 < vt_f n ∧ vt_f n ≤ 720 := by decide
    have hf := hf720 n hn6
    refine g_iload dX10_power_26 rfl ?_
    refine g_iconst (v := 1) dX10_power_28 rfl ?_
    refine g_aload_n dX10_power_29 rfl ?_
    refine g_geti dX10_power_30 fl_X10_121 h.1 ?_
    rw [en]
    refine g_ishl dX10_power_33 ?_
    rw [vt_pow n hn6]
    refine g_icmp_ge (tgt := 106) dX10_power_34 (by decide) (fun zc34 => ?_) (fun zc34 => ?_)
    · refine g_lload_n dX10_power_106 rfl ?_
      refine g_aload_n dX10_power_107 rfl ?_
      refine g_geti dX10_power_108 fl_X10_121 h.1 ?_
      rw [en]
      refine g_cS1i dX10_power_111 ml_X10_304 mi_X10_factorial ms_X10_factorial (Nat.le_of_ble_eq_true rfl) rfl (by omega) ?_
      refine c_X10_factorial (by omega) hn6 ?_
      refine g_i2l dX10_power_114 ?_
      rw [nI_l (by omega)]
      refine g_iload_n dX10_power_115 rfl ?_
      refine g_cS3l dX10_power_116 ml_X10_307 mi_X10_lowest ms_X10_lowest (Nat.le_of_ble_eq_true rfl) rfl (by omega) ?_
      refine c_X10_lowest (by omega) (by omega) (by omega) hf.1 ?_
      refine g_lret dX10_power_119 rfl ⟨_, rfl, ?_⟩
      exact kk
    · exact absurd (Int32.le_refl _) zc34
  | succ z ih =>
    intro i hi
    have hwy := vt_wy_le f hn6 ht i (by omega)
    refine g_iload dX10_power_26 rfl ?_
    refine g_iconst (v := 1) dX10_power_28 rfl ?_
    refine g_aload_n dX10_power_29 rfl ?_
    refine g_geti dX10_power_30 fl_X10_121 h.1 ?_
    rw [en]
    refine g_ishl dX10_power_33 ?_
    rw [vt_pow n hn6]
    refine g_icmp_ge (tgt := 106) dX10_power_34 (by decide) (fun zc34 => ?_) (fun zc34 => ?_)
    · exact absurd zc34 (nI_ge (by omega) (by omega))
    · refine g_iload dX10_power_37 rfl ?_
      refine g_iload_n dX10_power_39 rfl ?_
      refine g_ishr dX10_power_40 ?_
      refine g_iconst (v := 1) dX10_power_41 rfl ?_
      refine g_iand dX10_power_42 ?_
      refine g_iconst (v := 1) dX10_power_43 rfl ?_
      refine g_icmp_eq (tgt := 100) dX10_power_44 (by decide) (fun zc44 => ?_) (fun zc44 => ?_)
      · refine g_iinc dX10_power_100 rfl rfl ?_
        refine g_goto (tgt := 26) dX10_power_103 (by decide) ?_
        rw [nI_1']
        have K := ih (i + 1) (by omega)
        rw [show vt_wy f n t (i + 1) = vt_wy f n t i from if_neg (fun q => by simp only [vt_come, Bool.and_eq_true, Bool.not_eq_true'] at q; exact absurd ((cr_out_1 zc44).symm.trans q.1.1) (by decide))] at K
        exact K
      · refine g_aload_n dX10_power_47 rfl ?_
        refine g_iload dX10_power_48 rfl ?_
        refine g_cV1i dX10_power_50 ml_X10_298 mi_X10_winsBy mv_X10_winsBy h.1 ⟨_, rfl, rfl⟩ (Nat.le_of_ble_eq_true rfl) rfl (by omega) ?_
        refine c_X10_winsBy (by omega) h hx (fun hw => ?_) (fun hw => ?_)
        · refine g_if_ne (tgt := 100) dX10_power_53 (by decide) (fun _ => ?_) (fun q => absurd q (by decide))
          refine g_iinc dX10_power_100 rfl rfl ?_
          refine g_goto (tgt := 26) dX10_power_103 (by decide) ?_
          rw [nI_1']
          have K := ih (i + 1) (by omega)
          rw [show vt_wy f n t (i + 1) = vt_wy f n t i from if_neg (fun q => by simp only [vt_come, Bool.and_eq_true, Bool.not_eq_true'] at q; exact absurd (hw.symm.trans q.1.2) (by decide))] at K
          exact K
        · refine g_if_ne (tgt := 100) dX10_power_53 (by decide) (fun q => absurd q (by decide)) (fun _ => ?_)
          refine g_aload_n dX10_power_56 rfl ?_
          refine g_iload dX10_power_57 rfl ?_
          refine g_iconst (v := 1) dX10_power_59 rfl ?_
          refine g_iload_n dX10_power_60 rfl ?_
          refine g_ishl dX10_power_61 ?_
          refine g_ior dX10_power_62 ?_
          refine g_cV1i dX10_power_63 ml_X10_298 mi_X10_winsBy mv_X10_winsBy h.1 ⟨_, rfl, rfl⟩ (Nat.le_of_ble_eq_true rfl) rfl (by omega) ?_
          refine c_X10_winsBy (by omega) h hx (fun hw2 => ?_) (fun hw2 => ?_)
          · refine g_if_ne (tgt := 72) dX10_power_66 (by decide) (fun _ => ?_) (fun q => absurd q (by decide))
            have hcome : vt_come f n t i = true := by
              simp only [vt_come, Bool.and_eq_true, Bool.not_eq_true']
              exact ⟨⟨cr_out_0 zc44, hw⟩, hw2⟩
            have hpop := vt_pop n hn6 i (by omega) t ht (cr_out_0 zc44)
            refine g_lload_n dX10_power_72 rfl ?_
            refine g_iload dX10_power_73 rfl ?_
            refine g_cS1i dX10_power_75 ml_X10_301 mi_X10_bitsOf ms_X10_bitsOf (Nat.le_of_ble_eq_true rfl) rfl (by omega) ?_
            refine c_X10_bitsOf (by omega) (by omega) ?_
            refine g_cS1i dX10_power_78 ml_X10_304 mi_X10_factorial ms_X10_factorial (Nat.le_of_ble_eq_true rfl) rfl (by omega) ?_
            refine c_X10_factorial (by omega) (by omega) ?_
            refine g_aload_n dX10_power_81 rfl ?_
            refine g_geti dX10_power_82 fl_X10_121 h.1 ?_
            refine g_iconst (v := 1) dX10_power_85 rfl ?_
            rw [en]
            refine g_isub dX10_power_86 ?_
            refine g_iload dX10_power_87 rfl ?_
            refine g_cS1i dX10_power_89 ml_X10_301 mi_X10_bitsOf ms_X10_bitsOf (Nat.le_of_ble_eq_true rfl) rfl (by omega) ?_
            refine c_X10_bitsOf (by omega) (by omega) ?_
            refine g_isub dX10_power_92 ?_
            rw [show nI n - 1 = nI (n - 1) from pk_sub (a := n) (b := 1) (by omega), pk_sub (by omega)]
            refine g_cS1i dX10_power_93 ml_X10_304 mi_X10_factorial ms_X10_factorial (Nat.le_of_ble_eq_true rfl) rfl (by omega) ?_
            refine c_X10_factorial (by omega) (by omega) ?_
            refine g_imul dX10_power_96 ?_
            rw [pk_mul]
            refine g_i2l dX10_power_97 ?_
            rw [nI_l (by have := vt_f_le (popc i) (by omega) (n - 1 - popc i) (by omega); omega)]
            refine g_ladd dX10_power_98 ?_
            rw [lN_add]
            refine g_lstore_n dX10_power_99 (Nat.le_of_ble_eq_true rfl) rfl ?_
            refine g_iinc dX10_power_100 rfl rfl ?_
            refine g_goto (tgt := 26) dX10_power_103 (by decide) ?_
            rw [nI_1']
            have K := ih (i + 1) (by omega)
            rw [show vt_wy f n t (i + 1) = vt_wy f n t i + vt_f (popc i) * vt_f (n - 1 - popc i) from if_pos hcome] at K
            exact K
          · refine g_if_ne (tgt := 72) dX10_power_66 (by decide) (fun q => absurd q (by decide)) (fun _ => ?_)
            refine g_goto (tgt := 100) dX10_power_69 (by decide) ?_
            refine g_iinc dX10_power_100 rfl rfl ?_
            refine g_goto (tgt := 26) dX10_power_103 (by decide) ?_
            rw [nI_1']
            have K := ih (i + 1) (by omega)
            rw [show vt_wy f n t (i + 1) = vt_wy f n t i from if_neg (fun q => by simp only [vt_come, Bool.and_eq_true, Bool.not_eq_true'] at q; exact absurd (hw2.symm.trans q.2) (by decide))] at K
            exact K
theorem c_X10_power {d : Nat} {w : gx_W} {f : Nat → Int32} {n : Nat} {x y : Int32} {k : Int64 → gx_W → Prop} (hd : 2 ≤ d) (h : moO w) (hx : mxN w f n) (k1 : (∀ m, m < n → x ≠ nI m) → k (-9223372036854775808) w) (k2 : (∀ m, m ≤ 1 → y ≠ nI m) → k (-9223372036854775808) w) (k3 : ∀ t m, x = nI t → t < n → y = nI m → m ≤ 1 → k (lN ((if y = 0 then vt_wy f n t (2 ^ n) else vt_f n) / Nat.gcd (vt_wy f n t (2 ^ n)) (vt_f n))) w) : gx_C 0 0 d mX10_power [.ref 57, .int x, .int y] w (Ql k) := by
  refine gx_C_of' (L := [.ref 57, .int x, .int y, .retAddr 0, .retAddr 0, .retAddr 0]) (by decide +kernel) rfl (Nat.le_of_ble_eq_true rfl) ?_
  refine g_aload_n dX10_power_0 rfl ?_
  refine g_iload_n dX10_power_1 rfl ?_
  refine g_cV1i dX10_power_2 ml_X10_128 mi_X10_isRoad mv_X10_isRoad h.1 ⟨_, rfl, rfl⟩ (Nat.le_of_ble_eq_true rfl) rfl (by omega) ?_
  refine c_X10_isRoad (by omega) h hx.1 hx.2.1 (fun t e ht => ?_) (fun nx => ?_)
  · refine g_if_eq (tgt := 17) dX10_power_5 (by decide) (fun q => absurd q (by decide)) (fun _ => ?_)
    refine g_iload_n dX10_power_8 rfl ?_
    refine g_iconst (v := 0) dX10_power_9 rfl ?_
    refine g_iconst (v := 1) dX10_power_10 rfl ?_
    refine g_cS3i dX10_power_11 ml_X10_124 mi_X10_in ms_X10_in (Nat.le_of_ble_eq_true rfl) rfl (by omega) ?_
    refine c_inN (H := 1) rfl (by decide) (fun m e2 hm => ?_) (fun ny => ?_)
    · refine g_if_ne (tgt := 21) dX10_power_14 (by decide) (fun _ => ?_) (fun q => absurd q (by decide))
      refine g_lconst (v := 0) dX10_power_21 rfl ?_
      refine g_lstore_n dX10_power_22 (Nat.le_of_ble_eq_true rfl) rfl ?_
      refine g_iconst (v := 0) dX10_power_23 rfl ?_
      refine g_istore dX10_power_24 (Nat.le_of_ble_eq_true rfl) rfl ?_
      subst e
      exact l_X10_power (by omega) h hx ht (k3 t m rfl ht e2 hm) (2 ^ n) 0 (Nat.zero_add _)
    · refine g_if_ne (tgt := 21) dX10_power_14 (by decide) (fun q => absurd q (by decide)) (fun _ => ?_)
      refine g_ldc2 dX10_power_17 ct_X10_296 ?_
      refine g_lret dX10_power_20 rfl ⟨_, rfl, ?_⟩
      exact k2 ny
  · refine g_if_eq (tgt := 17) dX10_power_5 (by decide) (fun _ => ?_) (fun q => absurd q (by decide))
    refine g_ldc2 dX10_power_17 ct_X10_296 ?_
    refine g_lret dX10_power_20 rfl ⟨_, rfl, ?_⟩
    exact k1 nx

/-! Votes: power, winners -/
def vt_sd (a b : Nat) : Nat → Nat
  | 0 => 1
  | d + 1 => if d = 0 then 1 else if a % (d + 1) = 0 ∧ b % (d + 1) = 0 then d + 1 else vt_sd a b d
theorem vt_sd_pos (a b d : Nat) : 0 < vt_sd a b d := by
  induction d with
  | zero => exact Nat.one_pos
  | succ d ih =>
    unfold vt_sd
    split
    · exact Nat.one_pos
    · split
      · omega
      · exact ih
theorem vt_sd_le (a b d : Nat) : vt_sd a b d ≤ d + 1 := by
  induction d with
  | zero => exact Nat.le_refl _
  | succ d ih =>
    unfold vt_sd
    split
    · omega
    · split <;> omega
set_option maxHeartbeats 4000000 in
theorem l_X8_sharedDivisor {d a b : Nat} {w : gx_W} {k : Int32 → gx_W → Prop} (ha : a < 2 ^ 31) (hb : b < 2 ^ 31) : ∀ i : Nat, i ≤ b → k (nI (vt_sd a b i)) w → gx_G 0 0 d mX8_sharedDivisor (Qi k) 2 [.int (nI a), .int (nI b), .int (nI i)] [] w := by
  intro i
  induction i with
  | zero =>
    intro hi kk
    refine g_iload_n dX8_sharedDivisor_2 rfl ?_
    refine g_iconst (v := 1) dX8_sharedDivisor_3 rfl ?_
    refine g_icmp_le (tgt := 27) dX8_sharedDivisor_4 (by decide) (fun _ => ?_) (fun q => absurd (show nI 0 ≤ 1 by decide) q)
    refine g_iconst (v := 1) dX8_sharedDivisor_27 rfl ?_
    exact g_iret dX8_sharedDivisor_28 rfl ⟨_, rfl, kk⟩
  | succ i ih =>
    intro hi kk
    unfold vt_sd at kk
    have e1 : (1 : Int32) = nI 1 := rfl
    refine g_iload_n dX8_sharedDivisor_2 rfl ?_
    refine g_iconst (v := 1) dX8_sharedDivisor_3 rfl ?_
    refine g_icmp_le (tgt := 27) dX8_sharedDivisor_4 (by decide) (fun zc4 => ?_) (fun zc4 => ?_)
    · refine g_iconst (v := 1) dX8_sharedDivisor_27 rfl ?_
      refine g_iret dX8_sharedDivisor_28 rfl ⟨_, rfl, ?_⟩
      have h0 : i = 0 := by
        rcases Nat.eq_zero_or_pos i with q | q
        · exact q
        · exact absurd (show nI (i + 1) ≤ nI 1 from zc4) (nI_ge (by omega) (by omega))
      rw [if_pos h0] at kk
      exact kk
    · have h0 : ¬ i = 0 := by
        intro q
        subst q
        exact zc4 (Int32.le_refl _)
      rw [if_neg h0] at kk
      refine g_iload_n dX8_sharedDivisor_7 rfl ?_
      refine g_iload_n dX8_sharedDivisor_8 rfl ?_
      refine g_irem dX8_sharedDivisor_9 (nI_ne0 (Nat.succ_pos i) (by omega)) ?_
      rw [pk_rem ha (Nat.succ_pos i) (by omega)]
      refine g_if_ne (tgt := 21) dX8_sharedDivisor_10 (by decide) (fun zc10 => ?_) (fun zc10 => ?_)
      · refine g_iinc dX8_sharedDivisor_21 rfl rfl ?_
        refine g_goto (tgt := 2) dX8_sharedDivisor_24 (by decide) ?_
        have hno : ¬ (a % (i + 1) = 0 ∧ b % (i + 1) = 0) := by
          intro q
          first
            | (rw [q.1] at zc10; exact zc10 rfl)
            | (rw [q.2] at zc16; exact zc16 rfl)
        rw [if_neg hno] at kk
        have e2 : nI (i + 1) + Int32.ofInt (-1) = nI i := pk_m1 i
        rw [e2]
        exact ih (by omega) kk
      · refine g_iload_n dX8_sharedDivisor_13 rfl ?_
        refine g_iload_n dX8_sharedDivisor_14 rfl ?_
        refine g_irem dX8_sharedDivisor_15 (nI_ne0 (Nat.succ_pos i) (by omega)) ?_
        rw [pk_rem hb (Nat.succ_pos i) (by omega)]
        refine g_if_ne (tgt := 21) dX8_sharedDivisor_16 (by decide) (fun zc16 => ?_) (fun zc16 => ?_)
        · refine g_iinc dX8_sharedDivisor_21 rfl rfl ?_
          refine g_goto (tgt := 2) dX8_sharedDivisor_24 (by decide) ?_
          have hno : ¬ (a % (i + 1) = 0 ∧ b % (i + 1) = 0) := by
            intro q
            first
              | (rw [q.1] at zc10; exact zc10 rfl)
              | (rw [q.2] at zc16; exact zc16 rfl)
          rw [if_neg hno] at kk
          have e2 : nI (i + 1) + Int32.ofInt (-1) = nI i := pk_m1 i
          rw [e2]
          exact ih (by omega) kk
        · refine g_iload_n dX8_sharedDivisor_19 rfl ?_
          refine g_iret dX8_sharedDivisor_20 rfl ⟨_, rfl, ?_⟩
          have z1 : a % (i + 1) = 0 := pI_inj (b := 0) (by have := Nat.mod_lt a (show 0 < i + 1 by omega); omega) (by decide) (by first | exact zc10 | exact Classical.not_not.mp zc10)
          have z2 : b % (i + 1) = 0 := pI_inj (b := 0) (by have := Nat.mod_lt b (show 0 < i + 1 by omega); omega) (by decide) (by first | exact zc16 | exact Classical.not_not.mp zc16)
          rw [if_pos ⟨z1, z2⟩] at kk
          exact kk
theorem c_X8_sharedDivisor {d : Nat} {w : gx_W} {a b : Nat} {k : Int32 → gx_W → Prop} (hd : 0 ≤ d) (ha : a < 2 ^ 31) (hb : b < 2 ^ 31) (kk : k (nI (vt_sd a b b)) w) : gx_C 0 0 d mX8_sharedDivisor [.int (nI a), .int (nI b)] w (Qi k) := by
  refine gx_C_of' (L := [.int (nI a), .int (nI b), .retAddr 0]) (by decide +kernel) rfl (Nat.le_of_ble_eq_true rfl) ?_
  refine g_iload_n dX8_sharedDivisor_0 rfl ?_
  refine g_istore_n dX8_sharedDivisor_1 (Nat.le_of_ble_eq_true rfl) rfl ?_
  exact l_X8_sharedDivisor ha hb b (Nat.le_refl _) kk
/-- factorials up to six -/
def vt_f (m : Nat) : Nat := [1, 1, 2, 6, 24, 120, 720].getD m 0
theorem vt_f_tab : ∀ m, m ≤ 6 → (gx_tab 3).getD m 0 = nI (vt_f m) := by decide
def vt_come (f : Nat → Int32) (n t s : Nat) : Bool := !cr_out (nI s) t && !vt_wins f n (nI s) && vt_wins f n (nI s ||| (1 <<< (nI t &&& 31)))
def vt_wy (f : Nat → Int32) (n t : Nat) : Nat → Nat
  | 0 => 0
  | s + 1 => if vt_come f n t s = true then vt_wy f n t s + vt_f (popc s) * vt_f (n - 1 - popc s) else vt_wy f n t s
theorem vt_pop : ∀ n, n ≤ 6 → ∀ s, s < 2 ^ n → ∀ t, t < n → cr_out (nI s) t = false → popc s + 1 ≤ n := by decide +kernel
theorem vt_pow : ∀ n, n ≤ 6 → (1 : Int32) <<< (nI n &&& 31) = nI (2 ^ n) := by decide
theorem vt_f_le : ∀ a, a ≤ 5 → ∀ b, a + b ≤ 5 → vt_f a * vt_f b ≤ 120 := by
  intro a ha b hb
  have h : ∀ a, a ≤ 5 → ∀ b, b ≤ 5 → a + b ≤ 5 → vt_f a * vt_f b ≤ 120 := by decide
  exact h a ha b (by omega) hb
theorem vt_wy_le (f : Nat → Int32) {n t : Nat} (hn : n ≤ 6) (ht : t < n) (s : Nat) (hs : s ≤ 2 ^ n) : vt_wy f n t s ≤ s * 120 := by
  induction s with
  | zero => exact Nat.le_refl _
  | succ s ih =>
    have h1 := ih (by omega)
    unfold vt_wy
    split
    · rename_i hc
      have h2 : cr_out (nI s) t = false := by
        simp only [vt_come, Bool.and_eq_true, Bool.not_eq_true'] at hc
        exact hc.1.1
      have h3 := vt_pop n hn s (by omega) t ht h2
      have h4 := vt_f_le (popc s) (by omega) (n - 1 - popc s) (by omega)
      omega
    · omega
set_option maxHeartbeats 8000000 in
theorem l_X8_powerOf {d r a n t : Nat} {w : gx_W} {p : Int32} {k : Int64 → gx_W → Prop} (hd : 3 ≤ d) (hT : isT w) (h : isCn w r a n) (ht : t < n) (kk : k ((nI ((if p = 0 then vt_wy (w_a w a) n t (2 ^ n) else vt_f n) / vt_sd (vt_wy (w_a w a) n t (2 ^ n)) (vt_f n) (vt_f n))).toInt64) w) : ∀ z i : Nat, i + z = 2 ^ n → ∀ x6 x7 : Value, x6.category = 1 → gx_G 0 0 d mX8_powerOf (Ql k) 14 [.ref r, .int (nI t), .int p, .int (nI (vt_wy (w_a w a) n t i)), .int (nI (vt_f n)), .int (nI i), x6, x7] [] w := by
  intro z
  have hb := h.2.2
  have h64 : 2 ^ n ≤ 64 := Nat.pow_le_pow_right (n := 2) (by decide) hb
  have hwy := vt_wy_le (w_a w a) hb ht (2 ^ n) (Nat.le_refl _)
  have hf : ∀ m, m ≤ 6 → vt_f m ≤ 720 := by decide
  have hfn := hf n hb
  have hsd := vt_sd_le (vt_wy (w_a w a) n t (2 ^ n)) (vt_f n) (vt_f n)
  have hsp := vt_sd_pos (vt_wy (w_a w a) n t (2 ^ n)) (vt_f n) (vt_f n)
  induction z with
  | zero =>
    intro i hi x6 x7 _
    have e : i = 2 ^ n := by omega
    subst e
    refine g_iload dX8_powerOf_14 rfl ?_
    refine g_iconst (v := 1) dX8_powerOf_16 rfl ?_
    refine g_aload_n dX8_powerOf_17 rfl ?_
    refine g_geti dX8_powerOf_18 fl_X8_9 h.1.1 ?_
    refine g_ishl dX8_powerOf_21 ?_
    rw [h.2.1, vt_pow n hb]
    refine g_icmp_ge (tgt := 102) dX8_powerOf_22 (by decide) (fun zc22 => ?_) (fun zc22 => ?_)
    · refine g_iload_n dX8_powerOf_102 rfl ?_
      refine g_iload dX8_powerOf_103 rfl ?_
      refine g_cS2i dX8_powerOf_105 ml_X8_38 mi_X8_sharedDivisor ms_X8_sharedDivisor (Nat.le_of_ble_eq_true rfl) rfl (by omega) ?_
      refine c_X8_sharedDivisor (Nat.zero_le _) (by omega) (by omega) ?_
      refine g_istore dX8_powerOf_108 (Nat.le_of_ble_eq_true rfl) rfl ?_
      refine g_iload_n dX8_powerOf_110 rfl ?_
      refine g_if_ne (tgt := 118) dX8_powerOf_111 (by decide) (fun zc111 => ?_) (fun zc111 => ?_)
      · refine g_iload dX8_powerOf_118 rfl ?_
        refine g_istore dX8_powerOf_120 (Nat.le_of_ble_eq_true rfl) rfl ?_
        refine g_iload dX8_powerOf_122 rfl ?_
        refine g_iconst (v := 1) dX8_powerOf_124 rfl ?_
        refine g_icmp_le (tgt := 137) dX8_powerOf_125 (by decide) (fun zc125 => ?_) (fun zc125 => ?_)
        · refine g_iload dX8_powerOf_137 rfl ?_
          refine g_i2l dX8_powerOf_139 ?_
          refine g_lret dX8_powerOf_140 rfl ⟨_, rfl, ?_⟩
          rw [if_neg zc111] at kk
          have e1 : vt_sd (vt_wy (w_a w a) n t (2 ^ n)) (vt_f n) (vt_f n) = 1 := by
            rcases Nat.lt_or_ge 1 (vt_sd (vt_wy (w_a w a) n t (2 ^ n)) (vt_f n) (vt_f n)) with q | q
            · exact absurd zc125 (nI_ge (a := 1) q (by omega))
            · omega
          rw [e1, Nat.div_one] at kk
          exact kk
        · refine g_iload dX8_powerOf_128 rfl ?_
          refine g_iload dX8_powerOf_130 rfl ?_
          refine g_idiv dX8_powerOf_132 (nI_ne0 hsp (by omega)) ?_
          refine g_i2l dX8_powerOf_133 ?_
          refine g_goto (tgt := 140) dX8_powerOf_134 (by decide) ?_
          refine g_lret dX8_powerOf_140 rfl ⟨_, rfl, ?_⟩
          rw [if_neg zc111] at kk
          rw [pk_div (by omega) hsp (by omega)]
          exact kk
      · refine g_iload_n dX8_powerOf_114 rfl ?_
        refine g_goto (tgt := 120) dX8_powerOf_115 (by decide) ?_
        refine g_istore dX8_powerOf_120 (Nat.le_of_ble_eq_true rfl) rfl ?_
        refine g_iload dX8_powerOf_122 rfl ?_
        refine g_iconst (v := 1) dX8_powerOf_124 rfl ?_
        refine g_icmp_le (tgt := 137) dX8_powerOf_125 (by decide) (fun zc125 => ?_) (fun zc125 => ?_)
        · refine g_iload dX8_powerOf_137 rfl ?_
          refine g_i2l dX8_powerOf_139 ?_
          refine g_lret dX8_powerOf_140 rfl ⟨_, rfl, ?_⟩
          rw [if_pos (by first | exact zc111 | exact Classical.not_not.mp zc111)] at kk
          have e1 : vt_sd (vt_wy (w_a w a) n t (2 ^ n)) (vt_f n) (vt_f n) = 1 := by
            rcases Nat.lt_or_ge 1 (vt_sd (vt_wy (w_a w a) n t (2 ^ n)) (vt_f n) (vt_f n)) with q | q
            · exact absurd zc125 (nI_ge (a := 1) q (by omega))
            · omega
          rw [e1, Nat.div_one] at kk
          exact kk
        · refine g_iload dX8_powerOf_128 rfl ?_
          refine g_iload dX8_powerOf_130 rfl ?_
          refine g_idiv dX8_powerOf_132 (nI_ne0 hsp (by omega)) ?_
          refine g_i2l dX8_powerOf_133 ?_
          refine g_goto (tgt := 140) dX8_powerOf_134 (by decide) ?_
          refine g_lret dX8_powerOf_140 rfl ⟨_, rfl, ?_⟩
          rw [if_pos (by first | exact zc111 | exact Classical.not_not.mp zc111)] at kk
          rw [pk_div (by omega) hsp (by omega)]
          exact kk
    · exact absurd (Int32.le_refl _) zc22
  | succ z ih =>
    intro i hi x6 x7 h6
    have hlt : i < 2 ^ n := by omega
    have hn1 : (nI n : Int32) - 1 = nI (n - 1) := by
      obtain ⟨m, rfl⟩ : ∃ m, n = m + 1 := ⟨n - 1, by omega⟩
      rw [nI_pred]; rfl
    refine g_iload dX8_powerOf_14 rfl ?_
    refine g_iconst (v := 1) dX8_powerOf_16 rfl ?_
    refine g_aload_n dX8_powerOf_17 rfl ?_
    refine g_geti dX8_powerOf_18 fl_X8_9 h.1.1 ?_
    refine g_ishl dX8_powerOf_21 ?_
    rw [h.2.1, vt_pow n hb]
    refine g_icmp_ge (tgt := 102) dX8_powerOf_22 (by decide) (fun zc22 => ?_) (fun zc22 => ?_)
    · exact absurd zc22 (nI_ge hlt (by omega))
    · refine g_iload dX8_powerOf_25 rfl ?_
      refine g_iload_n dX8_powerOf_27 rfl ?_
      refine g_ishr dX8_powerOf_28 ?_
      refine g_iconst (v := 1) dX8_powerOf_29 rfl ?_
      refine g_iand dX8_powerOf_30 ?_
      refine g_if_ne (tgt := 38) dX8_powerOf_31 (by decide) (fun zc31 => ?_) (fun zc31 => ?_)
      · refine g_iconst (v := 0) dX8_powerOf_38 rfl ?_
        refine g_istore dX8_powerOf_39 (Nat.le_of_ble_eq_true rfl) rfl ?_
        refine g_iload dX8_powerOf_41 rfl ?_
        refine g_if_eq (tgt := 96) dX8_powerOf_43 (by decide) (fun _ => ?_) (fun q => absurd q (by decide))
        refine g_iinc dX8_powerOf_96 rfl rfl ?_
        refine g_goto (tgt := 14) dX8_powerOf_99 (by decide) ?_
        have hc : ¬ vt_come (w_a w a) n t i = true := by
          intro q
          simp only [vt_come, Bool.and_eq_true, Bool.not_eq_true'] at q
          have q1 := q.1.1
          simp [cr_out] at q1
          exact zc31 q1
        rw [nI_1']
        have e : vt_wy (w_a w a) n t (i + 1) = vt_wy (w_a w a) n t i := by
          conv => lhs; unfold vt_wy
          rw [if_neg hc]
        rw [← e]
        exact ih (i + 1) (by omega) _ _ rfl
      · refine g_iconst (v := 1) dX8_powerOf_34 rfl ?_
        refine g_goto (tgt := 39) dX8_powerOf_35 (by decide) ?_
        refine g_istore dX8_powerOf_39 (Nat.le_of_ble_eq_true rfl) rfl ?_
        refine g_iload dX8_powerOf_41 rfl ?_
        refine g_if_eq (tgt := 96) dX8_powerOf_43 (by decide) (fun q => absurd q (by decide)) (fun _ => ?_)
        refine g_aload_n dX8_powerOf_46 rfl ?_
        refine g_iload dX8_powerOf_47 rfl ?_
        refine g_cS2i dX8_powerOf_49 ml_X8_19 mi_X8_wins ms_X8_wins (Nat.le_of_ble_eq_true rfl) rfl (by omega) ?_
        refine c_X8_wins (by omega) h (fun e49 => ?_) (fun e49 => ?_)
        · refine g_if_ne (tgt := 96) dX8_powerOf_52 (by decide) (fun _ => ?_) (fun q => absurd q (by decide))
          refine g_iinc dX8_powerOf_96 rfl rfl ?_
          refine g_goto (tgt := 14) dX8_powerOf_99 (by decide) ?_
          have hc : ¬ vt_come (w_a w a) n t i = true := by
            intro q
            simp only [vt_come, Bool.and_eq_true, Bool.not_eq_true'] at q
            rw [e49] at q
            cases q.1.2
          rw [nI_1']
          have e : vt_wy (w_a w a) n t (i + 1) = vt_wy (w_a w a) n t i := by
            conv => lhs; unfold vt_wy
            rw [if_neg hc]
          rw [← e]
          exact ih (i + 1) (by omega) _ _ rfl
        · refine g_if_ne (tgt := 96) dX8_powerOf_52 (by decide) (fun q => absurd q (by decide)) (fun _ => ?_)
          refine g_aload_n dX8_powerOf_55 rfl ?_
          refine g_iload dX8_powerOf_56 rfl ?_
          refine g_iconst (v := 1) dX8_powerOf_58 rfl ?_
          refine g_iload_n dX8_powerOf_59 rfl ?_
          refine g_ishl dX8_powerOf_60 ?_
          refine g_ior dX8_powerOf_61 ?_
          refine g_cS2i dX8_powerOf_62 ml_X8_19 mi_X8_wins ms_X8_wins (Nat.le_of_ble_eq_true rfl) rfl (by omega) ?_
          refine c_X8_wins (by omega) h (fun e62 => ?_) (fun e62 => ?_)
          · refine g_if_eq (tgt := 96) dX8_powerOf_65 (by decide) (fun q => absurd q (by decide)) (fun _ => ?_)
            have hco : cr_out (nI i) t = false := by
              simp only [cr_out, decide_eq_false_iff_not, Classical.not_not]
              first | exact zc31 | exact Classical.not_not.mp zc31
            have hpop := vt_pop n hb i hlt t ht hco
            refine g_iload dX8_powerOf_68 rfl ?_
            refine g_cS1i dX8_powerOf_70 ml_X8_33 mi_J6_bitCount_0f7a4 ms_J6_bitCount_0f7a4 (Nat.le_of_ble_eq_true rfl) rfl (by omega) ?_
            refine c_J6_bitCount_0f7a4 (by omega) (show i < 64 by omega) ?_
            refine g_istore dX8_powerOf_73 (Nat.le_of_ble_eq_true rfl) rfl ?_
            refine g_iload_n dX8_powerOf_75 rfl ?_
            refine g_iload dX8_powerOf_76 rfl ?_
            refine g_cS1i dX8_powerOf_78 ml_X8_29 mi_X8_ordersOf ms_X8_ordersOf (Nat.le_of_ble_eq_true rfl) rfl (by omega) ?_
            refine c_X8_ordersOf (by omega) hT (show popc i ≤ 6 by omega) ?_
            rw [vt_f_tab _ (by omega)]
            refine g_aload_n dX8_powerOf_81 rfl ?_
            refine g_geti dX8_powerOf_82 fl_X8_9 h.1.1 ?_
            refine g_iconst (v := 1) dX8_powerOf_85 rfl ?_
            refine g_isub dX8_powerOf_86 ?_
            refine g_iload dX8_powerOf_87 rfl ?_
            refine g_isub dX8_powerOf_89 ?_
            rw [h.2.1, hn1, pk_sub (by omega)]
            refine g_cS1i dX8_powerOf_90 ml_X8_29 mi_X8_ordersOf ms_X8_ordersOf (Nat.le_of_ble_eq_true rfl) rfl (by omega) ?_
            refine c_X8_ordersOf (by omega) hT (show n - 1 - popc i ≤ 6 by omega) ?_
            rw [vt_f_tab _ (by omega)]
            refine g_imul dX8_powerOf_93 ?_
            refine g_iadd dX8_powerOf_94 ?_
            refine g_istore_n dX8_powerOf_95 (Nat.le_of_ble_eq_true rfl) rfl ?_
            refine g_iinc dX8_powerOf_96 rfl rfl ?_
            refine g_goto (tgt := 14) dX8_powerOf_99 (by decide) ?_
            have hc : vt_come (w_a w a) n t i = true := by
              simp only [vt_come, Bool.and_eq_true, Bool.not_eq_true']
              exact ⟨⟨hco, e49⟩, e62⟩
            rw [nI_1', pk_mul, nI_add]
            have e : vt_wy (w_a w a) n t (i + 1) = vt_wy (w_a w a) n t i + vt_f (popc i) * vt_f (n - 1 - popc i) := by
              conv => lhs; unfold vt_wy
              rw [if_pos hc]
            rw [← e]
            exact ih (i + 1) (by omega) _ _ rfl
          · refine g_if_eq (tgt := 96) dX8_powerOf_65 (by decide) (fun _ => ?_) (fun q => absurd q (by decide))
            refine g_iinc dX8_powerOf_96 rfl rfl ?_
            refine g_goto (tgt := 14) dX8_powerOf_99 (by decide) ?_
            have hc : ¬ vt_come (w_a w a) n t i = true := by
              intro q
              simp only [vt_come, Bool.and_eq_true, Bool.not_eq_true'] at q
              rw [e62] at q
              cases q.2
            rw [nI_1']
            have e : vt_wy (w_a w a) n t (i + 1) = vt_wy (w_a w a) n t i := by
              conv => lhs; unfold vt_wy
              rw [if_neg hc]
            rw [← e]
            exact ih (i + 1) (by omega) _ _ rfl
set_option maxHeartbeats 4000000 in
theorem c_X8_powerOf {d : Nat} {w : gx_W} {r a n t : Nat} {p : Int32} {k : Int64 → gx_W → Prop} (hd : 3 ≤ d) (hT : isT w) (h : isCn w r a n) (ht : t < n) (kk : k ((nI ((if p = 0 then vt_wy (w_a w a) n t (2 ^ n) else vt_f n) / vt_sd (vt_wy (w_a w a) n t (2 ^ n)) (vt_f n) (vt_f n))).toInt64) w) : gx_C 0 0 d mX8_powerOf [.ref r, .int (nI t), .int p] w (Ql k) := by
  refine gx_C_of' (L := [.ref r, .int (nI t), .int p, .retAddr 0, .retAddr 0, .retAddr 0, .retAddr 0, .retAddr 0]) (by decide +kernel) rfl (Nat.le_of_ble_eq_true rfl) ?_
  have hb := h.2.2
  refine g_iconst (v := 0) dX8_powerOf_0 rfl ?_
  refine g_istore_n dX8_powerOf_1 (Nat.le_of_ble_eq_true rfl) rfl ?_
  refine g_aload_n dX8_powerOf_2 rfl ?_
  refine g_geti dX8_powerOf_3 fl_X8_9 h.1.1 ?_
  rw [h.2.1]
  refine g_cS1i dX8_powerOf_6 ml_X8_29 mi_X8_ordersOf ms_X8_ordersOf (Nat.le_of_ble_eq_true rfl) rfl (by omega) ?_
  refine c_X8_ordersOf (by omega) hT hb ?_
  rw [vt_f_tab _ hb]
  refine g_istore dX8_powerOf_9 (Nat.le_of_ble_eq_true rfl) rfl ?_
  refine g_iconst (v := 0) dX8_powerOf_11 rfl ?_
  refine g_istore dX8_powerOf_12 (Nat.le_of_ble_eq_true rfl) rfl ?_
  exact l_X8_powerOf hd hT h ht kk (2 ^ n) 0 (by omega) _ _ rfl

/-! The reference: its reader, letters and steps -/
def lk (g : Nat → Int32) (T p : Nat) : Int32 := if p < T then (g p).toInt8.toInt32 else -1
def prT (w : gx_W) (T : Nat) (g : Nat → Int32) : Prop := w_i w 57 14 = nI T ∧ T ≤ 120 ∧ ∀ j, j < T → w_a w 67 j = (g j).toInt8.toInt32 ∧ ∃ m, m < 256 ∧ g j = nI m
theorem lk_lo : ∀ m, m < 128 → (nI m).toInt8.toInt32 = nI m := by decide +kernel
theorem lk_hi : ∀ m, m < 256 → 128 ≤ m → (nI m).toInt8.toInt32 < 0 := by decide +kernel
/-- a letter is one for both, or for neither -/
theorem lk_cases {w : gx_W} {g : Nat → Int32} {T : Nat} (h : prT w T g) (p : Nat) : (∃ m, m < 128 ∧ p < T ∧ tp_h g T p = nI m ∧ lk g T p = nI m) ∨ (lk g T p < 0 ∧ (tp_h g T p = -1 ∨ ∃ m, m < 256 ∧ 128 ≤ m ∧ tp_h g T p = nI m)) := by
  unfold lk tp_h
  by_cases q : p < T
  · rw [if_pos q, if_pos q]
    obtain ⟨-, m, hm, e⟩ := h.2.2 p q
    rw [e]
    rcases Nat.lt_or_ge m 128 with y | y
    · exact Or.inl ⟨m, y, q, rfl, lk_lo m y⟩
    · exact Or.inr ⟨lk_hi m hm y, Or.inr ⟨m, hm, y, rfl⟩⟩
  · rw [if_neg q, if_neg q]
    exact Or.inr ⟨by decide, Or.inl rfl⟩
theorem lk_c {w : gx_W} {g : Nat → Int32} {T : Nat} (h : prT w T g) (p : Nat) {c : Nat} (hc : c < 128) : lk g T p = nI c ↔ tp_h g T p = nI c := by
  rcases lk_cases h p with ⟨m, -, -, e1, e2⟩ | ⟨e1, e2⟩
  · rw [e1, e2]
  · constructor
    · intro q; rw [q] at e1; exact absurd e1 (nI_pos (by omega))
    · intro q
      rcases e2 with e2 | ⟨m, h1, h2, e2⟩
      · rw [q] at e2
        have := congrArg Int32.toInt e2
        rw [nI_toInt (by omega), show (-1 : Int32).toInt = -1 by decide] at this
        omega
      · have := pI_inj (by omega) (by omega) (q.symm.trans e2)
        omega
theorem tp_dg_iff {s : Int32} : tp_dg s = true ↔ 48 ≤ s ∧ s ≤ 57 := by
  unfold tp_dg
  rw [Bool.and_eq_true, decide_eq_true_iff, decide_eq_true_iff]
theorem tp_dg_neg {s : Int32} (h : s < 0) : tp_dg s = false := by
  cases e : tp_dg s with
  | false => rfl
  | true => exact absurd h (Int32.not_lt.mpr (Int32.le_trans (by decide : (0 : Int32) ≤ 48) (tp_dg_iff.mp e).1))
theorem tp_dg_big {m : Nat} (h1 : 58 ≤ m) (h2 : m < 256) : tp_dg (nI m) = false := by
  cases e : tp_dg (nI m) with
  | false => rfl
  | true => exact absurd (tp_dg_iff.mp e).2 (nI_ge (b := m) (a := 57) (by omega) (by omega))
theorem lk_dg {w : gx_W} {g : Nat → Int32} {T : Nat} (h : prT w T g) (p : Nat) : tp_dg (lk g T p) = tp_dg (tp_h g T p) := by
  rcases lk_cases h p with ⟨m, -, -, e1, e2⟩ | ⟨e1, e2⟩
  · rw [e1, e2]
  · rw [tp_dg_neg e1]
    rcases e2 with e2 | ⟨m, h1, h2, e2⟩
    · rw [e2]; decide
    · rw [e2, tp_dg_big (by omega) h1]
theorem lk_val {w : gx_W} {g : Nat → Int32} {T : Nat} (h : prT w T g) (p : Nat) (hd : tp_dg (tp_h g T p) = true) : lk g T p = tp_h g T p := by
  rcases lk_cases h p with ⟨m, -, -, e1, e2⟩ | ⟨e1, e2⟩
  · rw [e1, e2]
  · exact absurd ((tp_dg_neg e1).symm.trans ((lk_dg h p).trans hd)) (by decide)
theorem tp_nm_c : ∀ m, m < 256 → 128 ≤ m → tp_nm (nI m) = -1 := by decide +kernel
theorem tp_nm_neg {s : Int32} (h : s < 0) : tp_nm s = -1 := by
  have n : ∀ c : Nat, c < 256 → ¬ s = nI c := fun c hc q => by rw [q] at h; exact absurd h (nI_pos (by omega))
  unfold tp_nm
  rw [if_neg (show ¬ s = 99 from n 99 (by decide)), if_neg (show ¬ s = 100 from n 100 (by decide)), if_neg (show ¬ s = 108 from n 108 (by decide)), if_neg (show ¬ s = 112 from n 112 (by decide)), if_neg (show ¬ s = 114 from n 114 (by decide)), if_neg (show ¬ s = 119 from n 119 (by decide))]
theorem lk_nm {w : gx_W} {g : Nat → Int32} {T : Nat} (h : prT w T g) (p : Nat) : tp_nm (lk g T p) = tp_nm (tp_h g T p) := by
  rcases lk_cases h p with ⟨m, -, -, e1, e2⟩ | ⟨e1, e2⟩
  · rw [e1, e2]
  · rw [tp_nm_neg e1]
    rcases e2 with e2 | ⟨m, h1, h2, e2⟩
    · rw [e2]; decide
    · rw [e2, tp_nm_c m h1 h2]
theorem prT.same {R : List Nat} {F : List (Nat × Nat)} {w w' : gx_W} {T : Nat} {g : Nat → Int32} (h : prT w T g) (hs : same R F w w') (h1 : (57, 14) ∉ F) (h2 : 67 ∉ R) : prT w' T g := ⟨(hs.2.1 57 14 h1).trans h.1, h.2.1, by rw [(hs.2.2.2.1 67 h2).1]; exact h.2.2⟩
abbrev prF : List (Nat × Nat) := [(57, 15), (57, 16), (57, 17), (57, 18)]
/-- the reader at p, with op open and N steps, and no fault -/
def prI (w : gx_W) (T : Nat) (g : Nat → Int32) (p op N : Nat) : Prop := moO w ∧ prT w T g ∧ w_i w 57 15 = nI p ∧ p ≤ T ∧ w_i w 57 16 = -1 ∧ w_i w 57 17 = nI op ∧ w_i w 57 18 = nI N
/-- it has gone on to p and added L -/
def prR (w w' : gx_W) (N p : Nat) (L : List stS) : Prop := same [68, 69] prF w w' ∧ w_i w' 57 15 = nI p ∧ w_i w' 57 16 = w_i w 57 16 ∧ w_i w' 57 17 = w_i w 57 17 ∧ w_i w' 57 18 = nI (N + L.length) ∧ w_a w' 68 = tp_row (w_a w 68) (130 + N) (L.map (fun s => (mpS s).1)) ∧ w_a w' 69 = tp_row (w_a w 69) (130 + N) (L.map (fun s => (mpS s).2))
theorem tp_row_lo : ∀ (l : List Int32) (g : Nat → Int32) (m j : Nat), j < m → tp_row g m l j = g j := by
  intro l
  induction l with
  | nil => intro g m j _; rfl
  | cons a l ih =>
    intro g m j hj
    show tp_row (va_up g m a) (m + 1) l j = _
    rw [ih _ _ _ (by omega), va_up_row (by omega)]
/-- the steps of the law that stands are kept -/
def lowK (w w' : gx_W) : Prop := ∀ j, j < 130 → w_a w' 68 j = w_a w 68 j ∧ w_a w' 69 j = w_a w 69 j
theorem lowK.tr {w w' w'' : gx_W} (h : lowK w w') (h' : lowK w' w'') : lowK w w'' := fun j hj => ⟨(h' j hj).1.trans (h j hj).1, (h' j hj).2.trans (h j hj).2⟩
theorem lowK.rf {w : gx_W} : lowK w w := fun _ _ => ⟨rfl, rfl⟩
theorem prR.low {w w' : gx_W} {N p : Nat} {L : List stS} (h : prR w w' N p L) : lowK w w' := fun j hj => ⟨by rw [h.2.2.2.2.2.1, tp_row_lo _ _ _ _ (by omega)], by rw [h.2.2.2.2.2.2, tp_row_lo _ _ _ _ (by omega)]⟩
/-- it has found a fault at F -/
def prB (w w' : gx_W) (p N F : Nat) : Prop := same [68, 69] prF w w' ∧ w_i w' 57 15 = nI F ∧ w_i w' 57 16 = nI F ∧ ∃ N', w_i w' 57 18 = nI N' ∧ N' + p ≤ F + 1 + N ∧ lowK w w'
theorem prR.tr {w w' w'' : gx_W} {N p p' : Nat} {L L' : List stS} (h : prR w w' N p L) (h' : prR w' w'' (N + L.length) p' L') : prR w w'' N p' (L ++ L') := by
  obtain ⟨a1, a2, a3, a4, a5, a6, a7⟩ := h
  obtain ⟨b1, b2, b3, b4, b5, b6, b7⟩ := h'
  refine ⟨a1.tr b1, b2, b3.trans a3, b4.trans a4, ?_, ?_, ?_⟩
  · rw [List.length_append, ← Nat.add_assoc]; exact b5
  · rw [List.map_append, tp_row_app, ← a6, List.length_map, Nat.add_assoc]; exact b6
  · rw [List.map_append, tp_row_app, ← a7, List.length_map, Nat.add_assoc]; exact b7
theorem prR.tr' {w w' w'' : gx_W} {N N' p p' : Nat} {L L' L'' : List stS} (h : prR w w' N p L) (h' : prR w' w'' N' p' L') (e : N' = N + L.length) (eL : L'' = L ++ L') : prR w w'' N p' L'' := by
  subst e
  subst eL
  exact h.tr h'
theorem prI.rf {w : gx_W} {T p op N : Nat} {g : Nat → Int32} (h : prI w T g p op N) : prR w w N p [] := ⟨same.rf, h.2.2.1, rfl, rfl, h.2.2.2.2.2.2, rfl, rfl⟩
theorem prI.go {w w' : gx_W} {T p op N p' : Nat} {g : Nat → Int32} {L : List stS} (h : prI w T g p op N) (r : prR w w' N p' L) (hp : p' ≤ T) : prI w' T g p' op (N + L.length) := by
  obtain ⟨h1, h2, h3, h4, h5, h6, h7⟩ := h
  obtain ⟨r1, r2, r3, r4, r5, -, -⟩ := r
  exact ⟨h1.same r1, h2.same r1 (by simp) (by simp), r2, hp, r3.trans h5, r4.trans h6, r5⟩
/-- the fault of a part is the fault of the whole -/
theorem prR.bad {w w' w'' : gx_W} {N p p' F : Nat} {L : List stS} (h : prR w w' N p' L) (h' : prB w' w'' p' (N + L.length) F) (hp : p + L.length ≤ p') : prB w w'' p N F := by
  obtain ⟨b1, b2, b3, N', b4, b5, b6⟩ := h'
  exact ⟨h.1.tr b1, b2, b3, N', b4, by omega, h.low.tr b6⟩
theorem prI.mv {w : gx_W} {T p op N : Nat} {g : Nat → Int32} (h : prI w T g p op N) : prR w (s_i w 57 15 (nI (p + 1))) N (p + 1) [] := ⟨same.rf.si (by simp), by rw [wi_si, if_pos ⟨rfl, rfl⟩], rfl, rfl, h.2.2.2.2.2.2, rfl, rfl⟩
theorem c_X10_look {d : Nat} {w : gx_W} {T p : Nat} {g : Nat → Int32} {k : Int32 → gx_W → Prop} (hd : 0 ≤ d) (h : moO w) (ht : prT w T g) (hp : w_i w 57 15 = nI p) (hpT : p ≤ T) (kk : k (lk g T p) w) : gx_C 0 0 d mX10_look [.ref 57] w (Qi k) := by
  refine gx_C_of' (L := [.ref 57]) (by decide +kernel) rfl (Nat.le_of_ble_eq_true rfl) ?_
  refine g_aload_n dX10_look_0 rfl ?_
  refine g_geti dX10_look_1 fl_X10_169 h.1 ?_
  refine g_aload_n dX10_look_4 rfl ?_
  refine g_geti dX10_look_5 fl_X10_166 h.1 ?_
  rw [hp, ht.1]
  have hT := ht.2.1
  refine g_icmp_ge (tgt := 23) dX10_look_8 (by decide) (fun zc8 => ?_) (fun zc8 => ?_)
  · refine g_iconst (v := -1) dX10_look_23 rfl ?_
    refine g_iret dX10_look_24 rfl ⟨_, rfl, ?_⟩
    rw [show lk g T p = -1 from if_neg (fun q => absurd zc8 (nI_ge q (by omega)))] at kk
    exact kk
  · refine g_aload_n dX10_look_11 rfl ?_
    refine g_getr dX10_look_12 fl_X10_39 h.1 (moR_67 h) ?_
    refine g_aload_n dX10_look_15 rfl ?_
    refine g_geti dX10_look_16 fl_X10_169 h.1 ?_
    rw [hp]
    refine g_bald dX10_look_19 (moA_67 h) (vp_in_nI (show p < 120 from by rcases Nat.lt_or_ge p T with q | q; omega; exact absurd (nI_le (a := T) q (by omega)) zc8) (by decide)) ?_
    rw [nI_n (by omega)]
    refine g_goto (tgt := 24) dX10_look_20 (by decide) ?_
    refine g_iret dX10_look_24 rfl ⟨_, rfl, ?_⟩
    have hlt : p < T := by rcases Nat.lt_or_ge p T with q | q; exact q; exact absurd (nI_le (a := T) q (by omega)) zc8
    rw [(ht.2.2 p hlt).1]
    rw [show lk g T p = (g p).toInt8.toInt32 from if_pos hlt] at kk
    exact kk
theorem c_X10_wrong {d : Nat} {w : gx_W} {p : Nat} {k : gx_W → Prop} (hd : 0 ≤ d) (h : moO w) (hf : w_i w 57 16 = -1) (hp : w_i w 57 15 = nI p) (kk : k (s_i w 57 16 (nI p))) : gx_C 0 0 d mX10_wrong [.ref 57] w (Qv k) := by
  refine gx_C_of' (L := [.ref 57]) (by decide +kernel) rfl (Nat.le_of_ble_eq_true rfl) ?_
  refine g_aload_n dX10_wrong_0 rfl ?_
  refine g_geti dX10_wrong_1 fl_X10_172 h.1 ?_
  rw [hf]
  refine g_if_ge (tgt := 15) dX10_wrong_4 (by decide) (fun zc4 => ?_) (fun zc4 => ?_)
  · exact absurd zc4 (by decide)
  · refine g_aload_n dX10_wrong_7 rfl ?_
    refine g_aload_n dX10_wrong_8 rfl ?_
    refine g_geti dX10_wrong_9 fl_X10_169 h.1 ?_
    rw [hp]
    refine g_puti dX10_wrong_12 fl_X10_172 ft_10_16 h.1 ?_
    refine g_vret dX10_wrong_15 rfl ⟨rfl, ?_⟩
    exact kk
def adW (w : gx_W) (N : Nat) (a v : Int32) : gx_W := s_i (s_a (s_a w 68 (va_up (w_a w 68) (130 + N) a)) 69 (va_up (w_a w 69) (130 + N) v)) 57 18 (nI (N + 1))
theorem ad_130 (N : Nat) : (130 : Int32) + nI N = nI (130 + N) := nI_add 130 N
theorem ad_nar : ∀ m, m < 128 → vp_nar .byte (nI m).toInt8.toInt32 = nI m := by decide +kernel
theorem c_X10_addStep {d : Nat} {w : gx_W} {N c : Nat} {v : Int32} {k : gx_W → Prop} (hd : 0 ≤ d) (h : moO w) (hN : w_i w 57 18 = nI N) (hN2 : N < 130) (hc : c < 128) (kk : k (adW w N (nI c) v)) : gx_C 0 0 d mX10_addStep [.ref 57, .int (nI c), .int v] w (Qv k) := by
  refine gx_C_of' (L := [.ref 57, .int (nI c), .int v]) (by decide +kernel) rfl (Nat.le_of_ble_eq_true rfl) ?_
  refine g_aload_n dX10_addStep_0 rfl ?_
  refine g_getr dX10_addStep_1 fl_X10_43 h.1 (moR_68 h) ?_
  refine g_sipush (v := 130) dX10_addStep_4 rfl ?_
  refine g_aload_n dX10_addStep_7 rfl ?_
  refine g_geti dX10_addStep_8 fl_X10_175 h.1 ?_
  rw [hN]
  refine g_iadd dX10_addStep_11 ?_
  rw [ad_130]
  refine g_iload_n dX10_addStep_12 rfl ?_
  refine g_i2b dX10_addStep_13 ?_
  refine g_bast dX10_addStep_14 (moA_68 h) (vp_in_nI (by omega) (by decide)) ?_
  rw [nI_n (show 130 + N < 2 ^ 31 by omega), ad_nar c hc]
  refine g_aload_n dX10_addStep_15 rfl ?_
  refine g_getr dX10_addStep_16 fl_X10_46 h.1 (moR_69 h) ?_
  refine g_sipush (v := 130) dX10_addStep_19 rfl ?_
  refine g_aload_n dX10_addStep_22 rfl ?_
  refine g_geti dX10_addStep_23 fl_X10_175 h.1 ?_
  rw [show w_i (s_a w 68 (va_up (w_a w 68) (130 + N) (nI c))) 57 18 = nI N from hN]
  refine g_iadd dX10_addStep_26 ?_
  rw [ad_130]
  refine g_iload_n dX10_addStep_27 rfl ?_
  refine g_iast dX10_addStep_28 (moA_69 h) (vp_in_nI (by omega) (by decide)) ?_
  rw [nI_n (show 130 + N < 2 ^ 31 by omega)]
  refine g_aload_n dX10_addStep_29 rfl ?_
  refine g_dup dX10_addStep_30 rfl ?_
  refine g_geti dX10_addStep_31 fl_X10_175 h.1 ?_
  refine g_iconst (v := 1) dX10_addStep_34 rfl ?_
  refine g_iadd dX10_addStep_35 ?_
  refine g_puti dX10_addStep_36 fl_X10_175 ft_10_18 h.1 ?_
  refine g_vret dX10_addStep_39 rfl ⟨rfl, ?_⟩
  have e : w_i (s_a (s_a w 68 (va_up (w_a w 68) (130 + N) (nI c))) 69 (va_up (w_a (s_a w 68 (va_up (w_a w 68) (130 + N) (nI c))) 69) (130 + N) v)) 57 18 + 1 = nI (N + 1) := by rw [show w_i (s_a (s_a w 68 (va_up (w_a w 68) (130 + N) (nI c))) 69 (va_up (w_a (s_a w 68 (va_up (w_a w 68) (130 + N) (nI c))) 69) (130 + N) v)) 57 18 = nI N from hN, nI_1]
  rw [e]
  exact kk
theorem c_X10_nameOf {d : Nat} {w : gx_W} {s : Int32} {k : Int32 → gx_W → Prop} (hd : 0 ≤ d) (kk : k (tp_nm s) w) : gx_C 0 0 d mX10_nameOf [.int s] w (Qi k) := by
  refine gx_C_of' (L := [.int s]) (by decide +kernel) rfl (Nat.le_of_ble_eq_true rfl) ?_
  refine g_iload_n dX10_nameOf_0 rfl ?_
  by_cases s1_0 : s = 99
  · refine g_lookup (off := 67) (tgt := 68) dX10_nameOf_1 (by decide) (by rw [s1_0]; rfl) (by decide) ?_
    refine g_iconst (v := 4) dX10_nameOf_68 rfl ?_
    refine g_iret dX10_nameOf_69 rfl ⟨_, rfl, ?_⟩
    rw [s1_0] at kk; exact kk
  by_cases s1_1 : s = 100
  · refine g_lookup (off := 63) (tgt := 64) dX10_nameOf_1 (by decide) (by rw [s1_1]; rfl) (by decide) ?_
    refine g_iconst (v := 2) dX10_nameOf_64 rfl ?_
    refine g_iret dX10_nameOf_65 rfl ⟨_, rfl, ?_⟩
    rw [s1_1] at kk; exact kk
  by_cases s1_2 : s = 108
  · refine g_lookup (off := 59) (tgt := 60) dX10_nameOf_1 (by decide) (by rw [s1_2]; rfl) (by decide) ?_
    refine g_iconst (v := 0) dX10_nameOf_60 rfl ?_
    refine g_iret dX10_nameOf_61 rfl ⟨_, rfl, ?_⟩
    rw [s1_2] at kk; exact kk
  by_cases s1_3 : s = 112
  · refine g_lookup (off := 65) (tgt := 66) dX10_nameOf_1 (by decide) (by rw [s1_3]; rfl) (by decide) ?_
    refine g_iconst (v := 3) dX10_nameOf_66 rfl ?_
    refine g_iret dX10_nameOf_67 rfl ⟨_, rfl, ?_⟩
    rw [s1_3] at kk; exact kk
  by_cases s1_4 : s = 114
  · refine g_lookup (off := 69) (tgt := 70) dX10_nameOf_1 (by decide) (by rw [s1_4]; rfl) (by decide) ?_
    refine g_iconst (v := 5) dX10_nameOf_70 rfl ?_
    refine g_iret dX10_nameOf_71 rfl ⟨_, rfl, ?_⟩
    rw [s1_4] at kk; exact kk
  by_cases s1_5 : s = 119
  · refine g_lookup (off := 61) (tgt := 62) dX10_nameOf_1 (by decide) (by rw [s1_5]; rfl) (by decide) ?_
    refine g_iconst (v := 1) dX10_nameOf_62 rfl ?_
    refine g_iret dX10_nameOf_63 rfl ⟨_, rfl, ?_⟩
    rw [s1_5] at kk; exact kk
  refine g_lookup (off := 71) (tgt := 72) dX10_nameOf_1 (by decide) (by
      show Op.lookupswitch.offset [(99, 67), (100, 63), (108, 59), (112, 65), (114, 69), (119, 61)] (71) _ = _
      rw [lv_osw s1_0 (by decide), lv_osw s1_1 (by decide), lv_osw s1_2 (by decide), lv_osw s1_3 (by decide), lv_osw s1_4 (by decide), lv_osw s1_5 (by decide)]
      rfl) (by decide) ?_
  refine g_iconst (v := -1) dX10_nameOf_72 rfl ?_
  refine g_iret dX10_nameOf_73 rfl ⟨_, rfl, ?_⟩
  unfold tp_nm at kk; rw [if_neg s1_0, if_neg s1_1, if_neg s1_2, if_neg s1_3, if_neg s1_4, if_neg s1_5] at kk; exact kk
theorem c_X10_opens {d : Nat} {w : gx_W} {T p op N : Nat} {g : Nat → Int32} {k : Int32 → gx_W → Prop} (hd : 1 ≤ d) (h : prI w T g p op N) (hop : op ≤ 6) (k1 : op = 6 → k 0 (s_i w 57 16 (nI p))) (k2 : op < 6 → k 1 (s_i (s_i w 57 17 (nI (op + 1))) 57 15 (nI (p + 1)))) : gx_C 0 0 d mX10_opens [.ref 57] w (Qi k) := by
  refine gx_C_of' (L := [.ref 57]) (by decide +kernel) rfl (Nat.le_of_ble_eq_true rfl) ?_
  refine g_aload_n dX10_opens_0 rfl ?_
  refine g_geti dX10_opens_1 fl_X10_178 h.1.1 ?_
  refine g_bipush (v := 6) dX10_opens_4 rfl ?_
  rw [h.2.2.2.2.2.1]
  refine g_icmp_ne (tgt := 15) dX10_opens_6 (by decide) (fun zc6 => ?_) (fun zc6 => ?_)
  · refine g_aload_n dX10_opens_15 rfl ?_
    refine g_dup dX10_opens_16 rfl ?_
    refine g_geti dX10_opens_17 fl_X10_178 h.1.1 ?_
    rw [h.2.2.2.2.2.1]
    refine g_iconst (v := 1) dX10_opens_20 rfl ?_
    refine g_iadd dX10_opens_21 ?_
    rw [nI_1]
    refine g_puti dX10_opens_22 fl_X10_178 ft_10_17 h.1.1 ?_
    refine g_aload_n dX10_opens_25 rfl ?_
    refine g_dup dX10_opens_26 rfl ?_
    refine g_geti dX10_opens_27 fl_X10_169 h.1.1 ?_
    rw [show w_i (s_i w 57 17 (nI (op + 1))) 57 15 = nI p from h.2.2.1]
    refine g_iconst (v := 1) dX10_opens_30 rfl ?_
    refine g_iadd dX10_opens_31 ?_
    rw [nI_1]
    refine g_puti dX10_opens_32 fl_X10_169 ft_10_15 h.1.1 ?_
    refine g_iconst (v := 1) dX10_opens_35 rfl ?_
    refine g_zret dX10_opens_36 rfl (Or.inr rfl) ⟨_, rfl, ?_⟩
    exact k2 (Nat.lt_of_le_of_ne hop (fun z => zc6 (by rw [z]; rfl)))
  · refine g_aload_n dX10_opens_9 rfl ?_
    refine g_cV0v dX10_opens_10 ml_X10_181 mi_X10_wrong mv_X10_wrong h.1.1 ⟨_, rfl, rfl⟩ (Nat.le_of_ble_eq_true rfl) rfl (by omega) ?_
    refine c_X10_wrong (by omega) h.1 h.2.2.2.2.1 h.2.2.1 ?_
    refine g_iconst (v := 0) dX10_opens_13 rfl ?_
    refine g_zret dX10_opens_14 rfl (Or.inl rfl) ⟨_, rfl, ?_⟩
    exact k1 (pI_inj (a := op) (b := 6) (by omega) (by decide) zc6)

/-! CrossroadsChoose: reaches, ahead -/
abbrev AR : List Nat := [40, 41, 42, 44, 30, 31, 35, 36, 22, 24, 25, 26]
def ahS (w w' : gx_W) (n l N : Nat) (f : Nat → Int32) : Prop := sam AR TG [(43, 2)] w w' ∧ thO w' ∧ isCk w' 43 44 n l N ∧ ∀ j, j < 28 → w_a w' 44 j = f j
theorem isCk_sm {R : List Nat} {F : List (Nat × Nat)} {w w' : gx_W} {r a n l N : Nat} (h : isCk w r a n l N) (hs : same R F w w') (h1 : (r, 1) ∉ F) (h2 : (l, 4) ∉ F) : isCk w' r a n l N := by
  obtain ⟨⟨g1, g2, g3, g4, g5, g6, g7, g8, g9⟩, hl⟩ := h
  exact ⟨⟨g1.same hs h1, by rw [hs.2.2.1]; exact g2, g3.same hs, by rw [hs.2.1 l 4 h2]; exact g4, g5, g6, g7, g8, g9⟩, hl⟩
theorem ahS.go {w w1 w2 : gx_W} {n l N : Nat} {f f2 : Nat → Int32} (h : ahS w w1 n l N f) (h2 : thF w1 w2 n l N f2) : ahS w w2 n l N f2 := ⟨h.1.tr (h2.1.wk (by simp) (fun _ z => z) (fun _ z => z)), h2.2.1, h2.2.2.1, h2.2.2.2⟩
theorem ahS.F {w w1 : gx_W} {n l N : Nat} {f : Nat → Int32} (h : ahS w w1 n l N f) : thF w1 w1 n l N f := ⟨sam.rf, h.2.1, h.2.2.1, h.2.2.2⟩
theorem ahS.rows {w w1 : gx_W} {n l N : Nat} {f : Nat → Int32} (h : ahS w w1 n l N f) : w_a w1 (l + 1) = w_a w (l + 1) ∧ w_a w1 (l + 2) = w_a w (l + 2) := by
  have hl := h.2.2.1.2
  exact ⟨(h.1.2.2.2.1 _ (by rcases hl with rfl | rfl <;> decide)).1, (h.1.2.2.2.1 _ (by rcases hl with rfl | rfl <;> decide)).1⟩
theorem ahS.sa {w w1 : gx_W} {n l N r : Nat} {f f' g : Nat → Int32} (h : ahS w w1 n l N f) (hr : r ∈ AR) (hg : ∀ j, j < 28 → w_a (s_a w1 r g) 44 j = f' j) : ahS w (s_a w1 r g) n l N f' := by
  have hs : same [r] [] w1 (s_a w1 r g) := same.rf.sa (by simp)
  exact ⟨h.1.sa hr, h.2.1.same hs, isCk_sm h.2.2.1 hs (by simp) (by simp), hg⟩
theorem clO_ah {w w' : gx_W} (h : clO w) (hs : sam AR TG [(43, 2)] w w') : clO w' := h.sam hs (by simp) (by simp) (by intro i hi; simp)
theorem c_haverA {d n l N c : Nat} {w w1 : gx_W} {f : Nat → Int32} {k : Int32 → gx_W → Prop} (hd : 5 ≤ d) (h : ahS w w1 n l N f) (hc : c < 100) (kk : ∀ w', sam TR TG [(43, 2)] w1 w' → ahS w w' n l N f → k (cr_has N (w_a w (l + 1)) (w_a w (l + 2)) f n c) w') : gx_C 0 0 d mX2_haver [.ref 43, .int (nI c)] w1 (Qi k) := by
  refine c_haverF hd h.F hc (fun w' I => ?_)
  rw [h.rows.1, h.rows.2]
  exact kk w' I.1 (h.go I)
/-- the comers ahead, from the comer c on: rc tells of what follows -/
def me_rl (H : Nat → Int32) (rc : Int32 → Option (List Nat)) (all : Int32) : Nat → Nat → Int32 → Option (List Nat)
  | 0, _, _ => none
  | z + 1, c, tr => if tr = all then none else if H c < 0 ∨ cr_out tr (H c).toNatClampNeg = true then me_rl H rc all z (c + 1) tr else match rc (H c) with
    | some l => some (c :: l)
    | none => me_rl H rc all z (c + 1) (tr ||| (1 <<< (H c &&& 31)))
def me_re (N : Nat) (sg va : Nat → Int32) (n c q : Nat) : Nat → (Nat → Int32) → Option (List Nat)
  | 0, f => if cr_has N sg va f n c = nI q then some [] else none
  | z + 1, f => me_rl (cr_has N sg va f n) (fun r => me_re N sg va n c q z (cr_set f n r.toNatClampNeg)) (nI (2 ^ n - 1)) 100 0 0
/-- rows that a turn at place s keeps -/
def ahK (s : Nat) (w w' : gx_W) : Prop := (∀ j, j < s → w_a w' 22 j = w_a w 22 j) ∧ ∀ j, j < s → w_a w' (24 + j) = w_a w (24 + j)
theorem ahK.tr {s : Nat} {w w' w'' : gx_W} (h : ahK s w w') (h' : ahK s w' w'') : ahK s w w'' := ⟨fun j hj => (h'.1 j hj).trans (h.1 j hj), fun j hj => (h'.2 j hj).trans (h.2 j hj)⟩
theorem ahK.th {s : Nat} {w w' : gx_W} (hs : s ≤ 3) (h : sam TR TG [(43, 2)] w w') : ahK s w w' := ⟨fun j _ => by rw [(h.2.2.2.1 22 (by decide)).1], fun j hj => (h.2.2.2.1 (24 + j) (by simp; omega)).1⟩
def ahC (w : gx_W) (n l N c q z : Nat) : Prop := ∀ (s d : Nat) (f : Nat → Int32) (w1 : gx_W) (k : Int32 → gx_W → Prop), s + z ≤ 3 → 6 + z ≤ d → ahS w w1 n l N f → (∀ l', me_re N (w_a w (l + 1)) (w_a w (l + 2)) n c q z f = some l' → ∀ w' f', ahS w w' n l N f' → ahK s w1 w' → (∀ j v, l'[j]? = some v → w_a w' 22 (s + j) = nI v) → k 1 w') → (me_re N (w_a w (l + 1)) (w_a w (l + 2)) n c q z f = none → ∀ w', ahS w w' n l N f → ahK s w1 w' → k 0 w') → gx_C 0 0 d mX9_reaches [.ref 6, .int (nI (100 * q + c)), .int (nI s), .int (nI z)] w1 (Qi k)
theorem ah_rem {q c : Nat} (hq : q < 6) (hc : c < 100) : nI (100 * q + c) - nI (100 * q + c) / 100 * 100 = nI c := by
  rw [show (100 : Int32) = nI 100 from rfl, pk_rem (by omega) (by decide) (by decide), show (100 * q + c) % 100 = c by omega]
theorem ah_div {q c : Nat} (hq : q < 6) (hc : c < 100) : nI (100 * q + c) / 100 = nI q := by
  rw [show (100 : Int32) = nI 100 from rfl, pk_div (by omega) (by decide) (by decide), show (100 * q + c) / 100 = q by omega]
set_option maxHeartbeats 4000000 in
theorem l_X9_reaches0 {n l N c q : Nat} {w : gx_W} (hT : isT w) (h : clO w) (hn : n ≤ 6) (hq : q < n) (hc : c < 100) : ahC w n l N c q 0 := by
  intro s d f w1 k hsz hd hI kt kf
  refine gx_C_of' (L := [.ref 6, .int (nI (100 * q + c)), .int (nI s), .int (nI 0), .retAddr 0, .retAddr 0, .retAddr 0, .retAddr 0, .retAddr 0]) (by decide +kernel) rfl (Nat.le_of_ble_eq_true rfl) ?_
  refine g_aload_n dX9_reaches_0 rfl ?_
  refine g_getr dX9_reaches_1 fl_X9_74 (clO_ah h hI.1).1 (clO_ah h hI.1).2.1.2.1 ?_
  refine g_getr dX9_reaches_4 fl_X9_165 hI.2.1.1 hI.2.1.2.1 ?_
  refine g_astore dX9_reaches_7 (Nat.le_of_ble_eq_true rfl) rfl ?_
  refine g_iload_n dX9_reaches_9 rfl ?_
  refine g_if_le (tgt := 22) dX9_reaches_10 (by decide) (fun zc10 => ?_) (fun zc10 => ?_)
  · refine g_aload dX9_reaches_22 rfl ?_
    refine g_iload_n dX9_reaches_24 rfl ?_
    refine g_bipush (v := 100) dX9_reaches_25 rfl ?_
    refine g_irem dX9_reaches_27 (by first | assumption | decide) ?_
    rw [ah_rem (by omega) hc]
    refine g_cV1i dX9_reaches_28 ml_X9_151 mi_X2_haver mv_X2_haver hI.2.2.1.1.1.1.1 ⟨_, rfl, rfl⟩ (Nat.le_of_ble_eq_true rfl) rfl (by omega) ?_
    refine c_haverA (by omega) hI hc (fun w2 hs2 I2 => ?_)
    refine g_iload_n dX9_reaches_31 rfl ?_
    refine g_bipush (v := 100) dX9_reaches_32 rfl ?_
    refine g_idiv dX9_reaches_34 (by first | assumption | decide) ?_
    rw [ah_div (by omega) hc]
    refine g_icmp_ne (tgt := 42) dX9_reaches_35 (by decide) (fun zc35 => ?_) (fun zc35 => ?_)
    · refine g_iconst (v := 0) dX9_reaches_42 rfl ?_
      refine g_zret dX9_reaches_43 rfl (Or.inl rfl) ⟨_, rfl, ?_⟩
      exact kf (if_neg (by simpa using zc35)) w2 I2 (ahK.th (by omega) hs2)
    · refine g_iconst (v := 1) dX9_reaches_38 rfl ?_
      refine g_goto (tgt := 43) dX9_reaches_39 (by decide) ?_
      refine g_zret dX9_reaches_43 rfl (Or.inr rfl) ⟨_, rfl, ?_⟩
      exact kt [] (if_pos (by simpa using zc35)) w2 _ I2 (ahK.th (by omega) hs2) (fun j v hv => by simp at hv)
  · exact absurd (show ¬ nI 0 > 0 from by decide) (fun z => z (by simpa using zc10))
theorem ah_back {w w1 : gx_W} {n l N s t : Nat} {f : Nat → Int32} (hn : n ≤ 6) (h : ahS w w1 n l N (cr_set f n t)) (hs : s < 3) (hr : ∀ j, j < 6 → w_a w1 (24 + s) j = f (18 + j)) : ahS w (s_a w1 44 (va_cpy (w_a w1 (24 + s)) (w_a w1 44) 0 18 n)) n l N f := by
  refine h.sa (by simp) (fun j hj => ?_)
  rw [wa_sa, if_pos rfl]
  by_cases q : 18 ≤ j ∧ j < 18 + n
  · rw [pk_cpy_in q.1 q.2, hr _ (by omega), show 18 + (0 + (j - 18)) = j by omega]
  · rw [pk_cpy_out (by omega), h.2.2.2 j hj]
    exact if_neg q
set_option maxHeartbeats 4000000 in
theorem l_X9_reaches {n l N c q : Nat} {w : gx_W} (hT : isT w) (h : clO w) (hn : n ≤ 6) (hq : q < n) (hc : c < 100) {z s d : Nat} {f : Nat → Int32} {w1 : gx_W} {k : Int32 → gx_W → Prop} (IH : ahC w n l N c q z) (hsz : s + (z + 1) ≤ 3) (hd : 7 + z ≤ d) : ∀ (y co : Nat) (tr : Int32) (x8 : Value) (w2 : gx_W), co + y = 100 → ahS w w2 n l N f → ahK s w1 w2 → (∀ j, j < 6 → w_a w2 (24 + s) j = f (18 + j)) → (∀ l', me_rl (cr_has N (w_a w (l + 1)) (w_a w (l + 2)) f n) (fun r => me_re N (w_a w (l + 1)) (w_a w (l + 2)) n c q z (cr_set f n r.toNatClampNeg)) (nI (2 ^ n - 1)) y co tr = some l' → ∀ w' f', ahS w w' n l N f' → ahK s w1 w' → (∀ j v, l'[j]? = some v → w_a w' 22 (s + j) = nI v) → k 1 w') → (me_rl (cr_has N (w_a w (l + 1)) (w_a w (l + 2)) f n) (fun r => me_re N (w_a w (l + 1)) (w_a w (l + 2)) n c q z (cr_set f n r.toNatClampNeg)) (nI (2 ^ n - 1)) y co tr = none → ∀ w', ahS w w' n l N f → ahK s w1 w' → k 0 w') → gx_G 0 0 d mX9_reaches (Qi k) 72 [.ref 6, .int (nI (100 * q + c)), .int (nI s), .int (nI (z + 1)), .ref 43, .int tr, .int (nI (2 ^ n - 1)), .int (nI co), x8] [] w2 := by
  intro y
  induction y with
  | zero =>
    intro co tr x8 w2 hj hI hK hr kt kf
    have e : co = 100 := by omega
    subst e
    refine g_iload dX9_reaches_72 rfl ?_
    refine g_bipush (v := 100) dX9_reaches_74 rfl ?_
    refine g_icmp_ge (tgt := 175) dX9_reaches_76 (by decide) (fun zc76 => ?_) (fun zc76 => ?_)
    · refine g_iconst (v := 0) dX9_reaches_175 rfl ?_
      refine g_zret dX9_reaches_176 rfl (Or.inl rfl) ⟨_, rfl, ?_⟩
      exact kf rfl w2 hI hK
    · exact absurd (by decide) zc76
  | succ y ih =>
    intro co tr x8 w2 hj hI hK hr kt kf
    refine g_iload dX9_reaches_72 rfl ?_
    refine g_bipush (v := 100) dX9_reaches_74 rfl ?_
    refine g_icmp_ge (tgt := 175) dX9_reaches_76 (by decide) (fun zc76 => ?_) (fun zc76 => ?_)
    · refine g_iconst (v := 0) dX9_reaches_175 rfl ?_
      refine g_zret dX9_reaches_176 rfl (Or.inl rfl) ⟨_, rfl, ?_⟩
      exact absurd zc76 (nI_ge (b := 100) (by omega) (by decide))
    · refine g_iload dX9_reaches_79 rfl ?_
      refine g_iload dX9_reaches_81 rfl ?_
      refine g_icmp_eq (tgt := 175) dX9_reaches_83 (by decide) (fun zc83 => ?_) (fun zc83 => ?_)
      · refine g_iconst (v := 0) dX9_reaches_175 rfl ?_
        refine g_zret dX9_reaches_176 rfl (Or.inl rfl) ⟨_, rfl, ?_⟩
        exact kf (show (if _ then _ else _) = _ from if_pos zc83) w2 hI hK
      · refine g_aload dX9_reaches_86 rfl ?_
        refine g_iload dX9_reaches_88 rfl ?_
        refine g_cV1i dX9_reaches_90 ml_X9_151 mi_X2_haver mv_X2_haver hI.2.2.1.1.1.1.1 ⟨_, rfl, rfl⟩ (Nat.le_of_ble_eq_true rfl) rfl (by omega) ?_
        refine c_haverA (by omega) hI (by omega) (fun w3 hs3 I3 => ?_)
        refine g_istore dX9_reaches_93 (Nat.le_of_ble_eq_true rfl) rfl ?_
        refine g_iload dX9_reaches_95 rfl ?_
        refine g_if_lt (tgt := 169) dX9_reaches_97 (by decide) (fun zc97 => ?_) (fun zc97 => ?_)
        · refine g_iinc dX9_reaches_169 rfl rfl ?_
          refine g_goto (tgt := 72) dX9_reaches_172 (by decide) ?_
          have es : me_rl (cr_has N (w_a w (l + 1)) (w_a w (l + 2)) f n) (fun r => me_re N (w_a w (l + 1)) (w_a w (l + 2)) n c q z (cr_set f n r.toNatClampNeg)) (nI (2 ^ n - 1)) (y + 1) co tr = me_rl (cr_has N (w_a w (l + 1)) (w_a w (l + 2)) f n) (fun r => me_re N (w_a w (l + 1)) (w_a w (l + 2)) n c q z (cr_set f n r.toNatClampNeg)) (nI (2 ^ n - 1)) y (co + 1) tr := by
            show (if _ then _ else if _ then _ else _) = _
            rw [if_neg zc83, if_pos (Or.inl zc97)]
          rw [es] at kt kf
          rw [nI_1']
          exact ih (co + 1) tr _ w3 (by omega) I3 (hK.tr (ahK.th (by omega) hs3)) (fun j hj => by rw [(hs3.2.2.2.1 (24 + s) (by simp; omega)).1]; exact hr j hj) kt kf
        · obtain ⟨t, ht, et⟩ : ∃ t, t < n ∧ (cr_has N (w_a w (l + 1)) (w_a w (l + 2)) f n co) = nI t := by
            rcases cr_has_cases (N := N) (sg := w_a w (l + 1)) (va := w_a w (l + 2)) (f := f) (c := co) hn with z3 | z3
            · rw [z3] at zc97; exact absurd zc97 (by decide)
            · exact z3
          rw [et]
          refine g_iload dX9_reaches_100 rfl ?_
          refine g_iload dX9_reaches_102 rfl ?_
          refine g_ishr dX9_reaches_104 ?_
          refine g_iconst (v := 1) dX9_reaches_105 rfl ?_
          refine g_iand dX9_reaches_106 ?_
          refine g_if_eq (tgt := 113) dX9_reaches_107 (by decide) (fun zc107 => ?_) (fun zc107 => ?_)
          · have hno : ¬ ((cr_has N (w_a w (l + 1)) (w_a w (l + 2)) f n co) < 0 ∨ cr_out tr (cr_has N (w_a w (l + 1)) (w_a w (l + 2)) f n co).toNatClampNeg = true) := by
              rintro (z4 | z4)
              · exact zc97 z4
              · rw [et, nI_n (by omega)] at z4
                have := of_decide_eq_true z4
                exact this (by simpa using zc107)
            refine g_iload dX9_reaches_113 rfl ?_
            refine g_iconst (v := 1) dX9_reaches_115 rfl ?_
            refine g_iload dX9_reaches_116 rfl ?_
            refine g_ishl dX9_reaches_118 ?_
            refine g_ior dX9_reaches_119 ?_
            refine g_istore dX9_reaches_120 (Nat.le_of_ble_eq_true rfl) rfl ?_
            refine g_aload_n dX9_reaches_122 rfl ?_
            refine g_getr dX9_reaches_123 fl_X9_47 (clO_ah h I3.1).1 (clO_ah h I3.1).2.2.2.2.1.1 ?_
            refine g_iload_n dX9_reaches_126 rfl ?_
            refine g_iload dX9_reaches_127 rfl ?_
            refine g_iast dX9_reaches_129 (clO_ah h I3.1).2.2.2.2.1.2 (vp_in_nI (by omega) (by decide)) ?_
            rw [nI_n (show s < 2 ^ 31 by omega)]
            have I3b : ahS w (s_a w3 22 (va_up (w_a w3 22) s (nI co))) n l N f := I3.sa (by simp) (fun j hj => by rw [wa_sa, if_neg (by decide)]; exact I3.2.2.2 j hj)
            have hcr := I3b.2.2.1.1.1
            refine g_aload dX9_reaches_130 rfl ?_
            refine g_iload dX9_reaches_132 rfl ?_
            refine g_cV1v dX9_reaches_134 ml_X9_199 mi_X2_settle mv_X2_settle I3.2.2.1.1.1.1.1 ⟨_, rfl, rfl⟩ (Nat.le_of_ble_eq_true rfl) rfl (by omega) ?_
            refine c_X2_settle (by omega) (hT.sam I3b.1 (by simp)) hcr ht ?_
            have I4 : ahS w (s_a (s_a w3 22 (va_up (w_a w3 22) s (nI co))) 44 (cr_set (w_a (s_a w3 22 (va_up (w_a w3 22) s (nI co))) 44) n t)) n l N (cr_set f n t) := I3b.sa (by simp) (fun j hj => by
              rw [wa_sa, if_pos rfl]
              have e44 := I3b.2.2.2
              show (if 18 ≤ j ∧ j < 18 + n then (if j - 18 = t then 0 else if w_a (s_a w3 22 (va_up (w_a w3 22) s (nI co))) 44 j + 1 > 99 then 99 else w_a (s_a w3 22 (va_up (w_a w3 22) s (nI co))) 44 j + 1) else w_a (s_a w3 22 (va_up (w_a w3 22) s (nI co))) 44 j) = _
              rw [e44 j hj]
              rfl)
            refine g_aload_n dX9_reaches_137 rfl ?_
            refine g_iload_n dX9_reaches_138 rfl ?_
            refine g_iload_n dX9_reaches_139 rfl ?_
            refine g_iconst (v := 1) dX9_reaches_140 rfl ?_
            refine g_iadd dX9_reaches_141 ?_
            refine g_iload_n dX9_reaches_142 rfl ?_
            refine g_iconst (v := 1) dX9_reaches_143 rfl ?_
            refine g_isub dX9_reaches_144 ?_
            rw [nI_1, nI_pred]
            refine g_cV3i dX9_reaches_145 ml_X9_188 mi_X9_reaches mv_X9_reaches (clO_ah h I4.1).1 ⟨_, rfl, rfl⟩ (Nat.le_of_ble_eq_true rfl) rfl (by omega) ?_
            refine IH (s + 1) (d - 1) (cr_set f n t) _ _ (by omega) (by omega) I4 (fun l' hsome w5 f5 I5 hK6 hl5 => ?_) (fun hnone w5 I5 hK6 => ?_)
            · have hK5 : ahK s w1 w5 := (hK.tr (ahK.th (by omega) hs3)).tr ⟨fun j hj => by rw [hK6.1 j (by omega), wa_sa, if_neg (by decide), wa_sa, if_pos rfl, up_at, if_neg (by omega)], fun j hj => by rw [hK6.2 j (by omega), wa_sa, if_neg (by omega), wa_sa, if_neg (by omega)]⟩
              have h22 : w_a w5 22 s = nI co := by rw [hK6.1 s (by omega), wa_sa, if_neg (by decide), wa_sa, if_pos rfl, up_at, if_pos rfl]
              have hr5 : ∀ j, j < 6 → w_a w5 (24 + s) j = f (18 + j) := fun j hj => by rw [hK6.2 s (by omega), wa_sa, if_neg (by omega), wa_sa, if_neg (by omega), (hs3.2.2.2.1 (24 + s) (by simp; omega)).1]; exact hr j hj
              refine g_if_eq (tgt := 153) dX9_reaches_148 (by decide) (fun q => absurd q (by decide)) (fun _ => ?_)
              refine g_iconst (v := 1) dX9_reaches_151 rfl ?_
              refine g_zret dX9_reaches_152 rfl (Or.inr rfl) ⟨_, rfl, ?_⟩
              have es : me_rl (cr_has N (w_a w (l + 1)) (w_a w (l + 2)) f n) (fun r => me_re N (w_a w (l + 1)) (w_a w (l + 2)) n c q z (cr_set f n r.toNatClampNeg)) (nI (2 ^ n - 1)) (y + 1) co tr = some (co :: l') := by
                show (if _ then _ else if _ then _ else _) = _
                rw [if_neg zc83, if_neg hno, et]
                show (match me_re N (w_a w (l + 1)) (w_a w (l + 2)) n c q z (cr_set f n (nI t).toNatClampNeg) with | some l => some (co :: l) | none => _) = _
                rw [nI_n (by omega), hsome]
              refine kt _ es w5 f5 I5 hK5 (fun j v hv => ?_)
              cases j with
              | zero =>
                have ev : co = v := Option.some.inj hv
                subst ev
                exact h22
              | succ j =>
                have := hl5 j v hv
                rw [show s + (j + 1) = s + 1 + j by omega]
                exact this
            · have hK5 : ahK s w1 w5 := (hK.tr (ahK.th (by omega) hs3)).tr ⟨fun j hj => by rw [hK6.1 j (by omega), wa_sa, if_neg (by decide), wa_sa, if_pos rfl, up_at, if_neg (by omega)], fun j hj => by rw [hK6.2 j (by omega), wa_sa, if_neg (by omega), wa_sa, if_neg (by omega)]⟩
              have h22 : w_a w5 22 s = nI co := by rw [hK6.1 s (by omega), wa_sa, if_neg (by decide), wa_sa, if_pos rfl, up_at, if_pos rfl]
              have hr5 : ∀ j, j < 6 → w_a w5 (24 + s) j = f (18 + j) := fun j hj => by rw [hK6.2 s (by omega), wa_sa, if_neg (by omega), wa_sa, if_neg (by omega), (hs3.2.2.2.1 (24 + s) (by simp; omega)).1]; exact hr j hj
              refine g_if_eq (tgt := 153) dX9_reaches_148 (by decide) (fun _ => ?_) (fun q => absurd q (by decide))
              refine g_aload dX9_reaches_153 rfl ?_
              refine g_aload_n dX9_reaches_155 rfl ?_
              refine g_getr dX9_reaches_156 fl_X9_52 (clO_ah h I5.1).1 (clO_ah h I5.1).2.2.2.2.2.1.1 ?_
              refine g_iload_n dX9_reaches_159 rfl ?_
              refine g_aald dX9_reaches_160 (Or.inr (clO_ah h I5.1).2.2.2.2.2.1.2.1) (vp_in_nI (by omega) (by decide)) (show w_q _ 23 (nI s).toNatClampNeg = some (24 + s) from by rw [nI_n (by omega)]; exact (clO_ah h I5.1).2.2.2.2.2.1.2.2.1 s (by omega)) ?_
              refine g_aload dX9_reaches_161 rfl ?_
              refine g_geti dX9_reaches_163 fl_X9_196 I5.2.2.1.1.1.1.1 ?_
              rw [I5.2.2.1.1.1.2.1]
              refine g_cV2v dX9_reaches_166 ml_X9_203 mi_X2_takeWaits mv_X2_takeWaits I5.2.2.1.1.1.1.1 ⟨_, rfl, rfl⟩ (Nat.le_of_ble_eq_true rfl) rfl (by omega) ?_
              refine c_X2_takeWaits (by omega) I5.2.2.1.1.1 ((clO_ah h I5.1).2.2.2.2.2.1.2.2.2 s (by omega)) hn ?_
              refine g_iinc dX9_reaches_169 rfl rfl ?_
              refine g_goto (tgt := 72) dX9_reaches_172 (by decide) ?_
              have es : me_rl (cr_has N (w_a w (l + 1)) (w_a w (l + 2)) f n) (fun r => me_re N (w_a w (l + 1)) (w_a w (l + 2)) n c q z (cr_set f n r.toNatClampNeg)) (nI (2 ^ n - 1)) (y + 1) co tr = me_rl (cr_has N (w_a w (l + 1)) (w_a w (l + 2)) f n) (fun r => me_re N (w_a w (l + 1)) (w_a w (l + 2)) n c q z (cr_set f n r.toNatClampNeg)) (nI (2 ^ n - 1)) y (co + 1) (tr ||| (1 <<< (nI t &&& 31))) := by
                show (if _ then _ else if _ then _ else _) = _
                rw [if_neg zc83, if_neg hno, et]
                show (match me_re N (w_a w (l + 1)) (w_a w (l + 2)) n c q z (cr_set f n (nI t).toNatClampNeg) with | some l => some (co :: l) | none => _) = _
                rw [nI_n (by omega), hnone]
              rw [es] at kt kf
              rw [nI_1']
              exact ih (co + 1) _ _ _ (by omega) (ah_back hn I5 (by omega) hr5) (hK5.tr ⟨fun j hj => rfl, fun j hj => by rw [wa_sa, if_neg (by omega)]⟩) (fun j hj => by rw [wa_sa, if_neg (by omega)]; exact hr5 j hj) kt kf
          · refine g_goto (tgt := 169) dX9_reaches_110 (by decide) ?_
            refine g_iinc dX9_reaches_169 rfl rfl ?_
            refine g_goto (tgt := 72) dX9_reaches_172 (by decide) ?_
            have es : me_rl (cr_has N (w_a w (l + 1)) (w_a w (l + 2)) f n) (fun r => me_re N (w_a w (l + 1)) (w_a w (l + 2)) n c q z (cr_set f n r.toNatClampNeg)) (nI (2 ^ n - 1)) (y + 1) co tr = me_rl (cr_has N (w_a w (l + 1)) (w_a w (l + 2)) f n) (fun r => me_re N (w_a w (l + 1)) (w_a w (l + 2)) n c q z (cr_set f n r.toNatClampNeg)) (nI (2 ^ n - 1)) y (co + 1) tr := by
              show (if _ then _ else if _ then _ else _) = _
              rw [if_neg zc83, if_pos (Or.inr (by rw [et, nI_n (by omega)]; exact decide_eq_true (by simpa using zc107)))]
            rw [es] at kt kf
            rw [nI_1']
            exact ih (co + 1) tr _ w3 (by omega) I3 (hK.tr (ahK.th (by omega) hs3)) (fun j hj => by rw [(hs3.2.2.2.1 (24 + s) (by simp; omega)).1]; exact hr j hj) kt kf
set_option maxHeartbeats 4000000 in
theorem l_X9_reachesS {n l N c q : Nat} {w : gx_W} (hT : isT w) (h : clO w) (hn : n ≤ 6) (hq : q < n) (hc : c < 100) {z : Nat} (IH : ahC w n l N c q z) : ahC w n l N c q (z + 1) := by
  intro s d f w1 k hsz hd hI kt kf
  refine gx_C_of' (L := [.ref 6, .int (nI (100 * q + c)), .int (nI s), .int (nI (z + 1)), .retAddr 0, .retAddr 0, .retAddr 0, .retAddr 0, .retAddr 0]) (by decide +kernel) rfl (Nat.le_of_ble_eq_true rfl) ?_
  refine g_aload_n dX9_reaches_0 rfl ?_
  refine g_getr dX9_reaches_1 fl_X9_74 (clO_ah h hI.1).1 (clO_ah h hI.1).2.1.2.1 ?_
  refine g_getr dX9_reaches_4 fl_X9_165 hI.2.1.1 hI.2.1.2.1 ?_
  refine g_astore dX9_reaches_7 (Nat.le_of_ble_eq_true rfl) rfl ?_
  refine g_iload_n dX9_reaches_9 rfl ?_
  refine g_if_le (tgt := 22) dX9_reaches_10 (by decide) (fun zc10 => ?_) (fun zc10 => ?_)
  · exact absurd zc10 (nI_nle (by omega) (by omega))
  · refine g_iload_n dX9_reaches_13 rfl ?_
    refine g_if_lt (tgt := 22) dX9_reaches_14 (by decide) (fun zc14 => ?_) (fun zc14 => ?_)
    · exact absurd zc14 (nI_pos (by omega))
    · refine g_iload_n dX9_reaches_17 rfl ?_
      refine g_iconst (v := 3) dX9_reaches_18 rfl ?_
      refine g_icmp_lt (tgt := 44) dX9_reaches_19 (by decide) (fun zc19 => ?_) (fun zc19 => ?_)
      · refine g_aload dX9_reaches_44 rfl ?_
        refine g_aload_n dX9_reaches_46 rfl ?_
        refine g_getr dX9_reaches_47 fl_X9_52 (clO_ah h hI.1).1 (clO_ah h hI.1).2.2.2.2.2.1.1 ?_
        refine g_iload_n dX9_reaches_50 rfl ?_
        refine g_aald dX9_reaches_51 (Or.inr (clO_ah h hI.1).2.2.2.2.2.1.2.1) (vp_in_nI (by omega) (by decide)) (show w_q _ 23 (nI s).toNatClampNeg = some (24 + s) from by rw [nI_n (by omega)]; exact (clO_ah h hI.1).2.2.2.2.2.1.2.2.1 s (by omega)) ?_
        refine g_cV1v dX9_reaches_52 ml_X9_192 mi_X2_giveWaits mv_X2_giveWaits hI.2.2.1.1.1.1.1 ⟨_, rfl, rfl⟩ (Nat.le_of_ble_eq_true rfl) rfl (by omega) ?_
        refine c_X2_giveWaits (by omega) hI.2.2.1.1.1 ((clO_ah h hI.1).2.2.2.2.2.1.2.2.2 s (by omega)) ?_
        refine g_iconst (v := 0) dX9_reaches_55 rfl ?_
        refine g_istore dX9_reaches_56 (Nat.le_of_ble_eq_true rfl) rfl ?_
        have I1 : ahS w (s_a w1 (24 + s) (va_cpy (w_a w1 44) (w_a w1 (24 + s)) 18 0 6)) n l N f := hI.sa (by simp; omega) (fun j hj => by rw [wa_sa, if_neg (by omega)]; exact hI.2.2.2 j hj)
        have hcn := I1.2.2.1.1.1.2.1
        refine g_iconst (v := 1) dX9_reaches_58 rfl ?_
        refine g_aload dX9_reaches_59 rfl ?_
        refine g_geti dX9_reaches_61 fl_X9_196 hI.2.2.1.1.1.1.1 ?_
        rw [hcn]
        refine g_ishl dX9_reaches_64 ?_
        refine g_iconst (v := 1) dX9_reaches_65 rfl ?_
        have e2n : (1 <<< (nI n &&& 31)) - 1 = nI (2 ^ n - 1) := by
          have := hn
          rcases (by omega : n = 0 ∨ n = 1 ∨ n = 2 ∨ n = 3 ∨ n = 4 ∨ n = 5 ∨ n = 6) with e | e | e | e | e | e | e <;> subst e <;> decide
        refine g_isub dX9_reaches_66 ?_
        rw [e2n]
        refine g_istore dX9_reaches_67 (Nat.le_of_ble_eq_true rfl) rfl ?_
        refine g_iconst (v := 0) dX9_reaches_69 rfl ?_
        refine g_istore dX9_reaches_70 (Nat.le_of_ble_eq_true rfl) rfl ?_
        exact l_X9_reaches hT h hn hq hc IH hsz (by omega) 100 0 0 (.retAddr 0) _ rfl I1 ⟨fun j hj => by rw [wa_sa, if_neg (by omega)], fun j hj => by rw [wa_sa, if_neg (by omega)]⟩ (fun j hj => by rw [wa_sa, if_pos rfl, pk_cpy_in (by omega) (by omega), hI.2.2.2 _ (by omega), Nat.sub_zero]) kt kf
      · exact absurd (show nI s < nI 3 from nI_lt (by omega) (by decide)) zc19
theorem ah_all {n l N c q : Nat} {w : gx_W} (hT : isT w) (h : clO w) (hn : n ≤ 6) (hq : q < n) (hc : c < 100) : ∀ z, z ≤ 3 → ahC w n l N c q z := by
  intro z
  induction z with
  | zero => intro _; exact l_X9_reaches0 hT h hn hq hc
  | succ z ih => intro hz; exact l_X9_reachesS hT h hn hq hc (ih (by omega))
/-- how many ahead, and who: from m on -/
def me_ah (N : Nat) (sg va : Nat → Int32) (n c q : Nat) (f : Nat → Int32) : Nat → Nat → Option (Nat × List Nat)
  | 0, _ => none
  | z + 1, m => match me_re N sg va n c q m f with
    | some l => some (m, l)
    | none => me_ah N sg va n c q f z (m + 1)
def me_av (x : Int32) : Option (Nat × List Nat) → Int32
  | none => -2
  | some (m, l) => if x < 0 then nI m else if x < nI m then nI (l.getD x.toNatClampNeg 0) else -2
theorem me_rl_len {H : Nat → Int32} {rc : Int32 → Option (List Nat)} {all : Int32} {m : Nat} (hrc : ∀ r l, rc r = some l → l.length = m) : ∀ (z c : Nat) (tr : Int32) (l : List Nat), me_rl H rc all z c tr = some l → l.length = m + 1 := by
  intro z
  induction z with
  | zero => intro c tr l h; exact absurd h (by simp [me_rl])
  | succ z ih =>
    intro c tr l h
    unfold me_rl at h
    split at h
    · exact absurd h (by simp)
    · split at h
      · exact ih _ _ _ h
      · split at h
        · rename_i l' hl'
          rw [← Option.some.inj h, List.length_cons, hrc _ _ hl']
        · exact ih _ _ _ h
theorem me_re_len {N : Nat} {sg va : Nat → Int32} {n c q : Nat} : ∀ (z : Nat) (f : Nat → Int32) (l : List Nat), me_re N sg va n c q z f = some l → l.length = z := by
  intro z
  induction z with
  | zero =>
    intro f l h
    unfold me_re at h
    split at h
    · rw [← Option.some.inj h]; rfl
    · exact absurd h (by simp)
  | succ z ih =>
    intro f l h
    exact me_rl_len (fun r l h => ih _ l h) _ _ _ _ h
set_option maxHeartbeats 4000000 in
theorem l_X9_ahead {n l N c q : Nat} {w : gx_W} (hT : isT w) (h : clO w) (hn : n ≤ 6) (hq : q < n) (hc : c < 100) {x : Int32} {k : Int32 → gx_W → Prop} {d : Nat} (hd : 10 ≤ d) : ∀ (z m : Nat) (w1 : gx_W), m + z = 4 → ahS w w1 n l N (w_a w 38) → (∀ w', sam AR TG [(43, 2)] w w' → k (me_av x (me_ah N (w_a w (l + 1)) (w_a w (l + 2)) n c q (w_a w 38) z m)) w') → gx_G 0 0 d mX9_ahead (Qi k) 28 [.ref 6, .int (nI (100 * q + c)), .int x, .int (nI m)] [] w1 := by
  intro z
  induction z with
  | zero =>
    intro m w1 hj hI kk
    have e : m = 4 := by omega
    subst e
    refine g_iload_n dX9_ahead_28 rfl ?_
    refine g_iconst (v := 3) dX9_ahead_29 rfl ?_
    refine g_icmp_gt (tgt := 74) dX9_ahead_30 (by decide) (fun zc30 => ?_) (fun zc30 => ?_)
    · refine g_bipush (v := -2) dX9_ahead_74 rfl ?_
      refine g_iret dX9_ahead_76 rfl ⟨_, rfl, ?_⟩
      exact kk w1 hI.1
    · exact absurd (by decide) zc30
  | succ z ih =>
    intro m w1 hj hI kk
    refine g_iload_n dX9_ahead_28 rfl ?_
    refine g_iconst (v := 3) dX9_ahead_29 rfl ?_
    refine g_icmp_gt (tgt := 74) dX9_ahead_30 (by decide) (fun zc30 => ?_) (fun zc30 => ?_)
    · refine g_bipush (v := -2) dX9_ahead_74 rfl ?_
      refine g_iret dX9_ahead_76 rfl ⟨_, rfl, ?_⟩
      exact absurd zc30 (show ¬ nI 3 < nI m from nI_nlt (by omega) (by omega))
    · refine g_aload_n dX9_ahead_33 rfl ?_
      refine g_iload_n dX9_ahead_34 rfl ?_
      refine g_iconst (v := 0) dX9_ahead_35 rfl ?_
      refine g_iload_n dX9_ahead_36 rfl ?_
      refine g_cV3i dX9_ahead_37 ml_X9_188 mi_X9_reaches mv_X9_reaches (clO_ah h hI.1).1 ⟨_, rfl, rfl⟩ (Nat.le_of_ble_eq_true rfl) rfl (by omega) ?_
      refine ah_all hT h hn hq hc m (by omega) 0 (d - 1) (w_a w 38) w1 _ (by omega) (by omega) hI (fun l2 hsome w2 f2 I2 hK hl2 => ?_) (fun hnone w2 I2 hK => ?_)
      · refine g_if_eq (tgt := 68) dX9_ahead_40 (by decide) (fun q => absurd q (by decide)) (fun _ => ?_)
        refine g_iload_n dX9_ahead_43 rfl ?_
        refine g_if_ge (tgt := 51) dX9_ahead_44 (by decide) (fun zc44 => ?_) (fun zc44 => ?_)
        · refine g_iload_n dX9_ahead_51 rfl ?_
          refine g_iload_n dX9_ahead_52 rfl ?_
          refine g_icmp_ge (tgt := 65) dX9_ahead_53 (by decide) (fun zc53 => ?_) (fun zc53 => ?_)
          · refine g_bipush (v := -2) dX9_ahead_65 rfl ?_
            refine g_iret dX9_ahead_67 rfl ⟨_, rfl, ?_⟩
            rw [(show me_ah N (w_a w (l + 1)) (w_a w (l + 2)) n c q (w_a w 38) (z + 1) m = some (m, l2) from by unfold me_ah; rw [hsome])] at kk
            have K := kk w2 I2.1
            rw [show me_av x (some (m, l2)) = -2 from by show (if _ then _ else if _ then _ else _) = _; rw [if_neg (by simpa using zc44), if_neg (by simpa using zc53)]] at K
            exact K
          · obtain ⟨j2, hj2, exj⟩ : ∃ j2, j2 < m ∧ x = nI j2 := pI_cases (by omega) (Int32.not_lt.mpr zc44) (by simpa using zc53)
            refine g_aload_n dX9_ahead_56 rfl ?_
            refine g_getr dX9_ahead_57 fl_X9_47 (clO_ah h I2.1).1 (clO_ah h I2.1).2.2.2.2.1.1 ?_
            refine g_iload_n dX9_ahead_60 rfl ?_
            refine g_iald dX9_ahead_61 (clO_ah h I2.1).2.2.2.2.1.2 (by rw [exj]; exact vp_in_nI (by omega) (by decide)) ?_
            refine g_goto (tgt := 67) dX9_ahead_62 (by decide) ?_
            refine g_iret dX9_ahead_67 rfl ⟨_, rfl, ?_⟩
            rw [(show me_ah N (w_a w (l + 1)) (w_a w (l + 2)) n c q (w_a w 38) (z + 1) m = some (m, l2) from by unfold me_ah; rw [hsome])] at kk
            have K := kk w2 I2.1
            rw [show me_av x (some (m, l2)) = nI (l2.getD x.toNatClampNeg 0) from by show (if _ then _ else if _ then _ else _) = _; rw [if_neg (by simpa using zc44), if_pos (by simpa using zc53)]] at K
            subst exj
            rw [nI_n (by omega)] at K ⊢
            have h22 := hl2 j2 (l2.getD j2 0) (by rw [List.getElem?_eq_getElem (by rw [me_re_len _ _ _ hsome]; omega), List.getD_eq_getElem?_getD, List.getElem?_eq_getElem (by rw [me_re_len _ _ _ hsome]; omega)]; rfl)
            rw [Nat.zero_add] at h22
            rw [h22]
            exact K
        · refine g_iload_n dX9_ahead_47 rfl ?_
          refine g_goto (tgt := 67) dX9_ahead_48 (by decide) ?_
          refine g_iret dX9_ahead_67 rfl ⟨_, rfl, ?_⟩
          rw [(show me_ah N (w_a w (l + 1)) (w_a w (l + 2)) n c q (w_a w 38) (z + 1) m = some (m, l2) from by unfold me_ah; rw [hsome])] at kk
          have K := kk w2 I2.1
          rw [show me_av x (some (m, l2)) = nI m from if_pos (by simpa using zc44)] at K
          exact K
      · refine g_if_eq (tgt := 68) dX9_ahead_40 (by decide) (fun _ => ?_) (fun q => absurd q (by decide))
        refine g_iinc dX9_ahead_68 rfl rfl ?_
        refine g_goto (tgt := 28) dX9_ahead_71 (by decide) ?_
        rw [show me_ah N (w_a w (l + 1)) (w_a w (l + 2)) n c q (w_a w 38) (z + 1) m = me_ah N (w_a w (l + 1)) (w_a w (l + 2)) n c q (w_a w 38) z (m + 1) from by rw [me_ah, hnone]] at kk
        rw [nI_1']
        exact ih (m + 1) w2 (by omega) I2 kk
theorem c_X9_ahead {d : Nat} {w : gx_W} {n l N : Nat} {x y : Int32} {k : Int32 → gx_W → Prop} (hd : 10 ≤ d) (hT : isT w) (h : clO w) (hc : isCk w 37 38 n l N) (ho : thO w) (h43 : isCr w 43 44) (k1 : (∀ q c, c < 100 → q < n → x ≠ nI (100 * q + c)) → k (-1) w) (k2 : y < -1 → k (-1) w) (kk : ∀ q c, x = nI (100 * q + c) → c < 100 → q < n → ¬ y < -1 → ∀ w', sam AR TG [(43, 2)] w w' → k (me_av y (me_ah N (w_a w (l + 1)) (w_a w (l + 2)) n c q (w_a w 38) 4 0)) w') : gx_C 0 0 d mX9_ahead [.ref 6, .int x, .int y] w (Qi k) := by
  refine gx_C_of' (L := [.ref 6, .int x, .int y, .retAddr 0]) (by decide +kernel) rfl (Nat.le_of_ble_eq_true rfl) ?_
  refine g_aload_n dX9_ahead_0 rfl ?_
  refine g_iload_n dX9_ahead_1 rfl ?_
  refine g_cV1i dX9_ahead_2 ml_X9_181 mi_X9_isPair mv_X9_isPair h.1 ⟨_, rfl, rfl⟩ (Nat.le_of_ble_eq_true rfl) rfl (by omega) ?_
  refine c_X9_isPair (by omega) h hc (fun q c e hco hq => ?_) (fun np => ?_)
  · refine g_if_eq (tgt := 13) dX9_ahead_5 (by decide) (fun q => absurd q (by decide)) (fun _ => ?_)
    refine g_iload_n dX9_ahead_8 rfl ?_
    refine g_iconst (v := -1) dX9_ahead_9 rfl ?_
    refine g_icmp_ge (tgt := 15) dX9_ahead_10 (by decide) (fun zc10 => ?_) (fun zc10 => ?_)
    · refine g_aload_n dX9_ahead_15 rfl ?_
      refine g_getr dX9_ahead_16 fl_X9_74 h.1 h.2.1.2.1 ?_
      refine g_aload_n dX9_ahead_19 rfl ?_
      refine g_getr dX9_ahead_20 fl_X9_67 h.1 h.2.1.1 ?_
      refine g_cV1v dX9_ahead_23 ml_X9_184 mi_X7_begin mv_X7_begin ho.1 ⟨_, rfl, rfl⟩ (Nat.le_of_ble_eq_true rfl) rfl (by omega) ?_
      refine c_beginI (by omega) ho h43 hc (fun w1 I1 => ?_)
      refine g_iconst (v := 0) dX9_ahead_26 rfl ?_
      refine g_istore_n dX9_ahead_27 (Nat.le_of_ble_eq_true rfl) rfl ?_
      subst e
      have I2 := I1.F
      exact l_X9_ahead hT h hc.1.1.2.2 hq hco (by omega) 4 0 w1 rfl ⟨I2.1.wk (by simp) (fun _ z => z) (fun _ z => z), I2.2.1, I2.2.2.1, I2.2.2.2⟩ (kk q c rfl hco hq (Int32.not_lt.mpr zc10))
    · refine g_iconst (v := -1) dX9_ahead_13 rfl ?_
      refine g_iret dX9_ahead_14 rfl ⟨_, rfl, ?_⟩
      exact k2 (Int32.not_le.mp zc10)
  · refine g_if_eq (tgt := 13) dX9_ahead_5 (by decide) (fun _ => ?_) (fun q => absurd q (by decide))
    refine g_iconst (v := -1) dX9_ahead_13 rfl ?_
    refine g_iret dX9_ahead_14 rfl ⟨_, rfl, ?_⟩
    exact k1 np

/-! The reference: readText, law -/
theorem lns_go {g : Nat → Int32} {T z p : Nat} (h : (tp_ln g T p).1 = true) : tp_lns g T (z + 1) p = ((remL g T z (tp_ln g T p).2.1).1, (remL g T z (tp_ln g T p).2.1).2.1, (tp_ln g T p).2.2 ++ (remL g T z (tp_ln g T p).2.1).2.2) := by
  show (if _ then (if _ then _ else _) else _) = _
  rw [if_pos h]
  by_cases q : tp_h g T (tp_ln g T p).2.1 = 59
  · rw [if_pos q, show remL g T z (tp_ln g T p).2.1 = tp_lns g T z ((tp_ln g T p).2.1 + 1) from if_pos q]
    rfl
  · rw [if_neg q, show remL g T z (tp_ln g T p).2.1 = (decide (tp_h g T (tp_ln g T p).2.1 = -1), (tp_ln g T p).2.1, []) from if_neg q, List.append_nil]
theorem lns_bad {g : Nat → Int32} {T z p : Nat} (h : (tp_ln g T p).1 = false ∨ tp_dg (tp_h g T (tp_ln g T p).2.1) = true) : (tp_lns g T (z + 1) p).1 = false ∧ (tp_lns g T (z + 1) p).2.1 = (tp_ln g T p).2.1 := by
  have e2 : tp_lns g T (z + 1) p = if (tp_ln g T p).1 = true then (if tp_h g T (tp_ln g T p).2.1 = 59 then tp_ap (tp_ln g T p).2.2 (tp_lns g T z ((tp_ln g T p).2.1 + 1)) else (decide (tp_h g T (tp_ln g T p).2.1 = -1), (tp_ln g T p).2.1, (tp_ln g T p).2.2)) else (false, (tp_ln g T p).2.1, (tp_ln g T p).2.2) := rfl
  rw [e2]
  cases q : (tp_ln g T p).1 with
  | false =>
    rw [if_neg (by decide)]
    exact ⟨rfl, rfl⟩
  | true =>
    have hd : tp_dg (tp_h g T (tp_ln g T p).2.1) = true := by
      rcases h with y | y
      · rw [q] at y; cases y
      · exact y
    rw [if_pos rfl, if_neg (fun y => by rw [y] at hd; exact absurd hd (by decide))]
    exact ⟨decide_eq_false (fun y => by rw [y] at hd; exact absurd hd (by decide)), rfl⟩
theorem teV_le : ∀ (Ls : List lnS) (N : Nat), ∀ x ∈ teV N Ls, x ≤ N + (lsR Ls).length := by
  intro Ls
  induction Ls with
  | nil => intro N x hx; exact absurd hx List.not_mem_nil
  | cons q r ih =>
    intro N x hx
    show x ≤ N + ((q.1 ++ q.2) ++ lsR r).length
    rw [List.length_append, List.length_append]
    rcases List.mem_cons.mp hx with e | e
    · omega
    · have := ih _ x e
      omega
theorem leV_le : ∀ (Ls : List lnS) (N : Nat), ∀ x ∈ leV N Ls, x ≤ N + (lsR Ls).length := by
  intro Ls
  induction Ls with
  | nil => intro N x hx; exact absurd hx List.not_mem_nil
  | cons q r ih =>
    intro N x hx
    show x ≤ N + ((q.1 ++ q.2) ++ lsR r).length
    rw [List.length_append, List.length_append]
    rcases List.mem_cons.mp hx with e | e
    · omega
    · have := ih _ x e
      omega
theorem teV_len : ∀ (Ls : List lnS) (N : Nat), (teV N Ls).length = Ls.length := by
  intro Ls
  induction Ls with
  | nil => intro N; rfl
  | cons q r ih => intro N; show (teV _ r).length + 1 = r.length + 1; rw [ih]
theorem leV_len : ∀ (Ls : List lnS) (N : Nat), (leV N Ls).length = Ls.length := by
  intro Ls
  induction Ls with
  | nil => intro N; rfl
  | cons q r ih => intro N; show (leV _ r).length + 1 = r.length + 1; rw [ih]
theorem lsR_ok : ∀ (Ls : List lnS), exL Ls → ∀ s ∈ lsR Ls, okC s := by
  intro Ls
  induction Ls with
  | nil => intro _ s hs; exact absurd hs List.not_mem_nil
  | cons q r ih =>
    intro hE s hs
    obtain ⟨e1, e2⟩ := hE q List.mem_cons_self
    rcases List.mem_append.mp (show s ∈ (q.1 ++ q.2) ++ lsR r from hs) with y | y
    · rcases List.mem_append.mp y with y | y
      · rcases e1 with e1 | e1
        · rw [e1] at y; exact absurd y List.not_mem_nil
        · exact (e1.1 s y).2.2
      · exact (e2.1 s y).2.2
    · exact ih (fun q hq => hE q (List.mem_cons_of_mem _ hq)) s y
theorem getD_some {α : Type} {l : List α} {j : Nat} {d : α} (h : j < l.length) : l[j]? = some (l.getD j d) := by
  rw [List.getElem?_eq_getElem h, List.getD_eq_getElem?_getD, List.getElem?_eq_getElem h]
  rfl
/-- the law that stands then -/
theorem ls_lwE {w0 w' : gx_W} {Ls : List lnS} {T p' : Nat} {wa : gx_W} (hZ : lnZ wa w0 T 0 0 p' Ls) (hT : T ≤ 120) (hE : exL Ls) (h68 : w_a w' 68 = dnF (w_a w0 68) 130 (lsR Ls).length) (h69 : w_a w' 69 = dnF (w_a w0 69) 130 (lsR Ls).length) (h70 : w_a w' 70 0 = nI Ls.length) (h71 : w_a w' 71 = dnF (w_a w0 71) 61 Ls.length) (h72 : w_a w' 72 = dnF (w_a w0 72) 61 Ls.length) (sg va : Nat → Int32) (hC : hC sg va 0 (lsC Ls)) : lwE w' (lsC Ls).length sg va := by
  obtain ⟨z1, z2, z3, z4, ⟨z5, z6⟩, z7, ⟨z8, z9⟩, z10, z11, z12⟩ := hZ
  refine ⟨Ls.length, fun l => (teV 0 Ls).getD l 0, fun l => (leV 0 Ls).getD l 0, by omega, h70, fun l hl => ?_, fun l hl => ?_, fun l hl => ?_, fun l hl => ?_, ?_⟩
  · rw [h71, show dnF (w_a w0 71) 61 Ls.length l = w_a w0 71 (61 + l) from if_pos hl, z8]
    refine tp_row_in _ _ (61 + 0) l _ ?_
    rw [List.getElem?_map, getD_some (d := 0) (by rw [teV_len]; exact hl)]
    rfl
  · rw [h72, show dnF (w_a w0 72) 61 Ls.length l = w_a w0 72 (61 + l) from if_pos hl, z9]
    refine tp_row_in _ _ (61 + 0) l _ ?_
    rw [List.getElem?_map, getD_some (d := 0) (by rw [leV_len]; exact hl)]
    rfl
  · have := teV_le Ls 0 _ (List.mem_of_getElem? (getD_some (d := 0) (by rw [teV_len]; exact hl)))
    show (teV 0 Ls).getD l 0 ≤ 130
    omega
  · have := leV_le Ls 0 _ (List.mem_of_getElem? (getD_some (d := 0) (by rw [leV_len]; exact hl)))
    show (leV 0 Ls).getD l 0 ≤ 130
    omega
  · refine ls_ln Ls 0 0 0 hE hC (fun j s hj => ?_) (fun j x hj => ?_) (fun j x hj => ?_) (by omega) (Nat.zero_add _)
    · have hl := (List.getElem?_eq_some_iff.mp hj).1
      rw [Nat.zero_add, h68, h69, show dnF (w_a w0 68) 130 (lsR Ls).length j = w_a w0 68 (130 + j) from if_pos hl, show dnF (w_a w0 69) 130 (lsR Ls).length j = w_a w0 69 (130 + j) from if_pos hl, z5, z6]
      exact ⟨tp_row_in _ _ (130 + 0) j _ (by rw [List.getElem?_map, hj]; rfl), tp_row_in _ _ (130 + 0) j _ (by rw [List.getElem?_map, hj]; rfl)⟩
    · rw [Nat.zero_add, List.getD_eq_getElem?_getD, hj]; rfl
    · rw [Nat.zero_add, List.getD_eq_getElem?_getD, hj]; rfl
abbrev rdF : List (Nat × Nat) := (57, 14) :: prF
theorem lsC_pos : ∀ (Ls : List lnS), Ls ≠ [] → 0 < (lsC Ls).length := by
  intro Ls h
  cases Ls with
  | nil => exact absurd rfl h
  | cons q r =>
    show 0 < ((if q.1 = [] then q.2 ++ [(59, 0)] else q.1 ++ (63, 0) :: (q.2 ++ [(59, 0)])) ++ lsC r).length
    split <;> simp only [List.length_append, List.length_cons] <;> omega
set_option maxHeartbeats 4000000 in
theorem l_X10_read3 {d T : Nat} {w w2 : gx_W} {x2 : Value} {k : Int32 → gx_W → Prop} (h : moO w2) (hT : T ≤ 120) (hs : same lnX rdF w w2) {p' : Nat} {Ls : List lnS} {wa : gx_W} (hE : exL Ls) (hne : Ls ≠ []) (hZ : lnZ wa w2 T 0 0 p' Ls) (kk : ∀ w', same lnX rdF w w' → w_i w' 57 14 = 0 → (∀ sg va, hC sg va 0 (lsC Ls) → lwE w' (lsC Ls).length sg va) → 0 < (lsC Ls).length → k (-1) w') : gx_G 0 0 d mX10_readText (Qi k) 86 [.ref 57, .int 0, x2] [] w2 := by
  refine g_aload_n dX10_readText_86 rfl ?_
  refine g_iconst (v := 0) dX10_readText_87 rfl ?_
  refine g_puti dX10_readText_88 fl_X10_166 ft_10_14 h.1 ?_
  refine g_aload_n dX10_readText_91 rfl ?_
  refine g_geti dX10_readText_92 fl_X10_172 h.1 ?_
  rw [show w_i (s_i w2 57 14 0) 57 16 = -1 from hZ.2.2.1]
  refine g_if_lt (tgt := 103) dX10_readText_95 (by decide) (fun zc95 => ?_) (fun zc95 => ?_)
  · refine g_iconst (v := 0) dX10_readText_103 rfl ?_
    refine g_istore_n dX10_readText_104 (Nat.le_of_ble_eq_true rfl) rfl ?_
    refine l_X10_read1 (K := (lsR Ls).length) (w0 := s_i w2 57 14 0) h (by rw [show w_i (s_i w2 57 14 0) 57 18 = w_i w2 57 18 from rfl, hZ.2.2.2.1, Nat.zero_add]) (by have := hZ.2.2.2.2.2.2.2.1; have := hZ.2.2.2.2.2.2.2.2.1; omega) (fun j hj => ?_) (fun w3 s3 a3 b3 => ?_) _ 0 _ (Nat.zero_add _) same.rf (dnF_0 _ _).symm (dnF_0 _ _).symm
    · have hj2 : (lsR Ls)[j]? = some ((lsR Ls)[j]) := List.getElem?_eq_getElem hj
      obtain ⟨c, hc, ec⟩ := lsR_ok Ls hE _ (List.mem_of_getElem? hj2)
      refine ⟨c, hc, ?_⟩
      show w_a w2 68 (130 + j) = _
      rw [hZ.2.2.2.2.1.1]
      exact tp_row_in _ _ (130 + 0) j _ (by rw [List.getElem?_map, hj2, ← ec]; rfl)
    have h3 : moO w3 := (h.same (same.rf.si (F := [(57, 14)]) (R := []) (v := 0) (by simp))).same s3
    have m3 : w_a w3 70 1 = nI Ls.length := by rw [(s3.2.2.2.1 70 (by simp)).1]; show w_a w2 70 1 = _; rw [hZ.2.2.2.2.2.1, Nat.zero_add]
    refine g_aload_n dX10_readText_163 rfl ?_
    refine g_getr dX10_readText_164 fl_X10_49 h3.1 (moR_70 h3) ?_
    refine g_iload_n dX10_readText_167 rfl ?_
    refine g_aload_n dX10_readText_168 rfl ?_
    refine g_getr dX10_readText_169 fl_X10_49 h3.1 (moR_70 h3) ?_
    refine g_iconst (v := 1) dX10_readText_172 rfl ?_
    refine g_iald dX10_readText_173 (moA_70 h3) (vp_in_nI (n := 1) (by decide) (by decide)) ?_
    rw [show (1 : Int32).toNatClampNeg = 1 from rfl, m3]
    refine g_iast dX10_readText_174 (moA_70 h3) (vp_in_nI (n := 0) (by decide) (by decide)) ?_
    rw [show (0 : Int32).toNatClampNeg = 0 from rfl]
    refine g_iconst (v := 0) dX10_readText_175 rfl ?_
    refine g_istore_n dX10_readText_176 (Nat.le_of_ble_eq_true rfl) rfl ?_
    have e71 : w_a w3 71 = w_a w2 71 := (s3.2.2.2.1 71 (by simp)).1
    have e72 : w_a w3 72 = w_a w2 72 := (s3.2.2.2.1 72 (by simp)).1
    have hb1 := hZ.2.2.2.2.2.2.2.1
    have hb2 := hZ.2.2.2.2.2.2.2.2.1
    have hb3 := hZ.2.2.2.2.2.2.2.2.2
    refine l_X10_read2 (M := Ls.length) (w0 := s_a w3 70 (va_up (w_a w3 70) 0 (nI Ls.length))) h3 (by rw [wa_sat, va_up_at]) (by omega) (fun j hj => ?_) (fun j hj => ?_) (fun w4 s4 a4 b4 => ?_) _ 0 _ (Nat.zero_add _) same.rf (dnF_0 _ _).symm (dnF_0 _ _).symm
    · have hj2 := getD_some (l := teV 0 Ls) (j := j) (d := 0) (by rw [teV_len]; exact hj)
      refine ⟨(teV 0 Ls).getD j 0, by have := teV_le Ls 0 _ (List.mem_of_getElem? hj2); omega, ?_⟩
      show w_a w3 71 (61 + j) = _
      rw [e71, hZ.2.2.2.2.2.2.1.1]
      exact tp_row_in _ _ (61 + 0) j _ (by rw [List.getElem?_map, hj2]; rfl)
    · have hj2 := getD_some (l := leV 0 Ls) (j := j) (d := 0) (by rw [leV_len]; exact hj)
      refine ⟨(leV 0 Ls).getD j 0, by have := leV_le Ls 0 _ (List.mem_of_getElem? hj2); omega, ?_⟩
      show w_a w3 72 (61 + j) = _
      rw [e72, hZ.2.2.2.2.2.2.1.2]
      exact tp_row_in _ _ (61 + 0) j _ (by rw [List.getElem?_map, hj2]; rfl)
    refine kk w4 (((((hs.si (by simp)).tr (s3.wk (by simp) (by simp))).sa (by simp)).tr (s4.wk (by simp) (by simp)))) ?_ (fun sg va hc => ls_lwE hZ hT hE ?_ ?_ ?_ ?_ ?_ sg va hc) (lsC_pos Ls hne)
    · rw [s4.2.1 57 14 (by simp)]
      show w_i w3 57 14 = 0
      rw [s3.2.1 57 14 (by simp), wi_si, if_pos ⟨rfl, rfl⟩]
    · rw [(s4.2.2.2.1 68 (by simp)).1]
      exact a3
    · rw [(s4.2.2.2.1 69 (by simp)).1]
      exact b3
    · rw [(s4.2.2.2.1 70 (by simp)).1, wa_sat, va_up_at]
    · rw [a4]
      show dnF (w_a w3 71) 61 _ = _
      rw [e71]
    · rw [b4]
      show dnF (w_a w3 72) 61 _ = _
      rw [e72]
  · exact absurd (by decide) zc95
theorem tp_lns_c {g : Nat → Int32} {T : Nat} : ∀ z p, p ≤ T → (tp_lns g T z p).2.1 ≤ T := by
  intro z
  induction z with
  | zero => intro p hp; exact hp
  | succ z ih =>
    intro p hp
    have hb := (tp_ln_b (g := g) (T := T) (p := p) hp).2
    show (if (tp_ln g T p).1 = true then (if tp_h g T (tp_ln g T p).2.1 = 59 then tp_ap (tp_ln g T p).2.2 (tp_lns g T z ((tp_ln g T p).2.1 + 1)) else (decide (tp_h g T (tp_ln g T p).2.1 = -1), (tp_ln g T p).2.1, (tp_ln g T p).2.2)) else (false, (tp_ln g T p).2.1, (tp_ln g T p).2.2) : tpT).2.1 ≤ T
    split
    · split
      · rename_i q
        have := tp_lt (T := T) (g := g) (p := (tp_ln g T p).2.1) (by rw [q]; decide)
        exact ih _ this
      · exact hb
    · exact hb
theorem rem_b {g : Nat → Int32} {T z p : Nat} (hT : T ≤ 120) (hp : p ≤ T := by omega) : (remL g T z p).2.1 < 2 ^ 31 := by
  unfold remL
  split
  · rename_i q
    have := tp_lt (T := T) (g := g) (p := p) (by rw [q]; decide)
    have := tp_lns_c (g := g) (T := T) z (p + 1) this
    omega
  · show p < 2 ^ 31
    omega
set_option maxHeartbeats 4000000 in
theorem c_X10_readText {d : Nat} {w : gx_W} {T : Nat} {g : Nat → Int32} {k : Int32 → gx_W → Prop} (hd : 48 ≤ d) (h : moO w) (ht : prT w T g) (kA : (tp_lns g T 120 0).1 = true → ∀ w', same lnX rdF w w' → w_i w' 57 14 = 0 → (∀ sg va, hC sg va 0 (tp_lns g T 120 0).2.2 → lwE w' (tp_lns g T 120 0).2.2.length sg va) → 0 < (tp_lns g T 120 0).2.2.length → k (-1) w') (kB : (tp_lns g T 120 0).1 = false → ∀ w', same lnX rdF w w' → w_i w' 57 14 = 0 → lowL w w' → k (nI (tp_lns g T 120 0).2.1) w') : gx_C 0 0 d mX10_readText [.ref 57, .int 0] w (Qi k) := by
  refine gx_C_of' (L := [.ref 57, .int 0, .retAddr 0]) (by decide +kernel) rfl (Nat.le_of_ble_eq_true rfl) ?_
  refine g_aload_n dX10_readText_0 rfl ?_
  refine g_iconst (v := 0) dX10_readText_1 rfl ?_
  refine g_puti dX10_readText_2 fl_X10_169 ft_10_15 h.1 ?_
  refine g_aload_n dX10_readText_5 rfl ?_
  refine g_iconst (v := -1) dX10_readText_6 rfl ?_
  refine g_puti dX10_readText_7 fl_X10_172 ft_10_16 h.1 ?_
  refine g_aload_n dX10_readText_10 rfl ?_
  refine g_iconst (v := 0) dX10_readText_11 rfl ?_
  refine g_puti dX10_readText_12 fl_X10_178 ft_10_17 h.1 ?_
  refine g_aload_n dX10_readText_15 rfl ?_
  refine g_iconst (v := 0) dX10_readText_16 rfl ?_
  refine g_puti dX10_readText_17 fl_X10_175 ft_10_18 h.1 ?_
  refine g_aload_n dX10_readText_20 rfl ?_
  refine g_getr dX10_readText_21 fl_X10_49 h.1 (moR_70 h) ?_
  refine g_iconst (v := 1) dX10_readText_24 rfl ?_
  refine g_iconst (v := 0) dX10_readText_25 rfl ?_
  refine g_iast dX10_readText_26 (moA_70 h) (vp_in_nI (n := 1) (by decide) (by decide)) ?_
  rw [show (1 : Int32).toNatClampNeg = 1 from rfl]
  have s0 : same lnX rdF w (s_a (s_i (s_i (s_i (s_i w 57 15 0) 57 16 (-1)) 57 17 0) 57 18 0) 70 (va_up (w_a w 70) 1 0)) := ((((same.rf.si (by simp)).si (by simp)).si (by simp)).si (by simp)).sa (by simp)
  have hT := ht.2.1
  have s0b : same lnX prF w (s_a (s_i (s_i (s_i (s_i w 57 15 0) 57 16 (-1)) 57 17 0) 57 18 0) 70 (va_up (w_a w 70) 1 0)) := ((((same.rf.si (by simp)).si (by simp)).si (by simp)).si (by simp)).sa (by simp)
  have h0 : prI (s_a (s_i (s_i (s_i (s_i w 57 15 0) 57 16 (-1)) 57 17 0) 57 18 0) 70 (va_up (w_a w 70) 1 0)) T g 0 0 0 := ⟨h.same s0, ht.same s0b (by simp) (by simp), rfl, Nat.zero_le _, rfl, rfl, rfl⟩
  refine g_aload_n dX10_readText_27 rfl ?_
  refine g_cV0v dX10_readText_28 ml_X10_221 mi_X10_line mv_X10_line h.1 ⟨_, rfl, rfl⟩ (Nat.le_of_ble_eq_true rfl) rfl (by omega) ?_
  refine c_X10_line (N := 0) (m := 0) (by omega) h0 (Nat.le_refl _) (by rw [wa_sat, va_up_at]; rfl) (by decide) (fun hr t b hext hexb hL w3 hA => ?_) (fun hr w3 hs3 hl3 hf3 => ?_)
  · have hlb := tp_ln_b (g := g) (T := T) (p := 0) (Nat.zero_le _)
    have hL2 := hL
    rw [← hL] at hlb
    have hb1 := hexb.2.1
    have hlen : (lsC [(t, b)]).length ≥ t.length + b.length + 1 := by
      show ((if t = [] then b ++ [(59, 0)] else t ++ (63, 0) :: (b ++ [(59, 0)])) ++ []).length ≥ _
      split
      · rename_i q
        rw [q]
        simp only [List.length_append, List.length_cons, List.length_nil]
        omega
      · simp only [List.length_append, List.length_cons, List.length_nil]
        omega
    obtain ⟨a1, a2, a3, a4, a5, a6, a7, a8, a9⟩ := hA
    have h3 : prI w3 T g (tp_ln g T 0).2.1 0 (0 + t.length + b.length) := ⟨h0.1.same a1, h0.2.1.same a1 (by simp) (by simp), a2, hlb.2, a3, a4, a5⟩
    have eL : tp_lns g T 120 0 = ((remL g T 119 (tp_ln g T 0).2.1).1, (remL g T 119 (tp_ln g T 0).2.1).2.1, (tp_ln g T 0).2.2 ++ (remL g T 119 (tp_ln g T 0).2.1).2.2) := lns_go hr
    rw [eL] at kA kB
    have s3 : same lnX rdF w w3 := s0.tr (a1.wk (fun _ z => z) (fun _ z => List.mem_cons_of_mem _ z))
    refine l_X10_readText (by omega) 119 (tp_ln g T 0).2.1 _ (0 + 1) w3 (by omega) h3 (by omega) (by rw [a7, va_up_at]) (by omega) (fun q Ls w' hE hC hZ => ?_) (fun q w' hs hl hf => ?_)
    · have hZ2 := lnA.Z (w := (s_a (s_i (s_i (s_i (s_i w 57 15 0) 57 16 (-1)) 57 17 0) 57 18 0) 70 (va_up (w_a w 70) 1 0))) same.rf (fun _ => rfl) ⟨a1, a2, a3, a4, a5, a6, a7, a8, a9⟩ hZ
      have eC : lsC ((t, b) :: Ls) = (tp_ln g T 0).2.2 ++ (remL g T 119 (tp_ln g T 0).2.1).2.2 := by
        rw [← hL]
        show _ ++ lsC Ls = (_ ++ []) ++ _
        rw [List.append_nil, hC]
      refine l_X10_read3 (h3.1.same hZ.1) hT (s3.tr (hZ.1.wk (fun _ z => z) (fun _ z => List.mem_cons_of_mem _ z))) (fun y hy => ?_) (by simp) hZ2 (fun w5 s5 e5 l5 p5 => ?_)
      · rcases List.mem_cons.mp hy with y2 | y2
        · rw [y2]; exact ⟨hext, hexb⟩
        · exact hE y y2
      · rw [eC] at l5 p5
        exact kA q w5 s5 e5 l5 p5
    · have h5 : moO w' := h3.1.same hs
      have hrb : (remL g T 119 (tp_ln g T 0).2.1).2.1 < 2 ^ 31 := rem_b hT (tp_ln_b (g := g) (T := T) (p := 0) (Nat.zero_le _)).2
      refine g_aload_n dX10_readText_86 rfl ?_
      refine g_iconst (v := 0) dX10_readText_87 rfl ?_
      refine g_puti dX10_readText_88 fl_X10_166 ft_10_14 h5.1 ?_
      refine g_aload_n dX10_readText_91 rfl ?_
      refine g_geti dX10_readText_92 fl_X10_172 h5.1 ?_
      rw [show w_i (s_i w' 57 14 0) 57 16 = nI (remL g T 119 (tp_ln g T 0).2.1).2.1 from hf]
      refine g_if_lt (tgt := 103) dX10_readText_95 (by decide) (fun zc95 => ?_) (fun zc95 => ?_)
      · exact absurd zc95 (nI_pos (by omega))
      · refine g_aload_n dX10_readText_98 rfl ?_
        refine g_geti dX10_readText_99 fl_X10_172 h5.1 ?_
        rw [show w_i (s_i w' 57 14 0) 57 16 = nI (remL g T 119 (tp_ln g T 0).2.1).2.1 from hf]
        refine g_iret dX10_readText_102 rfl ⟨_, rfl, ?_⟩
        exact kB q _ ((s3.tr (hs.wk (fun _ z => z) (fun _ z => List.mem_cons_of_mem _ z))).si (by simp)) (by rw [wi_si, if_pos ⟨rfl, rfl⟩]) (lowL.tr ⟨fun j hj => ⟨by rw [a6.1, tp_row_lo _ _ _ _ (by omega)]; rfl, by rw [a6.2, tp_row_lo _ _ _ _ (by omega)]; rfl⟩, by rw [a7, va_up_row (show (0 : Nat) ≠ 1 by decide), wa_sat]; exact va_up_row (by decide), fun j hj => ⟨by rw [a8, va_up_row (by omega)]; rfl, by rw [a9, va_up_row (by omega)]; rfl⟩⟩ hl)
  · obtain ⟨q1, q2⟩ := lns_bad (z := 119) hr
    have hlb := tp_ln_b (g := g) (T := T) (p := 0) (Nat.zero_le _)
    have h3 : moO w3 := h0.1.same hs3
    refine g_aload_n dX10_readText_31 rfl ?_
    refine g_geti dX10_readText_32 fl_X10_172 h3.1 ?_
    rw [hf3]
    refine g_if_ge (tgt := 64) dX10_readText_35 (by decide) (fun zc35 => ?_) (fun zc35 => ?_)
    · refine g_aload_n dX10_readText_64 rfl ?_
      refine g_geti dX10_readText_65 fl_X10_172 h3.1 ?_
      rw [hf3]
      refine g_if_ge (tgt := 86) dX10_readText_68 (by decide) (fun zc68 => ?_) (fun zc68 => ?_)
      · refine g_aload_n dX10_readText_86 rfl ?_
        refine g_iconst (v := 0) dX10_readText_87 rfl ?_
        refine g_puti dX10_readText_88 fl_X10_166 ft_10_14 h3.1 ?_
        refine g_aload_n dX10_readText_91 rfl ?_
        refine g_geti dX10_readText_92 fl_X10_172 h3.1 ?_
        rw [show w_i (s_i w3 57 14 0) 57 16 = nI (tp_ln g T 0).2.1 from hf3]
        refine g_if_lt (tgt := 103) dX10_readText_95 (by decide) (fun zc95 => ?_) (fun zc95 => ?_)
        · exact absurd zc95 (nI_pos (by omega))
        · refine g_aload_n dX10_readText_98 rfl ?_
          refine g_geti dX10_readText_99 fl_X10_172 h3.1 ?_
          rw [show w_i (s_i w3 57 14 0) 57 16 = nI (tp_ln g T 0).2.1 from hf3]
          refine g_iret dX10_readText_102 rfl ⟨_, rfl, ?_⟩
          rw [q2] at kB
          exact kB q1 _ ((s0.tr (hs3.wk (fun _ z => z) (fun _ z => List.mem_cons_of_mem _ z))).si (by simp)) (by rw [wi_si, if_pos ⟨rfl, rfl⟩]) (lowL.tr (w' := (s_a (s_i (s_i (s_i (s_i w 57 15 0) 57 16 (-1)) 57 17 0) 57 18 0) 70 (va_up (w_a w 70) 1 0))) ⟨fun _ _ => ⟨rfl, rfl⟩, (by rw [wa_sat]; exact va_up_row (by decide)), fun _ _ => ⟨rfl, rfl⟩⟩ hl3)
      · exact absurd (show (0 : Int32) ≤ nI (tp_ln g T 0).2.1 from nI_pos' (by omega)) zc68
    · exact absurd (show (0 : Int32) ≤ nI (tp_ln g T 0).2.1 from nI_pos' (by omega)) zc35
theorem c_X10_law {d : Nat} {w : gx_W} {T : Nat} {g : Nat → Int32} {k : Int32 → gx_W → Prop} (hd : 49 ≤ d) (h : moO w) (ht : prT w T g) (kA : (tp_lns g T 120 0).1 = true → ∀ w', same lnX ((57, 26) :: rdF) w w' → w_i w' 57 14 = 0 → w_i w' 57 26 = 1 → (∀ sg va, hC sg va 0 (tp_lns g T 120 0).2.2 → lwE w' (tp_lns g T 120 0).2.2.length sg va) → 0 < (tp_lns g T 120 0).2.2.length → k 1 w') (kB : (tp_lns g T 120 0).1 = false → ∀ w', same lnX rdF w w' → w_i w' 57 14 = 0 → lowL w w' → k (-100 - nI (tp_lns g T 120 0).2.1) w') : gx_C 0 0 d mX10_law [.ref 57] w (Qi k) := by
  refine gx_C_of' (L := [.ref 57, .retAddr 0]) (by decide +kernel) rfl (Nat.le_of_ble_eq_true rfl) ?_
  refine g_aload_n dX10_law_0 rfl ?_
  refine g_iconst (v := 0) dX10_law_1 rfl ?_
  refine g_cV1i dX10_law_2 ml_X10_230 mi_X10_readText mv_X10_readText h.1 ⟨_, rfl, rfl⟩ (Nat.le_of_ble_eq_true rfl) rfl (by omega) ?_
  refine c_X10_readText (by omega) h ht (fun hA w1 s1 e1 l1 p1 => ?_) (fun hB w1 s1 e1 l1 => ?_)
  · have h1 : moO w1 := h.same s1
    refine g_istore_n dX10_law_5 (Nat.le_of_ble_eq_true rfl) rfl ?_
    refine g_iload_n dX10_law_6 rfl ?_
    refine g_if_lt (tgt := 15) dX10_law_7 (by decide) (fun _ => ?_) (fun q => absurd q (by decide))
    refine g_aload_n dX10_law_15 rfl ?_
    refine g_iconst (v := 1) dX10_law_16 rfl ?_
    refine g_putz dX10_law_17 fl_X10_233 ft_10_26 (by decide) h1.1 ?_
    refine g_iconst (v := 1) dX10_law_20 rfl ?_
    refine g_iret dX10_law_21 rfl ⟨_, rfl, ?_⟩
    refine kA hA _ ((s1.wk (fun _ z => z) (fun _ z => List.mem_cons_of_mem _ z)).si (by simp)) (by rw [wi_si, if_neg (by decide)]; exact e1) (by rw [wi_si, if_pos ⟨rfl, rfl⟩]) (fun sg va hc => (l1 sg va hc).cg rfl rfl rfl rfl rfl) p1
  · have h1 : moO w1 := h.same s1
    refine g_istore_n dX10_law_5 (Nat.le_of_ble_eq_true rfl) rfl ?_
    refine g_iload_n dX10_law_6 rfl ?_
    have hF := tp_lns_c (g := g) (T := T) 120 0 (Nat.zero_le _)
    have hT := ht.2.1
    refine g_if_lt (tgt := 15) dX10_law_7 (by decide) (fun zc7 => ?_) (fun zc7 => ?_)
    · exact absurd zc7 (nI_pos (by omega))
    · refine g_bipush (v := -100) dX10_law_10 rfl ?_
      refine g_iload_n dX10_law_12 rfl ?_
      refine g_isub dX10_law_13 ?_
      refine g_iret dX10_law_14 rfl ⟨_, rfl, ?_⟩
      exact kB hB w1 s1 e1 l1

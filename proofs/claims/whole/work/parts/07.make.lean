/-! what makes cells -/
def a_new (w : gx_W) (c : Nat × Nat) : gx_W := (w.1 ++ [c], va_up w.2.1 w.1.length (fun _ => 0), va_up w.2.2.1 w.1.length (fun _ => none), va_up w.2.2.2.1 w.1.length (fun _ => 0), va_up w.2.2.2.2.1 w.1.length (fun _ => 0), va_up w.2.2.2.2.2 w.1.length (fun _ => none))
theorem gx_len {D : gx_D} {w : gx_W} {H : Heap} (hP : gx_P D w H) : 6 ≤ w.1.length := (List.getElem?_eq_some_iff.mp (hP.2.1 5 (by omega)).1).1
theorem gx_f_len {D : gx_D} {w : gx_W} {H : Heap} (hP : gx_P D w H) : gx_f D w.1.length = H.size := by rw [gx_f_hi (gx_len hP)]; exact hP.1
theorem gx_P_new {D : gx_D} {w : gx_W} {H H' : Heap} {c : Nat × Nat} (hP : gx_P D w H) (h1 : H'.size = H.size + 1) (h2 : ∀ q, q < H.size → H'[q]? = H[q]?) (h3 : va_at (gx_g D) gx_cl (H.size, gx_e D (a_new w c) w.1.length c) H') : gx_P D (a_new w c) H' := by
  have hl := gx_len hP
  have hsz := hP.1
  refine ⟨?_, fun k hk => ?_, fun i q hi => ?_⟩
  · show gx_z D + ((w.1 ++ [c]).length - 6) = _
    rw [List.length_append, h1, List.length_singleton]
    omega
  · have := hP.2.1 k hk
    refine ⟨?_, ?_⟩
    · show (w.1 ++ [c])[k]? = _
      rw [List.getElem?_append_left (by omega)]
      exact this.1
    · show va_up w.2.2.2.1 w.1.length (fun _ => 0) k = _
      rw [va_up_row (by omega)]
      exact this.2
  · rw [gx_ws_get] at hi
    obtain ⟨c', hc', rfl⟩ := Option.map_eq_some_iff.mp hi
    have hc2 : (w.1 ++ [c])[i + 6]? = some c' := hc'
    by_cases e : i + 6 < w.1.length
    · rw [List.getElem?_append_left e] at hc2
      rw [gx_e_ne (w := w) (w' := a_new w c) (va_up_row (f := w.2.1) (by omega)) (va_up_row (f := w.2.2.1) (by omega)) (va_up_row (f := w.2.2.2.1) (by omega)) (va_up_row (f := w.2.2.2.2.1) (by omega)) (va_up_row (f := w.2.2.2.2.2) (by omega)) c']
      have h := hP.2.2 i (gx_z D + i, gx_e D w (i + 6) c') (by rw [gx_ws_get, hc2]; rfl)
      exact h.kept (h2 _ h.lt)
    · rw [List.getElem?_append_right (by omega)] at hc2
      have e2 : i + 6 - w.1.length < 1 := (List.getElem?_eq_some_iff.mp hc2).1
      have e3 : i + 6 = w.1.length := by omega
      rw [e3, Nat.sub_self] at hc2
      cases hc2
      have e4 : gx_z D + i = H.size := by omega
      rw [e3, e4]
      exact h3
/-- the fields of a new object -/
theorem gx_dflt (ci : Nat) (q : vw_C) (h : gx_cl[ci]? = some q) : ∀ k, k < q.2.2 → (parseFieldDescriptor (q.2.1 k).2.2.1).map defaultValue = ((gx_lay ci)[k]?).map (fun b => if b then Value.int 0 else Value.null) := by
  match ci, h with
  | 0, h => cases h; decide +kernel
  | 1, h => cases h; decide +kernel
  | 2, h => cases h; decide +kernel
  | 3, h => cases h; decide +kernel
  | 4, h => cases h; decide +kernel
  | 5, h => cases h; decide +kernel
  | 6, h => cases h; decide +kernel
  | 7, h => cases h; decide +kernel
  | 8, h => cases h; decide +kernel
  | 9, h => cases h; decide +kernel
  | 10, h => cases h; decide +kernel
  | n + 11, h => simp [gx_cl] at h
section GXN
variable {nc ns d : Nat} {M : gx_M} {Q : Option Value → gx_W → Prop} {pc : Nat} {L st : List Value} {w : gx_W}
theorem g_new {idx ci : Nat} {q : vw_C} (hd : gx_d M pc (.new idx) 3) (hc : gx_cl[ci]? = some q) (hl : Cond.classLink M.1.cls idx q.1 ∈ gx_T) (hi : Cond.instantiable q.1 q.2.2 ∈ gx_T) (hini : Cond.initialized q.1 ∈ gx_T) (kk : gx_G nc ns d M Q (pc + 3) L (.ref w.1.length :: st) (a_new w (ci, 0))) : gx_G (nc + 1) (ns + q.2.2) d M Q pc L st w := by
  intro D p l e R s m args below meth c H locs cells slots ls C hR hP hS hL
  have hts : ∀ w ∈ gx_T, w.before args s = true := fun w hw => C.2.2.2.2.2.1 w hw
  have hE := C.2.2.2.2.2.2.2.2.1
  have hKn := hE.1.1 ci _ hc
  obtain ⟨f1, f2, ty0, f3⟩ := gx_fact ci q hc
  have hci : ci < 20 := by
    have h2 := (List.getElem?_eq_some_iff.mp hc).1
    exact Nat.lt_of_lt_of_le h2 (by decide)
  have r1 := hR.2.2.1
  have r2 := hR.2.2.2
  refine W.newcK C.1 C.2.1 C.2.2.2.2.1 (hts _ hl) (hts _ hi) (hts _ hini) rfl hd (by omega) (by omega) hKn.2.1 rfl fun H1 kC hkC e1 z1 o1 => ?_
  have K := kk D p l e R s m args below meth c H1 locs (cells + 1) (slots + q.2.2) ls C ⟨hR.1, hR.2.1, by omega, by omega⟩ (gx_P_new hP z1 o1 ?_) ⟨Nat.le_trans hS.1 (by omega), fun x h1 h2 => (o1 x (Nat.lt_of_lt_of_le h1 hS.1)).trans (hS.2.1 x h1 h2), hS.2.2⟩ hL
  · rw [show cells + 1 + nc = cells + (nc + 1) by omega, show slots + q.2.2 + ns = slots + (ns + q.2.2) by omega] at K
    have e2 : (Value.ref w.1.length :: st).map (gx_c D) = .ref H.size :: st.map (gx_c D) := by
      show Value.ref (gx_f D w.1.length) :: _ = _
      rw [gx_f_len hP]
    rw [e2] at K
    exact K
  · rw [gx_e_obj hci]
    refine ⟨q, hc, (u_born ty0 hts f1 hKn hkC e1 f3).to (fun j hj => ?_)⟩
    have h1 := gx_dflt ci q hc j hj
    rw [f3 j hj] at h1
    obtain ⟨b, hb, hb2⟩ := Option.map_eq_some_iff.mp h1.symm
    have h2 := gx_fs_at (D := D) (w := a_new w (ci, 0)) (r := w.1.length) hb
    unfold vp_V
    rw [List.getD_eq_getElem?_getD, h2, ← hb2]
    show _ = (if b = true then Value.int (va_up w.2.1 w.1.length (fun _ => 0) w.1.length j) else gx_rv D (va_up w.2.2.1 w.1.length (fun _ => none) w.1.length j))
    rw [va_up_at, va_up_at]
    cases b <;> rfl
/-- new arrays: ints, bytes, shorts, longs -/
theorem gx_P_arr {D : gx_D} {H H' : Heap} {n : Nat} {a : Nat} {x : vp_A} (hP : gx_P D w H) (h1 : H'.size = H.size + 1) (h2 : ∀ q, q < H.size → H'[q]? = H[q]?) (h3 : H'[H.size]? = some (vp_cell (gx_y D a) x)) (h4 : gx_e D (a_new w (a, n)) w.1.length (a, n) = .inl (gx_y D a, x)) : gx_P D (a_new w (a, n)) H' := by
  refine gx_P_new hP h1 h2 ?_
  rw [h4]
  exact h3
theorem g_newa_int {at_ : ArrayType} {n : Int32} {N : Nat} (hd : gx_d M pc (.newarray at_) 2) (hat : newarray.typeOf at_ = .int) (harr : Cond.arrayClass .int ∈ gx_T) (hn : ¬ n < 0) (hN : n.toNatClampNeg = N) (hb : N ≤ 1000) (kk : gx_G nc ns d M Q (pc + 2) L (.ref w.1.length :: st) (a_new w (20, N))) : gx_G (nc + 1) (ns + N) d M Q pc L (.int n :: st) w := by
  intro D p l e R s m args below meth c H locs cells slots ls C hR hP hS hL
  have hts : ∀ w ∈ gx_T, w.before args s = true := fun w hw => C.2.2.2.2.2.1 w hw
  have hE := C.2.2.2.2.2.2.2.2.1
  have r1 := hR.2.2.1
  have r2 := hR.2.2.2
  refine va_newaK C.1 C.2.1 (atype := at_) (by rw [hat]; exact hts _ harr) rfl hd rfl hn hN (by rw [hat]; show N * 4 ≤ 536870912; omega) (by omega) (by omega) rfl fun H1 cA e1 z1 o1 hAr hNm => ?_
  rw [hat] at e1 hNm
  have hcA : cA = gx_y D 20 := by
    have h := (hE.1.2 0 _ rfl).2
    exact Option.some.inj (hNm.symm.trans h)
  subst hcA
  have K := kk D p l e R s m args below meth c H1 locs (cells + 1) (slots + N) ls C ⟨hR.1, hR.2.1, by omega, by omega⟩ (gx_P_arr (x := (N, .inl (fun _ => 0))) hP z1 o1 e1 ?_) ⟨Nat.le_trans hS.1 (by omega), fun x h1 h2 => (o1 x (Nat.lt_of_lt_of_le h1 hS.1)).trans (hS.2.1 x h1 h2), hS.2.2⟩ hL
  · rw [show cells + 1 + nc = cells + (nc + 1) by omega, show slots + N + ns = slots + (ns + N) by omega] at K
    have e2 : (Value.ref w.1.length :: st).map (gx_c D) = .ref H.size :: st.map (gx_c D) := by
      show Value.ref (gx_f D w.1.length) :: _ = _
      rw [gx_f_len hP]
    rw [e2] at K
    exact K
  · unfold a_new
    rw [gx_e_int (by omega) (by omega)]
    show Sum.inl (gx_y D 20, N, Sum.inl (va_up w.2.2.2.1 w.1.length (fun _ => 0) w.1.length)) = _
    rw [va_up_at]
theorem g_newa_byte {at_ : ArrayType} {n : Int32} {N : Nat} (hd : gx_d M pc (.newarray at_) 2) (hat : newarray.typeOf at_ = .byte) (harr : Cond.arrayClass .byte ∈ gx_T) (hn : ¬ n < 0) (hN : n.toNatClampNeg = N) (hb : N ≤ 1000) (kk : gx_G nc ns d M Q (pc + 2) L (.ref w.1.length :: st) (a_new w (21, N))) : gx_G (nc + 1) (ns + N) d M Q pc L (.int n :: st) w := by
  intro D p l e R s m args below meth c H locs cells slots ls C hR hP hS hL
  have hts : ∀ w ∈ gx_T, w.before args s = true := fun w hw => C.2.2.2.2.2.1 w hw
  have hE := C.2.2.2.2.2.2.2.2.1
  have r1 := hR.2.2.1
  have r2 := hR.2.2.2
  refine va_newaK C.1 C.2.1 (atype := at_) (by rw [hat]; exact hts _ harr) rfl hd rfl hn hN (by rw [hat]; show N * 1 ≤ 536870912; omega) (by omega) (by omega) rfl fun H1 cA e1 z1 o1 hAr hNm => ?_
  rw [hat] at e1 hNm
  have hcA : cA = gx_y D 21 := by
    have h := (hE.1.2 1 _ rfl).2
    exact Option.some.inj (hNm.symm.trans h)
  subst hcA
  have K := kk D p l e R s m args below meth c H1 locs (cells + 1) (slots + N) ls C ⟨hR.1, hR.2.1, by omega, by omega⟩ (gx_P_arr (x := (N, .inl (fun _ => 0))) hP z1 o1 e1 ?_) ⟨Nat.le_trans hS.1 (by omega), fun x h1 h2 => (o1 x (Nat.lt_of_lt_of_le h1 hS.1)).trans (hS.2.1 x h1 h2), hS.2.2⟩ hL
  · rw [show cells + 1 + nc = cells + (nc + 1) by omega, show slots + N + ns = slots + (ns + N) by omega] at K
    have e2 : (Value.ref w.1.length :: st).map (gx_c D) = .ref H.size :: st.map (gx_c D) := by
      show Value.ref (gx_f D w.1.length) :: _ = _
      rw [gx_f_len hP]
    rw [e2] at K
    exact K
  · unfold a_new
    rw [gx_e_int (by omega) (by omega)]
    show Sum.inl (gx_y D 21, N, Sum.inl (va_up w.2.2.2.1 w.1.length (fun _ => 0) w.1.length)) = _
    rw [va_up_at]
theorem g_newa_short {at_ : ArrayType} {n : Int32} {N : Nat} (hd : gx_d M pc (.newarray at_) 2) (hat : newarray.typeOf at_ = .short) (harr : Cond.arrayClass .short ∈ gx_T) (hn : ¬ n < 0) (hN : n.toNatClampNeg = N) (hb : N ≤ 1000) (kk : gx_G nc ns d M Q (pc + 2) L (.ref w.1.length :: st) (a_new w (22, N))) : gx_G (nc + 1) (ns + N) d M Q pc L (.int n :: st) w := by
  intro D p l e R s m args below meth c H locs cells slots ls C hR hP hS hL
  have hts : ∀ w ∈ gx_T, w.before args s = true := fun w hw => C.2.2.2.2.2.1 w hw
  have hE := C.2.2.2.2.2.2.2.2.1
  have r1 := hR.2.2.1
  have r2 := hR.2.2.2
  refine va_newaK C.1 C.2.1 (atype := at_) (by rw [hat]; exact hts _ harr) rfl hd rfl hn hN (by rw [hat]; show N * 2 ≤ 536870912; omega) (by omega) (by omega) rfl fun H1 cA e1 z1 o1 hAr hNm => ?_
  rw [hat] at e1 hNm
  have hcA : cA = gx_y D 22 := by
    have h := (hE.1.2 2 _ rfl).2
    exact Option.some.inj (hNm.symm.trans h)
  subst hcA
  have K := kk D p l e R s m args below meth c H1 locs (cells + 1) (slots + N) ls C ⟨hR.1, hR.2.1, by omega, by omega⟩ (gx_P_arr (x := (N, .inl (fun _ => 0))) hP z1 o1 e1 ?_) ⟨Nat.le_trans hS.1 (by omega), fun x h1 h2 => (o1 x (Nat.lt_of_lt_of_le h1 hS.1)).trans (hS.2.1 x h1 h2), hS.2.2⟩ hL
  · rw [show cells + 1 + nc = cells + (nc + 1) by omega, show slots + N + ns = slots + (ns + N) by omega] at K
    have e2 : (Value.ref w.1.length :: st).map (gx_c D) = .ref H.size :: st.map (gx_c D) := by
      show Value.ref (gx_f D w.1.length) :: _ = _
      rw [gx_f_len hP]
    rw [e2] at K
    exact K
  · unfold a_new
    rw [gx_e_int (by omega) (by omega)]
    show Sum.inl (gx_y D 22, N, Sum.inl (va_up w.2.2.2.1 w.1.length (fun _ => 0) w.1.length)) = _
    rw [va_up_at]
theorem g_newa_long {at_ : ArrayType} {n : Int32} {N : Nat} (hd : gx_d M pc (.newarray at_) 2) (hat : newarray.typeOf at_ = .long) (harr : Cond.arrayClass .long ∈ gx_T) (hn : ¬ n < 0) (hN : n.toNatClampNeg = N) (hb : N ≤ 1000) (kk : gx_G nc ns d M Q (pc + 2) L (.ref w.1.length :: st) (a_new w (23, N))) : gx_G (nc + 1) (ns + N) d M Q pc L (.int n :: st) w := by
  intro D p l e R s m args below meth c H locs cells slots ls C hR hP hS hL
  have hts : ∀ w ∈ gx_T, w.before args s = true := fun w hw => C.2.2.2.2.2.1 w hw
  have hE := C.2.2.2.2.2.2.2.2.1
  have r1 := hR.2.2.1
  have r2 := hR.2.2.2
  refine va_newaK C.1 C.2.1 (atype := at_) (by rw [hat]; exact hts _ harr) rfl hd rfl hn hN (by rw [hat]; show N * 8 ≤ 536870912; omega) (by omega) (by omega) rfl fun H1 cA e1 z1 o1 hAr hNm => ?_
  rw [hat] at e1 hNm
  have hcA : cA = gx_y D 23 := by
    have h := (hE.1.2 3 _ rfl).2
    exact Option.some.inj (hNm.symm.trans h)
  subst hcA
  have K := kk D p l e R s m args below meth c H1 locs (cells + 1) (slots + N) ls C ⟨hR.1, hR.2.1, by omega, by omega⟩ (gx_P_arr (x := (N, .inr (.inl (fun _ => 0)))) hP z1 o1 e1 ?_) ⟨Nat.le_trans hS.1 (by omega), fun x h1 h2 => (o1 x (Nat.lt_of_lt_of_le h1 hS.1)).trans (hS.2.1 x h1 h2), hS.2.2⟩ hL
  · rw [show cells + 1 + nc = cells + (nc + 1) by omega, show slots + N + ns = slots + (ns + N) by omega] at K
    have e2 : (Value.ref w.1.length :: st).map (gx_c D) = .ref H.size :: st.map (gx_c D) := by
      show Value.ref (gx_f D w.1.length) :: _ = _
      rw [gx_f_len hP]
    rw [e2] at K
    exact K
  · unfold a_new
    show Sum.inl (gx_y D 23, N, Sum.inr (Sum.inl (va_up w.2.2.2.2.1 w.1.length (fun _ => 0) w.1.length))) = _
    rw [va_up_at]
/-- new Shelf[n] -/
theorem g_newq {idx : Nat} {n : Int32} {N : Nat} (hd : gx_d M pc (.anewarray idx) 3) (hl : Cond.classLink M.1.cls idx "CrossroadsChoose$Shelf" ∈ gx_T) (hn : ¬ n < 0) (hN : n.toNatClampNeg = N) (hb : N ≤ 1000) (kk : gx_G nc ns d M Q (pc + 3) L (.ref w.1.length :: st) (a_new w (24, N))) : gx_G (nc + 1) (ns + N) d M Q pc L (.int n :: st) w := by
  intro D p l e R s m args below meth c H locs cells slots ls C hR hP hS hL
  have hts : ∀ w ∈ gx_T, w.before args s = true := fun w hw => C.2.2.2.2.2.1 w hw
  have hE := C.2.2.2.2.2.2.2.2.1
  have r1 := hR.2.2.1
  have r2 := hR.2.2.2
  subst hN
  refine W.anew C.1 C.2.1 C.2.2.2.2.1 (hts _ hl) (va_AO.use hE.2.2.1) rfl hd rfl hn (by omega) (by omega) (by omega) fun cA kA comp g1 g2 g3 g4 => ?_
  have hcA : cA = gx_y D 24 := by
    obtain ⟨kA', comp', -, -, -, h⟩ := (hE.1.2 4 _ rfl).2
    exact Option.some.inj (g1.symm.trans h)
  subst hcA
  generalize hH1 : H.push ({ cls := gx_y D 24, slots := Array.replicate n.toNatClampNeg .null, vm := .none } : Cell) = H1
  have z1 : H1.size = H.size + 1 := by rw [← hH1, Array.size_push]
  have e1 : H1[H.size]? = some (vp_cell (gx_y D 24) (n.toNatClampNeg, .inr (.inr (.inr (.inr (fun _ => none)))))) := by
    rw [← hH1, Array.getElem?_push_size, vp_cell_q]
    show some _ = some (arrV (gx_y D 24) n.toNatClampNeg (fun _ => .null))
    rw [← arrV_new]
  have o1 : ∀ q, q < H.size → H1[q]? = H[q]? := fun q hq => by
    rw [← hH1, Array.getElem?_push, if_neg (Nat.ne_of_lt hq)]
  have K := kk D p l e R s m args below meth c H1 locs (cells + 1) (slots + n.toNatClampNeg) ls C ⟨hR.1, hR.2.1, by omega, by omega⟩ (gx_P_arr (x := (n.toNatClampNeg, .inr (.inr (.inr (.inr (fun _ => none)))))) hP z1 o1 e1 ?_) ⟨Nat.le_trans hS.1 (by omega), fun x h1 h2 => (o1 x (Nat.lt_of_lt_of_le h1 hS.1)).trans (hS.2.1 x h1 h2), hS.2.2⟩ hL
  · rw [show cells + 1 + nc = cells + (nc + 1) by omega, show slots + n.toNatClampNeg + ns = slots + (ns + n.toNatClampNeg) by omega] at K
    have e2 : (Value.ref w.1.length :: st).map (gx_c D) = .ref H.size :: st.map (gx_c D) := by
      show Value.ref (gx_f D w.1.length) :: _ = _
      rw [gx_f_len hP]
    rw [e2] at K
    exact K
  · rw [gx_e_ref (by omega)]
    show Sum.inl (gx_y D 24, n.toNatClampNeg, Sum.inr (Sum.inr (Sum.inr (Sum.inr (fun j => (va_up w.2.2.2.2.2 w.1.length (fun _ => none) w.1.length j).map (gx_f D)))))) = _
    rw [va_up_at]
    rfl
/-- a shelf comes into the row of shelves -/
theorem g_aast {r n v k : Nat} {i : Int32} (hd : gx_d M pc .aastore 1) (hs : w.1[r]? = some (24, n)) (hv : w.1[v]? = some (5, k)) (hi : vp_in i n) (kk : gx_G nc ns d M Q (pc + 1) L st (s_q w r (va_up (w_q w r) i.toNatClampNeg (some v)))) : gx_G nc ns d M Q pc L (.ref v :: .int i :: .ref r :: st) w := by
  intro D p l e R s m args below meth c H locs cells slots ls C hR hP hS hL
  have hE := C.2.2.2.2.2.2.2.2.1
  have hr := gx_hi hP hs (by omega)
  have hvv := gx_hi hP hv (by omega)
  have he := gx_ws_at (D := D) hr hs
  rw [gx_e_ref (by omega)] at he
  have hev := gx_ws_at (D := D) hvv hv
  rw [gx_e_obj (by omega)] at hev
  have hlt : i.toNatClampNeg < n := Nat.not_le.mp fun q => hi (Or.inr q)
  have h0 : ¬ i < 0 := fun q => hi (Or.inl q)
  obtain ⟨r', hr', cellV, g1, g2, g3, -⟩ := hP.2.2 (v - 6) _ hev
  have hcls := (hE.1.1 5 _ rfl).2
  obtain ⟨kA, comp, k1, k2, k3, -⟩ := (hE.1.2 4 _ rfl).2
  have hcomp : comp = (gx_g D).1 5 := Option.some.inj (k3.symm.trans hcls.1)
  subst hcomp
  obtain ⟨kC, hkC, -⟩ := hcls.2
  refine W.aast C.1 C.2.1 (hP.2.2 (r - 6) _ he) (fun q h => by cases h) (fun h => by cases h) k1 k2 rfl hkC ⟨h0, by show _ < (arrV _ _ _).slots.size; rw [arrV_size]; exact hlt⟩ g1 (fun q h => by rw [g3] at h; cases h) (by rw [g2]; exact hkC) (by rw [g2]; exact va_assign hcls) rfl rfl hd fun H1 e1 z oq => ?_
  refine kk D p l e R s m args below meth c H1 _ cells slots ls C hR (gx_P_sq hP hs (by omega) (by omega) z oq ?_) (hS.put z oq (gx_A_hi hr)) hL
  rw [e1, vp_cell_q, vp_cell_q, arrV_store]
  congr 2
  funext q
  by_cases hq : q = i.toNatClampNeg
  · subst hq
    simp [updV, va_up, va_rf]
  · simp [updV, va_up, hq]
/-- Object() -/
theorem g_objInit {idx r : Nat} (hd : gx_d M pc (.invokespecial idx) 3) (hl : Cond.methodLink M.1.cls idx Lib.objectInit ∈ gx_T) (hi : Cond.instanceMethod Lib.objectInit ∈ gx_T) (hc : Cond.code Lib.objectInit ⟨#[0xb1]⟩ 1 none ∈ gx_T) (hcat : (st.map fun v => v.category).sum ≤ 8) (hL0 : L.length = M.2.2.1) (h1 : 1 ≤ d) (kk : gx_G nc ns d M Q (pc + 3) L st w) : gx_G nc ns d M Q pc L (.ref r :: st) w := by
  intro D p l e R s m args below meth c H locs cells slots ls C hR hP hS hL
  have hts : ∀ w ∈ gx_T, w.before args s = true := fun w hw => C.2.2.2.2.2.1 w hw
  have r1 := hR.1
  have r2 := hR.2.1
  exact W.objInit C.1 C.2.1 C.2.2.2.2.1 (hts _ hl) (hts _ hi) (hts _ hc) rfl (by show ls.size = _; rw [hL.1, hL0, C.2.2.2.1]) rfl hd (by omega) (by show 2 * 0 + ((st.map (gx_c D)).map fun v => v.category).sum + 12 ≤ R.locals; rw [gx_cat_sum]; omega) (kk D p l e R s m args below meth c H locs cells slots ls C hR hP hS hL)
/-! System.arraycopy -/
def gx_CP (own : String) (idx : Nat) : Prop := Cond.methodLink own idx arraycopyName ∈ gx_T ∧ Cond.native arraycopyName ∈ gx_T ∧ Cond.static arraycopyName ∈ gx_T ∧ Cond.initialized "java/lang/System" ∈ gx_T
theorem gx_nn (z : Int32) (hz : ¬ z < 0) : z.toInt = (z.toNatClampNeg : Int) := by
  have hz0 : (0 : Int) ≤ z.toInt := by
    have := Int32.not_lt.mp hz
    simpa using Int32.le_iff_toInt_le.mp this
  show z.toInt = ((z.toInt.toNat : Nat) : Int)
  omega
theorem g_copyi {idx a b n0 n1 : Nat} {sp dp n : Int32} (hd : gx_d M pc (.invokestatic idx) 3) (hcp : gx_CP M.1.cls idx) (ha : w.1[a]? = some (20, n0)) (hb : w.1[b]? = some (20, n1)) (h1 : ¬ sp < 0) (h2 : ¬ dp < 0) (h3 : ¬ n < 0) (h4 : sp.toNatClampNeg + n.toNatClampNeg ≤ n0) (h5 : dp.toNatClampNeg + n.toNatClampNeg ≤ n1) (hcat : (st.map fun v => v.category).sum ≤ 8) (hL0 : L.length = M.2.2.1) (hd1 : 1 ≤ d)
    (kk : gx_G nc ns d M Q (pc + 3) L st (s_a w b (va_cpy (w_a w a) (w_a w b) sp.toNatClampNeg dp.toNatClampNeg n.toNatClampNeg))) : gx_G nc ns d M Q pc L (.int n :: .int dp :: .ref b :: .int sp :: .ref a :: st) w := by
  intro D p l e R s m args below meth c H locs cells slots ls C hR hP hS hL
  have hts : ∀ w ∈ gx_T, w.before args s = true := fun w hw => C.2.2.2.2.2.1 w hw
  have hE := C.2.2.2.2.2.2.2.2.1
  have hra := gx_hi hP ha (by omega)
  have hrb := gx_hi hP hb (by omega)
  have hea := gx_ws_at (D := D) hra ha
  have heb := gx_ws_at (D := D) hrb hb
  rw [gx_e_int (by omega) (by omega)] at hea heb
  have r1 := hR.1
  have r2 := hR.2.1
  have hsz : ls.size = c.maxLocals := by rw [hL.1, hL0, C.2.2.2.1]
  have hw60 : nativeFrameWords "java/lang/System" "arraycopy" 5 + 11 ≤ 60 := by decide +kernel
  have hloc : 2 * 0 + ((st.map (gx_c D)).map fun v => v.category).sum + (nativeFrameWords "java/lang/System" "arraycopy" 5 + 11) ≤ R.locals := by
    rw [gx_cat_sum]
    omega
  intro T hT X
  have hc0 : H[gx_f D a]? = some (vp_cell (gx_y D 20) (n0, .inl (w_a w a))) := hP.2.2 _ _ hea
  have hc1 : H[gx_f D b]? = some (vp_cell (gx_y D 20) (n1, .inl (w_a w b))) := hP.2.2 _ _ heb
  obtain ⟨-, k0, hk0, cm0, hkk0⟩ := (hE.1.2 0 _ rfl).1 n0 (fun j => .int (w_a w a j))
  obtain ⟨vm', X', step⟩ := X.arraycopy C.1 C.2.2.2.2.1 (hts _ hcp.1) (hts _ hcp.2.1) (hts _ hcp.2.2.1) (hts _ hcp.2.2.2) (src := gx_f D a) (dst := gx_f D b) (cs := vp_cell (gx_y D 20) (n0, .inl (w_a w a))) (cd := vp_cell (gx_y D 20) (n1, .inl (w_a w b))) (srcPos := sp) (destPos := dp) (n := n) (by rw [hT]; exact hc0) (by rw [hT]; exact hc1)
    (fun _ h => by cases h) (fun _ h => by cases h) (fun h => by cases h) (fun h => by cases h) hk0 hk0 hkk0 hkk0 (by simp [refKind]) h1 h2 h3
    (by rw [gx_nn sp h1, gx_nn n h3]; show ¬ _ > ((arrV (gx_y D 20) n0 (fun j => .int (w_a w a j))).slots.size : Int); rw [arrV_size]; omega)
    (by rw [gx_nn dp h2, gx_nn n h3]; show ¬ _ > ((arrV (gx_y D 20) n1 (fun j => .int (w_a w b j))).slots.size : Int); rw [arrV_size]; omega)
    (fun vm₁ _ i hi => by
      have e : (vp_cell (gx_y D 20) (n0, .inl (w_a w a))).slots.getD (sp.toNatClampNeg + i) .null = .int (w_a w a (sp.toNatClampNeg + i)) := by
        show (arrV (gx_y D 20) n0 (fun j => .int (w_a w a j))).slots.getD _ _ = _
        rw [Array.getD_eq_getD_getElem?, arrV_read _ _ (by omega)]
        rfl
      refine ⟨?_, ?_⟩
      · rw [e]
        rfl
      · rw [e]
        exact trivial)
    (g := F0 m pc ls ((.int n :: .int dp :: .ref b :: .int sp :: .ref a :: st).map (gx_c D))) rfl hsz (rest := st.map (gx_c D)) rfl (by rw [C.2.1]; exact hd) (by omega) hloc
  have e1 : copied (vp_cell (gx_y D 20) (n0, .inl (w_a w a))) (vp_cell (gx_y D 20) (n1, .inl (w_a w b))) sp dp n = vp_cell (gx_y D 20) (n1, .inl (va_cpy (w_a w a) (w_a w b) sp.toNatClampNeg dp.toNatClampNeg n.toNatClampNeg)) := va_copied (fun z => .int z) (gx_y D 20) (gx_y D 20) (w_a w a) (w_a w b) h4
  rw [e1] at X' step
  have hl : gx_f D b < H.size := (Array.getElem?_eq_some_iff.mp hc1).1
  generalize hcell : vp_cell (gx_y D 20) (n1, .inl (va_cpy (w_a w a) (w_a w b) sp.toNatClampNeg dp.toNatClampNeg n.toNatClampNeg)) = cell at X' step
  have hheap : ((T.setVm vm').setCell (gx_f D b) cell).heap = H.setIfInBounds (gx_f D b) cell := by rw [← hT]; rfl
  have oq : ∀ q : Nat, q ≠ gx_f D b → (H.setIfInBounds (gx_f D b) cell)[q]? = H[q]? := fun q hq => by simp [Array.getElem?_setIfInBounds, Ne.symm hq]
  obtain ⟨t, a1, b1⟩ := kk D p l e R s m args below meth c (H.setIfInBounds (gx_f D b) cell) _ cells slots ls C hR (gx_P_sa hP hb (by omega) (by omega) (by simp) oq (by rw [hcell]; simp [Array.getElem?_setIfInBounds, hl])) ⟨by simp; exact hS.1, fun q g1 g2 => by
      rw [oq q (fun e => g2 (by rw [e]; exact gx_A_hi hrb))]
      exact hS.2.1 q g1 g2, fun q hq => by
      rcases List.mem_append.mp hq with h | h
      · exact hS.2.2 q h
      · obtain ⟨z, -, hz⟩ := List.mem_map.mp h
        rw [← hz]
        exact gx_A_hi hrb⟩ hL _ hheap X'
  exact ⟨t, step t a1, b1⟩
theorem g_copyl {idx a b n0 n1 : Nat} {sp dp n : Int32} (hd : gx_d M pc (.invokestatic idx) 3) (hcp : gx_CP M.1.cls idx) (ha : w.1[a]? = some (23, n0)) (hb : w.1[b]? = some (23, n1)) (h1 : ¬ sp < 0) (h2 : ¬ dp < 0) (h3 : ¬ n < 0) (h4 : sp.toNatClampNeg + n.toNatClampNeg ≤ n0) (h5 : dp.toNatClampNeg + n.toNatClampNeg ≤ n1) (hcat : (st.map fun v => v.category).sum ≤ 8) (hL0 : L.length = M.2.2.1) (hd1 : 1 ≤ d)
    (kk : gx_G nc ns d M Q (pc + 3) L st (s_l w b (va_cpy (w_l w a) (w_l w b) sp.toNatClampNeg dp.toNatClampNeg n.toNatClampNeg))) : gx_G nc ns d M Q pc L (.int n :: .int dp :: .ref b :: .int sp :: .ref a :: st) w := by
  intro D p l e R s m args below meth c H locs cells slots ls C hR hP hS hL
  have hts : ∀ w ∈ gx_T, w.before args s = true := fun w hw => C.2.2.2.2.2.1 w hw
  have hE := C.2.2.2.2.2.2.2.2.1
  have hra := gx_hi hP ha (by omega)
  have hrb := gx_hi hP hb (by omega)
  have hea := gx_ws_at (D := D) hra ha
  have heb := gx_ws_at (D := D) hrb hb
  rw [gx_e_long] at hea heb
  have r1 := hR.1
  have r2 := hR.2.1
  have hsz : ls.size = c.maxLocals := by rw [hL.1, hL0, C.2.2.2.1]
  have hw60 : nativeFrameWords "java/lang/System" "arraycopy" 5 + 11 ≤ 60 := by decide +kernel
  have hloc : 2 * 0 + ((st.map (gx_c D)).map fun v => v.category).sum + (nativeFrameWords "java/lang/System" "arraycopy" 5 + 11) ≤ R.locals := by
    rw [gx_cat_sum]
    omega
  intro T hT X
  have hc0 : H[gx_f D a]? = some (vp_cell (gx_y D 23) (n0, .inr (.inl (w_l w a)))) := hP.2.2 _ _ hea
  have hc1 : H[gx_f D b]? = some (vp_cell (gx_y D 23) (n1, .inr (.inl (w_l w b)))) := hP.2.2 _ _ heb
  obtain ⟨-, k0, hk0, cm0, hkk0⟩ := (hE.1.2 3 _ rfl).1 n0 (fun j => .long (w_l w a j))
  obtain ⟨vm', X', step⟩ := X.arraycopy C.1 C.2.2.2.2.1 (hts _ hcp.1) (hts _ hcp.2.1) (hts _ hcp.2.2.1) (hts _ hcp.2.2.2) (src := gx_f D a) (dst := gx_f D b) (cs := vp_cell (gx_y D 23) (n0, .inr (.inl (w_l w a)))) (cd := vp_cell (gx_y D 23) (n1, .inr (.inl (w_l w b)))) (srcPos := sp) (destPos := dp) (n := n) (by rw [hT]; exact hc0) (by rw [hT]; exact hc1)
    (fun _ h => by cases h) (fun _ h => by cases h) (fun h => by cases h) (fun h => by cases h) hk0 hk0 hkk0 hkk0 (by simp [refKind]) h1 h2 h3
    (by rw [gx_nn sp h1, gx_nn n h3]; show ¬ _ > ((arrV (gx_y D 23) n0 (fun j => .long (w_l w a j))).slots.size : Int); rw [arrV_size]; omega)
    (by rw [gx_nn dp h2, gx_nn n h3]; show ¬ _ > ((arrV (gx_y D 23) n1 (fun j => .long (w_l w b j))).slots.size : Int); rw [arrV_size]; omega)
    (fun vm₁ _ i hi => by
      have e : (vp_cell (gx_y D 23) (n0, .inr (.inl (w_l w a)))).slots.getD (sp.toNatClampNeg + i) .null = .long (w_l w a (sp.toNatClampNeg + i)) := by
        show (arrV (gx_y D 23) n0 (fun j => .long (w_l w a j))).slots.getD _ _ = _
        rw [Array.getD_eq_getD_getElem?, arrV_read _ _ (by omega)]
        rfl
      refine ⟨?_, ?_⟩
      · rw [e]
        rfl
      · rw [e]
        exact trivial)
    (g := F0 m pc ls ((.int n :: .int dp :: .ref b :: .int sp :: .ref a :: st).map (gx_c D))) rfl hsz (rest := st.map (gx_c D)) rfl (by rw [C.2.1]; exact hd) (by omega) hloc
  have e1 : copied (vp_cell (gx_y D 23) (n0, .inr (.inl (w_l w a)))) (vp_cell (gx_y D 23) (n1, .inr (.inl (w_l w b)))) sp dp n = vp_cell (gx_y D 23) (n1, .inr (.inl (va_cpy (w_l w a) (w_l w b) sp.toNatClampNeg dp.toNatClampNeg n.toNatClampNeg))) := va_copied (fun z => .long z) (gx_y D 23) (gx_y D 23) (w_l w a) (w_l w b) h4
  rw [e1] at X' step
  have hl : gx_f D b < H.size := (Array.getElem?_eq_some_iff.mp hc1).1
  generalize hcell : vp_cell (gx_y D 23) (n1, .inr (.inl (va_cpy (w_l w a) (w_l w b) sp.toNatClampNeg dp.toNatClampNeg n.toNatClampNeg))) = cell at X' step
  have hheap : ((T.setVm vm').setCell (gx_f D b) cell).heap = H.setIfInBounds (gx_f D b) cell := by rw [← hT]; rfl
  have oq : ∀ q : Nat, q ≠ gx_f D b → (H.setIfInBounds (gx_f D b) cell)[q]? = H[q]? := fun q hq => by simp [Array.getElem?_setIfInBounds, Ne.symm hq]
  obtain ⟨t, a1, b1⟩ := kk D p l e R s m args below meth c (H.setIfInBounds (gx_f D b) cell) _ cells slots ls C hR (gx_P_sl hP hb (by simp) oq (by rw [hcell]; simp [Array.getElem?_setIfInBounds, hl])) ⟨by simp; exact hS.1, fun q g1 g2 => by
      rw [oq q (fun e => g2 (by rw [e]; exact gx_A_hi hrb))]
      exact hS.2.1 q g1 g2, fun q hq => by
      rcases List.mem_append.mp hq with h | h
      · exact hS.2.2 q h
      · obtain ⟨z, -, hz⟩ := List.mem_map.mp h
        rw [← hz]
        exact gx_A_hi hrb⟩ hL _ hheap X'
  exact ⟨t, step t a1, b1⟩
end GXN
/-! the judgement moves with what is asked of the end -/
theorem gx_G_mono {nc ns d : Nat} {M : gx_M} {Q Q' : Option Value → gx_W → Prop} {pc : Nat} {L st : List Value} {w : gx_W} (h : ∀ r w, Q r w → Q' r w) (k : gx_G nc ns d M Q pc L st w) : gx_G nc ns d M Q' pc L st w := by
  intro D p l e R s m args below meth c H locs cells slots ls C hR hP hS hL T hT X
  obtain ⟨t, a, o, b1, b2, ⟨⟨r, w', c1, c2, c3⟩, c4⟩, b4⟩ := k D p l e R s m args below meth c H locs cells slots ls C hR hP hS hL T hT X
  exact ⟨t, a, o, b1, b2, ⟨⟨r, w', c1, h r w' c2, c3⟩, c4⟩, b4⟩

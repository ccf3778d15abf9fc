/-! fields, arrays, statics -/
def gx_FL (own : String) (idx ci k : Nat) (b : Bool) : Prop := ∃ q : vw_C, gx_cl[ci]? = some q ∧ k < q.2.2 ∧ (gx_lay ci)[k]? = some b ∧ (Cond.fieldLink own idx (q.2.1 k).1 (q.2.1 k).2.1 (q.2.1 k).2.2.1 ∈ gx_T ∨ ∃ h, Cond.fieldLinkNest own idx (q.2.1 k).1 (q.2.1 k).2.1 (q.2.1 k).2.2.1 h ∈ gx_N)
/-- what a field of a class is: final or not, and its type -/
def gx_FT (ci k : Nat) (fin : Bool) (ty : FieldType) : Prop := ∃ q : vw_C, gx_cl[ci]? = some q ∧ (q.2.1 k).2.2.2 = fin ∧ parseFieldDescriptor (q.2.1 k).2.2.1 = some ty
theorem gx_ci {own : String} {idx ci k : Nat} {b : Bool} (h : gx_FL own idx ci k b) : ci < 20 := by
  obtain ⟨q, h1, -⟩ := h
  have h2 := (List.getElem?_eq_some_iff.mp h1).1
  exact Nat.lt_of_lt_of_le h2 (by decide)
theorem gx_e_obj {D : gx_D} {w : gx_W} {k ci n : Nat} (h : ci < 20) : gx_e D w k (ci, n) = .inr (ci, gx_fs D w k ci) := if_pos h
theorem gx_fs_at {D : gx_D} {w : gx_W} {r ci k : Nat} {b : Bool} (h : (gx_lay ci)[k]? = some b) : (gx_fs D w r ci)[k]? = some (if b then .int (w_i w r k) else gx_rv D (w_r w r k)) := by
  unfold gx_fs
  rw [List.getElem?_mapIdx, h]
  rfl
section GXH
variable {nc ns d : Nat} {M : gx_M} {Q : Option Value → gx_W → Prop} {pc : Nat} {L st : List Value} {w : gx_W}
theorem g_getv {idx ci k r n : Nat} {b : Bool} {v : Value} (hd : gx_d M pc (.getfield idx) 3) (hl : gx_FL M.1.cls idx ci k b) (hs : w.1[r]? = some (ci, n)) (hv : ∀ D, (if b then Value.int (w_i w r k) else gx_rv D (w_r w r k)) = gx_c D v) (kk : gx_G nc ns d M Q (pc + 3) L (v :: st) w) : gx_G nc ns d M Q pc L (.ref r :: st) w := by
  intro D p l e R s m args below meth c H locs cells slots ls C hR hP hS hL
  have hci := gx_ci hl
  obtain ⟨q, h1, h2, h3, h4⟩ := hl
  have hr := gx_hi hP hs (by omega)
  have he := gx_ws_at (D := D) hr hs
  rw [gx_e_obj hci] at he
  obtain ⟨f1, f2, -⟩ := gx_fact ci q h1
  have hts : ∀ w ∈ gx_T, w.before args s = true := fun w hw => C.2.2.2.2.2.1 w hw
  have hE := C.2.2.2.2.2.2.2.2.1
  have hfs := (gx_fs_at (D := D) (w := w) (r := r) h3).trans (congrArg some (hv D))
  have K := kk D p l e R s m args below meth c H locs cells slots ls C hR hP hS hL
  rcases h4 with h4 | ⟨h, h4⟩
  · exact va_get C.1 C.2.1 hts f1 C.2.2.2.2.1 hE.1 hP.2.2 (r - 6) he h1 k h2 (hts _ h4) (fun _ z => z) hfs hd K
  · exact va_getN C.1 C.2.1 hts f1 C.2.2.2.2.1 hE.1 hP.2.2 (r - 6) he h1 k h2 (va_Nw.use rfl (hE.2.1 _ h4)) (fun _ z => z) hfs hd K
theorem g_geti {idx ci k r n : Nat} (hd : gx_d M pc (.getfield idx) 3) (hl : gx_FL M.1.cls idx ci k true) (hs : w.1[r]? = some (ci, n)) (kk : gx_G nc ns d M Q (pc + 3) L (.int (w_i w r k) :: st) w) : gx_G nc ns d M Q pc L (.ref r :: st) w :=
  g_getv hd hl hs (v := .int (w_i w r k)) (fun _ => rfl) kk
theorem g_getr {idx ci k r n a : Nat} (hd : gx_d M pc (.getfield idx) 3) (hl : gx_FL M.1.cls idx ci k false) (hs : w.1[r]? = some (ci, n)) (ha : w_r w r k = some a) (kk : gx_G nc ns d M Q (pc + 3) L (.ref a :: st) w) : gx_G nc ns d M Q pc L (.ref r :: st) w :=
  g_getv hd hl hs (v := .ref a) (fun D => by simp [gx_rv, ha, va_rf, gx_c]) kk
end GXH
theorem gx_fs_set {D : gx_D} {w w' : gx_W} {r ci k : Nat} {v : Value} (h1 : ∀ j, j ≠ k → w_i w' r j = w_i w r j ∧ w_r w' r j = w_r w r j) (h2 : ∀ b, (gx_lay ci)[k]? = some b → (if b then Value.int (w_i w' r k) else gx_rv D (w_r w' r k)) = v) : gx_fs D w' r ci = (gx_fs D w r ci).set k v := by
  apply List.ext_getElem?
  intro j
  by_cases hj : k = j
  · subst hj
    by_cases hl : k < (gx_lay ci).length
    · rw [List.getElem?_set_self (by unfold gx_fs; rw [List.length_mapIdx]; exact hl)]
      have h := List.getElem?_eq_getElem hl
      rw [gx_fs_at h, h2 _ h]
    · rw [List.getElem?_eq_none (by unfold gx_fs; rw [List.length_mapIdx]; omega), List.getElem?_eq_none (by rw [List.length_set]; unfold gx_fs; rw [List.length_mapIdx]; omega)]
  · rw [List.getElem?_set_ne hj]
    unfold gx_fs
    rw [List.getElem?_mapIdx, List.getElem?_mapIdx, (h1 j (Ne.symm hj)).1, (h1 j (Ne.symm hj)).2]
theorem gx_e_ne {D : gx_D} {w w' : gx_W} {k' : Nat} (h1 : w_i w' k' = w_i w k') (h2 : w_r w' k' = w_r w k') (h3 : w_a w' k' = w_a w k') (h4 : w_l w' k' = w_l w k') (h5 : w_q w' k' = w_q w k') (c' : Nat × Nat) : gx_e D w' k' c' = gx_e D w k' c' := by
  unfold gx_e gx_fs
  rw [h1, h2, h3, h4, h5]
section GXP
variable {nc ns d : Nat} {M : gx_M} {Q : Option Value → gx_W → Prop} {pc : Nat} {L st : List Value} {w : gx_W}
theorem g_putv {idx ci k r n : Nat} {b : Bool} {fin : Bool} {ty : FieldType} {v : Value} {w' : gx_W} (hd : gx_d M pc (.putfield idx) 3) (hl : gx_FL M.1.cls idx ci k b) (hT : gx_FT ci k fin ty) (hf : fin = true → M.1.name = "<init>" ∧ ∃ q : vw_C, gx_cl[ci]? = some q ∧ (q.2.1 k).1 = M.1.cls) (hs : w.1[r]? = some (ci, n)) (hn : ∀ D, narrow ty (gx_c D v) = gx_c D v) (hfit : ∀ D, fits ty (gx_c D v) = true)
    (hw : w'.1 = w.1) (hw1 : ∀ j, j ≠ r → w_i w' j = w_i w j ∧ w_r w' j = w_r w j) (hw2 : ∀ j, w_a w' j = w_a w j ∧ w_l w' j = w_l w j ∧ w_q w' j = w_q w j) (hw3 : ∀ j, j ≠ k → w_i w' r j = w_i w r j ∧ w_r w' r j = w_r w r j) (hv : ∀ D, (if b then Value.int (w_i w' r k) else gx_rv D (w_r w' r k)) = gx_c D v)
    (kk : gx_G nc ns d M Q (pc + 3) L st w') : gx_G nc ns d M Q pc L (v :: .ref r :: st) w := by
  intro D p l e R s m args below meth c H locs cells slots ls C hR hP hS hL
  have hci := gx_ci hl
  obtain ⟨q, h1, h2, h3, h4⟩ := hl
  obtain ⟨q', t1, t2, t3⟩ := hT
  cases h1.symm.trans t1
  have hr := gx_hi hP hs (by omega)
  have hPat := gx_P_at (D := D) hP hr hs
  obtain ⟨f1, f2, ty0, f3⟩ := gx_fact ci q h1
  have hts : ∀ w ∈ gx_T, w.before args s = true := fun w hw => C.2.2.2.2.2.1 w hw
  have hE := C.2.2.2.2.2.2.2.2.1
  have hap := va_apart (own := M.1.cls) hts f1 ty0 f3 f2 hE.1 h1
  rw [gx_e_obj hci] at hPat
  obtain ⟨r', g1, cell, q1, q2, q3, q4⟩ := hPat
  cases h1.symm.trans g1
  obtain ⟨hSl, hfc, kC, hkC, hkind⟩ := hE.1.1 ci _ h1
  obtain ⟨cf, kf, fi, f, hi, hsl⟩ := hSl k h2
  have hlay := u_lays hts f1 h2
  have hst := (u_facts hfc hkC hlay hi).1
  have h6 := u_fits hfc hkC hkind hlay hi t3 (hn D) (hfit D)
  have hlen : k < (gx_fs D w r ci).length := by
    unfold gx_fs
    rw [List.length_mapIdx]
    exact (List.getElem?_eq_some_iff.mp h3).1
  have go : ∀ H' : Heap, H'[gx_f D r]? = some (cell.setSlot f.slot (gx_c D v)) → H'.size = H.size → (∀ q, q ≠ gx_f D r → H'[q]? = H[q]?) → W p l e R s m args below meth c H' (locs ++ [⟨gx_f D r, f.slot⟩]) cells slots (MQ below (gx_Q D Q) args s (cells + nc) (slots + ns) (gx_A D)) (F0 m (pc + 3) ls (st.map (gx_c D))) := by
    intro H' e1 e2 e3
    rw [hsl] at e1 ⊢
    have hA : gx_A D (gx_f D r) := by rw [gx_f_hi hr]; exact Nat.le_add_right _ _
    refine kk D p l e R s m args below meth c H' _ cells slots ls C hR (gx_P_set hP hr hs hw ?_ (fun k' _ => (hw2 k').1) e2 e3 ?_) (hS.put e2 e3 hA) hL
    · intro k' c' hne
      exact gx_e_ne (hw1 k' hne).1 (hw1 k' hne).2 (hw2 k').1 (hw2 k').2.1 (hw2 k').2.2 c'
    · rw [gx_e_obj hci, gx_fs_set (D := D) (v := gx_c D v) hw3 (fun b' hb' => by cases h3.symm.trans hb'; exact hv D)]
      exact ⟨_, h1, t_OB.to (V := updV (vp_V (gx_fs D w r ci)) k (gx_c D v)) ⟨_, e1, q2, q3, t_set q4 hap h2 (gx_c D v)⟩ (fun j _ => vp_updV_set hlen _ j)⟩
  have hlt : f.slot < cell.slots.size := by rw [hsl]; exact k2_hasslot (q4 k h2)
  cases hb : fin with
  | false =>
    have hlay2 := hts _ (f1 _ (u_in_lay h2))
    unfold u_lay at hlay2
    rw [if_neg (by rw [t2, hb]; decide)] at hlay2
    have h7 := u_store hfc hkC hkind hlay2 hi t3 (hn D) (hfit D)
    rcases h4 with h4 | ⟨h, h4⟩
    · exact W.putK C.1 C.2.1 (f := f) ⟨C.2.2.2.2.1, hts _ h4, ⟨_, _, _, hi⟩, hst⟩ (by rw [q2]; exact h7) q1 q3 hlt rfl rfl hd go
    · exact va_WputK C.1 C.2.1 (f := f) C.2.2.2.2.1 (va_Nw.use rfl (hE.2.1 _ h4)) hi hst (by rw [q2]; exact h7) q1 q3 hlt rfl rfl hd go
  | true =>
    obtain ⟨hi1, q'', z1, z2⟩ := hf hb
    cases h1.symm.trans z1
    have hlay2 := hts _ (f1 _ (u_in_lay h2))
    unfold u_lay at hlay2
    rw [if_pos (by rw [t2, hb])] at hlay2
    have hcf : m.cls = cf := by
      obtain ⟨_, _, c', _, _, _, -, -, hf', -, -, -, hown2, -⟩ := Cond.laysFinal_spec hlay2
      have e1 : c' = cf := by have := hi.symm.trans hf'; simp at this; exact this.1.symm
      rw [z2] at hown2
      rw [← e1]; exact Option.some.inj (C.2.2.2.2.1.symm.trans hown2)
    rcases h4 with h4 | ⟨h, h4⟩
    · exact W.putFinK C.1 C.2.1 C.2.2.2.2.1 (hts _ h4) hi hst hcf (C.2.2.2.2.2.2.2.1 hi1) (by rw [q2]; exact h6) q1 q3 hlt rfl rfl hd go
    · refine va_Wputf C.1 C.2.1 C.2.2.2.2.1 (va_Nw.use rfl (hE.2.1 _ h4)) hi hst (Or.inr ⟨hcf, C.2.2.2.2.2.2.2.1 hi1⟩) q1 (by rw [q3]; exact fun h => by cases h) hlt h6.1 (by rw [q2, q3]; exact h6.2) rfl rfl hd ?_
      have ha : gx_f D r < H.size := (Array.getElem?_eq_some_iff.mp q1).1
      refine go _ ?_ ?_ ?_
      · simp [Array.getElem?_setIfInBounds, ha]
      · simp
      · intro q hq
        simp [Array.getElem?_setIfInBounds, Ne.symm hq]
end GXP

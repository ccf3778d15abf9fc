/-! new int[3][6] -/
theorem outer_3 (cA : ClassId) (h : Nat) : Jvm.Free.Multi.outerC cA 3 h 3 = arrV cA 3 (fun j => .ref (h + 1 + j)) := by
  have e0 : Jvm.Free.Multi.outerC cA 3 h 0 = arrV cA 3 (fun _ => .null) := arrV_new cA 3 .null
  show (((Jvm.Free.Multi.outerC cA 3 h 0).setSlot 0 (.ref (h + 1 + 0))).setSlot 1 (.ref (h + 1 + 1))).setSlot 2 (.ref (h + 1 + 2)) = _
  rw [e0, arrV_store, arrV_store, arrV_store]
  unfold arrV
  congr 1
theorem W_multi {p : Program} {l : Launch} {e : Env} {R : Room} {s : State} {m : MethodId} {args : Array Value} {below : List Frame} {meth : Method} {c : Code} {H : Heap} {locs : List Loc} {cells slots : Nat} {Q : State → Prop} {cc : ByteArray} (hexec : p.tables.exec = Jvm.exec) (hb : c.code = cc) {own : String} {index : Nat} (hown : s.vm.findClass own = some m.cls) (hclink : (Cond.classLink own index "[[I").before args s = true) (hover : (Cond.arrayOver (.array .int)).before args s = true) (harr : (Cond.arrayClass .int).before args s = true) {g : JFrame} (hg : g.method = m) (hdg : decode cc g.pc = .ok (.multianewarray index 2, 4)) {rest : List Value} (hstack : g.stack = .int 6 :: .int 3 :: rest) (hcells : cells + 4 ≤ R.cells) (hslots : slots + 21 ≤ R.slots)
    (kk : ∀ (cA comp : ClassId) (H1 : Heap), s.vm.findClass ("[" ++ (FieldType.array .int).toString) = some cA → s.vm.findClass (FieldType.array .int).toString = some comp → H1.size = H.size + 4 → (∀ q, q < H.size → H1[q]? = H[q]?) → H1[H.size]? = some (arrV cA 3 (fun j => .ref (H.size + 1 + j))) → (∀ j, j < 3 → H1[H.size + 1 + j]? = some (arrV comp 6 (fun _ => .int 0))) → W p l e R s m args below meth c H1 locs (cells + 4) (slots + 21) Q { g with pc := g.pc + 4, stack := .ref H.size :: rest }) : W p l e R s m args below meth c H locs cells slots Q g := by
  intro T hT X
  subst hT; subst hb
  have e3 : (3 : Int32).toNatClampNeg = 3 := by decide
  have e6 : (6 : Int32).toNatClampNeg = 6 := by decide
  obtain ⟨vm₁, cA, comp, hW, hfA, hfC, hO, hI, X1, step⟩ := X.multianewarray2F hexec (ty := .int) (n := 3) (k := 6) hown hclink hover harr hg hdg hstack (by decide) (by decide) (by rw [e3]; decide) (by rw [e6]; decide) (by rw [e6]; decide) rfl rfl (by rw [e3]; omega) (by rw [e3, e6]; omega)
  rw [e3, e6] at X1 step
  obtain ⟨f1, f2, f3, f4⟩ := Jvm.Free.Multi.fill_facts (T.setVm vm₁) cA comp 3 6 (defaultValue .int) 3
  obtain ⟨t, a1, b1⟩ := kk cA comp (Jvm.Free.Multi.fill (T.setVm vm₁) cA comp 3 6 (defaultValue .int) 3).heap hfA hfC f1 (fun q hq => Jvm.Free.Multi.fill_old (T.setVm vm₁) cA comp 3 6 (defaultValue .int) hq 3) (by rw [← outer_3]; exact f2) (fun j hj => by rw [← arrV_new]; exact Jvm.Free.Multi.fill_inner (T.setVm vm₁) cA comp 3 6 (defaultValue .int) 3 j hj) _ rfl X1
  exact ⟨t, step t a1, b1⟩
theorem gx_multi {D : gx_D} {w : gx_W} {H H1 : Heap} (hP : gx_P D w H) (h1 : H1.size = H.size + 4) (h2 : ∀ q, q < H.size → H1[q]? = H[q]?) (h3 : H1[H.size]? = some (arrV (gx_y D 25) 3 (fun j => .ref (H.size + 1 + j)))) (h4 : ∀ j, j < 3 → H1[H.size + 1 + j]? = some (arrV (gx_y D 20) 6 (fun _ => .int 0))) : gx_P D (s_q (a_new (a_new (a_new (a_new w (25, 3)) (20, 6)) (20, 6)) (20, 6)) w.1.length (fun j => if j < 3 then some (w.1.length + 1 + j) else none)) H1 := by
  have hl := gx_len hP
  have hsz := hP.1
  have p1 : gx_P D (a_new w (25, 3)) (H.push (arrV (gx_y D 25) 3 (fun _ => .null))) := gx_P_arr (x := (3, .inr (.inr (.inr (.inr (fun _ => none)))))) hP (by simp) (fun q hq => by rw [Array.getElem?_push, if_neg (Nat.ne_of_lt hq)]) (by rw [Array.getElem?_push_size, vp_cell_q]; rfl) (by
    rw [gx_e_ref (by omega)]
    show Sum.inl (gx_y D 25, 3, Sum.inr (Sum.inr (Sum.inr (Sum.inr (fun j => (va_up w.2.2.2.2.2 w.1.length (fun _ => none) w.1.length j).map (gx_f D)))))) = _
    rw [va_up_at]
    rfl)
  have pi : ∀ {w : gx_W} {H : Heap}, gx_P D w H → gx_P D (a_new w (20, 6)) (H.push (arrV (gx_y D 20) 6 (fun _ => .int 0))) := fun {w} {H} hP => gx_P_arr (x := (6, .inl (fun _ => 0))) hP (by simp) (fun q hq => by rw [Array.getElem?_push, if_neg (Nat.ne_of_lt hq)]) (by rw [Array.getElem?_push_size, vp_cell_i]) (by
    unfold a_new
    rw [gx_e_int (by omega) (by omega)]
    show Sum.inl (gx_y D 20, 6, Sum.inl (va_up w.2.2.2.1 w.1.length (fun _ => 0) w.1.length)) = _
    rw [va_up_at])
  have p4 := pi (pi (pi p1))
  generalize hE : (((H.push (arrV (gx_y D 25) 3 (fun _ => .null))).push (arrV (gx_y D 20) 6 (fun _ => .int 0))).push (arrV (gx_y D 20) 6 (fun _ => .int 0))).push (arrV (gx_y D 20) 6 (fun _ => .int 0)) = E at p4
  have eS : E.size = H.size + 4 := by rw [← hE]; simp
  have eL : ∀ q, q < H.size → E[q]? = H[q]? := fun q hq => by
    rw [← hE, Array.getElem?_push, if_neg (by simp; omega), Array.getElem?_push, if_neg (by simp; omega), Array.getElem?_push, if_neg (by simp; omega), Array.getElem?_push, if_neg (by omega)]
  have eI : ∀ j, j < 3 → E[H.size + 1 + j]? = some (arrV (gx_y D 20) 6 (fun _ => .int 0)) := fun j hj => by
    have q : j = 0 ∨ j = 1 ∨ j = 2 := by omega
    rcases q with q | q | q <;> subst q
    · rw [← hE, Array.getElem?_push, if_neg (by simp), Array.getElem?_push, if_neg (by simp), Array.getElem?_push, if_pos (by simp)]
    · rw [← hE, Array.getElem?_push, if_neg (by simp), Array.getElem?_push, if_pos (by simp)]
    · rw [← hE, Array.getElem?_push, if_pos (by simp)]
  have hfk : gx_f D w.1.length = H.size := gx_f_len hP
  refine gx_P_set (k := w.1.length) (c := (25, 3)) p4 (by omega) ?_ rfl (fun k' c' hk => ?_) (fun k' hk => rfl) (by rw [h1, eS]) (fun q hq => ?_) ?_
  · show ((((w.1 ++ [(25, 3)]) ++ [(20, 6)]) ++ [(20, 6)]) ++ [(20, 6)])[w.1.length]? = _
    rw [List.append_assoc, List.append_assoc, List.append_assoc, List.getElem?_append_right (Nat.le_refl _), Nat.sub_self]
    rfl
  · unfold gx_e
    have e5 : w_q (s_q (a_new (a_new (a_new (a_new w (25, 3)) (20, 6)) (20, 6)) (20, 6)) w.1.length (fun j => if j < 3 then some (w.1.length + 1 + j) else none)) k' = w_q (a_new (a_new (a_new (a_new w (25, 3)) (20, 6)) (20, 6)) (20, 6)) k' := va_up_row hk
    rw [e5]
    rfl
  · rw [hfk] at hq
    rcases Nat.lt_or_ge q H.size with z | z
    · rw [h2 q z, eL q z]
    · rcases Nat.lt_or_ge q (H.size + 4) with y | y
      · have e6 : q = H.size + 1 + (q - H.size - 1) := by omega
        rw [e6, h4 _ (by omega), eI _ (by omega)]
      · rw [Array.getElem?_eq_none (by omega), Array.getElem?_eq_none (by omega)]
  · rw [hfk, gx_e_ref (by omega)]
    show H1[H.size]? = some (vp_cell (gx_y D 25) (3, .inr (.inr (.inr (.inr (fun j => (va_up _ w.1.length (fun j => if j < 3 then some (w.1.length + 1 + j) else none) w.1.length j).map (gx_f D)))))))
    rw [h3, vp_cell_q, va_up_at]
    unfold arrV
    congr 1
    congr 1
    congr 1
    funext j
    obtain ⟨j, hj⟩ := j
    show Value.ref (H.size + 1 + j) = va_rf ((if j < 3 then some (w.1.length + 1 + j) else none).map (gx_f D))
    rw [if_pos hj]
    show Value.ref (H.size + 1 + j) = Value.ref (gx_f D (w.1.length + 1 + j))
    have e7 : gx_f D (w.1.length + 1 + j) = H.size + 1 + j := by
      rw [gx_f_hi (by omega)]
      omega
    rw [e7]
theorem g_multi : gM := by
  intro nc ns d M Q pc L st w w' idx r hr hd hl e kk D p l e0 R s m args below meth c H locs cells slots ls C hR hP hS hL
  subst hr
  have hts : ∀ w ∈ gx_T, w.before args s = true := fun w hw => C.2.2.2.2.2.1 w hw
  have hE := C.2.2.2.2.2.2.2.2.1
  have r1 := hR.2.2.1
  have r2 := hR.2.2.2
  refine W_multi C.1 C.2.1 C.2.2.2.2.1 (hts _ hl) (by have h := hE.2.2.2; simp only [Cond.before, Cond.holds, Cond.value] at h ⊢; exact h) (hts _ ar_int) rfl hd rfl (by omega) (by omega) fun cA comp H1 g1 g2 z1 o1 o2 o3 => ?_
  have hcA : cA = gx_y D 25 := by
    have h := (hE.1.2 5 _ rfl).2
    exact Option.some.inj (g1.symm.trans h)
  have hcC : comp = gx_y D 20 := by
    have h := (hE.1.2 0 _ rfl).2
    exact Option.some.inj (g2.symm.trans h)
  subst hcA hcC
  have a1 : a_new w (25, 3) = a_n w w.1.length (25, 3) := a_n_eq rfl
  have a2 : a_new (a_n w w.1.length (25, 3)) (20, 6) = a_n (a_n w w.1.length (25, 3)) (w.1.length + 1) (20, 6) := a_n_eq (by
    show (w.1 ++ [(25, 3)]).length = _
    rw [List.length_append]
    rfl)
  have a3 : a_new (a_n (a_n w w.1.length (25, 3)) (w.1.length + 1) (20, 6)) (20, 6) = a_n (a_n (a_n w w.1.length (25, 3)) (w.1.length + 1) (20, 6)) (w.1.length + 2) (20, 6) := a_n_eq (by
    show ((w.1 ++ [(25, 3)]) ++ [(20, 6)]).length = _
    rw [List.length_append, List.length_append]
    rfl)
  have a4 : a_new (a_n (a_n (a_n w w.1.length (25, 3)) (w.1.length + 1) (20, 6)) (w.1.length + 2) (20, 6)) (20, 6) = a_n (a_n (a_n (a_n w w.1.length (25, 3)) (w.1.length + 1) (20, 6)) (w.1.length + 2) (20, 6)) (w.1.length + 3) (20, 6) := a_n_eq (by
    show (((w.1 ++ [(25, 3)]) ++ [(20, 6)]) ++ [(20, 6)]).length = _
    rw [List.length_append, List.length_append, List.length_append]
    rfl)
  have pe : s_q (a_new (a_new (a_new (a_new w (25, 3)) (20, 6)) (20, 6)) (20, 6)) w.1.length (fun j => if j < 3 then some (w.1.length + 1 + j) else none) = w' := by
    rw [← e, a1, a2, a3, a4]
  have K := kk D p l e0 R s m args below meth c H1 locs (cells + 4) (slots + 21) ls C ⟨hR.1, hR.2.1, by omega, by omega⟩ (by rw [← pe]; exact gx_multi hP z1 o1 o2 o3) ⟨Nat.le_trans hS.1 (by omega), fun x h1 h2 => (o1 x (Nat.lt_of_lt_of_le h1 hS.1)).trans (hS.2.1 x h1 h2), hS.2.2⟩ hL
  rw [show cells + 4 + nc = cells + (nc + 4) by omega, show slots + 21 + ns = slots + (ns + 21) by omega] at K
  have e2 : (Value.ref w.1.length :: st).map (gx_c D) = .ref H.size :: st.map (gx_c D) := by
    show Value.ref (gx_f D w.1.length) :: _ = _
    rw [gx_f_len hP]
  rw [e2] at K
  exact K

/-! puts of ints and references, arrays -/
theorem va_up_row {α : Type} {f : Nat → α} {k j : Nat} {v : α} (h : j ≠ k) : va_up f k v j = f j := if_neg h
theorem va_up_at {α : Type} {f : Nat → α} {k : Nat} {v : α} : va_up f k v k = v := if_pos rfl
section GXQ
variable {nc ns d : Nat} {M : gx_M} {Q : Option Value → gx_W → Prop} {pc : Nat} {L st : List Value} {w : gx_W}
theorem g_puti {idx ci k r n : Nat} {v : Int32} (hd : gx_d M pc (.putfield idx) 3) (hl : gx_FL M.1.cls idx ci k true) (hT : gx_FT ci k false .int) (hs : w.1[r]? = some (ci, n)) (kk : gx_G nc ns d M Q (pc + 3) L st (s_i w r k v)) : gx_G nc ns d M Q pc L (.int v :: .ref r :: st) w :=
  g_putv (w' := s_i w r k v) hd hl hT (fun h => by cases h) hs (fun _ => rfl) (fun _ => rfl) rfl (fun j hj => ⟨va_up_row hj, rfl⟩) (fun _ => ⟨rfl, rfl, rfl⟩) (fun j hj => ⟨by show va_up w.2.1 r (va_up (w.2.1 r) k v) r j = _; rw [va_up_at, va_up_row hj]; rfl, rfl⟩) (fun D => by show (if true then Value.int (va_up w.2.1 r (va_up (w.2.1 r) k v) r k) else _) = _; rw [va_up_at, va_up_at]; rfl) kk
theorem g_putz {idx ci k r n : Nat} {v : Int32} (hd : gx_d M pc (.putfield idx) 3) (hl : gx_FL M.1.cls idx ci k true) (hT : gx_FT ci k false .boolean) (hn : v = 0 ∨ v = 1) (hs : w.1[r]? = some (ci, n)) (kk : gx_G nc ns d M Q (pc + 3) L st (s_i w r k v)) : gx_G nc ns d M Q pc L (.int v :: .ref r :: st) w :=
  g_putv (w' := s_i w r k v) hd hl hT (fun h => by cases h) hs (fun _ => by rcases hn with rfl | rfl <;> rfl) (fun _ => by rcases hn with rfl | rfl <;> rfl) rfl (fun j hj => ⟨va_up_row hj, rfl⟩) (fun _ => ⟨rfl, rfl, rfl⟩) (fun j hj => ⟨by show va_up w.2.1 r (va_up (w.2.1 r) k v) r j = _; rw [va_up_at, va_up_row hj]; rfl, rfl⟩) (fun D => by show (if true then Value.int (va_up w.2.1 r (va_up (w.2.1 r) k v) r k) else _) = _; rw [va_up_at, va_up_at]; rfl) kk
theorem g_putr {idx ci k r n a : Nat} {fin : Bool} {ty : FieldType} (hd : gx_d M pc (.putfield idx) 3) (hl : gx_FL M.1.cls idx ci k false) (hT : gx_FT ci k fin ty) (hty : ty.isReference = true) (hf : fin = true → M.1.name = "<init>" ∧ ∃ q : vw_C, gx_cl[ci]? = some q ∧ (q.2.1 k).1 = M.1.cls) (hs : w.1[r]? = some (ci, n)) (kk : gx_G nc ns d M Q (pc + 3) L st (s_r w r k (some a))) : gx_G nc ns d M Q pc L (.ref a :: .ref r :: st) w :=
  g_putv (w' := s_r w r k (some a)) hd hl hT hf hs (fun _ => by cases ty <;> first | rfl | cases hty) (fun _ => by cases ty <;> first | rfl | cases hty) rfl (fun j hj => ⟨rfl, va_up_row hj⟩) (fun _ => ⟨rfl, rfl, rfl⟩) (fun j hj => ⟨rfl, by show va_up w.2.2.1 r (va_up (w.2.2.1 r) k (some a)) r j = _; rw [va_up_at, va_up_row hj]; rfl⟩) (fun D => by show (if false then _ else gx_rv D (va_up w.2.2.1 r (va_up (w.2.2.1 r) k (some a)) r k)) = _; rw [va_up_at, va_up_at]; rfl) kk
/-! arrays of ints, bytes, shorts: kinds 20, 21, 22; of longs: 23; of references: 24, 25 -/
theorem gx_e_int {D : gx_D} {w : gx_W} {k a n : Nat} (h1 : 20 ≤ a) (h2 : a < 23) : gx_e D w k (a, n) = .inl (gx_y D a, n, .inl (w_a w k)) := by
  unfold gx_e
  rw [if_neg (by show ¬ a < 20; omega), if_pos (by show a < 23; omega)]
theorem gx_e_long {D : gx_D} {w : gx_W} {k n : Nat} : gx_e D w k (23, n) = .inl (gx_y D 23, n, .inr (.inl (w_l w k))) := rfl
theorem gx_e_ref {D : gx_D} {w : gx_W} {k a n : Nat} (h1 : 23 < a) : gx_e D w k (a, n) = .inl (gx_y D a, n, .inr (.inr (.inr (.inr (fun j => (w_q w k j).map (gx_f D)))))) := by
  unfold gx_e
  rw [if_neg (by show ¬ a < 20; omega), if_neg (by show ¬ a < 23; omega), if_neg (by show ¬ a = 23; omega)]
theorem g_iald {r n : Nat} {i : Int32} (hd : gx_d M pc .iaload 1) (hs : w.1[r]? = some (20, n)) (hi : vp_in i n) (kk : gx_G nc ns d M Q (pc + 1) L (.int (w_a w r i.toNatClampNeg) :: st) w) : gx_G nc ns d M Q pc L (.int i :: .ref r :: st) w := by
  intro D p l e R s m args below meth c H locs cells slots ls C hR hP hS hL
  have hr := gx_hi hP hs (by omega)
  have he := gx_ws_at (D := D) hr hs
  rw [gx_e_int (by omega) (by omega)] at he
  exact va_iald C.1 C.2.1 C.2.2.2.2.2.2.2.2.1.1 hP.2.2 (r - 6) 0 he rfl hi hd (kk D p l e R s m args below meth c H locs cells slots ls C hR hP hS hL)
theorem g_bald {r n : Nat} {i : Int32} (hd : gx_d M pc .baload 1) (hs : w.1[r]? = some (21, n)) (hi : vp_in i n) (kk : gx_G nc ns d M Q (pc + 1) L (.int (w_a w r i.toNatClampNeg) :: st) w) : gx_G nc ns d M Q pc L (.int i :: .ref r :: st) w := by
  intro D p l e R s m args below meth c H locs cells slots ls C hR hP hS hL
  have hr := gx_hi hP hs (by omega)
  have he := gx_ws_at (D := D) hr hs
  rw [gx_e_int (by omega) (by omega)] at he
  exact va_bald C.1 C.2.1 C.2.2.2.2.2.2.2.2.1.1 hP.2.2 (r - 6) 1 he rfl hi hd (kk D p l e R s m args below meth c H locs cells slots ls C hR hP hS hL)
theorem g_sald {r n : Nat} {i : Int32} (hd : gx_d M pc .saload 1) (hs : w.1[r]? = some (22, n)) (hi : vp_in i n) (kk : gx_G nc ns d M Q (pc + 1) L (.int (w_a w r i.toNatClampNeg) :: st) w) : gx_G nc ns d M Q pc L (.int i :: .ref r :: st) w := by
  intro D p l e R s m args below meth c H locs cells slots ls C hR hP hS hL
  have hr := gx_hi hP hs (by omega)
  have he := gx_ws_at (D := D) hr hs
  rw [gx_e_int (by omega) (by omega)] at he
  exact va_sald C.1 C.2.1 C.2.2.2.2.2.2.2.2.1.1 hP.2.2 (r - 6) 2 he rfl hi hd (kk D p l e R s m args below meth c H locs cells slots ls C hR hP hS hL)
theorem g_lald {r n : Nat} {i : Int32} (hd : gx_d M pc .laload 1) (hs : w.1[r]? = some (23, n)) (hi : vp_in i n) (kk : gx_G nc ns d M Q (pc + 1) L (.long (w_l w r i.toNatClampNeg) :: st) w) : gx_G nc ns d M Q pc L (.int i :: .ref r :: st) w := by
  intro D p l e R s m args below meth c H locs cells slots ls C hR hP hS hL
  have hr := gx_hi hP hs (by omega)
  have he := gx_ws_at (D := D) hr hs
  rw [gx_e_long] at he
  exact va_lald C.1 C.2.1 C.2.2.2.2.2.2.2.2.1.1 hP.2.2 (r - 6) 3 he rfl hi hd (kk D p l e R s m args below meth c H locs cells slots ls C hR hP hS hL)
theorem g_aald {r n a : Nat} {i : Int32} (hd : gx_d M pc .aaload 1) (hs : w.1[r]? = some (24, n) ∨ w.1[r]? = some (25, n)) (hi : vp_in i n) (ha : w_q w r i.toNatClampNeg = some a) (kk : gx_G nc ns d M Q (pc + 1) L (.ref a :: st) w) : gx_G nc ns d M Q pc L (.int i :: .ref r :: st) w := by
  intro D p l e R s m args below meth c H locs cells slots ls C hR hP hS hL
  have hE := C.2.2.2.2.2.2.2.2.1.1
  have hlt : i.toNatClampNeg < n := Nat.not_le.mp fun q => hi (Or.inr q)
  have K := kk D p l e R s m args below meth c H locs cells slots ls C hR hP hS hL
  have hv : va_rf ((w_q w r i.toNatClampNeg).map (gx_f D)) = .ref (gx_f D a) := by rw [ha]; rfl
  rcases hs with hs | hs
  · have hr := gx_hi hP hs (by omega)
    have he := gx_ws_at (D := D) hr hs
    rw [gx_e_ref (by omega)] at he
    exact W.aald (v := .ref (gx_f D a)) (ty := .object "CrossroadsChoose$Shelf") C.1 C.2.1 (hP.2.2 (r - 6) _ he) ((hE.2 4 _ rfl).1 n (fun j => va_rf ((w_q w r j).map (gx_f D)))) rfl (fun q => by cases q) (by show ¬ (i < 0 ∨ (arrV _ _ _).slots.size ≤ _); rw [arrV_size]; exact hi) (by show (arrV _ _ _).slots[_]? = _; rw [arrV_read _ _ hlt, hv]) rfl rfl hd K
  · have hr := gx_hi hP hs (by omega)
    have he := gx_ws_at (D := D) hr hs
    rw [gx_e_ref (by omega)] at he
    exact W.aald (v := .ref (gx_f D a)) (ty := .array .int) C.1 C.2.1 (hP.2.2 (r - 6) _ he) ((hE.2 5 _ rfl).1 n (fun j => va_rf ((w_q w r j).map (gx_f D)))) rfl (fun q => by cases q) (by show ¬ (i < 0 ∨ (arrV _ _ _).slots.size ≤ _); rw [arrV_size]; exact hi) (by show (arrV _ _ _).slots[_]? = _; rw [arrV_read _ _ hlt, hv]) rfl rfl hd K
/-- one row of the world's int arrays becomes another -/
theorem gx_P_sa {D : gx_D} {H H' : Heap} {r a n : Nat} {f : Nat → Int32} (hP : gx_P D w H) (hs : w.1[r]? = some (a, n)) (h1 : 20 ≤ a) (h2 : a < 23) (h4 : H'.size = H.size) (h5 : ∀ q, q ≠ gx_f D r → H'[q]? = H[q]?) (h6 : H'[gx_f D r]? = some (vp_cell (gx_y D a) (n, .inl f))) : gx_P D (s_a w r f) H' := by
  have hr := gx_hi hP hs (by omega)
  refine gx_P_set (w' := s_a w r f) hP hr hs rfl (fun k' c' hne => gx_e_ne (w := w) (w' := s_a w r f) rfl rfl (va_up_row (f := w.2.2.2.1) hne) rfl rfl c') (fun k' hk => va_up_row (f := w.2.2.2.1) (by omega)) h4 h5 ?_
  rw [gx_e_int h1 h2]
  show H'[gx_f D r]? = some (vp_cell (gx_y D a) (n, .inl (va_up w.2.2.2.1 r f r)))
  rw [va_up_at]
  exact h6
theorem gx_P_sl {D : gx_D} {H H' : Heap} {r n : Nat} {f : Nat → Int64} (hP : gx_P D w H) (hs : w.1[r]? = some (23, n)) (h4 : H'.size = H.size) (h5 : ∀ q, q ≠ gx_f D r → H'[q]? = H[q]?) (h6 : H'[gx_f D r]? = some (vp_cell (gx_y D 23) (n, .inr (.inl f)))) : gx_P D (s_l w r f) H' := by
  have hr := gx_hi hP hs (by omega)
  refine gx_P_set (w' := s_l w r f) hP hr hs rfl (fun k' c' hne => gx_e_ne (w := w) (w' := s_l w r f) rfl rfl rfl (va_up_row (f := w.2.2.2.2.1) hne) rfl c') (fun k' hk => rfl) h4 h5 ?_
  rw [gx_e_long]
  show H'[gx_f D r]? = some (vp_cell (gx_y D 23) (n, .inr (.inl (va_up w.2.2.2.2.1 r f r))))
  rw [va_up_at]
  exact h6
theorem gx_P_sq {D : gx_D} {H H' : Heap} {r a n : Nat} {f : Nat → Option Nat} (hP : gx_P D w H) (hs : w.1[r]? = some (a, n)) (h1 : 23 < a) (ha : a ≠ 30) (h4 : H'.size = H.size) (h5 : ∀ q, q ≠ gx_f D r → H'[q]? = H[q]?) (h6 : H'[gx_f D r]? = some (vp_cell (gx_y D a) (n, .inr (.inr (.inr (.inr (fun j => (f j).map (gx_f D)))))))) : gx_P D (s_q w r f) H' := by
  have hr := gx_hi hP hs ha
  refine gx_P_set (w' := s_q w r f) hP hr hs rfl (fun k' c' hne => gx_e_ne (w := w) (w' := s_q w r f) rfl rfl rfl rfl (va_up_row (f := w.2.2.2.2.2) hne) c') (fun k' hk => rfl) h4 h5 ?_
  rw [gx_e_ref h1]
  show H'[gx_f D r]? = some (vp_cell (gx_y D a) (n, .inr (.inr (.inr (.inr (fun j => (va_up w.2.2.2.2.2 r f r j).map (gx_f D)))))))
  rw [va_up_at]
  exact h6
theorem gx_A_hi {D : gx_D} {r : Nat} (h : 6 ≤ r) : gx_A D (gx_f D r) := by rw [gx_f_hi h]; exact Nat.le_add_right _ _
theorem g_iast {r n : Nat} {i x : Int32} (hd : gx_d M pc .iastore 1) (hs : w.1[r]? = some (20, n)) (hi : vp_in i n) (kk : gx_G nc ns d M Q (pc + 1) L st (s_a w r (va_up (w_a w r) i.toNatClampNeg x))) : gx_G nc ns d M Q pc L (.int x :: .int i :: .ref r :: st) w := by
  intro D p l e R s m args below meth c H locs cells slots ls C hR hP hS hL
  have hE := C.2.2.2.2.2.2.2.2.1.1
  have hr := gx_hi hP hs (by omega)
  have he := gx_ws_at (D := D) hr hs
  rw [gx_e_int (by omega) (by omega)] at he
  refine W.iast C.1 C.2.1 (hP.2.2 (r - 6) _ he) ((hE.2 0 _ rfl).1 n (fun j => .int (w_a w r j))) (fun q => by cases q) (by show ¬ (i < 0 ∨ (arrV _ _ _).slots.size ≤ _); rw [arrV_size]; exact hi) rfl rfl hd fun H1 e1 z oq => ?_
  refine kk D p l e R s m args below meth c H1 _ cells slots ls C hR (gx_P_sa hP hs (by omega) (by omega) z oq ?_) (hS.put z oq (gx_A_hi hr)) hL
  rw [e1, vp_cell_i, vp_cell_i, arrV_store]
  congr 2
  funext q
  by_cases hq : q = i.toNatClampNeg
  · subst hq
    simp [updV, va_up]
  · simp [updV, va_up, hq]
theorem g_bast {r n : Nat} {i x : Int32} (hd : gx_d M pc .bastore 1) (hs : w.1[r]? = some (21, n)) (hi : vp_in i n) (kk : gx_G nc ns d M Q (pc + 1) L st (s_a w r (va_up (w_a w r) i.toNatClampNeg (vp_nar .byte x)))) : gx_G nc ns d M Q pc L (.int x :: .int i :: .ref r :: st) w := by
  intro D p l e R s m args below meth c H locs cells slots ls C hR hP hS hL
  have hE := C.2.2.2.2.2.2.2.2.1.1
  have hr := gx_hi hP hs (by omega)
  have he := gx_ws_at (D := D) hr hs
  rw [gx_e_int (by omega) (by omega)] at he
  refine W.bast C.1 C.2.1 (hP.2.2 (r - 6) _ he) ((hE.2 1 _ rfl).1 n (fun j => .int (w_a w r j))) (fun q => by cases q) (by show ¬ (i < 0 ∨ (arrV _ _ _).slots.size ≤ _); rw [arrV_size]; exact hi) rfl rfl hd fun H1 e1 z oq => ?_
  refine kk D p l e R s m args below meth c H1 _ cells slots ls C hR (gx_P_sa hP hs (by omega) (by omega) z oq ?_) (hS.put z oq (gx_A_hi hr)) hL
  rw [e1, vp_cell_i, vp_cell_i, arrV_store]
  congr 2
  funext q
  by_cases hq : q = i.toNatClampNeg
  · subst hq
    simp [updV, va_up, vp_nar]
    try rfl
  · simp [updV, va_up, hq]
theorem g_sast {r n : Nat} {i x : Int32} (hd : gx_d M pc .sastore 1) (hs : w.1[r]? = some (22, n)) (hi : vp_in i n) (kk : gx_G nc ns d M Q (pc + 1) L st (s_a w r (va_up (w_a w r) i.toNatClampNeg (vp_nar .short x)))) : gx_G nc ns d M Q pc L (.int x :: .int i :: .ref r :: st) w := by
  intro D p l e R s m args below meth c H locs cells slots ls C hR hP hS hL
  have hE := C.2.2.2.2.2.2.2.2.1.1
  have hr := gx_hi hP hs (by omega)
  have he := gx_ws_at (D := D) hr hs
  rw [gx_e_int (by omega) (by omega)] at he
  refine W.sast C.1 C.2.1 (hP.2.2 (r - 6) _ he) ((hE.2 2 _ rfl).1 n (fun j => .int (w_a w r j))) (fun q => by cases q) (by show ¬ (i < 0 ∨ (arrV _ _ _).slots.size ≤ _); rw [arrV_size]; exact hi) rfl rfl hd fun H1 e1 z oq => ?_
  refine kk D p l e R s m args below meth c H1 _ cells slots ls C hR (gx_P_sa hP hs (by omega) (by omega) z oq ?_) (hS.put z oq (gx_A_hi hr)) hL
  rw [e1, vp_cell_i, vp_cell_i, arrV_store]
  congr 2
  funext q
  by_cases hq : q = i.toNatClampNeg
  · subst hq
    simp [updV, va_up, vp_nar]
    try rfl
  · simp [updV, va_up, hq]
theorem g_last {r n : Nat} {i : Int32} {x : Int64} (hd : gx_d M pc .lastore 1) (hs : w.1[r]? = some (23, n)) (hi : vp_in i n) (kk : gx_G nc ns d M Q (pc + 1) L st (s_l w r (va_up (w_l w r) i.toNatClampNeg x))) : gx_G nc ns d M Q pc L (.long x :: .int i :: .ref r :: st) w := by
  intro D p l e R s m args below meth c H locs cells slots ls C hR hP hS hL
  have hE := C.2.2.2.2.2.2.2.2.1.1
  have hr := gx_hi hP hs (by omega)
  have he := gx_ws_at (D := D) hr hs
  rw [gx_e_long] at he
  refine W.last C.1 C.2.1 (hP.2.2 (r - 6) _ he) ((hE.2 3 _ rfl).1 n (fun j => .long (w_l w r j))) (fun q => by cases q) (by show ¬ (i < 0 ∨ (arrV _ _ _).slots.size ≤ _); rw [arrV_size]; exact hi) rfl rfl hd fun H1 e1 z oq => ?_
  refine kk D p l e R s m args below meth c H1 _ cells slots ls C hR (gx_P_sl hP hs z oq ?_) (hS.put z oq (gx_A_hi hr)) hL
  rw [e1, vp_cell_l, vp_cell_l, arrV_store]
  congr 2
  funext q
  by_cases hq : q = i.toNatClampNeg
  · subst hq
    simp [updV, va_up]
  · simp [updV, va_up, hq]
/-- the length of an array of ints, longs -/
theorem g_alen {r a n : Nat} (hd : gx_d M pc .arraylength 1) (hs : w.1[r]? = some (a, n)) (ha : a = 20 ∨ a = 23) (kk : gx_G nc ns d M Q (pc + 1) L (.int (Int32.ofNat n) :: st) w) : gx_G nc ns d M Q pc L (.ref r :: st) w := by
  intro D p l e R s m args below meth c H locs cells slots ls C hR hP hS hL
  have hE := C.2.2.2.2.2.2.2.2.1.1
  have hr := gx_hi hP hs (by omega)
  have he := gx_ws_at (D := D) hr hs
  have K := kk D p l e R s m args below meth c H locs cells slots ls C hR hP hS hL
  rcases ha with rfl | rfl
  · rw [gx_e_int (by omega) (by omega)] at he
    exact va_alen C.1 C.2.1 hE hP.2.2 (r - 6) 0 he rfl rfl hd K
  · rw [gx_e_long] at he
    exact va_alen C.1 C.2.1 hE hP.2.2 (r - 6) 3 he rfl rfl hd K
/-- the arrays that are given: read alone -/
theorem g_rald {r n : Nat} {i : Int32} (hd : gx_d M pc .iaload 1) (hr : r < 6) (hs : w.1[r]? = some (30, n)) (hi : vp_in i n) (kk : gx_G nc ns d M Q (pc + 1) L (.int (w_a w r i.toNatClampNeg) :: st) w) : gx_G nc ns d M Q pc L (.int i :: .ref r :: st) w := by
  intro D p l e R s m args below meth c H locs cells slots ls C hR hP hS hL
  have h0 := hP.2.1 r hr
  have hn : gx_rn D r = n := by
    have := h0.1.symm.trans hs
    simpa using this
  have hT := C.2.2.2.2.2.2.2.2.2.1.1 r hr
  rw [hn] at hT
  have K := kk D p l e R s m args below meth c H locs cells slots ls C hR hP hS hL
  have ef : gx_f D r = gx_t D r := if_pos hr
  show W p l e R s m args below meth c H locs cells slots _ (F0 m pc ls (.int i :: .ref (gx_f D r) :: st.map (gx_c D)))
  rw [ef]
  exact va_ti (v := .int (w_a w r i.toNatClampNeg)) C.1 C.2.1 hT hS hi (by rw [h0.2]) hd K
theorem g_rlen {r n : Nat} (hd : gx_d M pc .arraylength 1) (hr : r < 6) (hs : w.1[r]? = some (30, n)) (kk : gx_G nc ns d M Q (pc + 1) L (.int (Int32.ofNat n) :: st) w) : gx_G nc ns d M Q pc L (.ref r :: st) w := by
  intro D p l e R s m args below meth c H locs cells slots ls C hR hP hS hL
  have h0 := hP.2.1 r hr
  have hn : gx_rn D r = n := by
    have := h0.1.symm.trans hs
    simpa using this
  have hT := C.2.2.2.2.2.2.2.2.2.1.1 r hr
  rw [hn] at hT
  have K := kk D p l e R s m args below meth c H locs cells slots ls C hR hP hS hL
  have ef : gx_f D r = gx_t D r := if_pos hr
  show W p l e R s m args below meth c H locs cells slots _ (F0 m pc ls (.ref (gx_f D r) :: st.map (gx_c D)))
  rw [ef]
  exact va_tlen C.1 C.2.1 hT hS rfl hd K
/-- a static field -/
theorem g_gets {idx a : Nat} {cl nm : String} (hd : gx_d M pc (.getstatic idx) 3) (hl : Cond.fieldLink M.1.cls idx cl nm "[I" ∈ gx_T ∨ ∃ h, Cond.fieldLinkNest M.1.cls idx cl nm "[I" h ∈ gx_N) (hq : (cl, nm, a) ∈ gx_st) (ha : a < 6) (kk : gx_G nc ns d M Q (pc + 3) L (.ref a :: st) w) : gx_G nc ns d M Q pc L st w := by
  intro D p l e R s m args below meth c H locs cells slots ls C hR hP hS hL
  have hE := C.2.2.2.2.2.2.2.2.1
  have hZ := C.2.2.2.2.2.2.2.2.2.1.2 _ hq
  have K := kk D p l e R s m args below meth c H locs cells slots ls C hR hP hS hL
  have ef : gx_f D a = gx_t D a := if_pos ha
  have K' : W p l e R s m args below meth c H locs cells slots (MQ below (gx_Q D Q) args s (cells + nc) (slots + ns) (gx_A D)) (F0 m (pc + 3) ls (.ref (gx_t D a) :: st.map (gx_c D))) := by
    rw [← ef]
    exact K
  rcases hl with h4 | ⟨h, h4⟩
  · exact va_gets C.1 C.2.1 hZ hS C.2.2.2.2.1 (C.2.2.2.2.2.1 _ h4) (fun _ z => z) hd K'
  · exact va_getsN C.1 C.2.1 hZ hS C.2.2.2.2.1 (va_Nw.use rfl (hE.2.1 _ h4)) (fun _ z => z) hd K'
end GXQ

/-! THE PURE MACHINE: a world is a row of kinds and sizes, and functions of cell and place; a judgement 'gx_G' over it, sound for the machine -/
abbrev gx_M : Type := MethodName × ByteArray × Nat × Option FieldType
/-- the numbers of a start: the heap's size, where the arrays that are given lie, their sizes and contents, the classes -/
abbrev gx_D : Type := Nat × (Nat → Nat) × (Nat → Nat) × (Nat → Nat → Int32) × (Nat → ClassId) × (Nat → Nat → Nat) × (Nat → ClassId)
def gx_z (D : gx_D) : Nat := D.1
def gx_t (D : gx_D) (k : Nat) : Nat := D.2.1 k
def gx_rn (D : gx_D) (k : Nat) : Nat := D.2.2.1 k
def gx_ro (D : gx_D) (k : Nat) : Nat → Int32 := D.2.2.2.1 k
def gx_g (D : gx_D) : va_G := (D.2.2.2.2.1, D.2.2.2.2.2.1)
def gx_y (D : gx_D) (k : Nat) : ClassId := D.2.2.2.2.2.2 k
def gx_A (D : gx_D) : Nat → Prop := fun q => gx_z D ≤ q
abbrev gx_W : Type := List (Nat × Nat) × (Nat → Nat → Int32) × (Nat → Nat → Option Nat) × (Nat → Nat → Int32) × (Nat → Nat → Int64) × (Nat → Nat → Option Nat)
def w_sh (w : gx_W) : List (Nat × Nat) := w.1
def w_i (w : gx_W) : Nat → Nat → Int32 := w.2.1
def w_r (w : gx_W) : Nat → Nat → Option Nat := w.2.2.1
def w_a (w : gx_W) : Nat → Nat → Int32 := w.2.2.2.1
def w_l (w : gx_W) : Nat → Nat → Int64 := w.2.2.2.2.1
def w_q (w : gx_W) : Nat → Nat → Option Nat := w.2.2.2.2.2
def s_i (w : gx_W) (k j : Nat) (v : Int32) : gx_W := (w.1, va_up w.2.1 k (va_up (w.2.1 k) j v), w.2.2)
def s_r (w : gx_W) (k j : Nat) (v : Option Nat) : gx_W := (w.1, w.2.1, va_up w.2.2.1 k (va_up (w.2.2.1 k) j v), w.2.2.2)
def s_a (w : gx_W) (k : Nat) (f : Nat → Int32) : gx_W := (w.1, w.2.1, w.2.2.1, va_up w.2.2.2.1 k f, w.2.2.2.2)
def s_l (w : gx_W) (k : Nat) (f : Nat → Int64) : gx_W := (w.1, w.2.1, w.2.2.1, w.2.2.2.1, va_up w.2.2.2.2.1 k f, w.2.2.2.2.2)
def s_q (w : gx_W) (k : Nat) (f : Nat → Option Nat) : gx_W := (w.1, w.2.1, w.2.2.1, w.2.2.2.1, w.2.2.2.2.1, va_up w.2.2.2.2.2 k f)
/-- the fields of a class: true where an int (or boolean) stands -/
def gx_lay (c : Nat) : List Bool := match gx_cl[c]? with
  | some q => (List.range q.2.2).map (fun k => decide ((q.2.1 k).2.2.1 = "I") || decide ((q.2.1 k).2.2.1 = "Z"))
  | none => []
def gx_f (D : gx_D) (k : Nat) : Nat := if k < 6 then gx_t D k else gx_z D + (k - 6)
def gx_c (D : gx_D) : Value → Value
  | .ref k => .ref (gx_f D k)
  | v => v
def gx_rv (D : gx_D) (o : Option Nat) : Value := va_rf (o.map (gx_f D))
def gx_fs (D : gx_D) (w : gx_W) (k c : Nat) : List Value := (gx_lay c).mapIdx (fun j b => if b then .int (w_i w k j) else gx_rv D (w_r w k j))
def gx_e (D : gx_D) (w : gx_W) (k : Nat) (c : Nat × Nat) : va_E :=
  if c.1 < 20 then .inr (c.1, gx_fs D w k c.1)
  else if c.1 < 23 then .inl (gx_y D c.1, c.2, .inl (w_a w k))
  else if c.1 = 23 then .inl (gx_y D 23, c.2, .inr (.inl (w_l w k)))
  else .inl (gx_y D c.1, c.2, .inr (.inr (.inr (.inr (fun j => (w_q w k j).map (gx_f D))))))
def gx_ws (D : gx_D) (w : gx_W) : va_W := (w.1.drop 6).mapIdx (fun i c => (gx_z D + i, gx_e D w (i + 6) c))
/-- the heap holds the world -/
def gx_P (D : gx_D) (w : gx_W) (H : Heap) : Prop := gx_z D + (w.1.length - 6) = H.size ∧ (∀ k, k < 6 → w.1[k]? = some (30, gx_rn D k) ∧ w_a w k = gx_ro D k) ∧ va_P (gx_g D) gx_cl (gx_ws D w) H
def gx_tys (D : gx_D) : List (ClassId × FieldType) := [(gx_y D 20, .int), (gx_y D 21, .byte), (gx_y D 22, .short), (gx_y D 23, .long), (gx_y D 24, .object "CrossroadsChoose$Shelf"), (gx_y D 25, .array .int)]
/-- the static fields: class, name, the array's number -/
def gx_st : List (String × String × Nat) := [("CrossroadsChoose", "LOWEST", 1), ("CrossroadsChoose", "HIGHEST", 2), ("CrossroadsChoose$Votes", "ORDERS", 3), ("CrossroadsChoose$Bodies", "ABOVE", 4), ("CrossroadsChoose$Bodies", "OWN", 5)]
/-- what a state's tables say -/
def gx_E (D : gx_D) (U : State) : Prop := va_K (gx_g D) gx_cl (gx_tys D) U ∧ (∀ w ∈ gx_N, va_Nw w U) ∧ va_AO "CrossroadsChoose$Shelf" U ∧ (Cond.arrayOver (.array .int)).before #[] U = true
/-- the arrays that are given -/
def gx_R (D : gx_D) (U : State) (H : Heap) : Prop := (∀ k, k < 6 → va_T .int (gx_t D k) (gx_rn D k) (fun j => .int (gx_ro D k j)) (gx_A D) U H) ∧ ∀ q ∈ gx_st, va_Z q.1 q.2.1 "[I" (.ref (gx_t D q.2.2)) (gx_A D) U H
def gx_all (M : gx_M) : List Cond := .code M.1 M.2.1 M.2.2.1 M.2.2.2 :: gx_T
def gx_ctx (D : gx_D) (M : gx_M) (p : Program) (s : State) (m : MethodId) (args : Array Value) (meth : Method) (c : Code) : Prop :=
  p.tables.exec = Jvm.exec ∧ c.code = M.2.1 ∧ meth.sig.returnType = M.2.2.2 ∧ c.maxLocals = M.2.2.1 ∧ s.vm.findClass M.1.cls = some m.cls ∧ (∀ w ∈ gx_T, w.before args s = true) ∧ meth.locks = false ∧ (M.1.name = "<init>" → meth.name = "<init>") ∧ gx_E D s ∧ gx_R D s s.heap ∧ gx_z D ≤ s.heap.size
def gx_rm (nc ns d : Nat) (R : Room) (cells slots : Nat) : Prop := d ≤ R.frames ∧ 100 * d ≤ R.locals ∧ cells + nc ≤ R.cells ∧ slots + ns ≤ R.slots
def gx_ls (D : gx_D) (ls : Array Slot) (L : List Value) : Prop := ls.size = L.length ∧ lv_wf ls ∧ ∀ (i : Nat) (v : Value), L[i]? = some v → v ≠ .retAddr 0 → ls[i]? = some (.val (gx_c D v))
def gx_Q (D : gx_D) (Q : Option Value → gx_W → Prop) : Array Value → State → Outcome → State → Prop := fun _ st o t => (∃ (r : Option Value) (w : gx_W), o = .returned (r.map (gx_c D)) ∧ Q r w ∧ gx_P D w t.heap) ∧ va_F (gx_A D) st t
/-- THE JUDGEMENT: at pc of the method M, with these locals, this stack and this world, with room for nc cells of ns slots and d frames: it comes to its return, and there Q holds -/
def gx_G (nc ns d : Nat) (M : gx_M) (Q : Option Value → gx_W → Prop) (pc : Nat) (L st : List Value) (w : gx_W) : Prop :=
  ∀ (D : gx_D) (p : Program) (l : Launch) (e : Env) (R : Room) (s : State) (m : MethodId) (args : Array Value) (below : List Frame) (meth : Method) (c : Code) (H : Heap) (locs : List Loc) (cells slots : Nat) (ls : Array Slot),
    gx_ctx D M p s m args meth c → gx_rm nc ns d R cells slots → gx_P D w H → va_S (gx_A D) s.heap H locs → gx_ls D ls L →
    W p l e R s m args below meth c H locs cells slots (MQ below (gx_Q D Q) args s (cells + nc) (slots + ns) (gx_A D)) (F0 m pc ls (st.map (gx_c D)))
/-- a call of M with these arguments in this world -/
def gx_Pc (D : gx_D) (as : List Value) (w : gx_W) : Array Value → State → Prop := fun a U => a = (as.map (gx_c D)).toArray ∧ gx_E D U ∧ gx_R D U U.heap ∧ gx_P D w U.heap
def gx_C (nc ns d : Nat) (M : gx_M) (as : List Value) (w : gx_W) (Q : Option Value → gx_W → Prop) : Prop :=
  ∀ (D : gx_D) (l : Launch), Met l M.1 (gx_all M) { frames := d, cells := nc, slots := ns, locals := 100 * d } (gx_Pc D as w) (gx_Q D Q) nc ns (gx_A D)
def gx_d (M : gx_M) (pc : Nat) (i : Instr) (n : Nat) : Prop := decode M.2.1 pc = .ok (i, n)
theorem gx_c_cat (D : gx_D) (v : Value) : (gx_c D v).category = v.category := by cases v <;> rfl
theorem gx_ws_get (D : gx_D) (w : gx_W) (i : Nat) : (gx_ws D w)[i]? = (w.1[i + 6]?).map (fun c => (gx_z D + i, gx_e D w (i + 6) c)) := by
  unfold gx_ws
  rw [List.getElem?_mapIdx, List.getElem?_drop, Nat.add_comm 6 i]
theorem gx_f_hi {D : gx_D} {k : Nat} (h : 6 ≤ k) : gx_f D k = gx_z D + (k - 6) := if_neg (by omega)
theorem gx_ws_at {D : gx_D} {w : gx_W} {k : Nat} {c : Nat × Nat} (h : 6 ≤ k) (hc : w.1[k]? = some c) : (gx_ws D w)[k - 6]? = some (gx_f D k, gx_e D w k c) := by
  have e : k - 6 + 6 = k := by omega
  rw [gx_ws_get, e, hc, gx_f_hi h]
  rfl
theorem gx_ws_D (D : gx_D) (w : gx_W) : va_D (gx_A D) (gx_ws D w) := by
  refine ⟨fun i j p q hi hj h => ?_, fun k q hk => ?_⟩
  · rw [gx_ws_get] at hi hj
    obtain ⟨c, -, rfl⟩ := Option.map_eq_some_iff.mp hi
    obtain ⟨c', -, rfl⟩ := Option.map_eq_some_iff.mp hj
    have h' : gx_z D + i = gx_z D + j := h
    omega
  · rw [gx_ws_get] at hk
    obtain ⟨c, -, rfl⟩ := Option.map_eq_some_iff.mp hk
    exact Nat.le_add_right _ _
/-- a cell of a kind below 30 isn't one of those that are given -/
theorem gx_hi {D : gx_D} {w : gx_W} {H : Heap} (hP : gx_P D w H) {k a n : Nat} (hs : w.1[k]? = some (a, n)) (ha : a ≠ 30) : 6 ≤ k := by
  rcases Nat.lt_or_ge k 6 with h | h
  · have := (hP.2.1 k h).1.symm.trans hs
    exact absurd (congrArg (fun o : Option (Nat × Nat) => (o.map Prod.fst).getD 0) this) (fun q => ha (by simpa using q.symm))
  · exact h
theorem gx_P_at {D : gx_D} {w : gx_W} {H : Heap} (hP : gx_P D w H) {k : Nat} {c : Nat × Nat} (hk : 6 ≤ k) (hs : w.1[k]? = some c) : va_at (gx_g D) gx_cl (gx_f D k, gx_e D w k c) H := hP.2.2 (k - 6) _ (gx_ws_at hk hs)
theorem gx_P_set {D : gx_D} {w w' : gx_W} {H H' : Heap} (hP : gx_P D w H) {k : Nat} {c : Nat × Nat} (hk : 6 ≤ k) (hs : w.1[k]? = some c) (h1 : w'.1 = w.1) (h2 : ∀ k' c', k' ≠ k → gx_e D w' k' c' = gx_e D w k' c') (h3 : ∀ k', k' < 6 → w_a w' k' = w_a w k')
    (h4 : H'.size = H.size) (h5 : ∀ q, q ≠ gx_f D k → H'[q]? = H[q]?) (h6 : va_at (gx_g D) gx_cl (gx_f D k, gx_e D w' k c) H') : gx_P D w' H' := by
  refine ⟨by rw [h1, h4]; exact hP.1, fun j hj => ?_, fun i q hi => ?_⟩
  · rw [h1, h3 j hj]
    exact hP.2.1 j hj
  · rw [gx_ws_get, h1] at hi
    obtain ⟨c', hc', rfl⟩ := Option.map_eq_some_iff.mp hi
    by_cases e : i + 6 = k
    · subst e
      have : c' = c := Option.some.inj (hc'.symm.trans hs)
      subst this
      have e2 : gx_f D (i + 6) = gx_z D + i := by rw [gx_f_hi hk, Nat.add_sub_cancel]
      rw [← e2]
      exact h6
    · rw [h2 _ _ e]
      have h := hP.2.2 i (gx_z D + i, gx_e D w (i + 6) c') (by rw [gx_ws_get, hc']; rfl)
      refine h.kept (h5 _ (fun q => ?_))
      have q' : gx_z D + i = gx_z D + (k - 6) := by rw [← gx_f_hi hk]; exact q
      omega
/-! the locals -/
def gx_as (D : gx_D) (L : List Value) : List (Nat × Value) := (List.range L.length).filterMap (fun j => match L[j]? with
  | some v => if v = .retAddr 0 then none else some (j, gx_c D v)
  | none => none)
theorem gx_as_mem {D : gx_D} {L : List Value} {j : Nat} {u : Value} (h : L[j]? = some u) (hu : u ≠ .retAddr 0) : (j, gx_c D u) ∈ gx_as D L := by
  refine List.mem_filterMap.mpr ⟨j, List.mem_range.mpr (List.getElem?_eq_some_iff.mp h).1, ?_⟩
  simp only [h]
  rw [if_neg hu]
theorem gx_as_of {D : gx_D} {L : List Value} {q : Nat × Value} (h : q ∈ gx_as D L) : ∃ u, L[q.1]? = some u ∧ u ≠ .retAddr 0 ∧ q.2 = gx_c D u := by
  obtain ⟨j, -, hj⟩ := List.mem_filterMap.mp h
  cases hL : L[j]? with
  | none => rw [hL] at hj; cases hj
  | some u =>
    rw [hL] at hj
    by_cases hu : u = .retAddr 0
    · simp only [hu, if_true] at hj; cases hj
    · simp only [hu, if_false] at hj
      cases hj
      exact ⟨u, hL, hu, rfl⟩
theorem gx_ls_has {D : gx_D} {ls : Array Slot} {L : List Value} (h : gx_ls D ls L) : lv_has ls L.length (gx_as D L) := by
  refine ⟨h.1, h.2.1, fun q hq => ?_⟩
  obtain ⟨u, h1, h2, h3⟩ := gx_as_of hq
  rw [h3]
  exact h.2.2 _ _ h1 h2
/-- the place in front of i holds no first half of a long -/
def gx_ok (L : List Value) (i : Nat) : Bool := match i with
  | 0 => true
  | j + 1 => match L[j]? with
    | some v => v.category != 2
    | none => true
theorem gx_ok_of {L : List Value} {i j : Nat} {u : Value} (h : gx_ok L i = true) (hj : j + 1 = i) (hu : L[j]? = some u) : u.category ≠ 2 := by
  subst hj
  simp only [gx_ok, hu] at h
  simpa using h
theorem gx_ls_1 {D : gx_D} {ls : Array Slot} {L : List Value} {i : Nat} {v : Value} (hok : gx_ok L i = true)
    (h : lv_has ls L.length ((i, gx_c D v) :: (gx_as D L).filter (fun q => !(q.1 == i) && !(q.1 + 1 == i && q.2.category == 2)))) : gx_ls D ls (L.set i v) := by
  refine ⟨by rw [List.length_set]; exact h.1, h.2.1, fun j u hj hu => ?_⟩
  by_cases e : i = j
  · subst e
    have hlt : i < L.length := by
      have := (List.getElem?_eq_some_iff.mp hj).1
      simpa using this
    rw [List.getElem?_set_self hlt] at hj
    cases hj
    exact h.2.2 _ List.mem_cons_self
  · rw [List.getElem?_set_ne e] at hj
    refine h.2.2 (j, gx_c D u) (List.mem_cons_of_mem _ (List.mem_filter.mpr ⟨gx_as_mem hj hu, ?_⟩))
    have h1 : (j == i) = false := by simpa using fun q => e q.symm
    by_cases h2 : j + 1 = i
    · have := gx_ok_of hok h2 hj
      simp [h1, gx_c_cat, this]
    · have h3 : (j + 1 == i) = false := by simpa using h2
      simp [h1, h3]
theorem gx_ls_2 {D : gx_D} {ls : Array Slot} {L : List Value} {i : Nat} {v : Value} (hok : gx_ok L i = true)
    (h : lv_has ls L.length ((i, gx_c D v) :: (gx_as D L).filter (fun q => !(q.1 == i) && (!(q.1 == i + 1) && !(q.1 + 1 == i && q.2.category == 2))))) : gx_ls D ls ((L.set i v).set (i + 1) (.retAddr 0)) := by
  refine ⟨by rw [List.length_set, List.length_set]; exact h.1, h.2.1, fun j u hj hu => ?_⟩
  by_cases e1 : i + 1 = j
  · subst e1
    have hlt : i + 1 < (L.set i v).length := by
      have := (List.getElem?_eq_some_iff.mp hj).1
      simpa using this
    rw [List.getElem?_set_self hlt] at hj
    cases hj
    exact absurd rfl hu
  rw [List.getElem?_set_ne e1] at hj
  by_cases e : i = j
  · subst e
    have hlt : i < L.length := by
      have := (List.getElem?_eq_some_iff.mp hj).1
      simpa using this
    rw [List.getElem?_set_self hlt] at hj
    cases hj
    exact h.2.2 _ List.mem_cons_self
  · rw [List.getElem?_set_ne e] at hj
    refine h.2.2 (j, gx_c D u) (List.mem_cons_of_mem _ (List.mem_filter.mpr ⟨gx_as_mem hj hu, ?_⟩))
    have h1 : (j == i) = false := by simpa using fun q => e q.symm
    have h4 : (j == i + 1) = false := by simpa using fun q => e1 q.symm
    by_cases h2 : j + 1 = i
    · have := gx_ok_of hok h2 hj
      simp [h1, h4, gx_c_cat, this]
    · have h3 : (j + 1 == i) = false := by simpa using h2
      simp [h1, h3, h4]
theorem gx_lt {L : List Value} {i : Nat} {u : Value} (h : L[i]? = some u) : i < L.length := (List.getElem?_eq_some_iff.mp h).1

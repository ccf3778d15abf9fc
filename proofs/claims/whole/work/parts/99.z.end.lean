/-! THE START: the world in which the law begins, and the claim out of the law's own walk -/
/-! THE CLAIM OUT OF ONE WALK OF THE LAW'S BODY. Your part is whole_start (and what it stands on); all else here is the same for every law, but numbers. -/
def R_law : String := "CrossroadsChooseLaw"
def lw_P (b : Addr) (xs : List Int32) (args : Array Value) (s : State) : Prop := args = #[.ref b] ∧ s.IntsAt b xs ∧ xs.length ≤ 3072 ∧ (Jvm.Cond.and given_1 narrow_1).before args s = true
def lw_Q (_ : Array Value) (s : State) (o : Outcome) (t : State) : Prop := o = .returned (some (.int 1)) ∧ Framed s o t [] 600000 7302250
def lw_Z (below : List Frame) (a : Array Value) (s : State) : State → Prop := fun t => ∃ o, t.status = .running ∧ Ended t below o ∧ lw_Q a s o t
/-- the law's own end, with 1 on the stack, nothing written that was there before, its room as the claim has it -/
theorem lw_ret {p : Program} {l : Launch} {e : Env} {s : State} {m : MethodId} {below : List Frame} {meth : Method} {c : Code} {b : Nat} (hx : p.tables.exec = Jvm.exec) (hb : c.code = code) (hr : meth.sig.returnType = ret) (hlocks : meth.locks = false) {pc : Nat} {H : Heap} {ls : Array Slot} (hdg : decode code pc = .ok (.ireturn, 1)) : W p l e room_1 s m #[Value.ref b] below meth c H [] 600000 7302250 (lw_Z below #[Value.ref b] s) (F0 m pc ls [.int 1]) := by
  intro T hT X
  obtain ⟨fs, hret, hrun, hended, hW, hframe⟩ := X.leave (v := some (.int 1)) (hlocks := hlocks) (fun h => by rw [hr] at h; cases h)
  have hmeth' : T.vm.method? m = some meth := X.method'
  refine ⟨T.setFrames fs, ?_, .returned (some (.int 1)), hrun, hended, rfl, ⟨_, rfl⟩, hW, hframe⟩
  jvm_step X.here [X.here.top, hx, hb, hdg, hmeth', hr, ret, narrow_b1]
  (try refine ⟨rfl, ?_⟩); (try refine ⟨rfl, ?_⟩)
  first | (intro acts; rw [hret _ acts rfl rfl rfl]) | rw [hret _ _ rfl rfl rfl]
  exact Steps.refl _
/-- what holds at the law's entry: the machine, the code, the tables' words (any of lw_tbl by 'hts w (by decide +kernel)'), the script of L ints xs at the cell b, what the Statement gives of the start (any of its parts by flat_of_before) -/
def lw_At (p : Program) (s : State) (m : MethodId) (meth : Method) (c : Code) (b L : Nat) (xs : Nat → Int32) : Prop :=
  p.tables.exec = Jvm.exec ∧ c.code = code ∧ meth.sig.returnType = ret ∧ c.maxLocals = 4 ∧ s.vm.findClass R_law = some m.cls ∧ (∀ w ∈ lw_tbl, w.before #[Value.ref b] s = true) ∧ va_X b L xs s s.heap ∧ b < s.heap.size ∧ meth.locks = false ∧ (Jvm.Cond.and given_1 narrow_1).before #[Value.ref b] s = true
theorem gx_arrOf {s : State} {cA : ClassId} {kA : Class} {comp : ClassId} {ty : FieldType} (h2 : s.vm.classes[cA]? = some kA) (h3 : kA.kind = .array comp ty) : ArrOfT s cA ty := fun n z => ⟨fun k h => (by cases h), kA, h2, comp, h3⟩
theorem gx_known {s : State} {args : Array Value} (hts : ∀ w ∈ lw_tbl, w.before args s = true) : ∀ (ci : Nat) (q : vw_C), gx_cl[ci]? = some q → ∃ (x : ClassId × (Nat → Nat)), u_Kn s q.1 q.2.1 q.2.2 x.1 x.2 := by
  have go : ∀ (C : String) (T : u_T) (N : Nat), (∀ w ∈ u_ws C T N, w ∈ gx_T) → Cond.instantiable C N ∈ lw_tbl → ∃ (x : ClassId × (Nat → Nat)), u_Kn s C T N x.1 x.2 := by
    intro C T N h1 h2
    obtain ⟨c, i, h⟩ := u_known (C := C) (T := T) (N := N) (n := N) hts (fun w hw => (List.mem_filter.mp (h1 w hw)).1) (hts _ h2)
    exact ⟨(c, i), h⟩
  intro ci q h
  match ci, h with
  | 0, h => cases h; exact go RX0 TX0 4 gx_in0 (List.mem_of_getElem? (i := 174) (by decide +kernel))
  | 1, h => cases h; exact go RX1 TX1 6 gx_in1 (List.mem_of_getElem? (i := 126) (by decide +kernel))
  | 2, h => cases h; exact go RX2 TX2 3 gx_in2 (List.mem_of_getElem? (i := 224) (by decide +kernel))
  | 3, h => cases h; exact go RX3 TX3 4 gx_in3 (List.mem_of_getElem? (i := 153) (by decide +kernel))
  | 4, h => cases h; exact go RX4 TX4 6 gx_in4 (List.mem_of_getElem? (i := 199) (by decide +kernel))
  | 5, h => cases h; exact go RX5 TX5 5 gx_in5 (List.mem_of_getElem? (i := 279) (by decide +kernel))
  | 6, h => cases h; exact go RX6 TX6 3 gx_in6 (List.mem_of_getElem? (i := 108) (by decide +kernel))
  | 7, h => cases h; exact go RX7 TX7 7 gx_in7 (List.mem_of_getElem? (i := 244) (by decide +kernel))
  | 8, h => cases h; exact go RX0 TX0 4 gx_in0 (List.mem_of_getElem? (i := 174) (by decide +kernel))
  | 9, h => cases h; exact go RX9 TX9 11 gx_in9 (List.mem_of_getElem? (i := 100) (by decide +kernel))
  | 10, h => cases h; exact go RX10 TX10 51 gx_in10 (List.mem_of_getElem? (i := 929) (by decide +kernel))
  | n + 11, h => simp [gx_cl] at h
set_option maxHeartbeats 4000000 in
theorem gx_stat1 {s : State} {args : Array Value} (hts : ∀ w ∈ lw_tbl, w.before args s = true) (hgv : (Jvm.Cond.and given_1 narrow_1).before args s = true) : ∃ t : Nat, va_T .int t 8 (fun j => .int ((gx_tab 1).getD j 0)) (fun q => s.heap.size ≤ q) s s.heap ∧ va_Z "CrossroadsChoose" "LOWEST" "[I" (.ref t) (fun q => s.heap.size ≤ q) s s.heap := by
  have hs := flat_of_before _ hgv
  have hA : ∀ a : Nat, a < s.heap.size → ¬ (fun q => s.heap.size ≤ q) a := fun a h => Nat.not_le.mpr h
  obtain ⟨t, h1, h2⟩ := va_Tof (tm := .static "CrossroadsChoose" "LOWEST" "[I") (ty := .int) (N := 8) (f := fun j => .int ((gx_tab 1).getD j 0)) (A := fun q => s.heap.size ≤ q) (by decide) (hs _ (by decide +kernel)) (va_eqt (z := 8) (hs _ (by decide +kernel))) (fun j hj => by
    match j, hj with
    | 0, _ => exact va_eqt (z := 0) (hs _ (by decide +kernel))
    | 1, _ => exact va_eqt (z := 0) (hs _ (by decide +kernel))
    | 2, _ => exact va_eqt (z := -99) (hs _ (by decide +kernel))
    | 3, _ => exact va_eqt (z := 0) (hs _ (by decide +kernel))
    | 4, _ => exact va_eqt (z := 0) (hs _ (by decide +kernel))
    | 5, _ => exact va_eqt (z := 0) (hs _ (by decide +kernel))
    | 6, _ => exact va_eqt (z := 0) (hs _ (by decide +kernel))
    | 7, _ => exact va_eqt (z := 1) (hs _ (by decide +kernel))
    | z + 8, hj => exact absurd hj (by omega)) hA
  exact ⟨t, h2, va_Zof (hts _ (List.mem_of_getElem? (i := 347) (by decide +kernel))) (hts _ (List.mem_of_getElem? (i := 84) (by decide +kernel))) h1 hA⟩
set_option maxHeartbeats 4000000 in
theorem gx_stat2 {s : State} {args : Array Value} (hts : ∀ w ∈ lw_tbl, w.before args s = true) (hgv : (Jvm.Cond.and given_1 narrow_1).before args s = true) : ∃ t : Nat, va_T .int t 8 (fun j => .int ((gx_tab 2).getD j 0)) (fun q => s.heap.size ≤ q) s s.heap ∧ va_Z "CrossroadsChoose" "HIGHEST" "[I" (.ref t) (fun q => s.heap.size ≤ q) s s.heap := by
  have hs := flat_of_before _ hgv
  have hA : ∀ a : Nat, a < s.heap.size → ¬ (fun q => s.heap.size ≤ q) a := fun a h => Nat.not_le.mpr h
  obtain ⟨t, h1, h2⟩ := va_Tof (tm := .static "CrossroadsChoose" "HIGHEST" "[I") (ty := .int) (N := 8) (f := fun j => .int ((gx_tab 2).getD j 0)) (A := fun q => s.heap.size ≤ q) (by decide) (hs _ (by decide +kernel)) (va_eqt (z := 8) (hs _ (by decide +kernel))) (fun j hj => by
    match j, hj with
    | 0, _ => exact va_eqt (z := 9) (hs _ (by decide +kernel))
    | 1, _ => exact va_eqt (z := 9) (hs _ (by decide +kernel))
    | 2, _ => exact va_eqt (z := 99) (hs _ (by decide +kernel))
    | 3, _ => exact va_eqt (z := 99) (hs _ (by decide +kernel))
    | 4, _ => exact va_eqt (z := 9) (hs _ (by decide +kernel))
    | 5, _ => exact va_eqt (z := 5) (hs _ (by decide +kernel))
    | 6, _ => exact va_eqt (z := 9) (hs _ (by decide +kernel))
    | 7, _ => exact va_eqt (z := 54) (hs _ (by decide +kernel))
    | z + 8, hj => exact absurd hj (by omega)) hA
  exact ⟨t, h2, va_Zof (hts _ (List.mem_of_getElem? (i := 349) (by decide +kernel))) (hts _ (List.mem_of_getElem? (i := 84) (by decide +kernel))) h1 hA⟩
set_option maxHeartbeats 4000000 in
theorem gx_stat3 {s : State} {args : Array Value} (hts : ∀ w ∈ lw_tbl, w.before args s = true) (hgv : (Jvm.Cond.and given_1 narrow_1).before args s = true) : ∃ t : Nat, va_T .int t 7 (fun j => .int ((gx_tab 3).getD j 0)) (fun q => s.heap.size ≤ q) s s.heap ∧ va_Z "CrossroadsChoose$Votes" "ORDERS" "[I" (.ref t) (fun q => s.heap.size ≤ q) s s.heap := by
  have hs := flat_of_before _ hgv
  have hA : ∀ a : Nat, a < s.heap.size → ¬ (fun q => s.heap.size ≤ q) a := fun a h => Nat.not_le.mpr h
  obtain ⟨t, h1, h2⟩ := va_Tof (tm := .static "CrossroadsChoose$Votes" "ORDERS" "[I") (ty := .int) (N := 7) (f := fun j => .int ((gx_tab 3).getD j 0)) (A := fun q => s.heap.size ≤ q) (by decide) (hs _ (by decide +kernel)) (va_eqt (z := 7) (hs _ (by decide +kernel))) (fun j hj => by
    match j, hj with
    | 0, _ => exact va_eqt (z := 1) (hs _ (by decide +kernel))
    | 1, _ => exact va_eqt (z := 1) (hs _ (by decide +kernel))
    | 2, _ => exact va_eqt (z := 2) (hs _ (by decide +kernel))
    | 3, _ => exact va_eqt (z := 6) (hs _ (by decide +kernel))
    | 4, _ => exact va_eqt (z := 24) (hs _ (by decide +kernel))
    | 5, _ => exact va_eqt (z := 120) (hs _ (by decide +kernel))
    | 6, _ => exact va_eqt (z := 720) (hs _ (by decide +kernel))
    | z + 7, hj => exact absurd hj (by omega)) hA
  exact ⟨t, h2, va_Zof (hts _ (List.mem_of_getElem? (i := 691) (by decide +kernel))) (hts _ (List.mem_of_getElem? (i := 97) (by decide +kernel))) h1 hA⟩
set_option maxHeartbeats 4000000 in
theorem gx_stat4 {s : State} {args : Array Value} (hts : ∀ w ∈ lw_tbl, w.before args s = true) (hgv : (Jvm.Cond.and given_1 narrow_1).before args s = true) : ∃ t : Nat, va_T .int t 8 (fun j => .int ((gx_tab 4).getD j 0)) (fun q => s.heap.size ≤ q) s s.heap ∧ va_Z "CrossroadsChoose$Bodies" "ABOVE" "[I" (.ref t) (fun q => s.heap.size ≤ q) s s.heap := by
  have hs := flat_of_before _ hgv
  have hA : ∀ a : Nat, a < s.heap.size → ¬ (fun q => s.heap.size ≤ q) a := fun a h => Nat.not_le.mpr h
  obtain ⟨t, h1, h2⟩ := va_Tof (tm := .static "CrossroadsChoose$Bodies" "ABOVE" "[I") (ty := .int) (N := 8) (f := fun j => .int ((gx_tab 4).getD j 0)) (A := fun q => s.heap.size ≤ q) (by decide) (hs _ (by decide +kernel)) (va_eqt (z := 8) (hs _ (by decide +kernel))) (fun j hj => by
    match j, hj with
    | 0, _ => exact va_eqt (z := -1) (hs _ (by decide +kernel))
    | 1, _ => exact va_eqt (z := 0) (hs _ (by decide +kernel))
    | 2, _ => exact va_eqt (z := 0) (hs _ (by decide +kernel))
    | 3, _ => exact va_eqt (z := 2) (hs _ (by decide +kernel))
    | 4, _ => exact va_eqt (z := 1) (hs _ (by decide +kernel))
    | 5, _ => exact va_eqt (z := 3) (hs _ (by decide +kernel))
    | 6, _ => exact va_eqt (z := 0) (hs _ (by decide +kernel))
    | 7, _ => exact va_eqt (z := 6) (hs _ (by decide +kernel))
    | z + 8, hj => exact absurd hj (by omega)) hA
  exact ⟨t, h2, va_Zof (hts _ (List.mem_of_getElem? (i := 844) (by decide +kernel))) (hts _ (List.mem_of_getElem? (i := 88) (by decide +kernel))) h1 hA⟩
set_option maxHeartbeats 4000000 in
theorem gx_stat5 {s : State} {args : Array Value} (hts : ∀ w ∈ lw_tbl, w.before args s = true) (hgv : (Jvm.Cond.and given_1 narrow_1).before args s = true) : ∃ t : Nat, va_T .int t 32 (fun j => .int ((gx_tab 5).getD j 0)) (fun q => s.heap.size ≤ q) s s.heap ∧ va_Z "CrossroadsChoose$Bodies" "OWN" "[I" (.ref t) (fun q => s.heap.size ≤ q) s s.heap := by
  have hs := flat_of_before _ hgv
  have hA : ∀ a : Nat, a < s.heap.size → ¬ (fun q => s.heap.size ≤ q) a := fun a h => Nat.not_le.mpr h
  obtain ⟨t, h1, h2⟩ := va_Tof (tm := .static "CrossroadsChoose$Bodies" "OWN" "[I") (ty := .int) (N := 32) (f := fun j => .int ((gx_tab 5).getD j 0)) (A := fun q => s.heap.size ≤ q) (by decide) (hs _ (by decide +kernel)) (va_eqt (z := 32) (hs _ (by decide +kernel))) (fun j hj => by
    match j, hj with
    | 0, _ => exact va_eqt (z := 1) (hs _ (by decide +kernel))
    | 1, _ => exact va_eqt (z := 10) (hs _ (by decide +kernel))
    | 2, _ => exact va_eqt (z := 11) (hs _ (by decide +kernel))
    | 3, _ => exact va_eqt (z := 2) (hs _ (by decide +kernel))
    | 4, _ => exact va_eqt (z := 20) (hs _ (by decide +kernel))
    | 5, _ => exact va_eqt (z := 0) (hs _ (by decide +kernel))
    | 6, _ => exact va_eqt (z := 0) (hs _ (by decide +kernel))
    | 7, _ => exact va_eqt (z := 0) (hs _ (by decide +kernel))
    | 8, _ => exact va_eqt (z := 0) (hs _ (by decide +kernel))
    | 9, _ => exact va_eqt (z := 30) (hs _ (by decide +kernel))
    | 10, _ => exact va_eqt (z := 0) (hs _ (by decide +kernel))
    | 11, _ => exact va_eqt (z := 0) (hs _ (by decide +kernel))
    | 12, _ => exact va_eqt (z := 0) (hs _ (by decide +kernel))
    | 13, _ => exact va_eqt (z := 41) (hs _ (by decide +kernel))
    | 14, _ => exact va_eqt (z := 40) (hs _ (by decide +kernel))
    | 15, _ => exact va_eqt (z := 0) (hs _ (by decide +kernel))
    | 16, _ => exact va_eqt (z := 0) (hs _ (by decide +kernel))
    | 17, _ => exact va_eqt (z := 0) (hs _ (by decide +kernel))
    | 18, _ => exact va_eqt (z := 0) (hs _ (by decide +kernel))
    | 19, _ => exact va_eqt (z := 50) (hs _ (by decide +kernel))
    | 20, _ => exact va_eqt (z := 0) (hs _ (by decide +kernel))
    | 21, _ => exact va_eqt (z := 0) (hs _ (by decide +kernel))
    | 22, _ => exact va_eqt (z := 60) (hs _ (by decide +kernel))
    | 23, _ => exact va_eqt (z := 61) (hs _ (by decide +kernel))
    | 24, _ => exact va_eqt (z := 70) (hs _ (by decide +kernel))
    | 25, _ => exact va_eqt (z := 0) (hs _ (by decide +kernel))
    | 26, _ => exact va_eqt (z := 0) (hs _ (by decide +kernel))
    | 27, _ => exact va_eqt (z := 0) (hs _ (by decide +kernel))
    | 28, _ => exact va_eqt (z := 81) (hs _ (by decide +kernel))
    | 29, _ => exact va_eqt (z := 80) (hs _ (by decide +kernel))
    | 30, _ => exact va_eqt (z := 0) (hs _ (by decide +kernel))
    | 31, _ => exact va_eqt (z := 0) (hs _ (by decide +kernel))
    | z + 32, hj => exact absurd hj (by omega)) hA
  exact ⟨t, h2, va_Zof (hts _ (List.mem_of_getElem? (i := 839) (by decide +kernel))) (hts _ (List.mem_of_getElem? (i := 88) (by decide +kernel))) h1 hA⟩
set_option maxHeartbeats 4000000 in
/-- from the entry, for every script of at most 3072 ints, the law comes to its end with true -/
theorem whole_start {p : Program} {e : Env} {s : State} {m : MethodId} {below : List Frame} {meth : Method} {c : Code} (l : Launch) (hflags : l.flags = flags0) {b L : Nat} {xs : Nat → Int32} (hL : L ≤ 3072) (C0 : lw_At p s m meth c b L xs) : W p l e room_1 s m #[Value.ref b] below meth c s.heap [] 0 0 (lw_Z below #[Value.ref b] s) (entryFrame m ([Value.ref b] : List Value).toArray 4) := by
  obtain ⟨hx, hb, hr, hml, hown, hts, hX, hbl, hlocks, hgv⟩ := C0
  have hk := gx_known hts
  obtain ⟨dC, dI, hKn⟩ : ∃ (dC : Nat → ClassId) (dI : Nat → Nat → Nat), ∀ (ci : Nat) (q : vw_C), gx_cl[ci]? = some q → u_Kn s q.1 q.2.1 q.2.2 (dC ci) (dI ci) := by
    have h : ∀ ci : Nat, ∃ x : ClassId × (Nat → Nat), ∀ q : vw_C, gx_cl[ci]? = some q → u_Kn s q.1 q.2.1 q.2.2 x.1 x.2 := by
      intro ci
      cases hq : gx_cl[ci]? with
      | none => exact ⟨(0, fun _ => 0), fun q h => by cases h⟩
      | some q =>
        obtain ⟨x, hx⟩ := hk ci q hq
        exact ⟨x, fun q' h => by cases h; exact hx⟩
    exact ⟨fun ci => (Classical.choose (h ci)).1, fun ci => (Classical.choose (h ci)).2, fun ci q hq => Classical.choose_spec (h ci) q hq⟩
  obtain ⟨c20, k20, m20, f20, g20, e20⟩ := Cond.arrayClass_spec (hts (.arrayClass .int) (List.mem_of_getElem? (i := 124) (by decide +kernel)))
  obtain ⟨c21, k21, m21, f21, g21, e21⟩ := Cond.arrayClass_spec (hts (.arrayClass .byte) (List.mem_of_getElem? (i := 1087) (by decide +kernel)))
  obtain ⟨c22, k22, m22, f22, g22, e22⟩ := Cond.arrayClass_spec (hts (.arrayClass .short) (List.mem_of_getElem? (i := 1088) (by decide +kernel)))
  obtain ⟨c23, k23, m23, f23, g23, e23⟩ := Cond.arrayClass_spec (hts (.arrayClass .long) (List.mem_of_getElem? (i := 304) (by decide +kernel)))
  have w24 := hts (.arrayOver (.object "CrossroadsChoose$Shelf")) (List.mem_of_getElem? (i := 195) (by decide +kernel))
  have w25 := hts (.arrayOver (.array .int)) (List.mem_of_getElem? (i := 197) (by decide +kernel))
  obtain ⟨m24, c24, k24, h241, h242, h243, h244, h245⟩ := Cond.arrayOver_spec w24
  obtain ⟨m25, c25, k25, h251, h252, h253, h254, h255⟩ := arrayOverA_spec w25
  obtain ⟨t1, hT1, hZ1⟩ := gx_stat1 hts hgv
  obtain ⟨t2, hT2, hZ2⟩ := gx_stat2 hts hgv
  obtain ⟨t3, hT3, hZ3⟩ := gx_stat3 hts hgv
  obtain ⟨t4, hT4, hZ4⟩ := gx_stat4 hts hgv
  obtain ⟨t5, hT5, hZ5⟩ := gx_stat5 hts hgv
  let D : gx_D := (s.heap.size, fun k => match k with | 0 => b | 1 => t1 | 2 => t2 | 3 => t3 | 4 => t4 | _ => t5, fun k => match k with | 0 => L | 1 => 8 | 2 => 8 | 3 => 7 | 4 => 8 | _ => 32, fun k => if k = 0 then xs else fun j => (gx_tab k).getD j 0, dC, dI, fun k => match k with | 20 => c20 | 21 => c21 | 22 => c22 | 23 => c23 | 24 => c24 | _ => c25)
  have hT0 : va_T .int b L (fun j => .int (xs j)) (fun q => s.heap.size ≤ q) s s.heap := by
    obtain ⟨scr, x1, x2, x3, x4, x5⟩ := hX
    exact ⟨scr, x1, x2, x3, by omega, by rw [x4], x5, Nat.not_le.mpr hbl⟩
  have hE : gx_E D s := by
    refine ⟨⟨hKn, fun k q hq => ?_⟩, fun w hw => ?_, va_AO.of w24, gx_AOA_moved (Vm.Alike.refl s.vm) w25⟩
    · match k, hq with
      | 0, hq => cases hq; exact ⟨gx_arrOf g20 e20, f20⟩
      | 1, hq => cases hq; exact ⟨gx_arrOf g21 e21, f21⟩
      | 2, hq => cases hq; exact ⟨gx_arrOf g22 e22, f22⟩
      | 3, hq => cases hq; exact ⟨gx_arrOf g23 e23, f23⟩
      | 4, hq => cases hq; exact ⟨gx_arrOf h243 h244, k24, m24, h243, h244, h241, h245⟩
      | 5, hq => cases hq; exact ⟨gx_arrOf h253 h254, h255⟩
      | n + 6, hq => simp [gx_tys] at hq
    · have h1 := List.mem_filter.mp hw
      have h2 := hts _ h1.1
      have h3 := h1.2
      cases w <;> first | exact va_Nw.of rfl h2 | (simp [gx_isN] at h3)
  have hR : gx_R D s s.heap := by
    refine ⟨fun k hk => ?_, fun q hq => ?_⟩
    · match k, hk with
      | 0, _ => exact hT0
      | 1, _ => exact hT1
      | 2, _ => exact hT2
      | 3, _ => exact hT3
      | 4, _ => exact hT4
      | 5, _ => exact hT5
      | n + 6, h => exact absurd h (by omega)
    · simp only [gx_st, List.mem_cons, List.mem_nil_iff, or_false] at hq
      rcases hq with rfl | rfl | rfl | rfl | rfl
      · exact hZ1
      · exact hZ2
      · exact hZ3
      · exact hZ4
      · exact hZ5
  have hP : gx_P D (gx_w0 L xs) s.heap := by
    refine ⟨rfl, fun k hk => ?_, fun i q hi => ?_⟩
    · match k, hk with
      | 0, _ => exact ⟨rfl, rfl⟩
      | 1, _ => exact ⟨rfl, rfl⟩
      | 2, _ => exact ⟨rfl, rfl⟩
      | 3, _ => exact ⟨rfl, rfl⟩
      | 4, _ => exact ⟨rfl, rfl⟩
      | 5, _ => exact ⟨rfl, rfl⟩
      | n + 6, h => exact absurd h (by omega)
    · have : (gx_ws D (gx_w0 L xs)) = [] := rfl
      rw [this] at hi
      simp at hi
  have hl := lv_entry ([.ref b]) (n := 4) (Nat.le_of_ble_eq_true rfl)
  rw [lg_entry_eq]
  generalize (lg_sl ([.ref b]) ++ List.replicate (4 - (lg_sl ([.ref b])).length) Slot.unset).toArray = ls at hl ⊢
  have hls : gx_ls D ls (gx_in [.ref 0] 4) := gx_in_ls (as := [.ref 0]) hl (by decide)
  have K := law_holds L xs hL D p l e room_1 s m #[Value.ref b] below meth c s.heap [] 0 0 ls ⟨hx, hb, hr, hml, hown, fun w hw => hts w (List.mem_filter.mp hw).1, hlocks, fun h => absurd h (by decide), hE, hR, Nat.le_refl _⟩ ⟨by decide, by decide, by decide, by decide⟩ hP va_S.rf hls
  intro T hT X
  obtain ⟨t, a, o, b1, b2, ⟨⟨r, w', q1, q2, -⟩, -⟩, Lc, hF, hfree⟩ := K T hT X
  have hr1 : r = some (.int 1) := q2
  subst hr1
  refine ⟨t, a, o, b1, b2, q1, hF.1, hF.2.1, hF.2.2.weaken (fun y hy hlt => ?_) (by decide) (by decide)⟩
  exact absurd hlt (Nat.not_lt.mpr (hfree y hy))
set_option maxHeartbeats 4000000 in
theorem lw_walk (l : Launch) (hflags : l.flags = flags0) (b : Addr) (xs : List Int32) : MetFree l x (headSpec (Jvm.Cond.code x code maxLocals ret :: tables_1) room_1) (lw_P b xs) (fun _ _ _ _ _ => True) lw_Q := by
  refine MetFree.of_bodyS (code := code) (maxLocals := maxLocals) (ret := ret) (by decide) ?_ ?_
  · intro args s m h hn
    obtain ⟨meth, c, h1, h2, h3, h4, h5, h6, -, -⟩ := Cond.code_spec hn (atoms_spec (ws := Jvm.Cond.code x code maxLocals ret :: tables_1) h _ List.mem_cons_self)
    exact ⟨meth, c, h1, h2, h3, h4, h5, h6⟩
  · intro p e s m args below meth c s₁ B hml0 hP _
    obtain ⟨rfl, hx, hbd, hgv⟩ := hP
    obtain ⟨scr, harrAt, hlist, hof, hsmall⟩ := hx
    obtain ⟨hcb, hkn, -, -⟩ := State.arrayAt?_spec harrAt
    have hown : s.vm.findClass R_law = some m.cls := findClass_of_methodNamed B.named
    have hts0 : ∀ c ∈ (Jvm.Cond.code x code maxLocals ret :: tables_1), c.before #[Value.ref b] s = true := atoms_spec (ws := Jvm.Cond.code x code maxLocals ret :: tables_1) B.pre
    have hts : ∀ w ∈ lw_tbl, w.before #[Value.ref b] s = true := k2_hts_sels lw_privs (fun w hw => hts0 w (List.mem_cons_of_mem _ hw)) lw_privs_ok
    have hml : c.maxLocals = 4 := B.maxLocals_eq (hts0 _ List.mem_cons_self)
    have X₀ : Stand p l e room_1 s m #[Value.ref b] below meth c s₁ [] 0 0 := Stand.of_body B
    have hh0 : s₁.heap = s.heap := by rw [B.state]; rfl
    have hsz : scr.slots.size = xs.length := by rw [← Array.length_toList, hlist, List.length_map]
    have hval : ∀ j : Nat, j < xs.length → scr.slots[j]? = some (.int (xs.getD j 0)) := fun j hj => by
      rw [← Array.getElem?_toList, hlist]
      simp [hj]
    have hbl : b < s.heap.size := (Array.getElem?_eq_some_iff.mp hcb).1
    have hX : va_X b xs.length (fun j => xs.getD j 0) s s.heap := ⟨scr, hcb, hof, hkn, hsz, hval⟩
    have K : W p l e room_1 s m #[Value.ref b] below meth c s₁.heap [] 0 0 (lw_Z below #[Value.ref b] s) (entryFrame m ([Value.ref b] : List Value).toArray 4) := by
      rw [hh0]
      exact whole_start l hflags hbd ⟨B.exec, B.bytes, B.returns, hml, hown, hts, hX, hbl, B.notSynchronized, hgv⟩
    obtain ⟨t, a1, o, b1, b2, b3⟩ := K s₁ rfl X₀
    exact ⟨t, o, a1, b1, b2, b3⟩
theorem lw_pre_spec {args : Array Value} {s : State} (h : (Jvm.Cond.and given_1 narrow_1).before args s = true) (hr : rest_1_c.before args s = true) : ∃ (b : Addr) (xs : List Int32), lw_P b xs args s := by
  have hs := flat_of_before _ h
  have hq := flat_of_before _ hr
  have hc : (Cond.count 1).before args s = true := hs _ (by decide +kernel)
  have harr : (Cond.arrayOf (.arg 0) .int).before args s = true := hs _ (by decide +kernel)
  have hle : (Cond.le (.length (.arg 0)) (.int 3072)).before args s = true := hs _ (by decide +kernel)
  have hlen : (Cond.isInt (.length (.arg 0))).before args s = true := hq _ (by decide +kernel)
  have hall : (Cond.all (.arg 0) (.isInt (.elem (.arg 0) (.index 0)))).before args s = true := hq _ (by decide +kernel)
  obtain ⟨b, xs, hb, hx⟩ := State.ints_of_pre rfl harr hlen hall
  have hsm : xs.length < 2 ^ 31 := hx.choose_spec.2.2.2
  have hev : (Term.length (.arg 0)).eval args s none [] s = some (.int xs.length.toInt32) := hx.length_eval hb
  have hv := Cond.le_ints hev (show (Term.int 3072).eval args s none [] s = some (.int 3072) from rfl)
  have hd : xs.length.toInt32 ≤ 3072 := by
    simpa [Cond.before, Cond.holds, hv] using hle
  have hN : xs.length ≤ 3072 := (Int32.ofNat_le_ofNat hsm (by decide)).mp (show Int32.ofNat xs.length ≤ Int32.ofNat 3072 from hd)
  exact ⟨b, xs, Cond.one_arg hc (show args[0]? = some (.ref b) from hb), hx, hN, h⟩
theorem lw_comes (l : Launch) (hflags : l.flags = flags0) : Comes l x (Jvm.Cond.code x code maxLocals ret :: tables_1) room_1 (fun tb e args s => Calls_1 tb e args s ∧ rest_1 tb e args s ∧ Pre_1 tb e args s)
    (fun _ _ args s o t => lw_Q args s o t) := by
  intro p e ha hc hk s m args below hf hfit hheap happ hpre
  obtain ⟨b, xs, hP⟩ := lw_pre_spec hpre.2.2 hpre.2.1
  obtain ⟨k, o, h1, h2, h3, hQ⟩ := lw_walk l hflags b xs p e ha hc hk s m args below hf ((Spec.applies_iff_loose hf).mp happ).1 hP trivial
  exact ⟨k, o, h1, h2, h3, hQ⟩
theorem lw_frame {s t : State} {o : Outcome} {args : Array Value} (h : Framed s o t [] 600000 7302250) :
    Framed s o t (fieldLocs frame_1_writes args s ++ arrayLocs frame_1_arrays args s ++ staticLocs frame_1_statics s) 600000 7302250 := h
theorem lw_limb (L : Cond) (hL : ∀ (args : Array Value) (s t : State), L.after args s (.returned (some (.int 1))) t = true) :
    ArmFor flags0 classFile x code maxLocals ret World_1 tables_1 room_1 Calls_1 rest_1 Pre_1
      (fun tb e a s o t => postC L tb e a s o t ∧ Framed s o t (fieldLocs frame_1_writes a s ++ arrayLocs frame_1_arrays a s ++ staticLocs frame_1_statics s) 600000 7302250) := by
  intro l hflags _ _ p e ha hc hk s m args below hf hfit hheap happ hpre
  obtain ⟨k, o, h1, h2, h3, rfl, hF⟩ := lw_comes l hflags p e ha hc hk s m args below hf hfit hheap happ hpre
  exact ⟨k, _, h1, h2, h3, hL args s _, lw_frame hF⟩
theorem i_vc : Claimed_1_1 ∧ Claimed_1_2 := ⟨lw_limb limb_1_1 (fun args s t => by simp [limb_1_1, Cond.after, Cond.holds, Cond.value]), lw_limb limb_1_2 (fun args s t => Cond.after_iff.mpr (by
  first | (rw [show limb_1_2 = Cond.eq .result (.int 1) from rfl, Cond.eq_ints (x := 1) (y := 1) rfl rfl]; simp; done) | (simp [limb_1_2, Cond.value, Term.eval]; done)))⟩


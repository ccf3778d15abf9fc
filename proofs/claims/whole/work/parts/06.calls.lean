/-! returns -/
section GXR
variable {nc ns d : Nat} {M : gx_M} {Q : Option Value → gx_W → Prop} {pc : Nat} {L st : List Value} {w : gx_W}
theorem g_iret {v : Int32} (hd : gx_d M pc .ireturn 1) (hr : M.2.2.2 = some .int) (hq : Q (some (.int v)) w) : gx_G nc ns d M Q pc L [.int v] w := by
  intro D p l e R s m args below meth c H locs cells slots ls C hR hP hS hL
  refine W.widen (k := cells + nc) (n := slots + ns) (by omega) (by omega) ?_
  exact W.iret C.1 C.2.1 (C.2.2.1.trans hr) (fun t ht hW => ⟨⟨some (.int v), w, rfl, hq, by rw [ht]; exact hP⟩, hS.F ht⟩) (fun q hq => hS.2.2 q hq) hd C.2.2.2.2.2.2.1
theorem g_zret {v : Int32} (hd : gx_d M pc .ireturn 1) (hr : M.2.2.2 = some .boolean) (hv : v = 0 ∨ v = 1) (hq : Q (some (.int v)) w) : gx_G nc ns d M Q pc L [.int v] w := by
  intro D p l e R s m args below meth c H locs cells slots ls C hR hP hS hL
  refine W.widen (k := cells + nc) (n := slots + ns) (by omega) (by omega) ?_
  exact W.zret (ty := .boolean) C.1 C.2.1 (C.2.2.1.trans hr) (by rcases hv with rfl | rfl <;> rfl) (fun t ht hW => ⟨⟨some (.int v), w, rfl, hq, by rw [ht]; exact hP⟩, hS.F ht⟩) (fun q hq => hS.2.2 q hq) hd C.2.2.2.2.2.2.1
theorem g_lret {v : Int64} (hd : gx_d M pc .lreturn 1) (hr : M.2.2.2 = some .long) (hq : Q (some (.long v)) w) : gx_G nc ns d M Q pc L [.long v] w := by
  intro D p l e R s m args below meth c H locs cells slots ls C hR hP hS hL
  refine W.widen (k := cells + nc) (n := slots + ns) (by omega) (by omega) ?_
  exact W.lret C.1 C.2.1 (C.2.2.1.trans hr) (fun t ht hW => ⟨⟨some (.long v), w, rfl, hq, by rw [ht]; exact hP⟩, hS.F ht⟩) (fun q hq => hS.2.2 q hq) hd C.2.2.2.2.2.2.1
theorem g_vret (hd : gx_d M pc .return_ 1) (hr : M.2.2.2 = none) (hq : Q none w) : gx_G nc ns d M Q pc L [] w := by
  intro D p l e R s m args below meth c H locs cells slots ls C hR hP hS hL
  refine W.widen (k := cells + nc) (n := slots + ns) (by omega) (by omega) ?_
  exact W.vret C.1 C.2.1 (C.2.2.1.trans hr) (fun t ht hW => ⟨⟨none, w, rfl, hq, by rw [ht]; exact hP⟩, hS.F ht⟩) (fun q hq => hS.2.2 q hq) hd C.2.2.2.2.2.2.1
theorem g_aret {a : Nat} {cn : String} (hd : gx_d M pc .areturn 1) (hr : M.2.2.2 = some (.object cn)) (hq : Q (some (.ref a)) w) : gx_G nc ns d M Q pc L [.ref a] w := by
  intro D p l e R s m args below meth c H locs cells slots ls C hR hP hS hL
  refine W.widen (k := cells + nc) (n := slots + ns) (by omega) (by omega) ?_
  exact W.aret (v := .ref (gx_f D a)) C.1 C.2.1 (C.2.2.1.trans hr) (Or.inl ⟨_, rfl⟩) (Or.inr ⟨_, rfl⟩) (fun t ht hW => ⟨⟨some (.ref a), w, rfl, hq, by rw [ht]; exact hP⟩, hS.F ht⟩) (fun q hq => hS.2.2 q hq) hd C.2.2.2.2.2.2.1
theorem g_aretN {cn : String} (hd : gx_d M pc .areturn 1) (hr : M.2.2.2 = some (.object cn)) (hq : Q (some .null) w) : gx_G nc ns d M Q pc L [.null] w := by
  intro D p l e R s m args below meth c H locs cells slots ls C hR hP hS hL
  refine W.widen (k := cells + nc) (n := slots + ns) (by omega) (by omega) ?_
  exact W.aret (v := .null) C.1 C.2.1 (C.2.2.1.trans hr) (Or.inl ⟨_, rfl⟩) (Or.inl rfl) (fun t ht hW => ⟨⟨some .null, w, rfl, hq, by rw [ht]; exact hP⟩, hS.F ht⟩) (fun q hq => hS.2.2 q hq) hd C.2.2.2.2.2.2.1
end GXR
/-! what moves with the tables -/
theorem gx_AOA_moved {t : FieldType} {A : Array Value} {u U : State} (hal : u.vm.Alike U.vm) (h : (Cond.arrayOver (.array t)).before A u = true) : (Cond.arrayOver (.array t)).before #[] U = true := by
  obtain ⟨comp, c, k, hcomp, hidx, hk, hkind, hname⟩ := arrayOverA_spec h
  obtain ⟨k', hk', hek'⟩ := hal.2.2 _ _ hk
  have hkind' : k'.kind = .array comp (.array t) := by rw [hek']; exact hkind
  have hname' : U.vm.findClass ("[" ++ (FieldType.array t).toString) = some c := by rw [hal.findClass]; exact hname
  have hcomp' : U.vm.findClass (FieldType.array t).toString = some comp := by rw [hal.findClass]; exact hcomp
  show (Cond.arrayOver (.array t)).holds #[] U none U [] = true
  simp only [Cond.holds, Cond.value, hcomp', Option.bind_some, beq_iff_eq]
  rw [Option.bind_eq_some_iff]
  refine ⟨c, (hal.findIdx?_eq _ (fun _ => rfl)).trans hidx, ?_⟩
  simp [hk', hkind', hname']
theorem gx_E_moved {D : gx_D} {s U : State} (hW : s.WarmedH U.vm) (h : gx_E D s) : gx_E D U := by
  refine ⟨va_K.moved hW.alike h.1, fun w hw => ?_, va_AO.moved hW.alike h.2.2.1, gx_AOA_moved hW.alike h.2.2.2⟩
  have h1 := h.2.1 w hw
  have h2 := (List.mem_filter.mp hw).2
  cases w <;> first | exact va_Nw.warmF hW h1 | exact va_Nw.warmM hW h1 | (simp [gx_isN] at h2)
theorem gx_R_moved {D : gx_D} {s U : State} {H H1 : Heap} (hW : s.WarmedH U.vm) (h : gx_R D s H) (hq : ∀ a : Nat, a < H.size → ¬ gx_A D a → H1[a]? = H[a]?) : gx_R D U H1 :=
  ⟨fun k hk => ((h.1 k hk).kept hq).moved hW.alike, fun q h1 => ((h.2 q h1).kept hq).moved hW.alike⟩
theorem gx_blind {D : gx_D} {as : List Value} {w : gx_W} : FrameBlind (gx_Pc D as w) := by
  intro a U g mk h
  obtain ⟨h1, h2, h3, h4⟩ := h
  refine ⟨h1, ⟨va_K.moved (u := U) (U := U.calling g mk a) (Vm.Alike.refl U.vm) h2.1, fun w hw => ?_, va_AO.moved (u := U) (U := U.calling g mk a) (Vm.Alike.refl U.vm) h2.2.2.1, gx_AOA_moved (u := U) (U := U.calling g mk a) (Vm.Alike.refl U.vm) h2.2.2.2⟩, ⟨fun k hk => va_T.moved (u := U) (U := U.calling g mk a) (Vm.Alike.refl U.vm) (h3.1 k hk), fun q hq => va_Z.moved (u := U) (U := U.calling g mk a) (Vm.Alike.refl U.vm) (h3.2 q hq)⟩, h4⟩
  have h5 := (List.mem_filter.mp hw).2
  cases w <;> first | exact va_Nw.same (u := U) (U := U.calling g mk a) rfl rfl (h2.2.1 _ hw) | (simp [gx_isN] at h5)
/-! the start of a method -/
def gx_lay0 : List Value → List Value
  | [] => []
  | v :: vs => if v.category = 2 then v :: .retAddr 0 :: gx_lay0 vs else v :: gx_lay0 vs
def gx_in (as : List Value) (n : Nat) : List Value := gx_lay0 as ++ List.replicate (n - (gx_lay0 as).length) (.retAddr 0)
theorem gx_lay0_len (D : gx_D) (as : List Value) : (lg_sl (as.map (gx_c D))).length = (gx_lay0 as).length := by
  induction as with
  | nil => rfl
  | cons v vs ih =>
    simp only [List.map_cons, lg_sl, List.flatMap_cons, List.length_append, gx_c_cat] at ih ⊢
    by_cases h : v.category = 2
    · simp only [h, if_true, gx_lay0, List.length_cons, List.length_nil]
      omega
    · simp only [h, if_false, gx_lay0, List.length_cons, List.length_nil]
      omega
theorem gx_lay0_mem (D : gx_D) (as : List Value) : ∀ (k i : Nat) (v : Value), (gx_lay0 as)[i]? = some v → v ≠ .retAddr 0 → (k + i, gx_c D v) ∈ lv_args k (as.map (gx_c D)) := by
  induction as with
  | nil => intro k i v h; simp [gx_lay0] at h
  | cons u us ih =>
    intro k i v h hv
    simp only [List.map_cons, lv_args, gx_c_cat]
    by_cases hc : u.category = 2
    · simp only [hc, if_true]
      simp only [gx_lay0, hc, if_true] at h
      match i, h with
      | 0, h => cases h; exact List.mem_cons_self
      | 1, h => cases h; exact absurd rfl hv
      | i + 2, h =>
        have := ih (k + 2) i v h hv
        rw [show k + 2 + i = k + (i + 2) by omega] at this
        exact List.mem_cons_of_mem _ this
    · simp only [hc, if_false]
      simp only [gx_lay0, hc, if_false] at h
      match i, h with
      | 0, h => cases h; exact List.mem_cons_self
      | i + 1, h =>
        have := ih (k + 1) i v h hv
        rw [show k + 1 + i = k + (i + 1) by omega] at this
        exact List.mem_cons_of_mem _ this
theorem gx_in_ls {D : gx_D} {as : List Value} {n : Nat} {ls : Array Slot} (h : lv_has ls n (lv_args 0 (as.map (gx_c D)))) (hn : (gx_lay0 as).length ≤ n) : gx_ls D ls (gx_in as n) := by
  refine ⟨?_, h.2.1, fun i v hi hv => ?_⟩
  · rw [h.1]
    unfold gx_in
    rw [List.length_append, List.length_replicate]
    omega
  · unfold gx_in at hi
    by_cases hl : i < (gx_lay0 as).length
    · rw [List.getElem?_append_left hl] at hi
      have := gx_lay0_mem D as 0 i v hi hv
      rw [Nat.zero_add] at this
      exact h.2.2 _ this
    · rw [List.getElem?_append_right (by omega)] at hi
      have := List.eq_of_mem_replicate (List.mem_of_getElem? hi)
      exact absurd this hv
theorem gx_C_of {nc ns d : Nat} {M : gx_M} {as : List Value} {w : gx_W} {Q : Option Value → gx_W → Prop} (hy : plainName M.1.cls = true) (hsz : (gx_lay0 as).length ≤ M.2.2.1) (h : gx_G nc ns d M Q 0 (gx_in as M.2.2.1) [] w) : gx_C nc ns d M as w Q := by
  intro D l
  refine Met.ofW (cc := M.2.1) (maxL := M.2.2.1) (ret := M.2.2.2) hy rfl ?_
  intro p e s m args below meth c s₁ B hml hv
  obtain ⟨rfl, hE, hR, hP⟩ := hv
  have hts := atoms_spec (ws := gx_all M) B.pre
  have hown : s.vm.findClass M.1.cls = some m.cls := findClass_of_methodNamed B.named
  have hl := lv_entry (as.map (gx_c D)) (n := M.2.2.1) (by rw [gx_lay0_len]; exact hsz)
  rw [lg_entry_eq]
  generalize (lg_sl (as.map (gx_c D)) ++ List.replicate (M.2.2.1 - (lg_sl (as.map (gx_c D))).length) Slot.unset).toArray = ls at hl ⊢
  have hz : gx_z D ≤ s.heap.size := by rw [← hP.1]; exact Nat.le_add_right _ _
  have K := h D p l e { frames := d, cells := nc, slots := ns, locals := 100 * d } s m (as.map (gx_c D)).toArray below meth c s.heap [] 0 0 ls ⟨B.exec, B.bytes, B.returns, hml, hown, fun w hw => hts w (List.mem_cons_of_mem _ hw), B.notSynchronized, fun h => (name_of_methodNamed B.named B.method).1.trans h, hE, hR, hz⟩ ⟨Nat.le_refl _, Nat.le_refl _, by show 0 + nc ≤ nc; omega, by show 0 + ns ≤ ns; omega⟩ hP va_S.rf (gx_in_ls hl hsz)
  rw [Nat.zero_add, Nat.zero_add] at K
  exact K
/-! calls -/
def gx_MI (M : gx_M) (n : Nat) : Prop := Cond.code M.1 M.2.1 M.2.2.1 M.2.2.2 ∈ gx_T ∧ Cond.initialized M.1.cls ∈ gx_T ∧ (M.1.cls ≠ "java/lang/invoke/MethodHandle" ∧ M.1.cls ≠ "java/lang/invoke/VarHandle") ∧ (parseMethodDescriptor M.1.desc).map (fun d => d.parameters.length) = some n ∧ M.2.2.1 ≤ 80
def gx_ML (own : String) (idx : Nat) (y : MethodName) : Prop := Cond.methodLink own idx y ∈ gx_T ∨ ∃ h, Cond.methodLinkNest own idx y h ∈ gx_N
def gx_MV (M : gx_M) : Prop := Cond.instanceMethod M.1 ∈ gx_T ∧ Cond.selects M.1.cls M.1 M.1 ∈ gx_T
section GXC
variable {p : Program} {l : Launch} {e : Env} {R : Room} {s : State} {m : MethodId} {args : Array Value} {below : List Frame} {meth : Method} {c : Code} {H : Heap} {locs : List Loc} {cells slots : Nat} {Qf : State → Prop}
theorem gx_after {D : gx_D} {mc ms pc : Nat} {ls : Array Slot} {st0 rest : List Value} {a : Array Value} {Q' : Option Value → gx_W → Prop} (hr : va_Run p l e R s m args below meth c H locs cells slots mc ms (F0 m pc ls st0) rest (gx_Q D Q' a) (gx_A D)) (hS : va_S (gx_A D) s.heap H locs)
    (kk : ∀ (r : Option Value) (w' : gx_W) (H1 : Heap) (locs1 : List Loc), Q' r w' → gx_P D w' H1 → va_S (gx_A D) s.heap H1 locs1 → W p l e R s m args below meth c H1 locs1 (cells + mc) (slots + ms) Qf (F0 m (pc + 3) ls ((r.map (gx_c D)).toList ++ rest))) : W p l e R s m args below meth c H locs cells slots Qf (F0 m pc ls st0) := by
  intro T hT X
  obtain ⟨v, st₀, t, T', Lc, h0, X', hL, e1, e2, ⟨⟨r, w', hv, hq, hP⟩, hz, hk⟩, st⟩ := hr T hT X
  have ev : v = r.map (gx_c D) := by injection hv
  subst ev
  rw [h0] at hz hk
  obtain ⟨t2, a1, b1⟩ := kk r w' T'.heap (locs ++ Lc) hq (by rw [e1]; exact hP)
    ⟨Nat.le_trans hS.1 (by rw [e1]; exact hz), fun q h1 h2 => by rw [e1, hk q (Nat.lt_of_lt_of_le h1 hS.1) h2]; exact hS.2.1 q h1 h2, fun q hq => by
      rcases List.mem_append.mp hq with h | h
      · exact hS.2.2 q h
      · exact hL q h⟩ T' rfl X'
  exact ⟨t2, st t2 a1, b1⟩
theorem gx_goodIn {M' : gx_M} {n : Nat} (hm : gx_MI M' n) : GoodIn gx_T (gx_all M') := by
  intro w hw
  have h : w ∈ gx_T := by
    rcases List.mem_cons.mp hw with rfl | h
    · exact hm.1
    · exact h
  exact ⟨h, good_of_word (gx_Tgood h)⟩
theorem gx_pre {D : gx_D} {M : gx_M} {as : List Value} {w : gx_W} (C : gx_ctx D M p s m args meth c) (hP : gx_P D w H) (hS : va_S (gx_A D) s.heap H locs) : ∀ U : State, U.heap = H → s.WarmedH U.vm → gx_Pc D as w (as.map (gx_c D)).toArray U := by
  intro U hU hW
  refine ⟨rfl, gx_E_moved hW C.2.2.2.2.2.2.2.2.1, ?_, by rw [hU]; exact hP⟩
  rw [hU]
  exact gx_R_moved hW C.2.2.2.2.2.2.2.2.2.1 hS.2.1
end GXC
section GXD
variable {nc ns mc ms d d' : Nat} {M M' : gx_M} {Q : Option Value → gx_W → Prop} {pc idx n : Nat} {L st stk as : List Value} {w : gx_W}
theorem gx_cat_sum (D : gx_D) (st : List Value) : ((st.map (gx_c D)).map fun v => v.category).sum = (st.map fun v => v.category).sum := by
  rw [List.map_map]
  congr 1
  exact List.map_congr_left fun v _ => gx_c_cat D v
theorem gx_cw {D : gx_D} {p : Program} {R : Room} {s : State} {m : MethodId} {args : Array Value} {meth : Method} {c : Code} {cells slots : Nat} (C : gx_ctx D M p s m args meth c) (hR : gx_rm (nc + mc) (ns + ms) d R cells slots) (hm : gx_MI M' n) (hdp : d' + 1 ≤ d) :
    d' + 1 ≤ R.frames ∧ 8 + (M'.2.2.1 + 11) + 100 * d' ≤ R.locals ∧ (∀ w ∈ gx_all M', ∀ (a' : Array Value) (U : State), s.WarmedH U.vm → w.before a' U = true) ∧ (Cond.code M'.1 M'.2.1 M'.2.2.1 M'.2.2.2).before args s = true ∧ (Cond.initialized M'.1.cls).before args s = true ∧ (∀ sig, parseMethodDescriptor M'.1.desc = some sig → n = sig.parameters.length) := by
  have hts := C.2.2.2.2.2.1
  refine ⟨Nat.le_trans hdp hR.1, ?_, pay_in hts (gx_goodIn hm), hts _ hm.1, hts _ hm.2.1, fun sig h => ?_⟩
  · have h1 := hR.2.1
    have h2 := hm.2.2.2.2
    omega
  · have h2 := hm.2.2.2.1
    rw [h] at h2
    exact (Option.some.inj h2).symm
theorem g_callS (hd : gx_d M pc (.invokestatic idx) 3) (hl : gx_ML M.1.cls idx M'.1) (hm : gx_MI M' n) (hst : Cond.static M'.1 ∈ gx_T) (hstk : stk = as.reverse ++ st) (hn : as.length = n) (hcat : (st.map fun v => v.category).sum ≤ 8) (hL0 : L.length = M.2.2.1) (hdp : d' + 1 ≤ d)
    (kk : gx_C mc ms d' M' as w (fun r w' => gx_G nc ns d M Q (pc + 3) L (r.toList ++ st) w')) : gx_G (nc + mc) (ns + ms) d M Q pc L stk w := by
  intro D p l e R s m args below meth c H locs cells slots ls C hR hP hS hL
  subst hstk
  have hts := C.2.2.2.2.2.1
  obtain ⟨c1, c2, c3, c4, c5, c6⟩ := gx_cw (M' := M') (d' := d') C hR hm hdp
  have hM := kk D l
  have hK : ∀ (r : Option Value) (w' : gx_W) (H1 : Heap) (locs1 : List Loc), gx_G nc ns d M Q (pc + 3) L (r.toList ++ st) w' → gx_P D w' H1 → va_S (gx_A D) s.heap H1 locs1 → W p l e R s m args below meth c H1 locs1 (cells + mc) (slots + ms) (MQ below (gx_Q D Q) args s (cells + (nc + mc)) (slots + (ns + ms)) (gx_A D)) (F0 m (pc + 3) ls ((r.map (gx_c D)).toList ++ st.map (gx_c D))) := by
    intro r w' H1 locs1 hG hP1 hS1
    have := hG D p l e R s m args below meth c H1 locs1 (cells + mc) (slots + ms) ls C ⟨hR.1, hR.2.1, by have := hR.2.2.1; omega, by have := hR.2.2.2; omega⟩ hP1 hS1 hL
    rw [show cells + mc + nc = cells + (nc + mc) by omega, show slots + ms + ns = slots + (ns + ms) by omega] at this
    cases r <;> exact this
  have hf : cells + mc ≤ R.cells ∧ slots + ms ≤ R.slots := ⟨by have := hR.2.2.1; omega, by have := hR.2.2.2; omega⟩
  have hpre : PreS s H (gx_Pc D as w) (as.map (gx_c D)) := ⟨gx_blind, gx_pre C hP hS⟩
  have hstack : (F0 m pc ls ((as.reverse ++ st).map (gx_c D))).stack = (as.map (gx_c D)).reverse ++ st.map (gx_c D) := by
    show (as.reverse ++ st).map (gx_c D) = _
    rw [List.map_append, List.map_reverse]
  have hsize : ls.size = M.2.2.1 := hL.1.trans hL0
  rcases hl with hl | ⟨h, hl⟩
  · exact gx_after (va_runS ⟨C.1, C.2.1, C.2.2.2.1, C.2.2.2.2.1, hts⟩ hM ⟨⟨rfl, rfl, c1, c2, c3, List.mem_cons_self, c4, c5, hm.2.2.1, c6, hts _ hl⟩, hts _ hst⟩ hpre rfl (by rw [List.length_map]; exact hn) hsize hstack (lv_room (by rw [gx_cat_sum]; exact hcat)) hd hf) hS hK
  · exact gx_after (va_runSN ⟨C.1, C.2.1, C.2.2.2.1, C.2.2.2.2.1, hts⟩ hM ⟨⟨⟨rfl, rfl, c1, c2, c3, List.mem_cons_self⟩, c4, c5, hm.2.2.1, c6, va_Nw.use rfl (C.2.2.2.2.2.2.2.2.1.2.1 _ hl)⟩, hts _ hst, trivial⟩ hpre rfl (by rw [List.length_map]; exact hn) hsize hstack (lv_room (by rw [gx_cat_sum]; exact hcat)) hd hf) hS hK
theorem g_callV {r ci k : Nat} (hd : gx_d M pc (.invokevirtual idx) 3) (hl : gx_ML M.1.cls idx M'.1) (hm : gx_MI M' n) (hv : gx_MV M') (hs : w.1[r]? = some (ci, k)) (hc : ∃ q : vw_C, gx_cl[ci]? = some q ∧ q.1 = M'.1.cls) (hstk : stk = as.reverse ++ .ref r :: st) (hn : as.length = n) (hcat : (st.map fun v => v.category).sum ≤ 8) (hL0 : L.length = M.2.2.1) (hdp : d' + 1 ≤ d)
    (kk : gx_C mc ms d' M' (.ref r :: as) w (fun r w' => gx_G nc ns d M Q (pc + 3) L (r.toList ++ st) w')) : gx_G (nc + mc) (ns + ms) d M Q pc L stk w := by
  intro D p l e R s m args below meth c H locs cells slots ls C hR hP hS hL
  subst hstk
  have hts := C.2.2.2.2.2.1
  obtain ⟨c1, c2, c3, c4, c5, c6⟩ := gx_cw (M' := M') (d' := d') C hR hm hdp
  have hM := kk D l
  have hK : ∀ (r : Option Value) (w' : gx_W) (H1 : Heap) (locs1 : List Loc), gx_G nc ns d M Q (pc + 3) L (r.toList ++ st) w' → gx_P D w' H1 → va_S (gx_A D) s.heap H1 locs1 → W p l e R s m args below meth c H1 locs1 (cells + mc) (slots + ms) (MQ below (gx_Q D Q) args s (cells + (nc + mc)) (slots + (ns + ms)) (gx_A D)) (F0 m (pc + 3) ls ((r.map (gx_c D)).toList ++ st.map (gx_c D))) := by
    intro r w' H1 locs1 hG hP1 hS1
    have := hG D p l e R s m args below meth c H1 locs1 (cells + mc) (slots + ms) ls C ⟨hR.1, hR.2.1, by have := hR.2.2.1; omega, by have := hR.2.2.2; omega⟩ hP1 hS1 hL
    rw [show cells + mc + nc = cells + (nc + mc) by omega, show slots + ms + ns = slots + (ns + ms) by omega] at this
    cases r <;> exact this
  have hf : cells + mc ≤ R.cells ∧ slots + ms ≤ R.slots := ⟨by have := hR.2.2.1; omega, by have := hR.2.2.2; omega⟩
  obtain ⟨q, hq1, hq2⟩ := hc
  have hci : ci < 20 := by
    have h2 := (List.getElem?_eq_some_iff.mp hq1).1
    exact Nat.lt_of_lt_of_le h2 (by decide)
  have hr := gx_hi hP hs (by omega)
  have he := gx_ws_at (D := D) hr hs
  rw [gx_e_obj hci] at he
  obtain ⟨cell, g1, g2, g3⟩ := va_recv C.2.2.2.2.2.2.2.2.1.1 hP.2.2 hq1 he
  rw [hq2] at g3
  have hpre : PreV s H M'.1.cls (gx_f D r) (gx_Pc D (.ref r :: as) w) (as.map (gx_c D)) := ⟨gx_blind, ⟨cell, g1, g2, g3⟩, gx_pre (as := .ref r :: as) C hP hS⟩
  have hstack : (F0 m pc ls ((as.reverse ++ .ref r :: st).map (gx_c D))).stack = (as.map (gx_c D)).reverse ++ .ref (gx_f D r) :: st.map (gx_c D) := by
    show (as.reverse ++ .ref r :: st).map (gx_c D) = _
    rw [List.map_append, List.map_reverse]
    rfl
  have hsize : ls.size = M.2.2.1 := hL.1.trans hL0
  rcases hl with hl | ⟨h, hl⟩
  · exact gx_after (va_runV ⟨C.1, C.2.1, C.2.2.2.1, C.2.2.2.2.1, hts⟩ hM ⟨⟨rfl, rfl, c1, c2, c3, List.mem_cons_self, c4, c5, hm.2.2.1, c6, hts _ hl⟩, hts _ hv.1, hts _ hv.2⟩ hpre rfl (by rw [List.length_map]; exact hn) hsize hstack (lv_room (by rw [gx_cat_sum]; exact hcat)) hd hf) hS hK
  · exact gx_after (va_runVN ⟨C.1, C.2.1, C.2.2.2.1, C.2.2.2.2.1, hts⟩ hM ⟨⟨⟨rfl, rfl, c1, c2, c3, List.mem_cons_self⟩, c4, c5, hm.2.2.1, c6, va_Nw.use rfl (C.2.2.2.2.2.2.2.2.1.2.1 _ hl)⟩, hts _ hv.1, hts _ hv.2⟩ hpre rfl (by rw [List.length_map]; exact hn) hsize hstack (lv_room (by rw [gx_cat_sum]; exact hcat)) hd hf) hS hK
/-- a constructor's call -/
theorem g_callI {r : Nat} (hd : gx_d M pc (.invokespecial idx) 3) (hl : gx_ML M.1.cls idx M'.1) (hm : gx_MI M' n) (hi : Cond.instanceMethod M'.1 ∈ gx_T) (hy : M'.1.name = "<init>") (hret : M'.2.2.2 = none) (hstk : stk = as.reverse ++ .ref r :: st) (hn : as.length = n) (hcat : (st.map fun v => v.category).sum ≤ 8) (hL0 : L.length = M.2.2.1) (hdp : d' + 1 ≤ d)
    (kk : gx_C mc ms d' M' (.ref r :: as) w (fun r w' => gx_G nc ns d M Q (pc + 3) L (r.toList ++ st) w')) : gx_G (nc + mc) (ns + ms) d M Q pc L stk w := by
  intro D p l e R s m args below meth c H locs cells slots ls C hR hP hS hL
  subst hstk
  have hts := C.2.2.2.2.2.1
  obtain ⟨c1, c2, c3, c4, c5, c6⟩ := gx_cw (M' := M') (d' := d') C hR hm hdp
  have hM := kk D l
  have hK : ∀ (r : Option Value) (w' : gx_W) (H1 : Heap) (locs1 : List Loc), gx_G nc ns d M Q (pc + 3) L (r.toList ++ st) w' → gx_P D w' H1 → va_S (gx_A D) s.heap H1 locs1 → W p l e R s m args below meth c H1 locs1 (cells + mc) (slots + ms) (MQ below (gx_Q D Q) args s (cells + (nc + mc)) (slots + (ns + ms)) (gx_A D)) (F0 m (pc + 3) ls ((r.map (gx_c D)).toList ++ st.map (gx_c D))) := by
    intro r w' H1 locs1 hG hP1 hS1
    have := hG D p l e R s m args below meth c H1 locs1 (cells + mc) (slots + ms) ls C ⟨hR.1, hR.2.1, by have := hR.2.2.1; omega, by have := hR.2.2.2; omega⟩ hP1 hS1 hL
    rw [show cells + mc + nc = cells + (nc + mc) by omega, show slots + ms + ns = slots + (ns + ms) by omega] at this
    cases r <;> exact this
  have hf : cells + mc ≤ R.cells ∧ slots + ms ≤ R.slots := ⟨by have := hR.2.2.1; omega, by have := hR.2.2.2; omega⟩
  have hpre : PreS s H (gx_Pc D (.ref r :: as) w) (.ref (gx_f D r) :: as.map (gx_c D)) := ⟨gx_blind, gx_pre (as := .ref r :: as) C hP hS⟩
  have hstack : (F0 m pc ls ((as.reverse ++ .ref r :: st).map (gx_c D))).stack = (as.map (gx_c D)).reverse ++ .ref (gx_f D r) :: st.map (gx_c D) := by
    show (as.reverse ++ .ref r :: st).map (gx_c D) = _
    rw [List.map_append, List.map_reverse]
    rfl
  have hsize : ls.size = M.2.2.1 := hL.1.trans hL0
  rw [hret] at c4
  have hcw : Cond.code M'.1 M'.2.1 M'.2.2.1 none ∈ gx_all M' := by rw [← hret]; exact List.mem_cons_self
  rcases hl with hl | ⟨h, hl⟩
  · exact gx_after (va_runI ⟨C.1, C.2.1, C.2.2.2.1, C.2.2.2.2.1, hts⟩ hM ⟨⟨rfl, rfl, c1, c2, c3, hcw, c4, c5, hm.2.2.1, c6, hts _ hl⟩, hy, hts _ hi⟩ hpre rfl (by rw [List.length_map]; exact hn) hsize hstack (lv_room (by rw [gx_cat_sum]; exact hcat)) hd hf) hS hK
  · exact gx_after (va_runIN ⟨C.1, C.2.1, C.2.2.2.1, C.2.2.2.2.1, hts⟩ hM ⟨⟨⟨rfl, rfl, c1, c2, c3, hcw⟩, c4, c5, hm.2.2.1, c6, va_Nw.use rfl (C.2.2.2.2.2.2.2.2.1.2.1 _ hl)⟩, hy, hts _ hi⟩ hpre rfl (by rw [List.length_map]; exact hn) hsize hstack (lv_room (by rw [gx_cat_sum]; exact hcat)) hd hf) hS hK
end GXD

/-! A law's text: steps of the class, steps of the reference, what they give -/
abbrev stS := Int32 × Int32
def isOp (s : Int32) : Bool := decide (s = 124) || decide (s = 38) || decide (s = 60) || decide (s = 61) || decide (s = 62) || decide (s = 43) || decide (s = 45) || decide (s = 42) || decide (s = 47) || decide (s = 37)
def rs1 (nm : Nat → Int32) (a v : Int32) (n : Nat) (P : Nat → Int32) : Option (Nat × (Nat → Int32)) :=
  if a = 1 then (if n < 130 then some (n + 1, va_up P n v) else none)
  else if a = 2 then (if n < 130 ∧ 0 ≤ v ∧ v < 6 then some (n + 1, va_up P n (nm v.toNatClampNeg)) else none)
  else if a = 3 then (if 0 < n ∧ n ≤ 130 then some (n, va_up P (n - 1) (if P (n - 1) = 0 then 1 else 0)) else none)
  else if a = 4 then (if 0 < n ∧ n ≤ 130 then some (n, va_up P (n - 1) (-(P (n - 1)))) else none)
  else if isOp a = true ∧ 1 < n ∧ n ≤ 130 then some (n - 1, va_up P (n - 2) (lw_two a (P (n - 2)) (P (n - 1)))) else none
def rrun (nm A V : Nat → Int32) : Nat → Nat → Nat → (Nat → Int32) → Option (Nat × (Nat → Int32))
  | 0, _, n, P => some (n, P)
  | z + 1, k, n, P => (rs1 nm (A k) (V k) n P).bind (fun q => rrun nm A V z (k + 1) q.1 q.2)
/-- a step of the class as the reference has it -/
def mpS (s : stS) : stS := if s.1 = 48 then (1, s.2) else if s.1 = 110 then (2, s.2) else if s.1 = 33 then (3, s.2) else if s.1 = 126 then (4, s.2) else s
def crun (nm : Nat → Int32) : List stS → List Int32 → List Int32
  | [], st => st
  | s :: L, st => crun nm L (lw_step nm s.1 s.2 st)
def rrl (nm : Nat → Int32) : List stS → Nat → (Nat → Int32) → Option (Nat × (Nat → Int32))
  | [], n, P => some (n, P)
  | s :: L, n, P => (rs1 nm (mpS s).1 (mpS s).2 n P).bind (fun q => rrl nm L q.1 q.2)
theorem crun_app (nm : Nat → Int32) (L L' : List stS) : ∀ st, crun nm (L ++ L') st = crun nm L' (crun nm L st) := by
  induction L with
  | nil => intro st; rfl
  | cons s L ih => intro st; exact ih _
theorem rrl_app (nm : Nat → Int32) (L L' : List stS) : ∀ n P, rrl nm (L ++ L') n P = (rrl nm L n P).bind (fun q => rrl nm L' q.1 q.2) := by
  induction L with
  | nil => intro n P; rfl
  | cons s L ih =>
    intro n P
    show (rs1 nm (mpS s).1 (mpS s).2 n P).bind _ = ((rs1 nm (mpS s).1 (mpS s).2 n P).bind _).bind _
    cases rs1 nm (mpS s).1 (mpS s).2 n P with
    | none => rfl
    | some q => exact ih _ _
/-- the reference's sign is a byte -/
def okC (s : stS) : Prop := ∃ c, c < 128 ∧ (mpS s).1 = nI c
/-- a part of a text that lays one number, with h places at most -/
def exS (L : List stS) (h : Nat) : Prop := (∀ s ∈ L, s.1 ≠ 59 ∧ s.1 ≠ 63 ∧ okC s) ∧ 0 < L.length ∧ ∀ nm : Nat → Int32, ∃ v, (∀ st, st.length + h ≤ 64 → crun nm L st = v :: st) ∧ ∀ n P, n + h ≤ 130 → ∃ P', rrl nm L n P = some (n + 1, P') ∧ P' n = v ∧ ∀ j, j < n → P' j = P j
theorem exS.mono {L : List stS} {h h' : Nat} (e : exS L h) (q : h ≤ h') : exS L h' := ⟨e.1, e.2.1, fun nm => by
  obtain ⟨v, e1, e2⟩ := e.2.2 nm
  exact ⟨v, fun st hs => e1 st (by omega), fun n P hn => e2 n P (by omega)⟩⟩
theorem lay_lt {x : Int32} {st : List Int32} (h : st.length < 64) : lw_lay x st = x :: st := if_pos h
theorem exS_num (x : Int32) : exS [(48, x)] 1 := by
  refine ⟨fun s hs => ?_, Nat.zero_lt_one, fun nm => ⟨x, fun st hs => ?_, fun n P hn => ⟨va_up P n x, ?_, va_up_at, fun j hj => va_up_row (by omega)⟩⟩⟩
  · have e : s = (48, x) := by simpa using hs
    rw [e]
    exact ⟨(by decide : (48 : Int32) ≠ 59), (by decide : (48 : Int32) ≠ 63), 1, by decide, rfl⟩
  · show lw_lay x st = _
    exact lay_lt (by omega)
  · show (rs1 nm 1 x n P).bind _ = _
    unfold rs1
    rw [if_pos rfl, if_pos (by omega)]
    rfl
theorem exS_nam {x : Int32} (h0 : 0 ≤ x) (h6 : x < 6) : exS [(110, x)] 1 := by
  refine ⟨fun s hs => ?_, Nat.zero_lt_one, fun nm => ⟨nm x.toNatClampNeg, fun st hs => ?_, fun n P hn => ⟨va_up P n (nm x.toNatClampNeg), ?_, va_up_at, fun j hj => va_up_row (by omega)⟩⟩⟩
  · have e : s = (110, x) := by simpa using hs
    rw [e]
    exact ⟨(by decide : (110 : Int32) ≠ 59), (by decide : (110 : Int32) ≠ 63), 2, by decide, rfl⟩
  · show lw_lay (if x < 0 ∨ x ≥ 6 then 0 else nm x.toNatClampNeg) st = _
    rw [if_neg (fun q => q.elim (fun q => Int32.not_lt.mpr h0 q) (fun q => Int32.not_lt.mpr q h6)), lay_lt (by omega)]
  · show (rs1 nm 2 x n P).bind _ = _
    unfold rs1
    rw [if_neg (by decide), if_pos rfl, if_pos ⟨by omega, h0, h6⟩]
    rfl
theorem exS_un {L : List stS} {h : Nat} (s a : Int32) (F : Int32 → Int32) (hs : s ≠ 59 ∧ s ≠ 63 ∧ okC (s, 0)) (h1 : ∀ nm x st, st.length < 64 → lw_step nm s 0 (x :: st) = F x :: st) (h2 : ∀ nm n P, n < 130 → rs1 nm (mpS (s, 0)).1 (mpS (s, 0)).2 (n + 1) P = some (n + 1, va_up P n (F (P n)))) (hh : 0 < h) (e : exS L h) : exS (L ++ [(s, 0)]) h := by
  refine ⟨fun q hq => ?_, by rw [List.length_append]; simp, fun nm => ?_⟩
  · rcases List.mem_append.mp hq with z | z
    · exact e.1 q z
    · have : q = (s, 0) := by simpa using z
      rw [this]; exact hs
  · obtain ⟨v, e1, e2⟩ := e.2.2 nm
    refine ⟨F v, fun st hst => ?_, fun n P hn => ?_⟩
    · rw [crun_app, e1 st hst]
      exact h1 nm v st (by omega)
    · obtain ⟨P', p1, p2, p3⟩ := e2 n P hn
      refine ⟨va_up P' n (F v), ?_, va_up_at, fun j hj => by rw [va_up_row (by omega)]; exact p3 j hj⟩
      rw [rrl_app, p1]
      show (rs1 nm (mpS (s, 0)).1 (mpS (s, 0)).2 (n + 1) P').bind _ = _
      rw [h2 nm n P' (by omega), p2]
      rfl
theorem exS_not {L : List stS} {h : Nat} (hh : 0 < h) (e : exS L h) : exS (L ++ [(33, 0)]) h := by
  refine exS_un 33 3 (fun x => if x = 0 then 1 else 0) ⟨by decide, by decide, 3, by decide, rfl⟩ (fun nm x st hst => ?_) (fun nm n P hn => ?_) hh e
  · show lw_lay (if x = 0 then 1 else 0) st = _
    exact lay_lt hst
  · show rs1 nm 3 0 (n + 1) P = _
    unfold rs1
    rw [if_neg (by decide), if_neg (by decide), if_pos rfl, if_pos ⟨by omega, by omega⟩]
    rfl
theorem exS_neg {L : List stS} {h : Nat} (hh : 0 < h) (e : exS L h) : exS (L ++ [(126, 0)]) h := by
  refine exS_un 126 4 (fun x => -x) ⟨by decide, by decide, 4, by decide, rfl⟩ (fun nm x st hst => ?_) (fun nm n P hn => ?_) hh e
  · show lw_lay (-x) st = _
    exact lay_lt hst
  · show rs1 nm 4 0 (n + 1) P = _
    unfold rs1
    rw [if_neg (by decide), if_neg (by decide), if_neg (by decide), if_pos rfl, if_pos ⟨by omega, by omega⟩]
    rfl
theorem isOp_ne {s : Int32} (h : isOp s = true) : s ≠ 1 ∧ s ≠ 2 ∧ s ≠ 3 ∧ s ≠ 4 ∧ s ≠ 48 ∧ s ≠ 110 ∧ s ≠ 33 ∧ s ≠ 126 ∧ s ≠ 59 ∧ s ≠ 63 := by
  refine ⟨?_, ?_, ?_, ?_, ?_, ?_, ?_, ?_, ?_, ?_⟩ <;> (rintro rfl; exact absurd h (by decide))
theorem isOp_ok {s : Int32} (h : isOp s = true) : okC (s, 0) := by
  obtain ⟨n1, n2, n3, n4, n5, n6, n7, n8, n9, n10⟩ := isOp_ne h
  have em : (mpS (s, 0)).1 = s := by
    unfold mpS
    rw [if_neg n5, if_neg n6, if_neg n7, if_neg n8]
  unfold okC
  rw [em]
  simp only [isOp, Bool.or_eq_true, decide_eq_true_eq] at h
  rcases h with ((((((((h | h) | h) | h) | h) | h) | h) | h) | h) | h
  · exact ⟨124, by decide, h⟩
  · exact ⟨38, by decide, h⟩
  · exact ⟨60, by decide, h⟩
  · exact ⟨61, by decide, h⟩
  · exact ⟨62, by decide, h⟩
  · exact ⟨43, by decide, h⟩
  · exact ⟨45, by decide, h⟩
  · exact ⟨42, by decide, h⟩
  · exact ⟨47, by decide, h⟩
  · exact ⟨37, by decide, h⟩
theorem exS.nm {L : List stS} {h : Nat} (e : exS L h) : ∀ s ∈ L, s.1 ≠ 59 ∧ s.1 ≠ 63 := fun s hs => ⟨(e.1 s hs).1, (e.1 s hs).2.1⟩
theorem exS_bin {L L' : List stS} {h h' : Nat} {s : Int32} (hh : 0 < h') (hs : isOp s = true) (e : exS L h) (e' : exS L' h') : exS (L ++ (L' ++ [(s, 0)])) (max h (h' + 1)) := by
  obtain ⟨n1, n2, n3, n4, n5, n6, n7, n8, n9, n10⟩ := isOp_ne hs
  refine ⟨fun q hq => ?_, by rw [List.length_append]; have := e.2.1; omega, fun nm => ?_⟩
  · rcases List.mem_append.mp hq with z | z
    · exact e.1 q z
    · rcases List.mem_append.mp z with z | z
      · exact e'.1 q z
      · have : q = (s, 0) := by simpa using z
        rw [this]; exact ⟨n9, n10, isOp_ok hs⟩
  · obtain ⟨v, e1, e2⟩ := e.2.2 nm
    obtain ⟨v', e1', e2'⟩ := e'.2.2 nm
    refine ⟨lw_two s v v', fun st hst => ?_, fun n P hn => ?_⟩
    · rw [crun_app, e1 st (by omega), crun_app, e1' (v :: st) (by rw [List.length_cons]; omega)]
      show lw_step nm s 0 (v' :: v :: st) = _
      unfold lw_step
      rw [if_neg n5, if_neg n6, if_neg n7, if_neg n8]
      exact lay_lt (by show st.length < 64; omega)
    · obtain ⟨P1, p1, p2, p3⟩ := e2 n P (by omega)
      obtain ⟨P2, p4, p5, p6⟩ := e2' (n + 1) P1 (by omega)
      refine ⟨va_up P2 n (lw_two s v v'), ?_, va_up_at, fun j hj => by rw [va_up_row (by omega), p6 j (by omega), p3 j hj]⟩
      rw [rrl_app, p1]
      show rrl nm (L' ++ [(s, 0)]) (n + 1) P1 = _
      rw [rrl_app, p4]
      show (rs1 nm (mpS (s, 0)).1 (mpS (s, 0)).2 (n + 1 + 1) P2).bind _ = _
      have em : mpS (s, 0) = (s, 0) := by unfold mpS; rw [if_neg n5, if_neg n6, if_neg n7, if_neg n8]
      rw [em]
      unfold rs1
      rw [if_neg n1, if_neg n2, if_neg n3, if_neg n4, if_pos ⟨hs, by omega, by omega⟩]
      show some (n + 1, va_up P2 n (lw_two s (P2 n) (P2 (n + 1)))) = _
      rw [p5, p6 n (by omega), p2]
/-! rows that hold steps -/
def hC (sg va : Nat → Int32) (i : Nat) (L : List stS) : Prop := ∀ (j : Nat) (s : stS), L[j]? = some s → sg (i + j) = s.1 ∧ va (i + j) = s.2
def hR (A V : Nat → Int32) (i : Nat) (L : List stS) : Prop := ∀ (j : Nat) (s : stS), L[j]? = some s → A (i + j) = (mpS s).1 ∧ V (i + j) = (mpS s).2
theorem hC.tl {sg va : Nat → Int32} {i : Nat} {s : stS} {L : List stS} (h : hC sg va i (s :: L)) : hC sg va (i + 1) L := fun j q hj => by
  have := h (j + 1) q hj
  rw [show i + (j + 1) = i + 1 + j by omega] at this
  exact this
theorem hR.tl {sg va : Nat → Int32} {i : Nat} {s : stS} {L : List stS} (h : hR sg va i (s :: L)) : hR sg va (i + 1) L := fun j q hj => by
  have := h (j + 1) q hj
  rw [show i + (j + 1) = i + 1 + j by omega] at this
  exact this
theorem run_C {sg va nm : Nat → Int32} : ∀ (L : List stS) (i z : Nat) (st : List Int32), hC sg va i L → (∀ s ∈ L, s.1 ≠ 59 ∧ s.1 ≠ 63) → lw_run sg va nm (L.length + z) i false st = lw_run sg va nm z (i + L.length) false (crun nm L st) := by
  intro L
  induction L with
  | nil => intro i z st _ _; rw [List.length_nil, Nat.zero_add]; rfl
  | cons s L ih =>
    intro i z st h hn
    obtain ⟨a1, a2⟩ := h 0 s rfl
    have hs := hn s List.mem_cons_self
    rw [List.length_cons, show L.length + 1 + z = (L.length + z) + 1 by omega]
    show (if false = true then _ else if sg i = 59 then _ else if sg i = 63 then _ else _) = _
    rw [if_neg (by decide), if_neg (by rw [show sg i = s.1 from a1]; exact hs.1), if_neg (by rw [show sg i = s.1 from a1]; exact hs.2), ih (i + 1) z _ h.tl (fun q hq => hn q (List.mem_cons_of_mem _ hq)), show i + 1 + L.length = i + (L.length + 1) by omega, show sg i = s.1 from a1, show va i = s.2 from a2]
    rfl
theorem run_skip {sg va nm : Nat → Int32} : ∀ (L : List stS) (i z : Nat) (st : List Int32), hC sg va i L → (∀ s ∈ L, s.1 ≠ 59 ∧ s.1 ≠ 63) → sg (i + L.length) = 59 → lw_run sg va nm (L.length + 1 + z) i true st = lw_run sg va nm z (i + L.length + 1) false st := by
  intro L
  induction L with
  | nil =>
    intro i z st _ _ h59
    rw [List.length_nil, show 0 + 1 + z = z + 1 by omega]
    show (if true = true then lw_run sg va nm z (i + 1) (decide (sg i ≠ 59)) st else _) = _
    rw [if_pos rfl, show decide (sg i ≠ 59) = false from decide_eq_false (fun q => q h59)]
  | cons s L ih =>
    intro i z st h hn h59
    obtain ⟨a1, a2⟩ := h 0 s rfl
    have hs := hn s List.mem_cons_self
    rw [List.length_cons, show L.length + 1 + 1 + z = (L.length + 1 + z) + 1 by omega]
    show (if true = true then lw_run sg va nm (L.length + 1 + z) (i + 1) (decide (sg i ≠ 59)) st else _) = _
    rw [if_pos rfl, show decide (sg i ≠ 59) = true from decide_eq_true (by rw [show sg i = s.1 from a1]; exact hs.1), ih (i + 1) z st h.tl (fun q hq => hn q (List.mem_cons_of_mem _ hq)) (by rw [show i + 1 + L.length = i + (L.length + 1) by omega]; exact h59), show i + 1 + L.length + 1 = i + (L.length + 1) + 1 by omega]
theorem run_R {A V nm : Nat → Int32} : ∀ (L : List stS) (i n : Nat) (P : Nat → Int32), hR A V i L → rrun nm A V L.length i n P = rrl nm L n P := by
  intro L
  induction L with
  | nil => intro i n P _; rfl
  | cons s L ih =>
    intro i n P h
    obtain ⟨a1, a2⟩ := h 0 s rfl
    show (rs1 nm (A i) (V i) n P).bind _ = (rs1 nm (mpS s).1 (mpS s).2 n P).bind _
    rw [show A i = (mpS s).1 from a1, show V i = (mpS s).2 from a2]
    cases rs1 nm (mpS s).1 (mpS s).2 n P with
    | none => rfl
    | some q => exact ih (i + 1) _ _ h.tl
/-- a stretch of the reference's steps gives x -/
def okW (nm A V : Nat → Int32) (a b : Nat) (x : Int32) : Prop := a ≤ b ∧ b ≤ 130 ∧ ∀ P : Nat → Int32, ∃ n' P', rrun nm A V (b - a) a 0 P = some (n', P') ∧ P' 0 = x
def rfG (nm A V : Nat → Int32) (te le : Nat → Nat) : Nat → Nat → Nat → Int32 → Prop
  | 0, _, _, R => R = 0
  | z + 1, l, ri, R => (te l = ri ∧ okW nm A V (te l) (le l) R) ∨ (te l ≠ ri ∧ ∃ x, okW nm A V ri (te l) x ∧ ((x ≠ 0 ∧ okW nm A V (te l) (le l) R) ∨ (x = 0 ∧ rfG nm A V te le z (l + 1) (le l) R)))
/-- lines from the l-th on, as both have them: the class from ci on, the reference from ri on -/
def lnR (sg va A V : Nat → Int32) (te le : Nat → Nat) (N : Nat) : Nat → Nat → Nat → Nat → Prop
  | 0, _, ci, _ => ci = N
  | z + 1, l, ci, ri => le l ≤ 130 ∧ ((te l = ri ∧ ∃ b, exS b 36 ∧ hC sg va ci b ∧ hR A V ri b ∧ sg (ci + b.length) = 59 ∧ le l = ri + b.length ∧ ci + b.length + 1 ≤ N ∧ lnR sg va A V te le N z (l + 1) (ci + b.length + 1) (le l)) ∨
      ∃ t b, exS t 36 ∧ exS b 36 ∧ hC sg va ci t ∧ hR A V ri t ∧ sg (ci + t.length) = 63 ∧ te l = ri + t.length ∧ hC sg va (ci + t.length + 1) b ∧ hR A V (te l) b ∧ sg (ci + t.length + 1 + b.length) = 59 ∧ le l = te l + b.length ∧ ci + t.length + 1 + b.length + 1 ≤ N ∧ lnR sg va A V te le N z (l + 1) (ci + t.length + 1 + b.length + 1) (le l))
theorem exS_W {A V : Nat → Int32} {L : List stS} {i : Nat} (e : exS L 36) (h : hR A V i L) (hb : i + L.length ≤ 130) (nm : Nat → Int32) {v : Int32} (hv : ∀ n P, n + 36 ≤ 130 → ∃ P', rrl nm L n P = some (n + 1, P') ∧ P' n = v ∧ ∀ j, j < n → P' j = P j) : okW nm A V i (i + L.length) v := ⟨by omega, hb, fun P => by
  obtain ⟨P', p1, p2, -⟩ := hv 0 P (by omega)
  refine ⟨1, P', ?_, p2⟩
  rw [show i + L.length - i = L.length by omega, run_R L i 0 P h]
  exact p1⟩
/-- both give the same -/
theorem ln_same {sg va A V : Nat → Int32} {te le : Nat → Nat} {N : Nat} (nm : Nat → Int32) : ∀ (z l ci ri : Nat), lnR sg va A V te le N z l ci ri → rfG nm A V te le z l ri (lw_run sg va nm (N - ci) ci false []) := by
  intro z
  induction z with
  | zero =>
    intro l ci ri h
    have h : ci = N := h
    rw [h, Nat.sub_self]
    rfl
  | succ z ih =>
    intro l ci ri h
    obtain ⟨hle, h⟩ := h
    rcases h with ⟨h1, b, eb, hb, rb, h59, hlb, hN, hrest⟩ | ⟨t, b, et, eb, ht, rt, h63, hte, hb, rb, h59, hlb, hN, hrest⟩
    · obtain ⟨v, v1, v2⟩ := eb.2.2 nm
      refine Or.inl ⟨h1, ?_⟩
      have e1 : lw_run sg va nm (N - ci) ci false [] = v := by
        rw [show N - ci = b.length + ((N - ci - b.length - 1) + 1) by omega, run_C b ci _ [] hb eb.nm, v1 [] (by simp)]
        show (if false = true then _ else if sg (ci + b.length) = 59 then _ else _) = _
        rw [if_neg (by decide), if_pos h59]
        rfl
      rw [e1, h1, hlb]
      exact exS_W eb rb (by omega) nm v2
    · obtain ⟨x, x1, x2⟩ := et.2.2 nm
      obtain ⟨v, v1, v2⟩ := eb.2.2 nm
      have ht0 := et.2.1
      refine Or.inr ⟨by omega, x, by rw [hte]; exact exS_W et rt (by omega) nm x2, ?_⟩
      have e1 : lw_run sg va nm (N - ci) ci false [] = lw_run sg va nm (N - ci - t.length - 1) (ci + t.length + 1) (decide (x = 0)) [] := by
        rw [show N - ci = t.length + ((N - ci - t.length - 1) + 1) by omega, run_C t ci _ [] ht et.nm, x1 [] (by simp)]
        show (if false = true then _ else if sg (ci + t.length) = 59 then _ else if sg (ci + t.length) = 63 then _ else _) = _
        rw [if_neg (by decide), if_neg (by rw [h63]; decide), if_pos h63]
        show lw_run sg va nm _ _ (decide (x = 0)) [] = _
        congr 1
        omega
      by_cases hx : x = 0
      · refine Or.inr ⟨hx, ?_⟩
        rw [e1, decide_eq_true hx, show N - ci - t.length - 1 = b.length + 1 + (N - (ci + t.length + 1 + b.length + 1)) by omega, run_skip b _ _ [] hb eb.nm h59]
        exact ih _ _ _ hrest
      · refine Or.inl ⟨hx, ?_⟩
        rw [e1, decide_eq_false hx, show N - ci - t.length - 1 = b.length + ((N - ci - t.length - 1 - b.length - 1) + 1) by omega, run_C b _ _ [] hb eb.nm, v1 [] (by simp)]
        have e2 : lw_run sg va nm (N - ci - t.length - 1 - b.length - 1 + 1) (ci + t.length + 1 + b.length) false [v] = v := by
          show (if false = true then _ else if sg (ci + t.length + 1 + b.length) = 59 then _ else _) = _
          rw [if_neg (by decide), if_pos h59]
          rfl
        rw [e2, hlb]
        exact exS_W eb rb (by omega) nm v2

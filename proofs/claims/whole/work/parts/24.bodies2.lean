/-! Bodies: work, perform -/
def bw_go (rc : Nat → Nat → Int32 → Int32 × List Nat) (own act up : Nat) (b x : Int32) (n : Nat) : Int32 × List Nat :=
  if n = 1 then (x + b, [1]) else
  if n = 2 then ((rc 1 own x).1 - (rc 2 own 1).1, 2 :: ((rc 1 own x).2 ++ (rc 2 own 1).2)) else
  if n = 10 then ((rc 0 own x).1 * 2, 10 :: (rc 0 own x).2) else
  if n = 11 then (x ^^^ b, [11]) else
  if n = 20 then ((rc act up x).1 + 3, 20 :: (rc act up x).2) else
  if n = 30 then (-(rc act up x).1, 30 :: (rc act up x).2) else
  if n = 40 then ((rc act up x).1 * 3, 40 :: (rc act up x).2) else
  if n = 41 then ((rc act up (x + 1)).1, 41 :: (rc act up (x + 1)).2) else
  if n = 50 then ((rc act up x).1 ^^^ 5, 50 :: (rc act up x).2) else
  if n = 60 then ((rc act up x).1 - (rc 0 own 2).1, 60 :: ((rc act up x).2 ++ (rc 0 own 2).2)) else
  if n = 61 then ((rc act up x).1 + 1, 61 :: (rc act up x).2) else
  if n = 70 then ((rc act up x).1 * 2, 70 :: (rc act up x).2) else
  if n = 80 then ((rc act up x).1 + (rc 2 own 2).1, 80 :: ((rc act up x).2 ++ (rc 2 own 2).2)) else
  if n = 81 then ((rc act up x).1 - 1, 81 :: (rc act up x).2) else
  (0, [n])
theorem bw_go_1 {rc : Nat → Nat → Int32 → Int32 × List Nat} {own act up : Nat} {b x : Int32} : bw_go rc own act up b x 1 = (x + b, [1]) := rfl
theorem bw_go_2 {rc : Nat → Nat → Int32 → Int32 × List Nat} {own act up : Nat} {b x : Int32} : bw_go rc own act up b x 2 = ((rc 1 own x).1 - (rc 2 own 1).1, 2 :: ((rc 1 own x).2 ++ (rc 2 own 1).2)) := rfl
theorem bw_go_10 {rc : Nat → Nat → Int32 → Int32 × List Nat} {own act up : Nat} {b x : Int32} : bw_go rc own act up b x 10 = ((rc 0 own x).1 * 2, 10 :: (rc 0 own x).2) := rfl
theorem bw_go_11 {rc : Nat → Nat → Int32 → Int32 × List Nat} {own act up : Nat} {b x : Int32} : bw_go rc own act up b x 11 = (x ^^^ b, [11]) := rfl
theorem bw_go_20 {rc : Nat → Nat → Int32 → Int32 × List Nat} {own act up : Nat} {b x : Int32} : bw_go rc own act up b x 20 = ((rc act up x).1 + 3, 20 :: (rc act up x).2) := rfl
theorem bw_go_30 {rc : Nat → Nat → Int32 → Int32 × List Nat} {own act up : Nat} {b x : Int32} : bw_go rc own act up b x 30 = (-(rc act up x).1, 30 :: (rc act up x).2) := rfl
theorem bw_go_40 {rc : Nat → Nat → Int32 → Int32 × List Nat} {own act up : Nat} {b x : Int32} : bw_go rc own act up b x 40 = ((rc act up x).1 * 3, 40 :: (rc act up x).2) := rfl
theorem bw_go_41 {rc : Nat → Nat → Int32 → Int32 × List Nat} {own act up : Nat} {b x : Int32} : bw_go rc own act up b x 41 = ((rc act up (x + 1)).1, 41 :: (rc act up (x + 1)).2) := rfl
theorem bw_go_50 {rc : Nat → Nat → Int32 → Int32 × List Nat} {own act up : Nat} {b x : Int32} : bw_go rc own act up b x 50 = ((rc act up x).1 ^^^ 5, 50 :: (rc act up x).2) := rfl
theorem bw_go_60 {rc : Nat → Nat → Int32 → Int32 × List Nat} {own act up : Nat} {b x : Int32} : bw_go rc own act up b x 60 = ((rc act up x).1 - (rc 0 own 2).1, 60 :: ((rc act up x).2 ++ (rc 0 own 2).2)) := rfl
theorem bw_go_61 {rc : Nat → Nat → Int32 → Int32 × List Nat} {own act up : Nat} {b x : Int32} : bw_go rc own act up b x 61 = ((rc act up x).1 + 1, 61 :: (rc act up x).2) := rfl
theorem bw_go_70 {rc : Nat → Nat → Int32 → Int32 × List Nat} {own act up : Nat} {b x : Int32} : bw_go rc own act up b x 70 = ((rc act up x).1 * 2, 70 :: (rc act up x).2) := rfl
theorem bw_go_80 {rc : Nat → Nat → Int32 → Int32 × List Nat} {own act up : Nat} {b x : Int32} : bw_go rc own act up b x 80 = ((rc act up x).1 + (rc 2 own 2).1, 80 :: ((rc act up x).2 ++ (rc 2 own 2).2)) := rfl
theorem bw_go_81 {rc : Nat → Nat → Int32 → Int32 × List Nat} {own act up : Nat} {b x : Int32} : bw_go rc own act up b x 81 = ((rc act up x).1 - 1, 81 :: (rc act up x).2) := rfl
/-- an act's body, and which bodies run -/
def bw (own : Nat) (b : Int32) : Nat → Nat → Nat → Int32 → Int32 × List Nat
  | 0 => fun _ _ _ => (0, [])
  | f + 1 => fun act frm x => bw_go (bw own b f) own act (bo_up (bo_kw act 8 frm)) b x (bo_own (bo_kw act 8 frm) act)
theorem bo_kw_lt : ∀ c, c < 4 → ∀ k, k < 8 → bo_kw c 8 k < 8 := by decide
theorem bo_num : ∀ c, c < 4 → ∀ k, k < 8 → bo_own (bo_kw c 8 k) c ∈ [1, 2, 10, 11, 20, 30, 40, 41, 50, 60, 61, 70, 80, 81] := by decide
theorem bo_upl : ∀ c, c < 4 → ∀ k, k < 8 → bo_own (bo_kw c 8 k) c ∉ [1, 2, 10, 11] → bo_up (bo_kw c 8 k) < 8 := by decide
theorem bw_len (b x : Int32) : ∀ own, own < 8 → ∀ c, c < 4 → (bw own b 41 c own x).2.length ≤ 30 := by
  intro own ho c hc
  have h1 : own = 0 ∨ own = 1 ∨ own = 2 ∨ own = 3 ∨ own = 4 ∨ own = 5 ∨ own = 6 ∨ own = 7 := by omega
  have h2 : c = 0 ∨ c = 1 ∨ c = 2 ∨ c = 3 := by omega
  rcases h1 with rfl | rfl | rfl | rfl | rfl | rfl | rfl | rfl <;> rcases h2 with rfl | rfl | rfl | rfl <;> exact Nat.le_of_ble_eq_true rfl
def bo_row : (Nat → Int32) → Nat → List Nat → Nat → Int32
  | g, _, [] => g
  | g, m, n :: l => bo_row (if m < 24 then va_up g m (nI n) else g) (m + 1) l
theorem bo_row_app (l l' : List Nat) : ∀ (g : Nat → Int32) (m : Nat), bo_row g m (l ++ l') = bo_row (bo_row g m l) (m + l.length) l' := by
  induction l with
  | nil => intro g m; rfl
  | cons n l ih =>
    intro g m
    show bo_row _ (m + 1) (l ++ l') = bo_row (bo_row _ (m + 1) l) _ l'
    rw [ih, List.length_cons, show m + 1 + l.length = m + (l.length + 1) by omega]
def boR (w w' : gx_W) (m : Nat) (l : List Nat) : Prop := same [19] [(17, 3)] w w' ∧ w_i w' 17 3 = nI (m + l.length) ∧ w_a w' 19 = bo_row (w_a w 19) m l
theorem boR.tr {w w' w'' : gx_W} {m : Nat} {l l' : List Nat} (h : boR w w' m l) (h' : boR w' w'' (m + l.length) l') : boR w w'' m (l ++ l') := by
  refine ⟨h.1.tr h'.1, ?_, ?_⟩
  · rw [List.length_append, ← Nat.add_assoc]; exact h'.2.1
  · rw [bo_row_app, ← h.2.2]; exact h'.2.2
theorem boR.nt {w : gx_W} {m n : Nat} : boR w (bo_nt w m (nI n)) m [n] := by
  unfold bo_nt
  refine ⟨?_, ?_, ?_⟩
  · split
    · exact same.si (same.sa same.rf (by simp)) (by simp)
    · exact same.si same.rf (by simp)
  · rw [wi_si, if_pos ⟨rfl, rfl⟩]; rfl
  · show _ = if m < 24 then va_up (w_a w 19) m (nI n) else w_a w 19
    rw [wa_si]
    split
    · rw [wa_sa, if_pos rfl]
    · rfl
theorem c_kindOf_b {d n m : Nat} {w : gx_W} {k : Int32 → gx_W → Prop} (hd : 1 ≤ d) (h : boK w n) (hm : m < n) (kk : k (w_a w 18 m) w) : gx_C 0 0 d mX0_kindOf [.ref 17, .int (nI m)] w (Qi k) := by
  have hb := h.2.2
  refine c_X0_kindOf hd h (fun q e hq => ?_) (fun hq => (hq m hm rfl).elim)
  rw [← pI_inj (a := m) (b := q) (by omega) (by omega) e]
  exact kk
set_option maxHeartbeats 16000000 in
theorem c_X0_work {n bb own : Nat} (hbb : bb < n) (ho : own < 8) : ∀ (f D act frm m d : Nat) (x : Int32) (w : gx_W) (k : Int32 → gx_W → Prop), f + D = 41 → act < 4 → frm < 8 → f + 2 ≤ d → isT w → boK w n → w_a w 18 bb = nI own → w_i w 17 3 = nI m → m + (bw own (nI bb) f act frm x).2.length < 2 ^ 30 → (∀ w', boR w w' m (bw own (nI bb) f act frm x).2 → k (bw own (nI bb) f act frm x).1 w') → gx_C 0 0 d mX0_work [.ref 17, .int (nI bb), .int (nI act), .int (nI frm), .int x, .int (nI D)] w (Qi k) := by
  intro f
  induction f with
  | zero =>
    intro D act frm m d x w k hf hact hfrm hd hT h hk hr hl kk
    have eD : D = 41 := by omega
    subst eD
    have kk' := kk w ⟨same.rf, hr, rfl⟩
    rw [← bo_i_lt hfrm]
    refine gx_C_of' (L := [.ref 17, .int (nI bb), .int (nI act), .int (bo_i frm), .int x, .int (nI 41), .retAddr 0, .retAddr 0, .retAddr 0, .retAddr 0, .retAddr 0]) (by decide +kernel) rfl (Nat.le_of_ble_eq_true rfl) ?_
    refine g_iload_n dX0_work_0 rfl ?_
    refine g_iload_n dX0_work_1 rfl ?_
    refine g_cS2i dX0_work_2 ml_X0_47 mi_X0_kindWith ms_X0_kindWith (Nat.le_of_ble_eq_true rfl) rfl (by omega) ?_
    refine c_X0_kindWith (by omega) hT (by omega) hact ?_
    refine g_istore dX0_work_5 (Nat.le_of_ble_eq_true rfl) rfl ?_
    refine g_iload dX0_work_7 rfl ?_
    refine g_if_lt (tgt := 19) dX0_work_9 (by decide) (fun zc9 => ?_) (fun zc9 => ?_)
    · refine g_iconst (v := 0) dX0_work_19 rfl ?_
      refine g_iret dX0_work_20 rfl ⟨_, rfl, ?_⟩
      exact kk'
    · refine g_iload dX0_work_12 rfl ?_
      refine g_bipush (v := 40) dX0_work_14 rfl ?_
      refine g_icmp_le (tgt := 21) dX0_work_16 (by decide) (fun zc16 => ?_) (fun zc16 => ?_)
      · exact absurd zc16 (nI_ge (a := 40) (by decide) (by decide))
      · refine g_iconst (v := 0) dX0_work_19 rfl ?_
        refine g_iret dX0_work_20 rfl ⟨_, rfl, ?_⟩
        exact kk'
  | succ f ih =>
    intro D act frm m d x w k hf hact hfrm hd hT h hk hr hl kk
    have ha := bo_kw_lt act hact frm hfrm
    have hnum := bo_num act hact frm hfrm
    have hup := bo_upl act hact frm hfrm
    have hbw : bw own (nI bb) (f + 1) act frm x = bw_go (bw own (nI bb) f) own act (bo_up (bo_kw act 8 frm)) (nI bb) x (bo_own (bo_kw act 8 frm) act) := rfl
    rw [hbw] at hl kk
    obtain ⟨a, hae⟩ : ∃ a, bo_kw act 8 frm = a := ⟨_, rfl⟩
    rw [hae] at ha hnum hup hl kk
    have hNlt := bo_own_lt a ha act hact
    have hNt := bo_own_tab a ha act hact
    obtain ⟨N, hNe⟩ : ∃ N, bo_own a act = N := ⟨_, rfl⟩
    rw [hNe] at hnum hup hl kk hNlt hNt
    have hT5 : w.1[5]? = some (30, 32) := (hT 5 (by decide) (by decide)).1
    have hv5 : w_a w 5 = fun j => (gx_tab 5).getD j 0 := (hT 5 (by decide) (by decide)).2
    rw [← bo_i_lt hfrm]
    refine gx_C_of' (L := [.ref 17, .int (nI bb), .int (nI act), .int (bo_i frm), .int x, .int (nI D), .retAddr 0, .retAddr 0, .retAddr 0, .retAddr 0, .retAddr 0]) (by decide +kernel) rfl (Nat.le_of_ble_eq_true rfl) ?_
    refine g_iload_n dX0_work_0 rfl ?_
    refine g_iload_n dX0_work_1 rfl ?_
    refine g_cS2i dX0_work_2 ml_X0_47 mi_X0_kindWith ms_X0_kindWith (Nat.le_of_ble_eq_true rfl) rfl (by omega) ?_
    refine c_X0_kindWith (by omega) hT (by omega) hact ?_
    rw [hae, bo_i_lt ha]
    refine g_istore dX0_work_5 (Nat.le_of_ble_eq_true rfl) rfl ?_
    refine g_iload dX0_work_7 rfl ?_
    refine g_if_lt (tgt := 19) dX0_work_9 (by decide) (fun zc9 => ?_) (fun zc9 => ?_)
    · refine g_iconst (v := 0) dX0_work_19 rfl ?_
      refine g_iret dX0_work_20 rfl ⟨_, rfl, ?_⟩
      exact absurd zc9 (nI_pos (by omega))
    · refine g_iload dX0_work_12 rfl ?_
      refine g_bipush (v := 40) dX0_work_14 rfl ?_
      refine g_icmp_le (tgt := 21) dX0_work_16 (by decide) (fun zc16 => ?_) (fun zc16 => ?_)
      · refine g_gets (a := 5) dX0_work_21 gs_X0_44 (by decide) (by decide) ?_
        refine g_iload dX0_work_24 rfl ?_
        refine g_iconst (v := 4) dX0_work_26 rfl ?_
        refine g_imul dX0_work_27 ?_
        refine g_iload_n dX0_work_28 rfl ?_
        refine g_iadd dX0_work_29 ?_
        rw [pI_m4]
        refine g_rald dX0_work_30 (by decide) hT5 (vp_in_nI (by omega) (by decide)) ?_
        rw [hv5, nI_n (by omega)]
        rw [show (fun j => (gx_tab 5).getD j 0) (a * 4 + act) = nI N from hNt]
        refine g_istore dX0_work_31 (Nat.le_of_ble_eq_true rfl) rfl ?_
        refine g_aload_n dX0_work_33 rfl ?_
        refine g_iload dX0_work_34 rfl ?_
        refine g_cV1v dX0_work_36 ml_X0_51 mi_X0_note mv_X0_note h.1.1 ⟨_, rfl, rfl⟩ (Nat.le_of_ble_eq_true rfl) rfl (by omega) ?_
        refine c_X0_note (by omega) h hr (by omega) ?_
        have r1 : boR w (bo_nt w m (nI N)) m [N] := boR.nt
        obtain ⟨w1, hw1⟩ : ∃ w1, bo_nt w m (nI N) = w1 := ⟨_, rfl⟩
        rw [hw1] at r1 ⊢
        have h1 : boK w1 n := h.same r1.1 (by simp)
        have hk1 : w_a w1 18 bb = nI own := by rw [(r1.1.2.2.2.1 18 (by simp)).1]; exact hk
        have hT1 : isT w1 := hT.same r1.1 (by simp)
        have hr1 : w_i w1 17 3 = nI (m + 1) := r1.2.1
        refine g_aload_n dX0_work_39 rfl ?_
        refine g_iload_n dX0_work_40 rfl ?_
        refine g_cV1i dX0_work_41 ml_X0_55 mi_X0_kindOf mv_X0_kindOf h1.1.1 ⟨_, rfl, rfl⟩ (Nat.le_of_ble_eq_true rfl) rfl (by omega) ?_
        refine c_kindOf_b (by omega) h1 hbb ?_
        rw [hk1]
        refine g_istore dX0_work_44 (Nat.le_of_ble_eq_true rfl) rfl ?_
        refine g_iload dX0_work_46 rfl ?_
        rw [← bo_i_lt ha]
        refine g_cS1i dX0_work_48 ml_X0_36 mi_X0_above ms_X0_above (Nat.le_of_ble_eq_true rfl) rfl (by omega) ?_
        refine c_X0_above (by omega) hT1 (by omega) ?_
        refine g_istore dX0_work_51 (Nat.le_of_ble_eq_true rfl) rfl ?_
        refine g_iload dX0_work_53 rfl ?_
        refine g_iconst (v := 1) dX0_work_55 rfl ?_
        refine g_iadd dX0_work_56 ?_
        rw [show (nI D : Int32) + 1 = nI (D + 1) from (nI_succ D).symm]
        refine g_istore dX0_work_57 (Nat.le_of_ble_eq_true rfl) rfl ?_
        refine g_iload dX0_work_59 rfl ?_
        by_cases s61_0 : nI N = 1
        · refine g_lookup (off := 123) (tgt := 184) dX0_work_61 (by decide) (by rw [s61_0]; rfl) (by decide) ?_
          have e : N = 1 := pI_inj (a := N) (b := 1) (by omega) (by decide) s61_0
          subst e
          rw [bw_go_1] at hl kk
          simp only [List.length_cons, List.length_append, List.length_nil] at hl
          refine g_iload dX0_work_184 rfl ?_
          refine g_iload_n dX0_work_186 rfl ?_
          refine g_iadd dX0_work_187 ?_
          refine g_iret dX0_work_188 rfl ⟨_, rfl, ?_⟩
          exact kk w1 r1
        by_cases s61_1 : nI N = 2
        · refine g_lookup (off := 128) (tgt := 189) dX0_work_61 (by decide) (by rw [s61_1]; rfl) (by decide) ?_
          have e : N = 2 := pI_inj (a := N) (b := 2) (by omega) (by decide) s61_1
          subst e
          rw [bw_go_2] at hl kk
          simp only [List.length_cons, List.length_append, List.length_nil] at hl
          refine g_aload_n dX0_work_189 rfl ?_
          refine g_iload_n dX0_work_190 rfl ?_
          refine g_iconst (v := 1) dX0_work_191 rfl ?_
          refine g_iload dX0_work_192 rfl ?_
          refine g_iload dX0_work_194 rfl ?_
          refine g_iload dX0_work_196 rfl ?_
          refine g_cV5i dX0_work_198 ml_X0_40 mi_X0_work mv_X0_work h1.1.1 ⟨_, rfl, rfl⟩ (Nat.le_of_ble_eq_true rfl) rfl (by omega) ?_
          refine ih (D + 1) 1 own (m + 1) (d - 1) x w1 _ (by omega) (by decide) ho (by omega) hT1 h1 hk1 hr1 (by omega) (fun w2 r2 => ?_)
          refine g_aload_n dX0_work_201 rfl ?_
          refine g_iload_n dX0_work_202 rfl ?_
          refine g_iconst (v := 2) dX0_work_203 rfl ?_
          refine g_iload dX0_work_204 rfl ?_
          refine g_iconst (v := 1) dX0_work_206 rfl ?_
          refine g_iload dX0_work_207 rfl ?_
          refine g_cV5i dX0_work_209 ml_X0_40 mi_X0_work mv_X0_work (h1.same r2.1 (by simp)).1.1 ⟨_, rfl, rfl⟩ (Nat.le_of_ble_eq_true rfl) rfl (by omega) ?_
          refine ih (D + 1) 2 own _ (d - 1) 1 w2 _ (by omega) (by decide) ho (by omega) (hT1.same r2.1 (by simp)) (h1.same r2.1 (by simp)) (by rw [(r2.1.2.2.2.1 18 (by simp)).1]; exact hk1) r2.2.1 (by omega) (fun w3 r3 => ?_)
          refine g_isub dX0_work_212 ?_
          refine g_iret dX0_work_213 rfl ⟨_, rfl, ?_⟩
          exact kk w3 (r1.tr (r2.tr r3))
        by_cases s61_2 : nI N = 10
        · refine g_lookup (off := 153) (tgt := 214) dX0_work_61 (by decide) (by rw [s61_2]; rfl) (by decide) ?_
          have e : N = 10 := pI_inj (a := N) (b := 10) (by omega) (by decide) s61_2
          subst e
          rw [bw_go_10] at hl kk
          simp only [List.length_cons, List.length_append, List.length_nil] at hl
          refine g_aload_n dX0_work_214 rfl ?_
          refine g_iload_n dX0_work_215 rfl ?_
          refine g_iconst (v := 0) dX0_work_216 rfl ?_
          refine g_iload dX0_work_217 rfl ?_
          refine g_iload dX0_work_219 rfl ?_
          refine g_iload dX0_work_221 rfl ?_
          refine g_cV5i dX0_work_223 ml_X0_40 mi_X0_work mv_X0_work h1.1.1 ⟨_, rfl, rfl⟩ (Nat.le_of_ble_eq_true rfl) rfl (by omega) ?_
          refine ih (D + 1) 0 own (m + 1) (d - 1) x w1 _ (by omega) (by decide) ho (by omega) hT1 h1 hk1 hr1 (by omega) (fun w2 r2 => ?_)
          refine g_iconst (v := 2) dX0_work_226 rfl ?_
          refine g_imul dX0_work_227 ?_
          refine g_iret dX0_work_228 rfl ⟨_, rfl, ?_⟩
          exact kk w2 (r1.tr r2)
        by_cases s61_3 : nI N = 11
        · refine g_lookup (off := 168) (tgt := 229) dX0_work_61 (by decide) (by rw [s61_3]; rfl) (by decide) ?_
          have e : N = 11 := pI_inj (a := N) (b := 11) (by omega) (by decide) s61_3
          subst e
          rw [bw_go_11] at hl kk
          simp only [List.length_cons, List.length_append, List.length_nil] at hl
          refine g_iload dX0_work_229 rfl ?_
          refine g_iload_n dX0_work_231 rfl ?_
          refine g_ixor dX0_work_232 ?_
          refine g_iret dX0_work_233 rfl ⟨_, rfl, ?_⟩
          exact kk w1 r1
        by_cases s61_4 : nI N = 20
        · refine g_lookup (off := 173) (tgt := 234) dX0_work_61 (by decide) (by rw [s61_4]; rfl) (by decide) ?_
          have e : N = 20 := pI_inj (a := N) (b := 20) (by omega) (by decide) s61_4
          subst e
          rw [bw_go_20] at hl kk
          simp only [List.length_cons, List.length_append, List.length_nil] at hl
          have hu := hup (by decide)
          rw [bo_i_lt hu]
          refine g_aload_n dX0_work_234 rfl ?_
          refine g_iload_n dX0_work_235 rfl ?_
          refine g_iload_n dX0_work_236 rfl ?_
          refine g_iload dX0_work_237 rfl ?_
          refine g_iload dX0_work_239 rfl ?_
          refine g_iload dX0_work_241 rfl ?_
          refine g_cV5i dX0_work_243 ml_X0_40 mi_X0_work mv_X0_work h1.1.1 ⟨_, rfl, rfl⟩ (Nat.le_of_ble_eq_true rfl) rfl (by omega) ?_
          refine ih (D + 1) act (bo_up a) (m + 1) (d - 1) x w1 _ (by omega) hact hu (by omega) hT1 h1 hk1 hr1 (by omega) (fun w2 r2 => ?_)
          refine g_iconst (v := 3) dX0_work_246 rfl ?_
          refine g_iadd dX0_work_247 ?_
          refine g_iret dX0_work_248 rfl ⟨_, rfl, ?_⟩
          exact kk w2 (r1.tr r2)
        by_cases s61_5 : nI N = 30
        · refine g_lookup (off := 188) (tgt := 249) dX0_work_61 (by decide) (by rw [s61_5]; rfl) (by decide) ?_
          have e : N = 30 := pI_inj (a := N) (b := 30) (by omega) (by decide) s61_5
          subst e
          rw [bw_go_30] at hl kk
          simp only [List.length_cons, List.length_append, List.length_nil] at hl
          have hu := hup (by decide)
          rw [bo_i_lt hu]
          refine g_aload_n dX0_work_249 rfl ?_
          refine g_iload_n dX0_work_250 rfl ?_
          refine g_iload_n dX0_work_251 rfl ?_
          refine g_iload dX0_work_252 rfl ?_
          refine g_iload dX0_work_254 rfl ?_
          refine g_iload dX0_work_256 rfl ?_
          refine g_cV5i dX0_work_258 ml_X0_40 mi_X0_work mv_X0_work h1.1.1 ⟨_, rfl, rfl⟩ (Nat.le_of_ble_eq_true rfl) rfl (by omega) ?_
          refine ih (D + 1) act (bo_up a) (m + 1) (d - 1) x w1 _ (by omega) hact hu (by omega) hT1 h1 hk1 hr1 (by omega) (fun w2 r2 => ?_)
          refine g_ineg dX0_work_261 ?_
          refine g_iret dX0_work_262 rfl ⟨_, rfl, ?_⟩
          exact kk w2 (r1.tr r2)
        by_cases s61_6 : nI N = 40
        · refine g_lookup (off := 202) (tgt := 263) dX0_work_61 (by decide) (by rw [s61_6]; rfl) (by decide) ?_
          have e : N = 40 := pI_inj (a := N) (b := 40) (by omega) (by decide) s61_6
          subst e
          rw [bw_go_40] at hl kk
          simp only [List.length_cons, List.length_append, List.length_nil] at hl
          have hu := hup (by decide)
          rw [bo_i_lt hu]
          refine g_aload_n dX0_work_263 rfl ?_
          refine g_iload_n dX0_work_264 rfl ?_
          refine g_iload_n dX0_work_265 rfl ?_
          refine g_iload dX0_work_266 rfl ?_
          refine g_iload dX0_work_268 rfl ?_
          refine g_iload dX0_work_270 rfl ?_
          refine g_cV5i dX0_work_272 ml_X0_40 mi_X0_work mv_X0_work h1.1.1 ⟨_, rfl, rfl⟩ (Nat.le_of_ble_eq_true rfl) rfl (by omega) ?_
          refine ih (D + 1) act (bo_up a) (m + 1) (d - 1) x w1 _ (by omega) hact hu (by omega) hT1 h1 hk1 hr1 (by omega) (fun w2 r2 => ?_)
          refine g_iconst (v := 3) dX0_work_275 rfl ?_
          refine g_imul dX0_work_276 ?_
          refine g_iret dX0_work_277 rfl ⟨_, rfl, ?_⟩
          exact kk w2 (r1.tr r2)
        by_cases s61_7 : nI N = 41
        · refine g_lookup (off := 217) (tgt := 278) dX0_work_61 (by decide) (by rw [s61_7]; rfl) (by decide) ?_
          have e : N = 41 := pI_inj (a := N) (b := 41) (by omega) (by decide) s61_7
          subst e
          rw [bw_go_41] at hl kk
          simp only [List.length_cons, List.length_append, List.length_nil] at hl
          have hu := hup (by decide)
          rw [bo_i_lt hu]
          refine g_aload_n dX0_work_278 rfl ?_
          refine g_iload_n dX0_work_279 rfl ?_
          refine g_iload_n dX0_work_280 rfl ?_
          refine g_iload dX0_work_281 rfl ?_
          refine g_iload dX0_work_283 rfl ?_
          refine g_iconst (v := 1) dX0_work_285 rfl ?_
          refine g_iadd dX0_work_286 ?_
          refine g_iload dX0_work_287 rfl ?_
          refine g_cV5i dX0_work_289 ml_X0_40 mi_X0_work mv_X0_work h1.1.1 ⟨_, rfl, rfl⟩ (Nat.le_of_ble_eq_true rfl) rfl (by omega) ?_
          refine ih (D + 1) act (bo_up a) (m + 1) (d - 1) (x + 1) w1 _ (by omega) hact hu (by omega) hT1 h1 hk1 hr1 (by omega) (fun w2 r2 => ?_)
          refine g_iret dX0_work_292 rfl ⟨_, rfl, ?_⟩
          exact kk w2 (r1.tr r2)
        by_cases s61_8 : nI N = 50
        · refine g_lookup (off := 232) (tgt := 293) dX0_work_61 (by decide) (by rw [s61_8]; rfl) (by decide) ?_
          have e : N = 50 := pI_inj (a := N) (b := 50) (by omega) (by decide) s61_8
          subst e
          rw [bw_go_50] at hl kk
          simp only [List.length_cons, List.length_append, List.length_nil] at hl
          have hu := hup (by decide)
          rw [bo_i_lt hu]
          refine g_aload_n dX0_work_293 rfl ?_
          refine g_iload_n dX0_work_294 rfl ?_
          refine g_iload_n dX0_work_295 rfl ?_
          refine g_iload dX0_work_296 rfl ?_
          refine g_iload dX0_work_298 rfl ?_
          refine g_iload dX0_work_300 rfl ?_
          refine g_cV5i dX0_work_302 ml_X0_40 mi_X0_work mv_X0_work h1.1.1 ⟨_, rfl, rfl⟩ (Nat.le_of_ble_eq_true rfl) rfl (by omega) ?_
          refine ih (D + 1) act (bo_up a) (m + 1) (d - 1) x w1 _ (by omega) hact hu (by omega) hT1 h1 hk1 hr1 (by omega) (fun w2 r2 => ?_)
          refine g_iconst (v := 5) dX0_work_305 rfl ?_
          refine g_ixor dX0_work_306 ?_
          refine g_iret dX0_work_307 rfl ⟨_, rfl, ?_⟩
          exact kk w2 (r1.tr r2)
        by_cases s61_9 : nI N = 60
        · refine g_lookup (off := 247) (tgt := 308) dX0_work_61 (by decide) (by rw [s61_9]; rfl) (by decide) ?_
          have e : N = 60 := pI_inj (a := N) (b := 60) (by omega) (by decide) s61_9
          subst e
          rw [bw_go_60] at hl kk
          simp only [List.length_cons, List.length_append, List.length_nil] at hl
          have hu := hup (by decide)
          rw [bo_i_lt hu]
          refine g_aload_n dX0_work_308 rfl ?_
          refine g_iload_n dX0_work_309 rfl ?_
          refine g_iload_n dX0_work_310 rfl ?_
          refine g_iload dX0_work_311 rfl ?_
          refine g_iload dX0_work_313 rfl ?_
          refine g_iload dX0_work_315 rfl ?_
          refine g_cV5i dX0_work_317 ml_X0_40 mi_X0_work mv_X0_work h1.1.1 ⟨_, rfl, rfl⟩ (Nat.le_of_ble_eq_true rfl) rfl (by omega) ?_
          refine ih (D + 1) act (bo_up a) (m + 1) (d - 1) x w1 _ (by omega) hact hu (by omega) hT1 h1 hk1 hr1 (by omega) (fun w2 r2 => ?_)
          refine g_aload_n dX0_work_320 rfl ?_
          refine g_iload_n dX0_work_321 rfl ?_
          refine g_iconst (v := 0) dX0_work_322 rfl ?_
          refine g_iload dX0_work_323 rfl ?_
          refine g_iconst (v := 2) dX0_work_325 rfl ?_
          refine g_iload dX0_work_326 rfl ?_
          refine g_cV5i dX0_work_328 ml_X0_40 mi_X0_work mv_X0_work (h1.same r2.1 (by simp)).1.1 ⟨_, rfl, rfl⟩ (Nat.le_of_ble_eq_true rfl) rfl (by omega) ?_
          refine ih (D + 1) 0 own _ (d - 1) 2 w2 _ (by omega) (by decide) ho (by omega) (hT1.same r2.1 (by simp)) (h1.same r2.1 (by simp)) (by rw [(r2.1.2.2.2.1 18 (by simp)).1]; exact hk1) r2.2.1 (by omega) (fun w3 r3 => ?_)
          refine g_isub dX0_work_331 ?_
          refine g_iret dX0_work_332 rfl ⟨_, rfl, ?_⟩
          exact kk w3 (r1.tr (r2.tr r3))
        by_cases s61_10 : nI N = 61
        · refine g_lookup (off := 272) (tgt := 333) dX0_work_61 (by decide) (by rw [s61_10]; rfl) (by decide) ?_
          have e : N = 61 := pI_inj (a := N) (b := 61) (by omega) (by decide) s61_10
          subst e
          rw [bw_go_61] at hl kk
          simp only [List.length_cons, List.length_append, List.length_nil] at hl
          have hu := hup (by decide)
          rw [bo_i_lt hu]
          refine g_aload_n dX0_work_333 rfl ?_
          refine g_iload_n dX0_work_334 rfl ?_
          refine g_iload_n dX0_work_335 rfl ?_
          refine g_iload dX0_work_336 rfl ?_
          refine g_iload dX0_work_338 rfl ?_
          refine g_iload dX0_work_340 rfl ?_
          refine g_cV5i dX0_work_342 ml_X0_40 mi_X0_work mv_X0_work h1.1.1 ⟨_, rfl, rfl⟩ (Nat.le_of_ble_eq_true rfl) rfl (by omega) ?_
          refine ih (D + 1) act (bo_up a) (m + 1) (d - 1) x w1 _ (by omega) hact hu (by omega) hT1 h1 hk1 hr1 (by omega) (fun w2 r2 => ?_)
          refine g_iconst (v := 1) dX0_work_345 rfl ?_
          refine g_iadd dX0_work_346 ?_
          refine g_iret dX0_work_347 rfl ⟨_, rfl, ?_⟩
          exact kk w2 (r1.tr r2)
        by_cases s61_11 : nI N = 70
        · refine g_lookup (off := 287) (tgt := 348) dX0_work_61 (by decide) (by rw [s61_11]; rfl) (by decide) ?_
          have e : N = 70 := pI_inj (a := N) (b := 70) (by omega) (by decide) s61_11
          subst e
          rw [bw_go_70] at hl kk
          simp only [List.length_cons, List.length_append, List.length_nil] at hl
          have hu := hup (by decide)
          rw [bo_i_lt hu]
          refine g_aload_n dX0_work_348 rfl ?_
          refine g_iload_n dX0_work_349 rfl ?_
          refine g_iload_n dX0_work_350 rfl ?_
          refine g_iload dX0_work_351 rfl ?_
          refine g_iload dX0_work_353 rfl ?_
          refine g_iload dX0_work_355 rfl ?_
          refine g_cV5i dX0_work_357 ml_X0_40 mi_X0_work mv_X0_work h1.1.1 ⟨_, rfl, rfl⟩ (Nat.le_of_ble_eq_true rfl) rfl (by omega) ?_
          refine ih (D + 1) act (bo_up a) (m + 1) (d - 1) x w1 _ (by omega) hact hu (by omega) hT1 h1 hk1 hr1 (by omega) (fun w2 r2 => ?_)
          refine g_iconst (v := 2) dX0_work_360 rfl ?_
          refine g_imul dX0_work_361 ?_
          refine g_iret dX0_work_362 rfl ⟨_, rfl, ?_⟩
          exact kk w2 (r1.tr r2)
        by_cases s61_12 : nI N = 80
        · refine g_lookup (off := 302) (tgt := 363) dX0_work_61 (by decide) (by rw [s61_12]; rfl) (by decide) ?_
          have e : N = 80 := pI_inj (a := N) (b := 80) (by omega) (by decide) s61_12
          subst e
          rw [bw_go_80] at hl kk
          simp only [List.length_cons, List.length_append, List.length_nil] at hl
          have hu := hup (by decide)
          rw [bo_i_lt hu]
          refine g_aload_n dX0_work_363 rfl ?_
          refine g_iload_n dX0_work_364 rfl ?_
          refine g_iload_n dX0_work_365 rfl ?_
          refine g_iload dX0_work_366 rfl ?_
          refine g_iload dX0_work_368 rfl ?_
          refine g_iload dX0_work_370 rfl ?_
          refine g_cV5i dX0_work_372 ml_X0_40 mi_X0_work mv_X0_work h1.1.1 ⟨_, rfl, rfl⟩ (Nat.le_of_ble_eq_true rfl) rfl (by omega) ?_
          refine ih (D + 1) act (bo_up a) (m + 1) (d - 1) x w1 _ (by omega) hact hu (by omega) hT1 h1 hk1 hr1 (by omega) (fun w2 r2 => ?_)
          refine g_aload_n dX0_work_375 rfl ?_
          refine g_iload_n dX0_work_376 rfl ?_
          refine g_iconst (v := 2) dX0_work_377 rfl ?_
          refine g_iload dX0_work_378 rfl ?_
          refine g_iconst (v := 2) dX0_work_380 rfl ?_
          refine g_iload dX0_work_381 rfl ?_
          refine g_cV5i dX0_work_383 ml_X0_40 mi_X0_work mv_X0_work (h1.same r2.1 (by simp)).1.1 ⟨_, rfl, rfl⟩ (Nat.le_of_ble_eq_true rfl) rfl (by omega) ?_
          refine ih (D + 1) 2 own _ (d - 1) 2 w2 _ (by omega) (by decide) ho (by omega) (hT1.same r2.1 (by simp)) (h1.same r2.1 (by simp)) (by rw [(r2.1.2.2.2.1 18 (by simp)).1]; exact hk1) r2.2.1 (by omega) (fun w3 r3 => ?_)
          refine g_iadd dX0_work_386 ?_
          refine g_iret dX0_work_387 rfl ⟨_, rfl, ?_⟩
          exact kk w3 (r1.tr (r2.tr r3))
        by_cases s61_13 : nI N = 81
        · refine g_lookup (off := 327) (tgt := 388) dX0_work_61 (by decide) (by rw [s61_13]; rfl) (by decide) ?_
          have e : N = 81 := pI_inj (a := N) (b := 81) (by omega) (by decide) s61_13
          subst e
          rw [bw_go_81] at hl kk
          simp only [List.length_cons, List.length_append, List.length_nil] at hl
          have hu := hup (by decide)
          rw [bo_i_lt hu]
          refine g_aload_n dX0_work_388 rfl ?_
          refine g_iload_n dX0_work_389 rfl ?_
          refine g_iload_n dX0_work_390 rfl ?_
          refine g_iload dX0_work_391 rfl ?_
          refine g_iload dX0_work_393 rfl ?_
          refine g_iload dX0_work_395 rfl ?_
          refine g_cV5i dX0_work_397 ml_X0_40 mi_X0_work mv_X0_work h1.1.1 ⟨_, rfl, rfl⟩ (Nat.le_of_ble_eq_true rfl) rfl (by omega) ?_
          refine ih (D + 1) act (bo_up a) (m + 1) (d - 1) x w1 _ (by omega) hact hu (by omega) hT1 h1 hk1 hr1 (by omega) (fun w2 r2 => ?_)
          refine g_iconst (v := 1) dX0_work_400 rfl ?_
          refine g_isub dX0_work_401 ?_
          refine g_iret dX0_work_402 rfl ⟨_, rfl, ?_⟩
          exact kk w2 (r1.tr r2)
        refine g_lookup (off := 342) (tgt := 403) dX0_work_61 (by decide) (by
            show Op.lookupswitch.offset [(1, 123), (2, 128), (10, 153), (11, 168), (20, 173), (30, 188), (40, 202), (41, 217), (50, 232), (60, 247), (61, 272), (70, 287), (80, 302), (81, 327)] (342) _ = _
            rw [lv_osw s61_0 (by decide), lv_osw s61_1 (by decide), lv_osw s61_2 (by decide), lv_osw s61_3 (by decide), lv_osw s61_4 (by decide), lv_osw s61_5 (by decide), lv_osw s61_6 (by decide), lv_osw s61_7 (by decide), lv_osw s61_8 (by decide), lv_osw s61_9 (by decide), lv_osw s61_10 (by decide), lv_osw s61_11 (by decide), lv_osw s61_12 (by decide), lv_osw s61_13 (by decide)]
            rfl) (by decide) ?_
        refine g_iconst (v := 0) dX0_work_403 rfl ?_
        refine g_iret dX0_work_404 rfl ⟨_, rfl, ?_⟩
        exfalso
        simp only [List.mem_cons, List.mem_nil_iff, or_false] at hnum
        rcases hnum with rfl | rfl | rfl | rfl | rfl | rfl | rfl | rfl | rfl | rfl | rfl | rfl | rfl | rfl
        · exact s61_0 rfl
        · exact s61_1 rfl
        · exact s61_2 rfl
        · exact s61_3 rfl
        · exact s61_4 rfl
        · exact s61_5 rfl
        · exact s61_6 rfl
        · exact s61_7 rfl
        · exact s61_8 rfl
        · exact s61_9 rfl
        · exact s61_10 rfl
        · exact s61_11 rfl
        · exact s61_12 rfl
        · exact s61_13 rfl
      · refine g_iconst (v := 0) dX0_work_19 rfl ?_
        refine g_iret dX0_work_20 rfl ⟨_, rfl, ?_⟩
        refine absurd ?_ zc16
        show nI D ≤ 40
        rw [pI_le, nI_toInt (by omega)]
        have e : (40 : Int32).toInt = 40 := by decide
        omega
theorem c_X0_perform {d : Nat} {w : gx_W} {n : Nat} {y z x : Int32} {k : Int32 → gx_W → Prop} (hd : 44 ≤ d) (hT : isT w) (h : boK w n) (hk : ∀ j, j < n → ∃ m, m < 8 ∧ w_a w 18 j = nI m) (k1 : ∀ bb c own : Nat, y = nI bb → bb < n → z = nI c → c < 4 → w_a w 18 bb = nI own → own < 8 → ∀ w', boR (s_i w 17 3 0) w' 0 (bw own (nI bb) 41 c own x).2 → k (bw own (nI bb) 41 c own x).1 w') (k2 : (∀ bb c : Nat, y = nI bb → bb < n → z = nI c → c < 4 → False) → k 0 (s_i w 17 3 0)) : gx_C 0 0 d mX0_perform [.ref 17, .int y, .int z, .int x] w (Qi k) := by
  refine gx_C_of' (L := [.ref 17, .int y, .int z, .int x]) (by decide +kernel) rfl (Nat.le_of_ble_eq_true rfl) ?_
  refine g_aload_n dX0_perform_0 rfl ?_
  refine g_iconst (v := 0) dX0_perform_1 rfl ?_
  refine g_puti dX0_perform_2 fl_X0_30 ft_0_3 h.1.1 ?_
  have hs : same [] [(17, 3)] w (s_i w 17 3 0) := same.si same.rf (by simp)
  replace hT : isT (s_i w 17 3 0) := hT.same hs (by simp)
  replace h : boK (s_i w 17 3 0) n := h.same hs (by simp)
  refine g_aload_n dX0_perform_5 rfl ?_
  refine g_iload_n dX0_perform_6 rfl ?_
  refine g_cV1i dX0_perform_7 ml_X0_22 mi_X0_isBody mv_X0_isBody h.1.1 ⟨_, rfl, rfl⟩ (Nat.le_of_ble_eq_true rfl) rfl (by omega) ?_
  refine c_X0_isBody (by omega) h (fun m e hm => ?_) (fun hn => ?_)
  · refine g_if_eq (tgt := 39) dX0_perform_10 (by decide) (fun q => absurd q (by decide)) (fun _ => ?_)
    refine g_iload_n dX0_perform_13 rfl ?_
    refine g_if_lt (tgt := 39) dX0_perform_14 (by decide) (fun zc14 => ?_) (fun zc14 => ?_)
    · refine g_iconst (v := 0) dX0_perform_39 rfl ?_
      refine g_iret dX0_perform_40 rfl ⟨_, rfl, ?_⟩
      refine k2 (fun bb c e1 e2 e3 e4 => ?_)
      rw [e3] at zc14
      exact absurd zc14 (nI_pos (by omega))
    · refine g_iload_n dX0_perform_17 rfl ?_
      refine g_iconst (v := 4) dX0_perform_18 rfl ?_
      refine g_icmp_ge (tgt := 39) dX0_perform_19 (by decide) (fun zc19 => ?_) (fun zc19 => ?_)
      · refine g_iconst (v := 0) dX0_perform_39 rfl ?_
        refine g_iret dX0_perform_40 rfl ⟨_, rfl, ?_⟩
        refine k2 (fun bb c e1 e2 e3 e4 => ?_)
        rw [e3] at zc19
        exact absurd zc19 (nI_ge (b := 4) e4 (by decide))
      · have hb := h.2.2
        have hz : ∃ c, c < 4 ∧ z = nI c := pI_cases (n := 4) (by decide) zc14 (Int32.not_le.mp zc19)
        obtain ⟨c, hc, ez⟩ := hz
        obtain ⟨own, ho, eo⟩ := hk m hm
        subst e
        subst ez
        refine g_aload_n dX0_perform_22 rfl ?_
        refine g_iload_n dX0_perform_23 rfl ?_
        refine g_iload_n dX0_perform_24 rfl ?_
        refine g_aload_n dX0_perform_25 rfl ?_
        refine g_getr dX0_perform_26 fl_X0_11 h.1.1 h.1.2.1.1 ?_
        refine g_iload_n dX0_perform_29 rfl ?_
        refine g_iald dX0_perform_30 h.1.2.1.2 (vp_in_nI (by omega) (by decide)) ?_
        have eo' : w_a (s_i w 17 3 0) 18 (nI m).toNatClampNeg = nI own := by rw [nI_n (by omega)]; exact eo
        rw [eo']
        refine g_iload_n dX0_perform_31 rfl ?_
        refine g_iconst (v := 0) dX0_perform_32 rfl ?_
        refine g_cV5i dX0_perform_33 ml_X0_40 mi_X0_work mv_X0_work h.1.1 ⟨_, rfl, rfl⟩ (Nat.le_of_ble_eq_true rfl) rfl (by omega) ?_
        refine c_X0_work hm ho 41 0 c own 0 (d - 1) x _ _ rfl hc ho (by omega) hT h eo (by rw [wi_si, if_pos ⟨rfl, rfl⟩]; rfl) (by have := bw_len (nI m) x own ho c hc; omega) (fun w' r => ?_)
        refine g_goto (tgt := 40) dX0_perform_36 (by decide) ?_
        refine g_iret dX0_perform_40 rfl ⟨_, rfl, ?_⟩
        exact k1 m c own rfl hm rfl hc eo ho w' r
  · refine g_if_eq (tgt := 39) dX0_perform_10 (by decide) (fun _ => ?_) (fun q => absurd q (by decide))
    refine g_iconst (v := 0) dX0_perform_39 rfl ?_
    refine g_iret dX0_perform_40 rfl ⟨_, rfl, ?_⟩
    refine k2 (fun bb c e1 e2 e3 e4 => ?_)
    exact hn bb e2 e1

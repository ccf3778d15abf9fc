/-! The reference: again how green -/
theorem rc_rem {q c : Nat} (hq : q < 6) (hc : c < 100) : nI (100 * q + c) - nI (100 * q + c) / 100 * 100 = nI c := by
  rw [show (100 : Int32) = nI 100 from rfl, pk_rem (by omega) (by decide) (by decide), show (100 * q + c) % 100 = c by omega]
theorem rc_div {q c : Nat} (hq : q < 6) (hc : c < 100) : nI (100 * q + c) / 100 = nI q := by
  rw [show (100 : Int32) = nI 100 from rfl, pk_div (by omega) (by decide) (by decide), show (100 * q + c) / 100 = q by omega]
theorem l_X10_again {d n N q c : Nat} {w : gx_W} {sg va : Nat → Int32} {k : Int32 → gx_W → Prop} (hd : 7 ≤ d) (hq : q < n) (hn6 : n ≤ 6) (hc : c < 100) : ∀ (z t : Nat) (f : Nat → Int32) (w1 : gx_W), t + z = 201 → same [73, 74, 75] [] w w1 → moT w1 f n N sg va → (∀ w', same [73, 74, 75] [] w w' → k (me_ag N sg va n c (nI q) z t f) w') → gx_G 0 0 d mX10_again (Qi k) 16 [.ref 57, .int (nI (100 * q + c)), .int (nI t)] [] w1 := by
  intro z
  induction z with
  | zero =>
    intro t f w1 ht hs hI kk
    have e : t = 201 := by omega
    subst e
    refine g_iload_n dX10_again_16 rfl ?_
    refine g_sipush (v := 200) dX10_again_17 rfl ?_
    refine g_icmp_gt (tgt := 46) dX10_again_20 (by decide) (fun zc20 => ?_) (fun zc20 => ?_)
    · refine g_bipush (v := -2) dX10_again_46 rfl ?_
      refine g_iret dX10_again_48 rfl ⟨_, rfl, ?_⟩
      exact kk w1 hs
    · exact absurd (by decide) zc20
  | succ z ih =>
    intro t f w1 ht hs hI kk
    have hrem := rc_rem (q := q) (c := c) (by omega) hc
    have hdiv := rc_div (q := q) (c := c) (by omega) hc
    refine g_iload_n dX10_again_16 rfl ?_
    refine g_sipush (v := 200) dX10_again_17 rfl ?_
    refine g_icmp_gt (tgt := 46) dX10_again_20 (by decide) (fun zc20 => ?_) (fun zc20 => ?_)
    · refine g_bipush (v := -2) dX10_again_46 rfl ?_
      refine g_iret dX10_again_48 rfl ⟨_, rfl, ?_⟩
      exact absurd (show nI 200 < nI t from zc20) (by rw [pI_lt, nI_toInt (by omega), nI_toInt (by omega)]; omega)
    · refine g_aload_n dX10_again_23 rfl ?_
      refine g_iload_n dX10_again_24 rfl ?_
      refine g_bipush (v := 100) dX10_again_25 rfl ?_
      refine g_irem dX10_again_27 (by decide) ?_
      rw [hrem]
      refine g_cV1i dX10_again_28 ml_X10_271 mi_X10_goComer mv_X10_goComer hI.1.1 ⟨_, rfl, rfl⟩ (Nat.le_of_ble_eq_true rfl) rfl (by omega) ?_
      refine c_X10_goComer (by omega) hI hc (fun w2 hs2 h2 => ?_)
      refine g_iload_n dX10_again_31 rfl ?_
      refine g_bipush (v := 100) dX10_again_32 rfl ?_
      refine g_idiv dX10_again_34 (by decide) ?_
      rw [hdiv]
      refine g_icmp_ne (tgt := 40) dX10_again_35 (by decide) (fun zc35 => ?_) (fun zc35 => ?_)
      · refine g_iinc dX10_again_40 rfl rfl ?_
        refine g_goto (tgt := 16) dX10_again_43 (by decide) ?_
        rw [show me_ag N sg va n c (nI q) (z + 1) t f = me_ag N sg va n c (nI q) z (t + 1) (me_nx N sg va f n c) from if_neg zc35] at kk
        rw [nI_1']
        exact ih (t + 1) _ w2 (by omega) (hs.tr hs2) h2 kk
      · refine g_iload_n dX10_again_38 rfl ?_
        refine g_iret dX10_again_39 rfl ⟨_, rfl, ?_⟩
        rw [show me_ag N sg va n c (nI q) (z + 1) t f = nI t from if_pos zc35] at kk
        exact kk w2 (hs.tr hs2)
theorem c_X10_again {d : Nat} {w : gx_W} {f : Nat → Int32} {n N : Nat} {sg va : Nat → Int32} {x : Int32} {k : Int32 → gx_W → Prop} (hd : 7 ≤ d) (h : moO w) (hx : mxD w f n) (hl : lwM w N sg va) (hb : bnd f n) (k1 : (∀ q c, c < 100 → q < n → x ≠ nI (100 * q + c)) → k (-1) w) (kk : ∀ q c, x = nI (100 * q + c) → c < 100 → q < n → ∀ w', same [73, 74, 75] [] w w' → k (me_ag N sg va n c (nI q) 200 1 f) w') : gx_C 0 0 d mX10_again [.ref 57, .int x] w (Qi k) := by
  refine gx_C_of' (L := [.ref 57, .int x, .retAddr 0]) (by decide +kernel) rfl (Nat.le_of_ble_eq_true rfl) ?_
  refine g_aload_n dX10_again_0 rfl ?_
  refine g_iload_n dX10_again_1 rfl ?_
  refine g_cV1i dX10_again_2 ml_X10_287 mi_X10_areComer mv_X10_areComer h.1 ⟨_, rfl, rfl⟩ (Nat.le_of_ble_eq_true rfl) rfl (by omega) ?_
  refine c_X10_areComer (by omega) h hx.1.1 hx.1.2.1 (fun q c e hco hq => ?_) (fun np => ?_)
  · refine g_if_ne (tgt := 10) dX10_again_5 (by decide) (fun _ => ?_) (fun q => absurd q (by decide))
    refine g_aload_n dX10_again_10 rfl ?_
    refine g_cV0v dX10_again_11 ml_X10_259 mi_X10_layNow mv_X10_layNow h.1 ⟨_, rfl, rfl⟩ (Nat.le_of_ble_eq_true rfl) rfl (by omega) ?_
    refine c_X10_layNow (by omega) h hx hl hb (fun w1 hs1 h1 => ?_)
    refine g_iconst (v := 1) dX10_again_14 rfl ?_
    refine g_istore_n dX10_again_15 (Nat.le_of_ble_eq_true rfl) rfl ?_
    subst e
    exact l_X10_again hd hq hx.1.2.1 hco 200 1 f w1 rfl (hs1.wk (by simp) (by simp)) h1 (kk q c rfl hco hq)
  · refine g_if_ne (tgt := 10) dX10_again_5 (by decide) (fun q => absurd q (by decide)) (fun _ => ?_)
    refine g_iconst (v := -1) dX10_again_8 rfl ?_
    refine g_iret dX10_again_9 rfl ⟨_, rfl, ?_⟩
    exact k1 np
/-! how many of the first ones, the first of them -/
def ctF (P : Nat → Bool) : Nat → Nat
  | 0 => 0
  | i + 1 => if P i = true then ctF P i + 1 else ctF P i
def fsF (P : Nat → Bool) : Nat → Int32
  | 0 => -2
  | i + 1 => if P i = true then (if ctF P i = 0 then nI i else fsF P i) else fsF P i
theorem ctF_t {P : Nat → Bool} {i : Nat} (h : P i = true) : ctF P (i + 1) = ctF P i + 1 := if_pos h
theorem ctF_f {P : Nat → Bool} {i : Nat} (h : ¬ P i = true) : ctF P (i + 1) = ctF P i := if_neg h
theorem fsF_t {P : Nat → Bool} {i : Nat} (h : P i = true) : fsF P (i + 1) = if ctF P i = 0 then nI i else fsF P i := if_pos h
theorem fsF_f {P : Nat → Bool} {i : Nat} (h : ¬ P i = true) : fsF P (i + 1) = fsF P i := if_neg h
theorem ctF_le (P : Nat → Bool) : ∀ i, ctF P i ≤ i := by
  intro i
  induction i with
  | zero => exact Nat.le_refl _
  | succ i ih =>
    unfold ctF
    by_cases h : P i = true
    · rw [if_pos h]; omega
    · rw [if_neg h]; omega
theorem fsF_0 (P : Nat → Bool) : ∀ i, ctF P i = 0 → fsF P i = -2 := by
  intro i
  induction i with
  | zero => intro _; rfl
  | succ i ih =>
    intro h
    unfold ctF at h
    unfold fsF
    by_cases q : P i = true
    · rw [if_pos q] at h; omega
    · rw [if_neg q] at h
      rw [if_neg q]
      exact ih h
theorem me_how_eq (H : Nat → Int32) (t : Int32) : ∀ (i a : Nat) (e : Int32), me_how H t i (nI a) e = (nI (a + ctF (fun c => decide (H c = t)) i), if ctF (fun c => decide (H c = t)) i = 0 then e else fsF (fun c => decide (H c = t)) i) := by
  intro i
  induction i with
  | zero => intro a e; rfl
  | succ i ih =>
    intro a e
    by_cases q : H i = t
    · have hP : (fun c => decide (H c = t)) i = true := decide_eq_true q
      rw [show me_how H t (i + 1) (nI a) e = me_how H t i (nI a + Int32.ofInt 1) (nI i) from if_pos q, nI_1', ih, ctF_t hP, fsF_t hP, if_neg (Nat.succ_ne_zero _), show a + 1 + ctF (fun c => decide (H c = t)) i = a + (ctF (fun c => decide (H c = t)) i + 1) by omega]
    · have hP : ¬ (fun c => decide (H c = t)) i = true := fun z => q (of_decide_eq_true z)
      rw [show me_how H t (i + 1) (nI a) e = me_how H t i (nI a) e from if_neg q, ih, ctF_f hP, fsF_f hP]
theorem me_how_r (H : Nat → Int32) (t : Int32) (i : Nat) : me_how H t i 0 (-2) = (nI (ctF (fun c => decide (H c = t)) i), fsF (fun c => decide (H c = t)) i) := by
  have e := me_how_eq H t i 0 (-2)
  rw [Nat.zero_add] at e
  refine e.trans ?_
  by_cases q : ctF (fun c => decide (H c = t)) i = 0
  · rw [if_pos q, fsF_0 _ _ q]
  · rw [if_neg q]
theorem l_X10_how {d n N : Nat} {w : gx_W} {f sg va : Nat → Int32} {x y : Int32} {k : Int32 → gx_W → Prop} (hd : 6 ≤ d) (kk : ∀ w', same [73, 74, 75] [] w w' → k (if y = 0 then nI (ctF (fun c => decide (cr_has N sg va f n c = x)) 100) else fsF (fun c => decide (cr_has N sg va f n c = x)) 100) w') : ∀ (z j : Nat) (w1 : gx_W), j + z = 100 → same [73, 74, 75] [] w w1 → moT w1 f n N sg va → gx_G 0 0 d mX10_how (Qi k) 32 [.ref 57, .int x, .int y, .int (nI (ctF (fun c => decide (cr_has N sg va f n c = x)) j)), .int (fsF (fun c => decide (cr_has N sg va f n c = x)) j), .int (nI j)] [] w1 := by
  intro z
  induction z with
  | zero =>
    intro j w1 hj hs hI
    have e : j = 100 := by omega
    subst e
    have K := kk w1 hs
    refine g_iload dX10_how_32 rfl ?_
    refine g_bipush (v := 99) dX10_how_34 rfl ?_
    refine g_icmp_gt (tgt := 69) dX10_how_36 (by decide) (fun zc36 => ?_) (fun zc36 => ?_)
    · refine g_iload_n dX10_how_69 rfl ?_
      refine g_if_ne (tgt := 77) dX10_how_70 (by decide) (fun zc70 => ?_) (fun zc70 => ?_)
      · refine g_iload dX10_how_77 rfl ?_
        refine g_iret dX10_how_79 rfl ⟨_, rfl, ?_⟩
        rw [if_neg zc70] at K
        exact K
      · refine g_iload_n dX10_how_73 rfl ?_
        refine g_goto (tgt := 79) dX10_how_74 (by decide) ?_
        refine g_iret dX10_how_79 rfl ⟨_, rfl, ?_⟩
        rw [if_pos zc70] at K
        exact K
    · exact absurd (by decide) zc36
  | succ z ih =>
    intro j w1 hj hs hI
    have hct := ctF_le (fun c => decide (cr_has N sg va f n c = x)) j
    have ihs := ih (j + 1)
    refine g_iload dX10_how_32 rfl ?_
    refine g_bipush (v := 99) dX10_how_34 rfl ?_
    refine g_icmp_gt (tgt := 69) dX10_how_36 (by decide) (fun zc36 => ?_) (fun zc36 => ?_)
    · refine g_iload_n dX10_how_69 rfl ?_
      refine g_if_ne (tgt := 77) dX10_how_70 (by decide) (fun zc70 => ?_) (fun zc70 => ?_)
      · refine g_iload dX10_how_77 rfl ?_
        refine g_iret dX10_how_79 rfl ⟨_, rfl, ?_⟩
        exact absurd (show nI 99 < nI j from zc36) (by rw [pI_lt, nI_toInt (by omega), nI_toInt (by omega)]; omega)
      · refine g_iload_n dX10_how_73 rfl ?_
        refine g_goto (tgt := 79) dX10_how_74 (by decide) ?_
        refine g_iret dX10_how_79 rfl ⟨_, rfl, ?_⟩
        exact absurd (show nI 99 < nI j from zc36) (by rw [pI_lt, nI_toInt (by omega), nI_toInt (by omega)]; omega)
    · refine g_aload_n dX10_how_39 rfl ?_
      refine g_iload dX10_how_40 rfl ?_
      refine g_cV1i dX10_how_42 ml_X10_249 mi_X10_hasNow mv_X10_hasNow hI.1.1 ⟨_, rfl, rfl⟩ (Nat.le_of_ble_eq_true rfl) rfl (by omega) ?_
      refine c_X10_hasNow (by omega) hI (by omega) (fun w2 hs2 => ?_)
      refine g_iload_n dX10_how_45 rfl ?_
      refine g_icmp_eq (tgt := 52) dX10_how_46 (by decide) (fun zc46 => ?_) (fun zc46 => ?_)
      · refine g_iload_n dX10_how_52 rfl ?_
        refine g_if_ne (tgt := 60) dX10_how_53 (by decide) (fun zc53 => ?_) (fun zc53 => ?_)
        · refine g_iinc dX10_how_60 rfl rfl ?_
          refine g_iinc dX10_how_63 rfl rfl ?_
          refine g_goto (tgt := 32) dX10_how_66 (by decide) ?_
          rw [nI_1' j, nI_1' (ctF (fun c => decide (cr_has N sg va f n c = x)) j)]
          have hP : (fun c => decide (cr_has N sg va f n c = x)) j = true := decide_eq_true zc46
          rw [ctF_t hP, fsF_t hP, if_neg (fun z => zc53 (by rw [z]; rfl))] at ihs
          exact ihs w2 (by omega) (hs.tr (hs2.wk (by simp) (by simp))) (hI.same hs2 (by simp) (by simp))
        · refine g_iload dX10_how_56 rfl ?_
          refine g_istore dX10_how_58 (Nat.le_of_ble_eq_true rfl) rfl ?_
          refine g_iinc dX10_how_60 rfl rfl ?_
          refine g_iinc dX10_how_63 rfl rfl ?_
          refine g_goto (tgt := 32) dX10_how_66 (by decide) ?_
          rw [nI_1' j, nI_1' (ctF (fun c => decide (cr_has N sg va f n c = x)) j)]
          have hP : (fun c => decide (cr_has N sg va f n c = x)) j = true := decide_eq_true zc46
          rw [ctF_t hP, fsF_t hP, if_pos (pI_inj (b := 0) (by omega) (by decide) zc53)] at ihs
          exact ihs w2 (by omega) (hs.tr (hs2.wk (by simp) (by simp))) (hI.same hs2 (by simp) (by simp))
      · refine g_goto (tgt := 63) dX10_how_49 (by decide) ?_
        refine g_iinc dX10_how_63 rfl rfl ?_
        refine g_goto (tgt := 32) dX10_how_66 (by decide) ?_
        rw [nI_1' j]
        have hP : ¬ (fun c => decide (cr_has N sg va f n c = x)) j = true := fun z => zc46 (of_decide_eq_true z)
        rw [ctF_f hP, fsF_f hP] at ihs
        exact ihs w2 (by omega) (hs.tr (hs2.wk (by simp) (by simp))) (hI.same hs2 (by simp) (by simp))
theorem c_X10_how {d : Nat} {w : gx_W} {f : Nat → Int32} {n N : Nat} {sg va : Nat → Int32} {x y : Int32} {k : Int32 → gx_W → Prop} (hd : 6 ≤ d) (h : moO w) (hx : mxD w f n) (hl : lwM w N sg va) (hb : bnd f n) (k1 : (∀ m, m < n → x ≠ nI m) → k (-1) w) (k2 : (∀ m, m ≤ 1 → y ≠ nI m) → k (-1) w) (kk : ∀ m u, x = nI m → m < n → y = nI u → u ≤ 1 → ∀ w', same [73, 74, 75] [] w w' → k (if y = 0 then (me_how (cr_has N sg va f n) x 100 0 (-2)).1 else (me_how (cr_has N sg va f n) x 100 0 (-2)).2) w') : gx_C 0 0 d mX10_how [.ref 57, .int x, .int y] w (Qi k) := by
  refine gx_C_of' (L := [.ref 57, .int x, .int y, .retAddr 0, .retAddr 0, .retAddr 0]) (by decide +kernel) rfl (Nat.le_of_ble_eq_true rfl) ?_
  refine g_aload_n dX10_how_0 rfl ?_
  refine g_iload_n dX10_how_1 rfl ?_
  refine g_cV1i dX10_how_2 ml_X10_128 mi_X10_isRoad mv_X10_isRoad h.1 ⟨_, rfl, rfl⟩ (Nat.le_of_ble_eq_true rfl) rfl (by omega) ?_
  refine c_X10_isRoad (by omega) h hx.1.1 hx.1.2.1 (fun m em hm => ?_) (fun nx => ?_)
  · refine g_if_eq (tgt := 17) dX10_how_5 (by decide) (fun q => absurd q (by decide)) (fun _ => ?_)
    refine g_iload_n dX10_how_8 rfl ?_
    refine g_iconst (v := 0) dX10_how_9 rfl ?_
    refine g_iconst (v := 1) dX10_how_10 rfl ?_
    refine g_cS3i dX10_how_11 ml_X10_124 mi_X10_in ms_X10_in (Nat.le_of_ble_eq_true rfl) rfl (by omega) ?_
    refine c_inN (H := 1) rfl (by decide) (fun u eu hu => ?_) (fun ny => ?_)
    · refine g_if_ne (tgt := 19) dX10_how_14 (by decide) (fun _ => ?_) (fun q => absurd q (by decide))
      refine g_aload_n dX10_how_19 rfl ?_
      refine g_cV0v dX10_how_20 ml_X10_259 mi_X10_layNow mv_X10_layNow h.1 ⟨_, rfl, rfl⟩ (Nat.le_of_ble_eq_true rfl) rfl (by omega) ?_
      refine c_X10_layNow (by omega) h hx hl hb (fun w1 hs1 h1 => ?_)
      refine g_iconst (v := 0) dX10_how_23 rfl ?_
      refine g_istore_n dX10_how_24 (Nat.le_of_ble_eq_true rfl) rfl ?_
      refine g_bipush (v := -2) dX10_how_25 rfl ?_
      refine g_istore dX10_how_27 (Nat.le_of_ble_eq_true rfl) rfl ?_
      refine g_iconst (v := 0) dX10_how_29 rfl ?_
      refine g_istore dX10_how_30 (Nat.le_of_ble_eq_true rfl) rfl ?_
      have K := kk m u em hm eu hu
      rw [me_how_r] at K
      exact l_X10_how hd K 100 0 w1 rfl (hs1.wk (by simp) (by simp)) h1
    · refine g_if_ne (tgt := 19) dX10_how_14 (by decide) (fun q => absurd q (by decide)) (fun _ => ?_)
      refine g_iconst (v := -1) dX10_how_17 rfl ?_
      refine g_iret dX10_how_18 rfl ⟨_, rfl, ?_⟩
      exact k2 ny
  · refine g_if_eq (tgt := 17) dX10_how_5 (by decide) (fun _ => ?_) (fun q => absurd q (by decide))
    refine g_iconst (v := -1) dX10_how_17 rfl ?_
    refine g_iret dX10_how_18 rfl ⟨_, rfl, ?_⟩
    exact k1 nx
theorem and_z (b : Int32) : (0 : Int32) &&& b = 0 := by
  apply Int32.toBitVec_inj.mp
  rw [Int32.toBitVec_and]
  exact BitVec.zero_and
theorem me_gr_0 (H : Nat → Int32) : ∀ z c, me_gr H z c 0 = 0 := by
  intro z c
  cases z with
  | zero => rfl
  | succ z => exact if_pos rfl
theorem me_gr_s {H : Nat → Int32} {z c : Nat} {g : Int32} (h : ¬ H c < 0) : me_gr H (z + 1) c g = me_gr H z (c + 1) (g &&& ((1 <<< (H c &&& 31)) ^^^ -1)) := by
  unfold me_gr
  by_cases q : g = 0
  · rw [if_pos q, q, and_z, ← me_gr.eq_def, me_gr_0]
  · rw [if_neg q, if_neg h, ← me_gr.eq_def]
theorem l_X10_green {d n N : Nat} {w : gx_W} {f sg va : Nat → Int32} {k : Int32 → gx_W → Prop} (hd : 6 ≤ d) (hn6 : n ≤ 6) : ∀ (z j : Nat) (g : Int32) (w1 : gx_W), j + z = 100 → (n = 0 → g = 0) → same [73, 74, 75] [] w w1 → moT w1 f n N sg va → (∀ w', same [73, 74, 75] [] w w' → k (me_gr (cr_has N sg va f n) z j g) w') → gx_G 0 0 d mX10_green (Qi k) 15 [.ref 57, .int g, .int (nI j)] [] w1 := by
  intro z
  induction z with
  | zero =>
    intro j g w1 hj hg hs hI kk
    have e : j = 100 := by omega
    subst e
    refine g_iload_n dX10_green_15 rfl ?_
    refine g_bipush (v := 99) dX10_green_16 rfl ?_
    refine g_icmp_gt (tgt := 46) dX10_green_18 (by decide) (fun zc18 => ?_) (fun zc18 => ?_)
    · refine g_iload_n dX10_green_46 rfl ?_
      refine g_iret dX10_green_47 rfl ⟨_, rfl, ?_⟩
      exact kk w1 hs
    · exact absurd (by decide) zc18
  | succ z ih =>
    intro j g w1 hj hg hs hI kk
    refine g_iload_n dX10_green_15 rfl ?_
    refine g_bipush (v := 99) dX10_green_16 rfl ?_
    refine g_icmp_gt (tgt := 46) dX10_green_18 (by decide) (fun zc18 => ?_) (fun zc18 => ?_)
    · refine g_iload_n dX10_green_46 rfl ?_
      refine g_iret dX10_green_47 rfl ⟨_, rfl, ?_⟩
      exact absurd (show nI 99 < nI j from zc18) (by rw [pI_lt, nI_toInt (by omega), nI_toInt (by omega)]; omega)
    · refine g_aload_n dX10_green_21 rfl ?_
      refine g_geti dX10_green_22 fl_X10_121 hI.1.1 ?_
      rw [hI.2.1.1.1]
      refine g_if_le (tgt := 46) dX10_green_25 (by decide) (fun zc25 => ?_) (fun zc25 => ?_)
      · refine g_iload_n dX10_green_46 rfl ?_
        refine g_iret dX10_green_47 rfl ⟨_, rfl, ?_⟩
        have h0 : n = 0 := by
          rcases Nat.eq_zero_or_pos n with e | e
          · exact e
          · exact absurd (show nI n ≤ nI 0 from zc25) (nI_ge e (by omega))
        have K := kk w1 hs
        rw [hg h0, me_gr_0] at K
        rw [hg h0]
        exact K
      · have h0 : 0 < n := by
          rcases Nat.eq_zero_or_pos n with e | e
          · subst e; exact absurd (by decide) zc25
          · exact e
        refine g_iload_n dX10_green_28 rfl ?_
        refine g_iconst (v := 1) dX10_green_29 rfl ?_
        refine g_aload_n dX10_green_30 rfl ?_
        refine g_iload_n dX10_green_31 rfl ?_
        refine g_cV1i dX10_green_32 ml_X10_249 mi_X10_hasNow mv_X10_hasNow hI.1.1 ⟨_, rfl, rfl⟩ (Nat.le_of_ble_eq_true rfl) rfl (by omega) ?_
        refine c_X10_hasNow (by omega) hI (by omega) (fun w2 hs2 => ?_)
        refine g_ishl dX10_green_35 ?_
        refine g_iconst (v := -1) dX10_green_36 rfl ?_
        refine g_ixor dX10_green_37 ?_
        refine g_iand dX10_green_38 ?_
        refine g_istore_n dX10_green_39 (Nat.le_of_ble_eq_true rfl) rfl ?_
        refine g_iinc dX10_green_40 rfl rfl ?_
        refine g_goto (tgt := 15) dX10_green_43 (by decide) ?_
        obtain ⟨t, ht, et⟩ := cr_has_pos (N := N) (sg := sg) (va := va) (f := f) (c := j) hn6 h0
        rw [me_gr_s (by rw [et]; exact nI_pos (by omega))] at kk
        rw [nI_1']
        exact ih (j + 1) _ w2 (by omega) (fun e => absurd e (by omega)) (hs.tr (hs2.wk (by simp) (by simp))) (hI.same hs2 (by simp) (by simp)) kk
theorem c_X10_green {d : Nat} {w : gx_W} {f : Nat → Int32} {n N : Nat} {sg va : Nat → Int32} {k : Int32 → gx_W → Prop} (hd : 6 ≤ d) (h : moO w) (hx : mxD w f n) (hl : lwM w N sg va) (hb : bnd f n) (kk : ∀ w', same [73, 74, 75] [] w w' → k (me_gr (cr_has N sg va f n) 100 0 (nI (2 ^ n - 1))) w') : gx_C 0 0 d mX10_green [.ref 57] w (Qi k) := by
  refine gx_C_of' (L := [.ref 57, .retAddr 0, .retAddr 0]) (by decide +kernel) rfl (Nat.le_of_ble_eq_true rfl) ?_
  refine g_aload_n dX10_green_0 rfl ?_
  refine g_cV0v dX10_green_1 ml_X10_259 mi_X10_layNow mv_X10_layNow h.1 ⟨_, rfl, rfl⟩ (Nat.le_of_ble_eq_true rfl) rfl (by omega) ?_
  refine c_X10_layNow (by omega) h hx hl hb (fun w1 hs1 h1 => ?_)
  refine g_iconst (v := 1) dX10_green_4 rfl ?_
  refine g_aload_n dX10_green_5 rfl ?_
  refine g_geti dX10_green_6 fl_X10_121 h1.1.1 ?_
  rw [h1.2.1.1.1]
  refine g_ishl dX10_green_9 ?_
  rw [vt_pow n hx.1.2.1]
  refine g_iconst (v := 1) dX10_green_10 rfl ?_
  refine g_isub dX10_green_11 ?_
  rw [show nI (2 ^ n) - 1 = nI (2 ^ n - 1) from pk_sub (a := 2 ^ n) (b := 1) (Nat.two_pow_pos n)]
  refine g_istore_n dX10_green_12 (Nat.le_of_ble_eq_true rfl) rfl ?_
  refine g_iconst (v := 0) dX10_green_13 rfl ?_
  refine g_istore_n dX10_green_14 (Nat.le_of_ble_eq_true rfl) rfl ?_
  exact l_X10_green hd hx.1.2.1 100 0 _ w1 rfl (fun e => by rw [e]; rfl) (hs1.wk (by simp) (by simp)) h1 kk

/-! The reference: its object, small methods -/
def moL : List (Nat × Nat × Nat × Nat) := [(2, 58, 20, 6), (3, 59, 20, 6), (4, 60, 20, 6), (5, 61, 20, 6), (6, 62, 20, 4), (9, 63, 20, 40), (10, 64, 20, 40), (11, 65, 20, 40), (12, 66, 20, 40), (13, 67, 21, 120), (19, 68, 21, 260), (20, 69, 20, 260), (21, 70, 20, 2), (22, 71, 22, 122), (23, 72, 22, 122), (24, 73, 20, 6), (25, 74, 20, 130), (27, 75, 20, 6), (28, 76, 20, 6), (29, 77, 20, 6), (30, 78, 20, 6), (32, 79, 20, 24), (33, 80, 20, 3), (34, 81, 20, 6), (36, 82, 20, 4), (41, 83, 20, 6), (42, 84, 20, 4), (44, 85, 20, 50), (46, 86, 20, 24), (47, 87, 20, 6), (48, 88, 20, 6), (49, 89, 23, 360), (50, 90, 23, 60)]
def moO (w : gx_W) : Prop := w.1[57]? = some (10, 0) ∧ ∀ q ∈ moL, w_r w 57 q.1 = some q.2.1 ∧ w.1[q.2.1]? = some (q.2.2.1, q.2.2.2)
theorem moO.sam {R : List Nat} {F E : List (Nat × Nat)} {w w' : gx_W} (h : moO w) (hs : sam R F E w w') (hE : ∀ j, (57, j) ∉ E) : moO w' := ⟨by rw [hs.1]; exact h.1, fun q hq => ⟨(hs.2.2.1 57 q.1 (hE _)).trans (h.2 q hq).1, by rw [hs.1]; exact (h.2 q hq).2⟩⟩
theorem moO.same {R : List Nat} {F : List (Nat × Nat)} {w w' : gx_W} (h : moO w) (hs : same R F w w') : moO w' := ⟨by rw [hs.1]; exact h.1, fun q hq => ⟨by rw [hs.2.2.1]; exact (h.2 q hq).1, by rw [hs.1]; exact (h.2 q hq).2⟩⟩
theorem moR_58 {w : gx_W} (h : moO w) : w_r w 57 2 = some 58 := (h.2 (2, 58, 20, 6) (List.mem_of_getElem? (i := 0) rfl)).1
theorem moA_58 {w : gx_W} (h : moO w) : w.1[58]? = some (20, 6) := (h.2 (2, 58, 20, 6) (List.mem_of_getElem? (i := 0) rfl)).2
theorem moR_59 {w : gx_W} (h : moO w) : w_r w 57 3 = some 59 := (h.2 (3, 59, 20, 6) (List.mem_of_getElem? (i := 1) rfl)).1
theorem moA_59 {w : gx_W} (h : moO w) : w.1[59]? = some (20, 6) := (h.2 (3, 59, 20, 6) (List.mem_of_getElem? (i := 1) rfl)).2
theorem moR_60 {w : gx_W} (h : moO w) : w_r w 57 4 = some 60 := (h.2 (4, 60, 20, 6) (List.mem_of_getElem? (i := 2) rfl)).1
theorem moA_60 {w : gx_W} (h : moO w) : w.1[60]? = some (20, 6) := (h.2 (4, 60, 20, 6) (List.mem_of_getElem? (i := 2) rfl)).2
theorem moR_61 {w : gx_W} (h : moO w) : w_r w 57 5 = some 61 := (h.2 (5, 61, 20, 6) (List.mem_of_getElem? (i := 3) rfl)).1
theorem moA_61 {w : gx_W} (h : moO w) : w.1[61]? = some (20, 6) := (h.2 (5, 61, 20, 6) (List.mem_of_getElem? (i := 3) rfl)).2
theorem moR_62 {w : gx_W} (h : moO w) : w_r w 57 6 = some 62 := (h.2 (6, 62, 20, 4) (List.mem_of_getElem? (i := 4) rfl)).1
theorem moA_62 {w : gx_W} (h : moO w) : w.1[62]? = some (20, 4) := (h.2 (6, 62, 20, 4) (List.mem_of_getElem? (i := 4) rfl)).2
theorem moR_63 {w : gx_W} (h : moO w) : w_r w 57 9 = some 63 := (h.2 (9, 63, 20, 40) (List.mem_of_getElem? (i := 5) rfl)).1
theorem moA_63 {w : gx_W} (h : moO w) : w.1[63]? = some (20, 40) := (h.2 (9, 63, 20, 40) (List.mem_of_getElem? (i := 5) rfl)).2
theorem moR_64 {w : gx_W} (h : moO w) : w_r w 57 10 = some 64 := (h.2 (10, 64, 20, 40) (List.mem_of_getElem? (i := 6) rfl)).1
theorem moA_64 {w : gx_W} (h : moO w) : w.1[64]? = some (20, 40) := (h.2 (10, 64, 20, 40) (List.mem_of_getElem? (i := 6) rfl)).2
theorem moR_65 {w : gx_W} (h : moO w) : w_r w 57 11 = some 65 := (h.2 (11, 65, 20, 40) (List.mem_of_getElem? (i := 7) rfl)).1
theorem moA_65 {w : gx_W} (h : moO w) : w.1[65]? = some (20, 40) := (h.2 (11, 65, 20, 40) (List.mem_of_getElem? (i := 7) rfl)).2
theorem moR_66 {w : gx_W} (h : moO w) : w_r w 57 12 = some 66 := (h.2 (12, 66, 20, 40) (List.mem_of_getElem? (i := 8) rfl)).1
theorem moA_66 {w : gx_W} (h : moO w) : w.1[66]? = some (20, 40) := (h.2 (12, 66, 20, 40) (List.mem_of_getElem? (i := 8) rfl)).2
theorem moR_67 {w : gx_W} (h : moO w) : w_r w 57 13 = some 67 := (h.2 (13, 67, 21, 120) (List.mem_of_getElem? (i := 9) rfl)).1
theorem moA_67 {w : gx_W} (h : moO w) : w.1[67]? = some (21, 120) := (h.2 (13, 67, 21, 120) (List.mem_of_getElem? (i := 9) rfl)).2
theorem moR_68 {w : gx_W} (h : moO w) : w_r w 57 19 = some 68 := (h.2 (19, 68, 21, 260) (List.mem_of_getElem? (i := 10) rfl)).1
theorem moA_68 {w : gx_W} (h : moO w) : w.1[68]? = some (21, 260) := (h.2 (19, 68, 21, 260) (List.mem_of_getElem? (i := 10) rfl)).2
theorem moR_69 {w : gx_W} (h : moO w) : w_r w 57 20 = some 69 := (h.2 (20, 69, 20, 260) (List.mem_of_getElem? (i := 11) rfl)).1
theorem moA_69 {w : gx_W} (h : moO w) : w.1[69]? = some (20, 260) := (h.2 (20, 69, 20, 260) (List.mem_of_getElem? (i := 11) rfl)).2
theorem moR_70 {w : gx_W} (h : moO w) : w_r w 57 21 = some 70 := (h.2 (21, 70, 20, 2) (List.mem_of_getElem? (i := 12) rfl)).1
theorem moA_70 {w : gx_W} (h : moO w) : w.1[70]? = some (20, 2) := (h.2 (21, 70, 20, 2) (List.mem_of_getElem? (i := 12) rfl)).2
theorem moR_71 {w : gx_W} (h : moO w) : w_r w 57 22 = some 71 := (h.2 (22, 71, 22, 122) (List.mem_of_getElem? (i := 13) rfl)).1
theorem moA_71 {w : gx_W} (h : moO w) : w.1[71]? = some (22, 122) := (h.2 (22, 71, 22, 122) (List.mem_of_getElem? (i := 13) rfl)).2
theorem moR_72 {w : gx_W} (h : moO w) : w_r w 57 23 = some 72 := (h.2 (23, 72, 22, 122) (List.mem_of_getElem? (i := 14) rfl)).1
theorem moA_72 {w : gx_W} (h : moO w) : w.1[72]? = some (22, 122) := (h.2 (23, 72, 22, 122) (List.mem_of_getElem? (i := 14) rfl)).2
theorem moR_73 {w : gx_W} (h : moO w) : w_r w 57 24 = some 73 := (h.2 (24, 73, 20, 6) (List.mem_of_getElem? (i := 15) rfl)).1
theorem moA_73 {w : gx_W} (h : moO w) : w.1[73]? = some (20, 6) := (h.2 (24, 73, 20, 6) (List.mem_of_getElem? (i := 15) rfl)).2
theorem moR_74 {w : gx_W} (h : moO w) : w_r w 57 25 = some 74 := (h.2 (25, 74, 20, 130) (List.mem_of_getElem? (i := 16) rfl)).1
theorem moA_74 {w : gx_W} (h : moO w) : w.1[74]? = some (20, 130) := (h.2 (25, 74, 20, 130) (List.mem_of_getElem? (i := 16) rfl)).2
theorem moR_75 {w : gx_W} (h : moO w) : w_r w 57 27 = some 75 := (h.2 (27, 75, 20, 6) (List.mem_of_getElem? (i := 17) rfl)).1
theorem moA_75 {w : gx_W} (h : moO w) : w.1[75]? = some (20, 6) := (h.2 (27, 75, 20, 6) (List.mem_of_getElem? (i := 17) rfl)).2
theorem moR_76 {w : gx_W} (h : moO w) : w_r w 57 28 = some 76 := (h.2 (28, 76, 20, 6) (List.mem_of_getElem? (i := 18) rfl)).1
theorem moA_76 {w : gx_W} (h : moO w) : w.1[76]? = some (20, 6) := (h.2 (28, 76, 20, 6) (List.mem_of_getElem? (i := 18) rfl)).2
theorem moR_77 {w : gx_W} (h : moO w) : w_r w 57 29 = some 77 := (h.2 (29, 77, 20, 6) (List.mem_of_getElem? (i := 19) rfl)).1
theorem moA_77 {w : gx_W} (h : moO w) : w.1[77]? = some (20, 6) := (h.2 (29, 77, 20, 6) (List.mem_of_getElem? (i := 19) rfl)).2
theorem moR_78 {w : gx_W} (h : moO w) : w_r w 57 30 = some 78 := (h.2 (30, 78, 20, 6) (List.mem_of_getElem? (i := 20) rfl)).1
theorem moA_78 {w : gx_W} (h : moO w) : w.1[78]? = some (20, 6) := (h.2 (30, 78, 20, 6) (List.mem_of_getElem? (i := 20) rfl)).2
theorem moR_79 {w : gx_W} (h : moO w) : w_r w 57 32 = some 79 := (h.2 (32, 79, 20, 24) (List.mem_of_getElem? (i := 21) rfl)).1
theorem moA_79 {w : gx_W} (h : moO w) : w.1[79]? = some (20, 24) := (h.2 (32, 79, 20, 24) (List.mem_of_getElem? (i := 21) rfl)).2
theorem moR_80 {w : gx_W} (h : moO w) : w_r w 57 33 = some 80 := (h.2 (33, 80, 20, 3) (List.mem_of_getElem? (i := 22) rfl)).1
theorem moA_80 {w : gx_W} (h : moO w) : w.1[80]? = some (20, 3) := (h.2 (33, 80, 20, 3) (List.mem_of_getElem? (i := 22) rfl)).2
theorem moR_81 {w : gx_W} (h : moO w) : w_r w 57 34 = some 81 := (h.2 (34, 81, 20, 6) (List.mem_of_getElem? (i := 23) rfl)).1
theorem moA_81 {w : gx_W} (h : moO w) : w.1[81]? = some (20, 6) := (h.2 (34, 81, 20, 6) (List.mem_of_getElem? (i := 23) rfl)).2
theorem moR_82 {w : gx_W} (h : moO w) : w_r w 57 36 = some 82 := (h.2 (36, 82, 20, 4) (List.mem_of_getElem? (i := 24) rfl)).1
theorem moA_82 {w : gx_W} (h : moO w) : w.1[82]? = some (20, 4) := (h.2 (36, 82, 20, 4) (List.mem_of_getElem? (i := 24) rfl)).2
theorem moR_83 {w : gx_W} (h : moO w) : w_r w 57 41 = some 83 := (h.2 (41, 83, 20, 6) (List.mem_of_getElem? (i := 25) rfl)).1
theorem moA_83 {w : gx_W} (h : moO w) : w.1[83]? = some (20, 6) := (h.2 (41, 83, 20, 6) (List.mem_of_getElem? (i := 25) rfl)).2
theorem moR_84 {w : gx_W} (h : moO w) : w_r w 57 42 = some 84 := (h.2 (42, 84, 20, 4) (List.mem_of_getElem? (i := 26) rfl)).1
theorem moA_84 {w : gx_W} (h : moO w) : w.1[84]? = some (20, 4) := (h.2 (42, 84, 20, 4) (List.mem_of_getElem? (i := 26) rfl)).2
theorem moR_85 {w : gx_W} (h : moO w) : w_r w 57 44 = some 85 := (h.2 (44, 85, 20, 50) (List.mem_of_getElem? (i := 27) rfl)).1
theorem moA_85 {w : gx_W} (h : moO w) : w.1[85]? = some (20, 50) := (h.2 (44, 85, 20, 50) (List.mem_of_getElem? (i := 27) rfl)).2
theorem moR_86 {w : gx_W} (h : moO w) : w_r w 57 46 = some 86 := (h.2 (46, 86, 20, 24) (List.mem_of_getElem? (i := 28) rfl)).1
theorem moA_86 {w : gx_W} (h : moO w) : w.1[86]? = some (20, 24) := (h.2 (46, 86, 20, 24) (List.mem_of_getElem? (i := 28) rfl)).2
theorem moR_87 {w : gx_W} (h : moO w) : w_r w 57 47 = some 87 := (h.2 (47, 87, 20, 6) (List.mem_of_getElem? (i := 29) rfl)).1
theorem moA_87 {w : gx_W} (h : moO w) : w.1[87]? = some (20, 6) := (h.2 (47, 87, 20, 6) (List.mem_of_getElem? (i := 29) rfl)).2
theorem moR_88 {w : gx_W} (h : moO w) : w_r w 57 48 = some 88 := (h.2 (48, 88, 20, 6) (List.mem_of_getElem? (i := 30) rfl)).1
theorem moA_88 {w : gx_W} (h : moO w) : w.1[88]? = some (20, 6) := (h.2 (48, 88, 20, 6) (List.mem_of_getElem? (i := 30) rfl)).2
theorem moR_89 {w : gx_W} (h : moO w) : w_r w 57 49 = some 89 := (h.2 (49, 89, 23, 360) (List.mem_of_getElem? (i := 31) rfl)).1
theorem moA_89 {w : gx_W} (h : moO w) : w.1[89]? = some (23, 360) := (h.2 (49, 89, 23, 360) (List.mem_of_getElem? (i := 31) rfl)).2
theorem moR_90 {w : gx_W} (h : moO w) : w_r w 57 50 = some 90 := (h.2 (50, 90, 23, 60) (List.mem_of_getElem? (i := 32) rfl)).1
theorem moA_90 {w : gx_W} (h : moO w) : w.1[90]? = some (23, 60) := (h.2 (50, 90, 23, 60) (List.mem_of_getElem? (i := 32) rfl)).2
theorem c_X10_in {d : Nat} {w : gx_W} {v a b : Int32} {k : Int32 → gx_W → Prop} (hd : 0 ≤ d) (kt : a ≤ v → v ≤ b → k 1 w) (kf : ¬ (a ≤ v ∧ v ≤ b) → k 0 w) : gx_C 0 0 d mX10_in [.int v, .int a, .int b] w (Qi k) := by
  refine gx_C_of' (L := [.int v, .int a, .int b]) (by decide +kernel) rfl (Nat.le_of_ble_eq_true rfl) ?_
  refine g_iload_n dX10_in_0 rfl ?_
  refine g_iload_n dX10_in_1 rfl ?_
  refine g_icmp_lt (tgt := 14) dX10_in_2 (by decide) (fun zc2 => ?_) (fun zc2 => ?_)
  · refine g_iconst (v := 0) dX10_in_14 rfl ?_
    refine g_zret dX10_in_15 rfl (Or.inl rfl) ⟨_, rfl, ?_⟩
    exact kf (fun q => absurd zc2 (Int32.not_lt.mpr q.1))
  · refine g_iload_n dX10_in_5 rfl ?_
    refine g_iload_n dX10_in_6 rfl ?_
    refine g_icmp_gt (tgt := 14) dX10_in_7 (by decide) (fun zc7 => ?_) (fun zc7 => ?_)
    · refine g_iconst (v := 0) dX10_in_14 rfl ?_
      refine g_zret dX10_in_15 rfl (Or.inl rfl) ⟨_, rfl, ?_⟩
      exact kf (fun q => absurd zc7 (Int32.not_lt.mpr q.2))
    · refine g_iconst (v := 1) dX10_in_10 rfl ?_
      refine g_goto (tgt := 15) dX10_in_11 (by decide) ?_
      refine g_zret dX10_in_15 rfl (Or.inr rfl) ⟨_, rfl, ?_⟩
      exact kt (Int32.not_lt.mp zc2) (Int32.not_lt.mp zc7)
theorem c_inN {d H : Nat} {w : gx_W} {v b : Int32} {k : Int32 → gx_W → Prop} (hb : b = nI H) (hH : H < 2 ^ 31) (kt : ∀ m, v = nI m → m ≤ H → k 1 w) (kf : (∀ m, m ≤ H → v ≠ nI m) → k 0 w) : gx_C 0 0 d mX10_in [.int v, .int 0, .int b] w (Qi k) := by
  subst hb
  refine c_X10_in (Nat.zero_le _) (fun h1 h2 => ?_) (fun h => kf (fun m hm e => h ?_))
  · obtain ⟨m, hm, e⟩ := nI_of2 (M := nI H) (n := H) (nI_toInt hH) (Int32.not_lt.mpr h1) h2
    exact kt m e hm
  · subst e
    exact ⟨nI_pos' (by omega), nI_le hm hH⟩
theorem c_inR {d n : Nat} {w : gx_W} {v : Int32} {k : Int32 → gx_W → Prop} (hn : n < 2 ^ 31) (kt : ∀ m, v = nI m → m < n → k 1 w) (kf : (∀ m, m < n → v ≠ nI m) → k 0 w) : gx_C 0 0 d mX10_in [.int v, .int 0, .int (nI n - 1)] w (Qi k) := by
  cases n with
  | zero =>
    refine c_X10_in (Nat.zero_le _) (fun h1 h2 => ?_) (fun h => kf (fun m hm => absurd hm (Nat.not_lt_zero _)))
    exact absurd (Int32.le_trans h1 h2) (by decide)
  | succ n =>
    rw [nI_pred]
    exact c_inN rfl (by omega) (fun m e hm => kt m e (by omega)) (fun h => kf (fun m hm => h m (by omega)))
/-- the numbers of the roads and of the crossing, but for waits -/
def mxN (w : gx_W) (f : Nat → Int32) (n : Nat) : Prop := w_i w 57 1 = nI n ∧ n ≤ 6 ∧ (∀ j, j < n → w_a w 58 j = f j) ∧ (∀ j, j < n → w_a w 59 j = f (6 + j)) ∧ (∀ j, j < n → w_a w 60 j = f (12 + j)) ∧ ∀ j, j < 4 → w_a w 62 j = f (24 + j)
theorem mxN.same {R : List Nat} {F : List (Nat × Nat)} {w w' : gx_W} {f : Nat → Int32} {n : Nat} (h : mxN w f n) (hs : same R F w w') (h1 : (57, 1) ∉ F) (h2 : 58 ∉ R ∧ 59 ∉ R ∧ 60 ∉ R ∧ 62 ∉ R) : mxN w' f n := by
  obtain ⟨g1, g2, g3, g4, g5, g6⟩ := h
  have e := fun k q => (hs.2.2.2.1 k q).1
  exact ⟨(hs.2.1 57 1 h1).trans g1, g2, by rw [e 58 h2.1]; exact g3, by rw [e 59 h2.2.1]; exact g4, by rw [e 60 h2.2.2.1]; exact g5, by rw [e 62 h2.2.2.2]; exact g6⟩
theorem c_X10_isRoad {d : Nat} {w : gx_W} {n : Nat} {x : Int32} {k : Int32 → gx_W → Prop} (hd : 1 ≤ d) (h : moO w) (hn : w_i w 57 1 = nI n) (hn6 : n ≤ 6) (kt : ∀ m, x = nI m → m < n → k 1 w) (kf : (∀ m, m < n → x ≠ nI m) → k 0 w) : gx_C 0 0 d mX10_isRoad [.ref 57, .int x] w (Qi k) := by
  refine gx_C_of' (L := [.ref 57, .int x]) (by decide +kernel) rfl (Nat.le_of_ble_eq_true rfl) ?_
  refine g_iload_n dX10_isRoad_0 rfl ?_
  refine g_iconst (v := 0) dX10_isRoad_1 rfl ?_
  refine g_aload_n dX10_isRoad_2 rfl ?_
  refine g_geti dX10_isRoad_3 fl_X10_121 h.1 ?_
  refine g_iconst (v := 1) dX10_isRoad_6 rfl ?_
  refine g_isub dX10_isRoad_7 ?_
  rw [hn]
  refine g_cS3i dX10_isRoad_8 ml_X10_124 mi_X10_in ms_X10_in (Nat.le_of_ble_eq_true rfl) rfl (by omega) ?_
  refine c_inR (by omega) (fun m e hm => ?_) (fun nx => ?_)
  · refine g_zret dX10_isRoad_11 rfl (Or.inr rfl) ⟨_, rfl, ?_⟩
    exact kt m e hm
  · refine g_zret dX10_isRoad_11 rfl (Or.inl rfl) ⟨_, rfl, ?_⟩
    exact kf nx
theorem c_X10_isBody {d : Nat} {w : gx_W} {n : Nat} {x : Int32} {k : Int32 → gx_W → Prop} (hd : 1 ≤ d) (h : moO w) (hn : w_i w 57 43 = nI n) (hn6 : n ≤ 50) (kt : ∀ m, x = nI m → m < n → k 1 w) (kf : (∀ m, m < n → x ≠ nI m) → k 0 w) : gx_C 0 0 d mX10_isBody [.ref 57, .int x] w (Qi k) := by
  refine gx_C_of' (L := [.ref 57, .int x]) (by decide +kernel) rfl (Nat.le_of_ble_eq_true rfl) ?_
  refine g_iload_n dX10_isBody_0 rfl ?_
  refine g_iconst (v := 0) dX10_isBody_1 rfl ?_
  refine g_aload_n dX10_isBody_2 rfl ?_
  refine g_geti dX10_isBody_3 fl_X10_333 h.1 ?_
  refine g_iconst (v := 1) dX10_isBody_6 rfl ?_
  refine g_isub dX10_isBody_7 ?_
  rw [hn]
  refine g_cS3i dX10_isBody_8 ml_X10_124 mi_X10_in ms_X10_in (Nat.le_of_ble_eq_true rfl) rfl (by omega) ?_
  refine c_inR (by omega) (fun m e hm => ?_) (fun nx => ?_)
  · refine g_zret dX10_isBody_11 rfl (Or.inr rfl) ⟨_, rfl, ?_⟩
    exact kt m e hm
  · refine g_zret dX10_isBody_11 rfl (Or.inl rfl) ⟨_, rfl, ?_⟩
    exact kf nx
theorem c_X10_isComer {d : Nat} {w : gx_W} {x : Int32} {k : Int32 → gx_W → Prop} (hd : 1 ≤ d) (kt : ∀ m, x = nI m → m < 100 → k 1 w) (kf : (∀ m, m < 100 → x ≠ nI m) → k 0 w) : gx_C 0 0 d mX10_isComer [.int x] w (Qi k) := by
  refine gx_C_of' (L := [.int x]) (by decide +kernel) rfl (Nat.le_of_ble_eq_true rfl) ?_
  refine g_iload_n dX10_isComer_0 rfl ?_
  refine g_iconst (v := 0) dX10_isComer_1 rfl ?_
  refine g_bipush (v := 99) dX10_isComer_2 rfl ?_
  refine g_cS3i dX10_isComer_4 ml_X10_124 mi_X10_in ms_X10_in (Nat.le_of_ble_eq_true rfl) rfl (by omega) ?_
  refine c_inN (H := 99) rfl (by decide) (fun m e hm => ?_) (fun nx => ?_)
  · refine g_zret dX10_isComer_7 rfl (Or.inr rfl) ⟨_, rfl, ?_⟩
    exact kt m e (by omega)
  · refine g_zret dX10_isComer_7 rfl (Or.inl rfl) ⟨_, rfl, ?_⟩
    exact kf (fun m hm => nx m (by omega))
theorem c_X10_isShelf {d : Nat} {w : gx_W} {x : Int32} {k : Int32 → gx_W → Prop} (hd : 1 ≤ d) (kt : ∀ m, x = nI m → m < 6 → k 1 w) (kf : (∀ m, m < 6 → x ≠ nI m) → k 0 w) : gx_C 0 0 d mX10_isShelf [.int x] w (Qi k) := by
  refine gx_C_of' (L := [.int x]) (by decide +kernel) rfl (Nat.le_of_ble_eq_true rfl) ?_
  refine g_iload_n dX10_isShelf_0 rfl ?_
  refine g_iconst (v := 0) dX10_isShelf_1 rfl ?_
  refine g_iconst (v := 5) dX10_isShelf_2 rfl ?_
  refine g_cS3i dX10_isShelf_3 ml_X10_124 mi_X10_in ms_X10_in (Nat.le_of_ble_eq_true rfl) rfl (by omega) ?_
  refine c_inN (H := 5) rfl (by decide) (fun m e hm => ?_) (fun nx => ?_)
  · refine g_zret dX10_isShelf_6 rfl (Or.inr rfl) ⟨_, rfl, ?_⟩
    exact kt m e (by omega)
  · refine g_zret dX10_isShelf_6 rfl (Or.inl rfl) ⟨_, rfl, ?_⟩
    exact kf (fun m hm => nx m (by omega))
theorem c_X10_areMany {d : Nat} {w : gx_W} {x : Int32} {k : Int32 → gx_W → Prop} (hd : 1 ≤ d) (kt : ∀ m, x = nI m → m < 61 → k 1 w) (kf : (∀ m, m < 61 → x ≠ nI m) → k 0 w) : gx_C 0 0 d mX10_areMany [.int x] w (Qi k) := by
  refine gx_C_of' (L := [.int x]) (by decide +kernel) rfl (Nat.le_of_ble_eq_true rfl) ?_
  refine g_iload_n dX10_areMany_0 rfl ?_
  refine g_iconst (v := 0) dX10_areMany_1 rfl ?_
  refine g_bipush (v := 60) dX10_areMany_2 rfl ?_
  refine g_cS3i dX10_areMany_4 ml_X10_124 mi_X10_in ms_X10_in (Nat.le_of_ble_eq_true rfl) rfl (by omega) ?_
  refine c_inN (H := 60) rfl (by decide) (fun m e hm => ?_) (fun nx => ?_)
  · refine g_zret dX10_areMany_7 rfl (Or.inr rfl) ⟨_, rfl, ?_⟩
    exact kt m e (by omega)
  · refine g_zret dX10_areMany_7 rfl (Or.inl rfl) ⟨_, rfl, ?_⟩
    exact kf (fun m hm => nx m (by omega))
theorem c_X10_areComer {d : Nat} {w : gx_W} {n : Nat} {x : Int32} {k : Int32 → gx_W → Prop} (hd : 2 ≤ d) (h : moO w) (hn : w_i w 57 1 = nI n) (hn6 : n ≤ 6) (kt : ∀ q c, x = nI (100 * q + c) → c < 100 → q < n → k 1 w) (kf : (∀ q c, c < 100 → q < n → x ≠ nI (100 * q + c)) → k 0 w) : gx_C 0 0 d mX10_areComer [.ref 57, .int x] w (Qi k) := by
  refine gx_C_of' (L := [.ref 57, .int x]) (by decide +kernel) rfl (Nat.le_of_ble_eq_true rfl) ?_
  refine g_iload_n dX10_areComer_0 rfl ?_
  refine g_if_lt (tgt := 19) dX10_areComer_1 (by decide) (fun zc1 => ?_) (fun zc1 => ?_)
  · refine g_iconst (v := 0) dX10_areComer_19 rfl ?_
    refine g_zret dX10_areComer_20 rfl (Or.inl rfl) ⟨_, rfl, ?_⟩
    exact kf (fun q c hc hq e => absurd zc1 (by rw [e]; exact nI_pos (by omega)))
  · obtain ⟨y, hy, ey⟩ := nI_of (show ¬ x < 0 from zc1)
    have ed : x / 100 = nI (y / 100) := by rw [ey, show (100 : Int32) = nI 100 from rfl, pk_div hy (by decide) (by decide)]
    refine g_aload_n dX10_areComer_4 rfl ?_
    refine g_iload_n dX10_areComer_5 rfl ?_
    refine g_bipush (v := 100) dX10_areComer_6 rfl ?_
    refine g_idiv dX10_areComer_8 (by decide) ?_
    rw [ed]
    refine g_cV1i dX10_areComer_9 ml_X10_128 mi_X10_isRoad mv_X10_isRoad h.1 ⟨_, rfl, rfl⟩ (Nat.le_of_ble_eq_true rfl) rfl (by omega) ?_
    refine c_X10_isRoad (by omega) h hn hn6 (fun m e hm => ?_) (fun nx => ?_)
    · refine g_if_eq (tgt := 19) dX10_areComer_12 (by decide) (fun q => absurd q (by decide)) (fun _ => ?_)
      refine g_iconst (v := 1) dX10_areComer_15 rfl ?_
      refine g_goto (tgt := 20) dX10_areComer_16 (by decide) ?_
      refine g_zret dX10_areComer_20 rfl (Or.inr rfl) ⟨_, rfl, ?_⟩
      have em : y / 100 = m := pI_inj (by omega) (by omega) e
      exact kt m (y % 100) (by rw [ey]; congr 1; omega) (by omega) hm
    · refine g_if_eq (tgt := 19) dX10_areComer_12 (by decide) (fun _ => ?_) (fun q => absurd q (by decide))
      refine g_iconst (v := 0) dX10_areComer_19 rfl ?_
      refine g_zret dX10_areComer_20 rfl (Or.inl rfl) ⟨_, rfl, ?_⟩
      refine kf (fun q c hc hq e => nx q hq ?_)
      have ez : y = 100 * q + c := pI_inj hy (by omega) (ey.symm.trans e)
      rw [show y / 100 = q by omega]

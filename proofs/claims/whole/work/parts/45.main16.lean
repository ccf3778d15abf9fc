/-! CrossroadsChoose: last, unlike -/
/-- the record of the first m elements of a shelf as a day -/
def me_day (w : gx_W) (n l N i m ln : Nat) : thS := th_day N (w_a w (l + 1)) (w_a w (l + 2)) n (fun j => (w_l w (46 + 2 * i) j).toInt32.toNatClampNeg) (sh_com (fun j => isCo (w_l w (46 + 2 * i) j).toInt32) (min m ln)) (th_0 w)
theorem c_X9_last {d : Nat} {w : gx_W} {n l N : Nat} {ln : Nat → Nat} {x y : Int32} {k : Int32 → gx_W → Prop} (hd : 8 ≤ d) (hT : isT w) (h : clO w) (hc : isCk w 37 38 n l N) (ho : thO w) (h43 : isCr w 43 44) (hl : ∀ i, i < 6 → isSn w (45 + 2 * i) (46 + 2 * i) (ln i)) (k0 : (∀ m, m ≤ 60 → y ≠ nI m) → k (-1) w) (k1 : (∀ i, i < 6 → x ≠ nI i) → k (-1) w) (k2 : ∀ m i, y = nI m → m ≤ 60 → x = nI i → i < 6 → w_i w (45 + 2 * i) 1 = 0 → k (-11) w) (k4 : ∀ m i, y = nI m → m ≤ 60 → x = nI i → i < 6 → ¬ w_i w (45 + 2 * i) 1 = 0 → ¬ (w_i w (45 + 2 * i) 1 = 2 ∧ w_i w (45 + 2 * i) 3 = 0) → k (-12) w) (k3 : ∀ m i, y = nI m → m ≤ 60 → x = nI i → i < 6 → w_i w (45 + 2 * i) 1 = 2 → w_i w (45 + 2 * i) 3 = 0 → ∀ w', thJ w w' n l N (me_day w n l N i m (ln i)) → k (me_day w n l N i m (ln i)).2.2.2.2.2.1 w') : gx_C 0 0 d mX9_last [.ref 6, .int x, .int y] w (Qi k) := by
  refine gx_C_of' (L := [.ref 6, .int x, .int y, .retAddr 0]) (by decide +kernel) rfl (Nat.le_of_ble_eq_true rfl) ?_
  refine g_aload_n dX9_last_0 rfl ?_
  refine g_iload_n dX9_last_1 rfl ?_
  refine g_iload_n dX9_last_2 rfl ?_
  refine g_cV2i dX9_last_3 ml_X9_154 mi_X9_dayRefusal mv_X9_dayRefusal h.1 ⟨_, rfl, rfl⟩ (Nat.le_of_ble_eq_true rfl) rfl (by omega) ?_
  refine c_X9_dayRefusal (by omega) h (fun hy => ?_) (fun hn => ?_) (fun m i ey hm e hi f1 => ?_) (fun m i ey hm e hi f1 f2 => ?_) (fun m i ey hm e hi f1 f2 => ?_)
  · refine g_istore_n dX9_last_6 (Nat.le_of_ble_eq_true rfl) rfl ?_
    refine g_iload_n dX9_last_7 rfl ?_
    refine g_if_eq (tgt := 13) dX9_last_8 (by decide) (fun q => absurd q (by decide)) (fun _ => ?_)
    refine g_iload_n dX9_last_11 rfl ?_
    refine g_iret dX9_last_12 rfl ⟨_, rfl, ?_⟩
    exact k0 hy
  · refine g_istore_n dX9_last_6 (Nat.le_of_ble_eq_true rfl) rfl ?_
    refine g_iload_n dX9_last_7 rfl ?_
    refine g_if_eq (tgt := 13) dX9_last_8 (by decide) (fun q => absurd q (by decide)) (fun _ => ?_)
    refine g_iload_n dX9_last_11 rfl ?_
    refine g_iret dX9_last_12 rfl ⟨_, rfl, ?_⟩
    exact k1 hn
  · refine g_istore_n dX9_last_6 (Nat.le_of_ble_eq_true rfl) rfl ?_
    refine g_iload_n dX9_last_7 rfl ?_
    refine g_if_eq (tgt := 13) dX9_last_8 (by decide) (fun q => absurd q (by decide)) (fun _ => ?_)
    refine g_iload_n dX9_last_11 rfl ?_
    refine g_iret dX9_last_12 rfl ⟨_, rfl, ?_⟩
    exact k2 m i ey hm e hi f1
  · refine g_istore_n dX9_last_6 (Nat.le_of_ble_eq_true rfl) rfl ?_
    refine g_iload_n dX9_last_7 rfl ?_
    refine g_if_eq (tgt := 13) dX9_last_8 (by decide) (fun _ => ?_) (fun q => absurd q (by decide))
    refine g_aload_n dX9_last_13 rfl ?_
    refine g_aload_n dX9_last_14 rfl ?_
    refine g_iload_n dX9_last_15 rfl ?_
    refine g_cV1q dX9_last_16 ml_X9_91 mi_X9_shelfAt mv_X9_shelfAt h.1 ⟨_, rfl, rfl⟩ (Nat.le_of_ble_eq_true rfl) rfl (by omega) ?_
    refine c_X9_shelfAt (by omega) h (fun j e2 hj => ?_) (fun hn2 => ?_)
    · have ej : j = i := pI_inj (by omega) (by omega) (e2.symm.trans e)
      subst ej
      subst ey
      refine g_iload_n dX9_last_19 rfl ?_
      refine g_cV2v dX9_last_20 ml_X9_157 mi_X9_thinkDay mv_X9_thinkDay h.1 ⟨_, rfl, rfl⟩ (Nat.le_of_ble_eq_true rfl) rfl (by omega) ?_
      refine c_X9_thinkDay (by omega) hT h hc ho h43 hj (hl j hj) hm (fun w1 I1 => ?_)
      refine g_aload_n dX9_last_23 rfl ?_
      refine g_getr dX9_last_24 fl_X9_74 (clO_th h I1.1).1 (clO_th h I1.1).2.1.2.1 ?_
      refine g_geti dX9_last_27 fl_X9_161 I1.2.1.1 ?_
      refine g_iret dX9_last_30 rfl ⟨_, rfl, ?_⟩
      have e9 : w_i w1 39 5 = (me_day w n l N j m (ln j)).2.2.2.2.2.1 := I1.2.2.2.2.2.2.2.2.1
      rw [e9]
      exact k3 m j rfl hm e2 hj f1 f2 w1 I1
    · exact absurd e (hn2 i hi)
  · refine g_istore_n dX9_last_6 (Nat.le_of_ble_eq_true rfl) rfl ?_
    refine g_iload_n dX9_last_7 rfl ?_
    refine g_if_eq (tgt := 13) dX9_last_8 (by decide) (fun q => absurd q (by decide)) (fun _ => ?_)
    refine g_iload_n dX9_last_11 rfl ?_
    refine g_iret dX9_last_12 rfl ⟨_, rfl, ?_⟩
    exact k4 m i ey hm e hi f1 f2
theorem c_X9_unlike {d : Nat} {w : gx_W} {n l N : Nat} {ln : Nat → Nat} {x y : Int32} {k : Int32 → gx_W → Prop} (hd : 8 ≤ d) (hT : isT w) (h : clO w) (hc : isCk w 37 38 n l N) (ho : thO w) (h43 : isCr w 43 44) (hl : ∀ i, i < 6 → isSn w (45 + 2 * i) (46 + 2 * i) (ln i)) (k0 : (∀ m, m ≤ 60 → y ≠ nI m) → k (-1) w) (k1 : (∀ i, i < 6 → x ≠ nI i) → k (-1) w) (k2 : ∀ m i, y = nI m → m ≤ 60 → x = nI i → i < 6 → w_i w (45 + 2 * i) 1 = 0 → k (-11) w) (k4 : ∀ m i, y = nI m → m ≤ 60 → x = nI i → i < 6 → ¬ w_i w (45 + 2 * i) 1 = 0 → ¬ (w_i w (45 + 2 * i) 1 = 2 ∧ w_i w (45 + 2 * i) 3 = 0) → k (-12) w) (k3 : ∀ m i, y = nI m → m ≤ 60 → x = nI i → i < 6 → w_i w (45 + 2 * i) 1 = 2 → w_i w (45 + 2 * i) 3 = 0 → ∀ w', thJ w w' n l N (me_day w n l N i m (ln i)) → (n = 0 → k 0 w') ∧ ∀ r, n = r + 1 → k (th_max (w_a w' 40) r - th_min (w_a w' 40) r) w') : gx_C 0 0 d mX9_unlike [.ref 6, .int x, .int y] w (Qi k) := by
  refine gx_C_of' (L := [.ref 6, .int x, .int y, .retAddr 0]) (by decide +kernel) rfl (Nat.le_of_ble_eq_true rfl) ?_
  refine g_aload_n dX9_unlike_0 rfl ?_
  refine g_iload_n dX9_unlike_1 rfl ?_
  refine g_iload_n dX9_unlike_2 rfl ?_
  refine g_cV2i dX9_unlike_3 ml_X9_154 mi_X9_dayRefusal mv_X9_dayRefusal h.1 ⟨_, rfl, rfl⟩ (Nat.le_of_ble_eq_true rfl) rfl (by omega) ?_
  refine c_X9_dayRefusal (by omega) h (fun hy => ?_) (fun hn => ?_) (fun m i ey hm e hi f1 => ?_) (fun m i ey hm e hi f1 f2 => ?_) (fun m i ey hm e hi f1 f2 => ?_)
  · refine g_istore_n dX9_unlike_6 (Nat.le_of_ble_eq_true rfl) rfl ?_
    refine g_iload_n dX9_unlike_7 rfl ?_
    refine g_if_eq (tgt := 13) dX9_unlike_8 (by decide) (fun q => absurd q (by decide)) (fun _ => ?_)
    refine g_iload_n dX9_unlike_11 rfl ?_
    refine g_iret dX9_unlike_12 rfl ⟨_, rfl, ?_⟩
    exact k0 hy
  · refine g_istore_n dX9_unlike_6 (Nat.le_of_ble_eq_true rfl) rfl ?_
    refine g_iload_n dX9_unlike_7 rfl ?_
    refine g_if_eq (tgt := 13) dX9_unlike_8 (by decide) (fun q => absurd q (by decide)) (fun _ => ?_)
    refine g_iload_n dX9_unlike_11 rfl ?_
    refine g_iret dX9_unlike_12 rfl ⟨_, rfl, ?_⟩
    exact k1 hn
  · refine g_istore_n dX9_unlike_6 (Nat.le_of_ble_eq_true rfl) rfl ?_
    refine g_iload_n dX9_unlike_7 rfl ?_
    refine g_if_eq (tgt := 13) dX9_unlike_8 (by decide) (fun q => absurd q (by decide)) (fun _ => ?_)
    refine g_iload_n dX9_unlike_11 rfl ?_
    refine g_iret dX9_unlike_12 rfl ⟨_, rfl, ?_⟩
    exact k2 m i ey hm e hi f1
  · refine g_istore_n dX9_unlike_6 (Nat.le_of_ble_eq_true rfl) rfl ?_
    refine g_iload_n dX9_unlike_7 rfl ?_
    refine g_if_eq (tgt := 13) dX9_unlike_8 (by decide) (fun _ => ?_) (fun q => absurd q (by decide))
    refine g_aload_n dX9_unlike_13 rfl ?_
    refine g_aload_n dX9_unlike_14 rfl ?_
    refine g_iload_n dX9_unlike_15 rfl ?_
    refine g_cV1q dX9_unlike_16 ml_X9_91 mi_X9_shelfAt mv_X9_shelfAt h.1 ⟨_, rfl, rfl⟩ (Nat.le_of_ble_eq_true rfl) rfl (by omega) ?_
    refine c_X9_shelfAt (by omega) h (fun j e2 hj => ?_) (fun hn2 => ?_)
    · have ej : j = i := pI_inj (by omega) (by omega) (e2.symm.trans e)
      subst ej
      subst ey
      refine g_iload_n dX9_unlike_19 rfl ?_
      refine g_cV2v dX9_unlike_20 ml_X9_157 mi_X9_thinkDay mv_X9_thinkDay h.1 ⟨_, rfl, rfl⟩ (Nat.le_of_ble_eq_true rfl) rfl (by omega) ?_
      refine c_X9_thinkDay (by omega) hT h hc ho h43 hj (hl j hj) hm (fun w1 I1 => ?_)
      refine g_aload_n dX9_unlike_23 rfl ?_
      refine g_getr dX9_unlike_24 fl_X9_74 (clO_th h I1.1).1 (clO_th h I1.1).2.1.2.1 ?_
      refine g_cV0i dX9_unlike_27 ml_X9_177 mi_X7_unlikeness mv_X7_unlikeness I1.2.1.1 ⟨_, rfl, rfl⟩ (Nat.le_of_ble_eq_true rfl) rfl (by omega) ?_
      refine c_X7_unlikeness (by omega) I1.2.1 I1.2.2.1.1.1 (fun z => ?_) (fun r z => ?_)
      · refine g_iret dX9_unlike_30 rfl ⟨_, rfl, ?_⟩
        exact (k3 m j rfl hm e2 hj f1 f2 w1 I1).1 z
      · refine g_iret dX9_unlike_30 rfl ⟨_, rfl, ?_⟩
        exact (k3 m j rfl hm e2 hj f1 f2 w1 I1).2 r z
    · exact absurd e (hn2 i hi)
  · refine g_istore_n dX9_unlike_6 (Nat.le_of_ble_eq_true rfl) rfl ?_
    refine g_iload_n dX9_unlike_7 rfl ?_
    refine g_if_eq (tgt := 13) dX9_unlike_8 (by decide) (fun q => absurd q (by decide)) (fun _ => ?_)
    refine g_iload_n dX9_unlike_11 rfl ?_
    refine g_iret dX9_unlike_12 rfl ⟨_, rfl, ?_⟩
    exact k4 m i ey hm e hi f1 f2

/-! the law's own walk -/
set_option maxHeartbeats 1000000 in
theorem law_holds (Ls : Nat) (xs : Nat → Int32) (hL : Ls ≤ 3072) : gx_G 100000 1000000 800 mL_law (fun r _ => r = some (.int 1)) 0 (gx_in [.ref 0] 4) [] (gx_w0 Ls xs) := by
  show gx_G 100000 1000000 800 mL_law (fun r _ => r = some (.int 1)) 0 [.ref 0, .retAddr 0, .retAddr 0, .retAddr 0] [] (y0 Ls xs)
  refine g_mk (w' := (y1 Ls xs)) (K := 11) (r := 6) (ci := 9) (nc := 99999) (ns := 999989) (y_len yk0 (by decide)) dL_law_0 rfl rfl kl_L_7 kn_9 ki_9 rfl ?_
  refine g_dup dL_law_3 rfl ?_
  refine g_cI0 (nc := 99949) (ns := 998431) (mc := 50) (ms := 1558) dL_law_4 ml_L_9 mi_X9_init mn_X9_init rfl rfl (Nat.le_of_ble_eq_true rfl) rfl (by omega) ?_
  refine c_X9_init_1 (Ls := Ls) (xs := xs) (by omega) g_multi ?_
  refine g_astore_n dL_law_7 (Nat.le_of_ble_eq_true rfl) rfl ?_
  refine g_mk (w' := (y104 Ls xs)) (K := 51) (r := 57) (ci := 10) (nc := 99948) (ns := 998380) (y_len yk103 (by decide)) dL_law_8 rfl rfl kl_L_10 kn_10 ki_10 rfl ?_
  refine g_dup dL_law_11 rfl ?_
  refine g_cI0 (nc := 99915) (ns := 996593) (mc := 33) (ms := 1787) dL_law_12 ml_L_12 mi_X10_init mn_X10_init rfl rfl (Nat.le_of_ble_eq_true rfl) rfl (by omega) ?_
  refine c_X10_init_17 (Ls := Ls) (xs := xs) (by omega) ?_
  refine g_astore_n dL_law_15 (Nat.le_of_ble_eq_true rfl) rfl ?_
  refine g_iconst (v := 0) dL_law_16 rfl ?_
  refine g_istore_n dL_law_17 (Nat.le_of_ble_eq_true rfl) rfl ?_
  exact law_loop (by omega) hL 512 0 _ (by omega) (by omega) (rel_start Ls xs) (start_0 Ls xs)

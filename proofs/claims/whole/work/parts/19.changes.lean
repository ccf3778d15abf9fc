/-! Changes: object 9, numbers 10, whats 11, olds 12, fresh 13 -/
theorem dX1_init_0 : gx_d mX1_init 0 (.aload_n 0) 1 := gx_dk (by decide +kernel)
theorem dX1_init_1 : gx_d mX1_init 1 (.invokespecial 1) 3 := gx_dk (by decide +kernel)
theorem dX1_init_4 : gx_d mX1_init 4 (.aload_n 0) 1 := gx_dk (by decide +kernel)
theorem dX1_init_5 : gx_d mX1_init 5 (.bipush 40) 2 := gx_dk (by decide +kernel)
theorem dX1_init_7 : gx_d mX1_init 7 (.newarray .int) 2 := gx_dk (by decide +kernel)
theorem dX1_init_9 : gx_d mX1_init 9 (.putfield 9) 3 := gx_dk (by decide +kernel)
theorem dX1_init_12 : gx_d mX1_init 12 (.aload_n 0) 1 := gx_dk (by decide +kernel)
theorem dX1_init_13 : gx_d mX1_init 13 (.bipush 40) 2 := gx_dk (by decide +kernel)
theorem dX1_init_15 : gx_d mX1_init 15 (.newarray .int) 2 := gx_dk (by decide +kernel)
theorem dX1_init_17 : gx_d mX1_init 17 (.putfield 13) 3 := gx_dk (by decide +kernel)
theorem dX1_init_20 : gx_d mX1_init 20 (.aload_n 0) 1 := gx_dk (by decide +kernel)
theorem dX1_init_21 : gx_d mX1_init 21 (.bipush 40) 2 := gx_dk (by decide +kernel)
theorem dX1_init_23 : gx_d mX1_init 23 (.newarray .int) 2 := gx_dk (by decide +kernel)
theorem dX1_init_25 : gx_d mX1_init 25 (.putfield 16) 3 := gx_dk (by decide +kernel)
theorem dX1_init_28 : gx_d mX1_init 28 (.aload_n 0) 1 := gx_dk (by decide +kernel)
theorem dX1_init_29 : gx_d mX1_init 29 (.bipush 40) 2 := gx_dk (by decide +kernel)
theorem dX1_init_31 : gx_d mX1_init 31 (.newarray .int) 2 := gx_dk (by decide +kernel)
theorem dX1_init_33 : gx_d mX1_init 33 (.putfield 19) 3 := gx_dk (by decide +kernel)
theorem dX1_init_36 : gx_d mX1_init 36 (.return_) 1 := gx_dk (by decide +kernel)
theorem dX1_note_0 : gx_d mX1_note 0 (.aload_n 0) 1 := gx_dk (by decide +kernel)
theorem dX1_note_1 : gx_d mX1_note 1 (.getfield 22) 3 := gx_dk (by decide +kernel)
theorem dX1_note_4 : gx_d mX1_note 4 (.bipush 40) 2 := gx_dk (by decide +kernel)
theorem dX1_note_6 : gx_d mX1_note 6 (.if_icmp .lt 37) 3 := gx_dk (by decide +kernel)
theorem dX1_note_9 : gx_d mX1_note 9 (.aload_n 0) 1 := gx_dk (by decide +kernel)
theorem dX1_note_10 : gx_d mX1_note 10 (.getfield 9) 3 := gx_dk (by decide +kernel)
theorem dX1_note_13 : gx_d mX1_note 13 (.invokestatic 26) 3 := gx_dk (by decide +kernel)
theorem dX1_note_16 : gx_d mX1_note 16 (.aload_n 0) 1 := gx_dk (by decide +kernel)
theorem dX1_note_17 : gx_d mX1_note 17 (.getfield 13) 3 := gx_dk (by decide +kernel)
theorem dX1_note_20 : gx_d mX1_note 20 (.invokestatic 26) 3 := gx_dk (by decide +kernel)
theorem dX1_note_23 : gx_d mX1_note 23 (.aload_n 0) 1 := gx_dk (by decide +kernel)
theorem dX1_note_24 : gx_d mX1_note 24 (.getfield 16) 3 := gx_dk (by decide +kernel)
theorem dX1_note_27 : gx_d mX1_note 27 (.invokestatic 26) 3 := gx_dk (by decide +kernel)
theorem dX1_note_30 : gx_d mX1_note 30 (.aload_n 0) 1 := gx_dk (by decide +kernel)
theorem dX1_note_31 : gx_d mX1_note 31 (.getfield 19) 3 := gx_dk (by decide +kernel)
theorem dX1_note_34 : gx_d mX1_note 34 (.invokestatic 26) 3 := gx_dk (by decide +kernel)
theorem dX1_note_37 : gx_d mX1_note 37 (.aload_n 0) 1 := gx_dk (by decide +kernel)
theorem dX1_note_38 : gx_d mX1_note 38 (.bipush 39) 2 := gx_dk (by decide +kernel)
theorem dX1_note_40 : gx_d mX1_note 40 (.putfield 22) 3 := gx_dk (by decide +kernel)
theorem dX1_note_43 : gx_d mX1_note 43 (.aload_n 0) 1 := gx_dk (by decide +kernel)
theorem dX1_note_44 : gx_d mX1_note 44 (.getfield 9) 3 := gx_dk (by decide +kernel)
theorem dX1_note_47 : gx_d mX1_note 47 (.aload_n 0) 1 := gx_dk (by decide +kernel)
theorem dX1_note_48 : gx_d mX1_note 48 (.getfield 22) 3 := gx_dk (by decide +kernel)
theorem dX1_note_51 : gx_d mX1_note 51 (.iload_n 1) 1 := gx_dk (by decide +kernel)
theorem dX1_note_52 : gx_d mX1_note 52 (.iastore) 1 := gx_dk (by decide +kernel)
theorem dX1_note_53 : gx_d mX1_note 53 (.aload_n 0) 1 := gx_dk (by decide +kernel)
theorem dX1_note_54 : gx_d mX1_note 54 (.getfield 13) 3 := gx_dk (by decide +kernel)
theorem dX1_note_57 : gx_d mX1_note 57 (.aload_n 0) 1 := gx_dk (by decide +kernel)
theorem dX1_note_58 : gx_d mX1_note 58 (.getfield 22) 3 := gx_dk (by decide +kernel)
theorem dX1_note_61 : gx_d mX1_note 61 (.iload_n 2) 1 := gx_dk (by decide +kernel)
theorem dX1_note_62 : gx_d mX1_note 62 (.iastore) 1 := gx_dk (by decide +kernel)
theorem dX1_note_63 : gx_d mX1_note 63 (.aload_n 0) 1 := gx_dk (by decide +kernel)
theorem dX1_note_64 : gx_d mX1_note 64 (.getfield 16) 3 := gx_dk (by decide +kernel)
theorem dX1_note_67 : gx_d mX1_note 67 (.aload_n 0) 1 := gx_dk (by decide +kernel)
theorem dX1_note_68 : gx_d mX1_note 68 (.getfield 22) 3 := gx_dk (by decide +kernel)
theorem dX1_note_71 : gx_d mX1_note 71 (.iload_n 3) 1 := gx_dk (by decide +kernel)
theorem dX1_note_72 : gx_d mX1_note 72 (.iastore) 1 := gx_dk (by decide +kernel)
theorem dX1_note_73 : gx_d mX1_note 73 (.aload_n 0) 1 := gx_dk (by decide +kernel)
theorem dX1_note_74 : gx_d mX1_note 74 (.getfield 19) 3 := gx_dk (by decide +kernel)
theorem dX1_note_77 : gx_d mX1_note 77 (.aload_n 0) 1 := gx_dk (by decide +kernel)
theorem dX1_note_78 : gx_d mX1_note 78 (.getfield 22) 3 := gx_dk (by decide +kernel)
theorem dX1_note_81 : gx_d mX1_note 81 (.iload 4) 2 := gx_dk (by decide +kernel)
theorem dX1_note_83 : gx_d mX1_note 83 (.iastore) 1 := gx_dk (by decide +kernel)
theorem dX1_note_84 : gx_d mX1_note 84 (.aload_n 0) 1 := gx_dk (by decide +kernel)
theorem dX1_note_85 : gx_d mX1_note 85 (.dup) 1 := gx_dk (by decide +kernel)
theorem dX1_note_86 : gx_d mX1_note 86 (.getfield 22) 3 := gx_dk (by decide +kernel)
theorem dX1_note_89 : gx_d mX1_note 89 (.iconst 1) 1 := gx_dk (by decide +kernel)
theorem dX1_note_90 : gx_d mX1_note 90 (.iadd) 1 := gx_dk (by decide +kernel)
theorem dX1_note_91 : gx_d mX1_note 91 (.putfield 22) 3 := gx_dk (by decide +kernel)
theorem dX1_note_94 : gx_d mX1_note 94 (.aload_n 0) 1 := gx_dk (by decide +kernel)
theorem dX1_note_95 : gx_d mX1_note 95 (.aload_n 0) 1 := gx_dk (by decide +kernel)
theorem dX1_note_96 : gx_d mX1_note 96 (.getfield 22) 3 := gx_dk (by decide +kernel)
theorem dX1_note_99 : gx_d mX1_note 99 (.putfield 30) 3 := gx_dk (by decide +kernel)
theorem dX1_note_102 : gx_d mX1_note 102 (.return_) 1 := gx_dk (by decide +kernel)
theorem dX1_dropFirst_0 : gx_d mX1_dropFirst 0 (.aload_n 0) 1 := gx_dk (by decide +kernel)
theorem dX1_dropFirst_1 : gx_d mX1_dropFirst 1 (.iconst 1) 1 := gx_dk (by decide +kernel)
theorem dX1_dropFirst_2 : gx_d mX1_dropFirst 2 (.aload_n 0) 1 := gx_dk (by decide +kernel)
theorem dX1_dropFirst_3 : gx_d mX1_dropFirst 3 (.iconst 0) 1 := gx_dk (by decide +kernel)
theorem dX1_dropFirst_4 : gx_d mX1_dropFirst 4 (.bipush 39) 2 := gx_dk (by decide +kernel)
theorem dX1_dropFirst_6 : gx_d mX1_dropFirst 6 (.invokestatic 33) 3 := gx_dk (by decide +kernel)
theorem dX1_dropFirst_9 : gx_d mX1_dropFirst 9 (.return_) 1 := gx_dk (by decide +kernel)
theorem dX1_undone_0 : gx_d mX1_undone 0 (.aload_n 0) 1 := gx_dk (by decide +kernel)
theorem dX1_undone_1 : gx_d mX1_undone 1 (.getfield 22) 3 := gx_dk (by decide +kernel)
theorem dX1_undone_4 : gx_d mX1_undone 4 (.ifCond .gt 5) 3 := gx_dk (by decide +kernel)
theorem dX1_undone_7 : gx_d mX1_undone 7 (.iconst 0) 1 := gx_dk (by decide +kernel)
theorem dX1_undone_8 : gx_d mX1_undone 8 (.ireturn) 1 := gx_dk (by decide +kernel)
theorem dX1_undone_9 : gx_d mX1_undone 9 (.aload_n 0) 1 := gx_dk (by decide +kernel)
theorem dX1_undone_10 : gx_d mX1_undone 10 (.dup) 1 := gx_dk (by decide +kernel)
theorem dX1_undone_11 : gx_d mX1_undone 11 (.getfield 22) 3 := gx_dk (by decide +kernel)
theorem dX1_undone_14 : gx_d mX1_undone 14 (.iconst 1) 1 := gx_dk (by decide +kernel)
theorem dX1_undone_15 : gx_d mX1_undone 15 (.isub) 1 := gx_dk (by decide +kernel)
theorem dX1_undone_16 : gx_d mX1_undone 16 (.putfield 22) 3 := gx_dk (by decide +kernel)
theorem dX1_undone_19 : gx_d mX1_undone 19 (.aload_n 1) 1 := gx_dk (by decide +kernel)
theorem dX1_undone_20 : gx_d mX1_undone 20 (.aload_n 0) 1 := gx_dk (by decide +kernel)
theorem dX1_undone_21 : gx_d mX1_undone 21 (.getfield 9) 3 := gx_dk (by decide +kernel)
theorem dX1_undone_24 : gx_d mX1_undone 24 (.aload_n 0) 1 := gx_dk (by decide +kernel)
theorem dX1_undone_25 : gx_d mX1_undone 25 (.getfield 22) 3 := gx_dk (by decide +kernel)
theorem dX1_undone_28 : gx_d mX1_undone 28 (.iaload) 1 := gx_dk (by decide +kernel)
theorem dX1_undone_29 : gx_d mX1_undone 29 (.aload_n 0) 1 := gx_dk (by decide +kernel)
theorem dX1_undone_30 : gx_d mX1_undone 30 (.getfield 13) 3 := gx_dk (by decide +kernel)
theorem dX1_undone_33 : gx_d mX1_undone 33 (.aload_n 0) 1 := gx_dk (by decide +kernel)
theorem dX1_undone_34 : gx_d mX1_undone 34 (.getfield 22) 3 := gx_dk (by decide +kernel)
theorem dX1_undone_37 : gx_d mX1_undone 37 (.iaload) 1 := gx_dk (by decide +kernel)
theorem dX1_undone_38 : gx_d mX1_undone 38 (.aload_n 0) 1 := gx_dk (by decide +kernel)
theorem dX1_undone_39 : gx_d mX1_undone 39 (.getfield 16) 3 := gx_dk (by decide +kernel)
theorem dX1_undone_42 : gx_d mX1_undone 42 (.aload_n 0) 1 := gx_dk (by decide +kernel)
theorem dX1_undone_43 : gx_d mX1_undone 43 (.getfield 22) 3 := gx_dk (by decide +kernel)
theorem dX1_undone_46 : gx_d mX1_undone 46 (.iaload) 1 := gx_dk (by decide +kernel)
theorem dX1_undone_47 : gx_d mX1_undone 47 (.invokevirtual 39) 3 := gx_dk (by decide +kernel)
theorem dX1_undone_50 : gx_d mX1_undone 50 (.iconst 1) 1 := gx_dk (by decide +kernel)
theorem dX1_undone_51 : gx_d mX1_undone 51 (.ireturn) 1 := gx_dk (by decide +kernel)
theorem dX1_doneAgain_0 : gx_d mX1_doneAgain 0 (.aload_n 0) 1 := gx_dk (by decide +kernel)
theorem dX1_doneAgain_1 : gx_d mX1_doneAgain 1 (.getfield 22) 3 := gx_dk (by decide +kernel)
theorem dX1_doneAgain_4 : gx_d mX1_doneAgain 4 (.aload_n 0) 1 := gx_dk (by decide +kernel)
theorem dX1_doneAgain_5 : gx_d mX1_doneAgain 5 (.getfield 30) 3 := gx_dk (by decide +kernel)
theorem dX1_doneAgain_8 : gx_d mX1_doneAgain 8 (.if_icmp .ge 12) 3 := gx_dk (by decide +kernel)
theorem dX1_doneAgain_11 : gx_d mX1_doneAgain 11 (.aload_n 0) 1 := gx_dk (by decide +kernel)
theorem dX1_doneAgain_12 : gx_d mX1_doneAgain 12 (.getfield 22) 3 := gx_dk (by decide +kernel)
theorem dX1_doneAgain_15 : gx_d mX1_doneAgain 15 (.bipush 40) 2 := gx_dk (by decide +kernel)
theorem dX1_doneAgain_17 : gx_d mX1_doneAgain 17 (.if_icmp .lt 5) 3 := gx_dk (by decide +kernel)
theorem dX1_doneAgain_20 : gx_d mX1_doneAgain 20 (.iconst 0) 1 := gx_dk (by decide +kernel)
theorem dX1_doneAgain_21 : gx_d mX1_doneAgain 21 (.ireturn) 1 := gx_dk (by decide +kernel)
theorem dX1_doneAgain_22 : gx_d mX1_doneAgain 22 (.aload_n 1) 1 := gx_dk (by decide +kernel)
theorem dX1_doneAgain_23 : gx_d mX1_doneAgain 23 (.aload_n 0) 1 := gx_dk (by decide +kernel)
theorem dX1_doneAgain_24 : gx_d mX1_doneAgain 24 (.getfield 9) 3 := gx_dk (by decide +kernel)
theorem dX1_doneAgain_27 : gx_d mX1_doneAgain 27 (.aload_n 0) 1 := gx_dk (by decide +kernel)
theorem dX1_doneAgain_28 : gx_d mX1_doneAgain 28 (.getfield 22) 3 := gx_dk (by decide +kernel)
theorem dX1_doneAgain_31 : gx_d mX1_doneAgain 31 (.iaload) 1 := gx_dk (by decide +kernel)
theorem dX1_doneAgain_32 : gx_d mX1_doneAgain 32 (.aload_n 0) 1 := gx_dk (by decide +kernel)
theorem dX1_doneAgain_33 : gx_d mX1_doneAgain 33 (.getfield 13) 3 := gx_dk (by decide +kernel)
theorem dX1_doneAgain_36 : gx_d mX1_doneAgain 36 (.aload_n 0) 1 := gx_dk (by decide +kernel)
theorem dX1_doneAgain_37 : gx_d mX1_doneAgain 37 (.getfield 22) 3 := gx_dk (by decide +kernel)
theorem dX1_doneAgain_40 : gx_d mX1_doneAgain 40 (.iaload) 1 := gx_dk (by decide +kernel)
theorem dX1_doneAgain_41 : gx_d mX1_doneAgain 41 (.aload_n 0) 1 := gx_dk (by decide +kernel)
theorem dX1_doneAgain_42 : gx_d mX1_doneAgain 42 (.getfield 19) 3 := gx_dk (by decide +kernel)
theorem dX1_doneAgain_45 : gx_d mX1_doneAgain 45 (.aload_n 0) 1 := gx_dk (by decide +kernel)
theorem dX1_doneAgain_46 : gx_d mX1_doneAgain 46 (.getfield 22) 3 := gx_dk (by decide +kernel)
theorem dX1_doneAgain_49 : gx_d mX1_doneAgain 49 (.iaload) 1 := gx_dk (by decide +kernel)
theorem dX1_doneAgain_50 : gx_d mX1_doneAgain 50 (.invokevirtual 39) 3 := gx_dk (by decide +kernel)
theorem dX1_doneAgain_53 : gx_d mX1_doneAgain 53 (.aload_n 0) 1 := gx_dk (by decide +kernel)
theorem dX1_doneAgain_54 : gx_d mX1_doneAgain 54 (.dup) 1 := gx_dk (by decide +kernel)
theorem dX1_doneAgain_55 : gx_d mX1_doneAgain 55 (.getfield 22) 3 := gx_dk (by decide +kernel)
theorem dX1_doneAgain_58 : gx_d mX1_doneAgain 58 (.iconst 1) 1 := gx_dk (by decide +kernel)
theorem dX1_doneAgain_59 : gx_d mX1_doneAgain 59 (.iadd) 1 := gx_dk (by decide +kernel)
theorem dX1_doneAgain_60 : gx_d mX1_doneAgain 60 (.putfield 22) 3 := gx_dk (by decide +kernel)
theorem dX1_doneAgain_63 : gx_d mX1_doneAgain 63 (.iconst 1) 1 := gx_dk (by decide +kernel)
theorem dX1_doneAgain_64 : gx_d mX1_doneAgain 64 (.ireturn) 1 := gx_dk (by decide +kernel)
def chO (w : gx_W) : Prop := w.1[9]? = some (1, 0) ∧ (w_r w 9 0 = some 10 ∧ w.1[10]? = some (20, 40)) ∧ (w_r w 9 1 = some 11 ∧ w.1[11]? = some (20, 40)) ∧ (w_r w 9 2 = some 12 ∧ w.1[12]? = some (20, 40)) ∧ (w_r w 9 3 = some 13 ∧ w.1[13]? = some (20, 40))
theorem chO.same {R : List Nat} {F : List (Nat × Nat)} {w w' : gx_W} (h : chO w) (hs : same R F w w') : chO w' := by
  unfold chO at h ⊢
  rw [hs.1, hs.2.2.1]
  exact h
/-- a number of mend() and its place -/
def chOK (n : Nat) (x y : Int32) (p : Nat) : Prop := (∃ q m : Nat, y = nI q ∧ x = nI m ∧ q < 4 ∧ m < n ∧ p = q * 6 + m) ∨ (∃ q : Nat, y = nI q ∧ x = 0 ∧ 4 ≤ q ∧ q < 8 ∧ p = 20 + q)
theorem c_become_p {d : Nat} {w : gx_W} {r a n p : Nat} {x y v : Int32} {k : gx_W → Prop} (hd : 1 ≤ d) (h : isCn w r a n) (hp : chOK n x y p) (kk : k (s_a w a (va_up (w_a w a) p v))) : gx_C 0 0 d mX2_become [.ref r, .int x, .int y, .int v] w (Qv k) := by
  have hb := h.2.2
  rcases hp with ⟨q, m, e1, e2, hq, hm, rfl⟩ | ⟨q, e1, e2, h4, h8, rfl⟩
  · exact c_become_r hd h hq hm e1 e2 kk
  · subst e2
    refine c_X2_become hd h (fun q' m' f1 f2 hq' _ => ?_) (fun q' f1 f2 h4' h8' => ?_) (fun n1 n2 => (n2 q h4 h8 e1 rfl).elim)
    · have := pI_inj (a := q) (b := q') (by omega) (by omega) (e1.symm.trans f1)
      omega
    · rw [← pI_inj (a := q) (b := q') (by omega) (by omega) (e1.symm.trans f1)]
      exact kk
/-- the first one goes -/
def ch_sh (f : Nat → Int32) : Nat → Int32 := va_cpy f f 1 0 39
/-- what note leaves -/
def chN (w w' : gx_W) (D : Nat) (a b c e : Int32) : Prop := same [10, 11, 12, 13] [(9, 4), (9, 5)] w w' ∧ w_i w' 9 4 = nI (min D 39 + 1) ∧ w_i w' 9 5 = nI (min D 39 + 1) ∧ w_a w' 10 = va_up (if D = 40 then ch_sh (w_a w 10) else w_a w 10) (min D 39) a ∧ w_a w' 11 = va_up (if D = 40 then ch_sh (w_a w 11) else w_a w 11) (min D 39) b ∧ w_a w' 12 = va_up (if D = 40 then ch_sh (w_a w 12) else w_a w 12) (min D 39) c ∧ w_a w' 13 = va_up (if D = 40 then ch_sh (w_a w 13) else w_a w 13) (min D 39) e
theorem c_X1_dropFirst {d : Nat} {w : gx_W} {a : Nat} {k : gx_W → Prop} (hd : 1 ≤ d) (ha : w.1[a]? = some (20, 40)) (kk : k (s_a w a (ch_sh (w_a w a)))) : gx_C 0 0 d mX1_dropFirst [.ref a] w (Qv k) := by
  refine gx_C_of' (L := [.ref a]) (by decide +kernel) rfl (Nat.le_of_ble_eq_true rfl) ?_
  refine g_aload_n dX1_dropFirst_0 rfl ?_
  refine g_iconst (v := 1) dX1_dropFirst_1 rfl ?_
  refine g_aload_n dX1_dropFirst_2 rfl ?_
  refine g_iconst (v := 0) dX1_dropFirst_3 rfl ?_
  refine g_bipush (v := 39) dX1_dropFirst_4 rfl ?_
  refine g_copyi dX1_dropFirst_6 cp_X1_33 ha ha (by decide) (by decide) (by decide) (by decide) (by decide) (Nat.le_of_ble_eq_true rfl) rfl (by omega) ?_
  refine g_vret dX1_dropFirst_9 rfl ⟨rfl, ?_⟩
  exact kk
set_option maxHeartbeats 8000000 in
theorem c_X1_note {d : Nat} {w : gx_W} {D : Nat} {a b c e : Int32} {k : gx_W → Prop} (hd : 2 ≤ d) (h : chO w) (hd4 : w_i w 9 4 = nI D) (hD : D ≤ 40) (kk : ∀ w', chN w w' D a b c e → k w') : gx_C 0 0 d mX1_note [.ref 9, .int a, .int b, .int c, .int e] w (Qv k) := by
  refine gx_C_of' (L := [.ref 9, .int a, .int b, .int c, .int e]) (by decide +kernel) rfl (Nat.le_of_ble_eq_true rfl) ?_
  refine g_aload_n dX1_note_0 rfl ?_
  refine g_geti dX1_note_1 fl_X1_22 h.1 ?_
  refine g_bipush (v := 40) dX1_note_4 rfl ?_
  refine g_icmp_lt (tgt := 43) dX1_note_6 (by decide) (fun zc6 => ?_) (fun zc6 => ?_)
  · have hlt : D < 40 := by
      have c := zc6
      rw [hd4, pI_lt, nI_toInt (by omega)] at c
      have e : (40 : Int32).toInt = 40 := by decide
      omega
    have hi' : vp_in (w_i w 9 4) 40 := by rw [hd4]; exact vp_in_nI hlt (by omega)
    refine g_aload_n dX1_note_43 rfl ?_
    refine g_getr dX1_note_44 fl_X1_9 h.1 h.2.1.1 ?_
    refine g_aload_n dX1_note_47 rfl ?_
    refine g_geti dX1_note_48 fl_X1_22 h.1 ?_
    refine g_iload_n dX1_note_51 rfl ?_
    refine g_iast dX1_note_52 h.2.1.2 (by first | (simp only [wi_sa, wi_si, and_self, if_true]; exact hi) | exact hi') ?_
    refine g_aload_n dX1_note_53 rfl ?_
    refine g_getr dX1_note_54 fl_X1_13 h.1 h.2.2.1.1 ?_
    refine g_aload_n dX1_note_57 rfl ?_
    refine g_geti dX1_note_58 fl_X1_22 h.1 ?_
    refine g_iload_n dX1_note_61 rfl ?_
    refine g_iast dX1_note_62 h.2.2.1.2 (by first | (simp only [wi_sa, wi_si, and_self, if_true]; exact hi) | exact hi') ?_
    refine g_aload_n dX1_note_63 rfl ?_
    refine g_getr dX1_note_64 fl_X1_16 h.1 h.2.2.2.1.1 ?_
    refine g_aload_n dX1_note_67 rfl ?_
    refine g_geti dX1_note_68 fl_X1_22 h.1 ?_
    refine g_iload_n dX1_note_71 rfl ?_
    refine g_iast dX1_note_72 h.2.2.2.1.2 (by first | (simp only [wi_sa, wi_si, and_self, if_true]; exact hi) | exact hi') ?_
    refine g_aload_n dX1_note_73 rfl ?_
    refine g_getr dX1_note_74 fl_X1_19 h.1 h.2.2.2.2.1 ?_
    refine g_aload_n dX1_note_77 rfl ?_
    refine g_geti dX1_note_78 fl_X1_22 h.1 ?_
    refine g_iload dX1_note_81 rfl ?_
    refine g_iast dX1_note_83 h.2.2.2.2.2 (by first | (simp only [wi_sa, wi_si, and_self, if_true]; exact hi) | exact hi') ?_
    refine g_aload_n dX1_note_84 rfl ?_
    refine g_dup dX1_note_85 rfl ?_
    refine g_geti dX1_note_86 fl_X1_22 h.1 ?_
    refine g_iconst (v := 1) dX1_note_89 rfl ?_
    refine g_iadd dX1_note_90 ?_
    refine g_puti dX1_note_91 fl_X1_22 ft_1_4 h.1 ?_
    refine g_aload_n dX1_note_94 rfl ?_
    refine g_aload_n dX1_note_95 rfl ?_
    refine g_geti dX1_note_96 fl_X1_22 h.1 ?_
    refine g_puti dX1_note_99 fl_X1_30 ft_1_5 h.1 ?_
    refine g_vret dX1_note_102 rfl ⟨rfl, ?_⟩
    have eD : min D 39 = D := by omega
    have hD : ¬ D = 40 := by omega
    refine kk _ ⟨?_, ?_, ?_, ?_, ?_, ?_, ?_⟩
    · refine same.si (same.si (same.sa (same.sa (same.sa (same.sa same.rf ?_) ?_) ?_) ?_) ?_) ?_ <;> simp
    · rw [eD]
      simp only [wi_si, wi_sa, wa_si, wa_sa, and_self, if_true, if_false, reduceCtorEq, and_false, false_and, Nat.reduceEqDiff]
      rw [hd4, nI_succ]
    · rw [eD]
      simp only [wi_si, wi_sa, wa_si, wa_sa, and_self, if_true, if_false, reduceCtorEq, and_false, false_and, Nat.reduceEqDiff]
      rw [hd4, nI_succ]
    · rw [eD]
      simp only [wi_si, wi_sa, wa_si, wa_sa, and_self, if_true, if_false, reduceCtorEq, and_false, false_and, Nat.reduceEqDiff]
      rw [hd4, nI_n (by omega), if_neg hD]
    · rw [eD]
      simp only [wi_si, wi_sa, wa_si, wa_sa, and_self, if_true, if_false, reduceCtorEq, and_false, false_and, Nat.reduceEqDiff]
      rw [hd4, nI_n (by omega), if_neg hD]
    · rw [eD]
      simp only [wi_si, wi_sa, wa_si, wa_sa, and_self, if_true, if_false, reduceCtorEq, and_false, false_and, Nat.reduceEqDiff]
      rw [hd4, nI_n (by omega), if_neg hD]
    · rw [eD]
      simp only [wi_si, wi_sa, wa_si, wa_sa, and_self, if_true, if_false, reduceCtorEq, and_false, false_and, Nat.reduceEqDiff]
      rw [hd4, nI_n (by omega), if_neg hD]
  · have e40 : D = 40 := by
      have c := zc6
      rw [hd4] at c
      rcases Nat.lt_or_ge D 40 with q | q
      · exact absurd (nI_lt q (b := 40) (by decide)) c
      · omega
    subst e40
    have hi : vp_in (39 : Int32) 40 := by rw [vp_in_iff]; decide
    have ei : ∀ w0 : gx_W, w_i (s_i w0 9 4 39) 9 4 = 39 := fun w0 => by rw [wi_si, if_pos ⟨rfl, rfl⟩]
    refine g_aload_n dX1_note_9 rfl ?_
    refine g_getr dX1_note_10 fl_X1_9 h.1 h.2.1.1 ?_
    refine g_cS1v dX1_note_13 ml_X1_26 mi_X1_dropFirst ms_X1_dropFirst (Nat.le_of_ble_eq_true rfl) rfl (by omega) ?_
    refine c_X1_dropFirst (by omega) h.2.1.2 ?_
    refine g_aload_n dX1_note_16 rfl ?_
    refine g_getr dX1_note_17 fl_X1_13 h.1 h.2.2.1.1 ?_
    refine g_cS1v dX1_note_20 ml_X1_26 mi_X1_dropFirst ms_X1_dropFirst (Nat.le_of_ble_eq_true rfl) rfl (by omega) ?_
    refine c_X1_dropFirst (by omega) h.2.2.1.2 ?_
    refine g_aload_n dX1_note_23 rfl ?_
    refine g_getr dX1_note_24 fl_X1_16 h.1 h.2.2.2.1.1 ?_
    refine g_cS1v dX1_note_27 ml_X1_26 mi_X1_dropFirst ms_X1_dropFirst (Nat.le_of_ble_eq_true rfl) rfl (by omega) ?_
    refine c_X1_dropFirst (by omega) h.2.2.2.1.2 ?_
    refine g_aload_n dX1_note_30 rfl ?_
    refine g_getr dX1_note_31 fl_X1_19 h.1 h.2.2.2.2.1 ?_
    refine g_cS1v dX1_note_34 ml_X1_26 mi_X1_dropFirst ms_X1_dropFirst (Nat.le_of_ble_eq_true rfl) rfl (by omega) ?_
    refine c_X1_dropFirst (by omega) h.2.2.2.2.2 ?_
    refine g_aload_n dX1_note_37 rfl ?_
    refine g_bipush (v := 39) dX1_note_38 rfl ?_
    refine g_puti dX1_note_40 fl_X1_22 ft_1_4 h.1 ?_
    refine g_aload_n dX1_note_43 rfl ?_
    refine g_getr dX1_note_44 fl_X1_9 h.1 h.2.1.1 ?_
    refine g_aload_n dX1_note_47 rfl ?_
    refine g_geti dX1_note_48 fl_X1_22 h.1 ?_
    refine g_iload_n dX1_note_51 rfl ?_
    refine g_iast dX1_note_52 h.2.1.2 (by first | (simp only [wi_sa, wi_si, and_self, if_true]; exact hi) | exact hi') ?_
    refine g_aload_n dX1_note_53 rfl ?_
    refine g_getr dX1_note_54 fl_X1_13 h.1 h.2.2.1.1 ?_
    refine g_aload_n dX1_note_57 rfl ?_
    refine g_geti dX1_note_58 fl_X1_22 h.1 ?_
    refine g_iload_n dX1_note_61 rfl ?_
    refine g_iast dX1_note_62 h.2.2.1.2 (by first | (simp only [wi_sa, wi_si, and_self, if_true]; exact hi) | exact hi') ?_
    refine g_aload_n dX1_note_63 rfl ?_
    refine g_getr dX1_note_64 fl_X1_16 h.1 h.2.2.2.1.1 ?_
    refine g_aload_n dX1_note_67 rfl ?_
    refine g_geti dX1_note_68 fl_X1_22 h.1 ?_
    refine g_iload_n dX1_note_71 rfl ?_
    refine g_iast dX1_note_72 h.2.2.2.1.2 (by first | (simp only [wi_sa, wi_si, and_self, if_true]; exact hi) | exact hi') ?_
    refine g_aload_n dX1_note_73 rfl ?_
    refine g_getr dX1_note_74 fl_X1_19 h.1 h.2.2.2.2.1 ?_
    refine g_aload_n dX1_note_77 rfl ?_
    refine g_geti dX1_note_78 fl_X1_22 h.1 ?_
    refine g_iload dX1_note_81 rfl ?_
    refine g_iast dX1_note_83 h.2.2.2.2.2 (by first | (simp only [wi_sa, wi_si, and_self, if_true]; exact hi) | exact hi') ?_
    refine g_aload_n dX1_note_84 rfl ?_
    refine g_dup dX1_note_85 rfl ?_
    refine g_geti dX1_note_86 fl_X1_22 h.1 ?_
    refine g_iconst (v := 1) dX1_note_89 rfl ?_
    refine g_iadd dX1_note_90 ?_
    refine g_puti dX1_note_91 fl_X1_22 ft_1_4 h.1 ?_
    refine g_aload_n dX1_note_94 rfl ?_
    refine g_aload_n dX1_note_95 rfl ?_
    refine g_geti dX1_note_96 fl_X1_22 h.1 ?_
    refine g_puti dX1_note_99 fl_X1_30 ft_1_5 h.1 ?_
    refine g_vret dX1_note_102 rfl ⟨rfl, ?_⟩
    have e39 : min 40 39 = 39 := by decide
    have e0 : (39 : Int32).toNatClampNeg = 39 := by decide
    refine kk _ ⟨?_, ?_, ?_, ?_, ?_, ?_, ?_⟩
    · refine same.si (same.si (same.sa (same.sa (same.sa (same.sa (same.si (same.sa (same.sa (same.sa (same.sa same.rf ?_) ?_) ?_) ?_) ?_) ?_) ?_) ?_) ?_) ?_) ?_ <;> simp
    · simp only [wi_si, wi_sa, wa_si, wa_sa, and_self, if_true, if_false, reduceCtorEq, and_false, false_and, Nat.reduceEqDiff]
      try rfl
    · simp only [wi_si, wi_sa, wa_si, wa_sa, and_self, if_true, if_false, reduceCtorEq, and_false, false_and, Nat.reduceEqDiff]
      try rfl
    · simp only [wi_si, wi_sa, wa_si, wa_sa, and_self, if_true, if_false, reduceCtorEq, and_false, false_and, Nat.reduceEqDiff]
      try rfl
    · simp only [wi_si, wi_sa, wa_si, wa_sa, and_self, if_true, if_false, reduceCtorEq, and_false, false_and, Nat.reduceEqDiff]
      try rfl
    · simp only [wi_si, wi_sa, wa_si, wa_sa, and_self, if_true, if_false, reduceCtorEq, and_false, false_and, Nat.reduceEqDiff]
      try rfl
    · simp only [wi_si, wi_sa, wa_si, wa_sa, and_self, if_true, if_false, reduceCtorEq, and_false, false_and, Nat.reduceEqDiff]
      try rfl
set_option maxHeartbeats 4000000 in
theorem c_X1_undone {d : Nat} {w : gx_W} {n D p : Nat} {k : Int32 → gx_W → Prop} (hd : 2 ≤ d) (h : chO w) (hc : isCn w 37 38 n) (hd4 : w_i w 9 4 = nI D) (hD : D ≤ 40) (k0 : D = 0 → k 0 w) (kk : ∀ E, D = E + 1 → ∃ p, chOK n (w_a w 10 E) (w_a w 11 E) p ∧ k 1 (s_a (s_i w 9 4 (nI E)) 38 (va_up (w_a w 38) p (w_a w 12 E)))) : gx_C 0 0 d mX1_undone [.ref 9, .ref 37] w (Qi k) := by
  refine gx_C_of' (L := [.ref 9, .ref 37]) (by decide +kernel) rfl (Nat.le_of_ble_eq_true rfl) ?_
  refine g_aload_n dX1_undone_0 rfl ?_
  refine g_geti dX1_undone_1 fl_X1_22 h.1 ?_
  refine g_if_gt (tgt := 9) dX1_undone_4 (by decide) (fun zc4 => ?_) (fun zc4 => ?_)
  · obtain ⟨E, rfl⟩ : ∃ E, D = E + 1 := by
      have c := zc4
      rw [hd4] at c
      refine ⟨D - 1, ?_⟩
      rcases Nat.eq_zero_or_pos D with q | q
      · rw [q] at c
        exact absurd c (by decide)
      · omega
    obtain ⟨p, hok, K⟩ := kk E rfl
    have e1 : w_i w 9 4 - 1 = nI E := by rw [hd4, nI_pred]
    refine g_aload_n dX1_undone_9 rfl ?_
    refine g_dup dX1_undone_10 rfl ?_
    refine g_geti dX1_undone_11 fl_X1_22 h.1 ?_
    refine g_iconst (v := 1) dX1_undone_14 rfl ?_
    refine g_isub dX1_undone_15 ?_
    refine g_puti dX1_undone_16 fl_X1_22 ft_1_4 h.1 ?_
    rw [e1]
    have e2 : w_i (s_i w 9 4 (nI E)) 9 4 = nI E := by rw [wi_si, if_pos ⟨rfl, rfl⟩]
    have hi : vp_in (w_i (s_i w 9 4 (nI E)) 9 4) 40 := by rw [e2]; exact vp_in_nI (by omega) (by omega)
    have hok2 : chOK n (w_a (s_i w 9 4 (nI E)) 10 (w_i (s_i w 9 4 (nI E)) 9 4).toNatClampNeg) (w_a (s_i w 9 4 (nI E)) 11 (w_i (s_i w 9 4 (nI E)) 9 4).toNatClampNeg) p := by
      rw [e2, nI_n (by omega)]
      exact hok
    refine g_aload_n dX1_undone_19 rfl ?_
    refine g_aload_n dX1_undone_20 rfl ?_
    refine g_getr dX1_undone_21 fl_X1_9 h.1 h.2.1.1 ?_
    refine g_aload_n dX1_undone_24 rfl ?_
    refine g_geti dX1_undone_25 fl_X1_22 h.1 ?_
    refine g_iald dX1_undone_28 h.2.1.2 hi ?_
    refine g_aload_n dX1_undone_29 rfl ?_
    refine g_getr dX1_undone_30 fl_X1_13 h.1 h.2.2.1.1 ?_
    refine g_aload_n dX1_undone_33 rfl ?_
    refine g_geti dX1_undone_34 fl_X1_22 h.1 ?_
    refine g_iald dX1_undone_37 h.2.2.1.2 hi ?_
    refine g_aload_n dX1_undone_38 rfl ?_
    refine g_getr dX1_undone_39 fl_X1_16 h.1 h.2.2.2.1.1 ?_
    refine g_aload_n dX1_undone_42 rfl ?_
    refine g_geti dX1_undone_43 fl_X1_22 h.1 ?_
    refine g_iald dX1_undone_46 h.2.2.2.1.2 hi ?_
    refine g_cV3v dX1_undone_47 ml_X1_39 mi_X2_become mv_X2_become hc.1.1 ⟨_, rfl, rfl⟩ (Nat.le_of_ble_eq_true rfl) rfl (by omega) ?_
    refine c_become_p (by omega) hc hok2 ?_
    refine g_iconst (v := 1) dX1_undone_50 rfl ?_
    refine g_zret dX1_undone_51 rfl (Or.inr rfl) ⟨_, rfl, ?_⟩
    rw [e2, nI_n (by omega)]
    exact K
  · refine g_iconst (v := 0) dX1_undone_7 rfl ?_
    refine g_zret dX1_undone_8 rfl (Or.inl rfl) ⟨_, rfl, ?_⟩
    have c := zc4
    rw [hd4] at c
    refine k0 ?_
    rcases Nat.eq_zero_or_pos D with q | q
    · exact q
    · exact absurd (nI_lt (a := 0) q (by omega)) c
set_option maxHeartbeats 4000000 in
theorem c_X1_doneAgain {d : Nat} {w : gx_W} {n D E : Nat} {k : Int32 → gx_W → Prop} (hd : 2 ≤ d) (h : chO w) (hc : isCn w 37 38 n) (hd4 : w_i w 9 4 = nI D) (hd5 : w_i w 9 5 = nI E) (hD : D ≤ E) (hE : E ≤ 40) (k0 : D = E → k 0 w) (kk : D < E → ∃ p, chOK n (w_a w 10 D) (w_a w 11 D) p ∧ k 1 (s_i (s_a w 38 (va_up (w_a w 38) p (w_a w 13 D))) 9 4 (nI (D + 1)))) : gx_C 0 0 d mX1_doneAgain [.ref 9, .ref 37] w (Qi k) := by
  refine gx_C_of' (L := [.ref 9, .ref 37]) (by decide +kernel) rfl (Nat.le_of_ble_eq_true rfl) ?_
  refine g_aload_n dX1_doneAgain_0 rfl ?_
  refine g_geti dX1_doneAgain_1 fl_X1_22 h.1 ?_
  refine g_aload_n dX1_doneAgain_4 rfl ?_
  refine g_geti dX1_doneAgain_5 fl_X1_30 h.1 ?_
  refine g_icmp_ge (tgt := 20) dX1_doneAgain_8 (by decide) (fun zc8 => ?_) (fun zc8 => ?_)
  · refine g_iconst (v := 0) dX1_doneAgain_20 rfl ?_
    refine g_zret dX1_doneAgain_21 rfl (Or.inl rfl) ⟨_, rfl, ?_⟩
    refine k0 ?_
    rcases Nat.lt_or_ge D E with q | q
    · exfalso
      first
        | (have c := zc8
           rw [hd4, hd5] at c
           exact absurd c (nI_ge q (by omega)))
        | (have c := zc17
           rw [hd4] at c
           exact c (nI_lt (b := 40) (by omega) (by decide)))
    · omega
  · refine g_aload_n dX1_doneAgain_11 rfl ?_
    refine g_geti dX1_doneAgain_12 fl_X1_22 h.1 ?_
    refine g_bipush (v := 40) dX1_doneAgain_15 rfl ?_
    refine g_icmp_lt (tgt := 22) dX1_doneAgain_17 (by decide) (fun zc17 => ?_) (fun zc17 => ?_)
    · have hlt : D < E := by
        rcases Nat.lt_or_ge D E with q | q
        · exact q
        · have c := zc8
          rw [hd4, hd5] at c
          exact absurd (nI_le q (by omega)) c
      obtain ⟨p, hok, K⟩ := kk hlt
      have hi : vp_in (w_i w 9 4) 40 := by rw [hd4]; exact vp_in_nI (by omega) (by omega)
      have hok2 : chOK n (w_a w 10 (w_i w 9 4).toNatClampNeg) (w_a w 11 (w_i w 9 4).toNatClampNeg) p := by
        rw [hd4, nI_n (by omega)]
        exact hok
      refine g_aload_n dX1_doneAgain_22 rfl ?_
      refine g_aload_n dX1_doneAgain_23 rfl ?_
      refine g_getr dX1_doneAgain_24 fl_X1_9 h.1 h.2.1.1 ?_
      refine g_aload_n dX1_doneAgain_27 rfl ?_
      refine g_geti dX1_doneAgain_28 fl_X1_22 h.1 ?_
      refine g_iald dX1_doneAgain_31 h.2.1.2 hi ?_
      refine g_aload_n dX1_doneAgain_32 rfl ?_
      refine g_getr dX1_doneAgain_33 fl_X1_13 h.1 h.2.2.1.1 ?_
      refine g_aload_n dX1_doneAgain_36 rfl ?_
      refine g_geti dX1_doneAgain_37 fl_X1_22 h.1 ?_
      refine g_iald dX1_doneAgain_40 h.2.2.1.2 hi ?_
      refine g_aload_n dX1_doneAgain_41 rfl ?_
      refine g_getr dX1_doneAgain_42 fl_X1_19 h.1 h.2.2.2.2.1 ?_
      refine g_aload_n dX1_doneAgain_45 rfl ?_
      refine g_geti dX1_doneAgain_46 fl_X1_22 h.1 ?_
      refine g_iald dX1_doneAgain_49 h.2.2.2.2.2 hi ?_
      refine g_cV3v dX1_doneAgain_50 ml_X1_39 mi_X2_become mv_X2_become hc.1.1 ⟨_, rfl, rfl⟩ (Nat.le_of_ble_eq_true rfl) rfl (by omega) ?_
      refine c_become_p (by omega) hc hok2 ?_
      refine g_aload_n dX1_doneAgain_53 rfl ?_
      refine g_dup dX1_doneAgain_54 rfl ?_
      refine g_geti dX1_doneAgain_55 fl_X1_22 h.1 ?_
      refine g_iconst (v := 1) dX1_doneAgain_58 rfl ?_
      refine g_iadd dX1_doneAgain_59 ?_
      refine g_puti dX1_doneAgain_60 fl_X1_22 ft_1_4 h.1 ?_
      refine g_iconst (v := 1) dX1_doneAgain_63 rfl ?_
      refine g_zret dX1_doneAgain_64 rfl (Or.inr rfl) ⟨_, rfl, ?_⟩
      rw [wi_sa, hd4, nI_n (by omega), ← nI_succ]
      exact K
    · refine g_iconst (v := 0) dX1_doneAgain_20 rfl ?_
      refine g_zret dX1_doneAgain_21 rfl (Or.inl rfl) ⟨_, rfl, ?_⟩
      refine k0 ?_
      rcases Nat.lt_or_ge D E with q | q
      · exfalso
        first
          | (have c := zc8
             rw [hd4, hd5] at c
             exact absurd c (nI_ge q (by omega)))
          | (have c := zc17
             rw [hd4] at c
             exact c (nI_lt (b := 40) (by omega) (by decide)))
      · omega

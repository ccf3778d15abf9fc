/-! Votes: winners -/
def vt_s1 (s : Int32) (q : Int32 × Int32 × Int32 × Int32 × Int32) : Bool → Int32 × Int32 × Int32 × Int32 × Int32
  | true => (q.1 + Int32.ofInt 1, q.2.1, q.2.2.1, q.2.2.2.1, q.2.2.2.2 &&& s)
  | false => q
def vt_pk (s q : Int32) : Int32 := if q = -2 then s else q
theorem vt_pk_p {s q : Int32} (h : q = -2) : vt_pk s q = s := if_pos h
theorem vt_pk_n {s q : Int32} (h : ¬ q = -2) : vt_pk s q = q := if_neg h
def vt_s2 (s : Int32) (q : Int32 × Int32 × Int32 × Int32 × Int32) : Bool → Int32 × Int32 × Int32 × Int32 × Int32
  | true => (q.1, q.2.1 + Int32.ofInt 1, vt_pk s q.2.2.1, q.2.2.2.1 ||| s, q.2.2.2.2)
  | false => q
/-- after the sets below i: how many win, how many barely, the least, those used, those needed -/
def vt_st (f : Nat → Int32) (n : Nat) (all : Int32) : Nat → Int32 × Int32 × Int32 × Int32 × Int32
  | 0 => (0, 0, -2, 0, all)
  | i + 1 => vt_s2 (nI i) (vt_s1 (nI i) (vt_st f n all i) (vt_wins f n (nI i))) (vt_bare f n (nI i))
def vt_res (x all : Int32) (q : Int32 × Int32 × Int32 × Int32 × Int32) : Int32 :=
  if x = 0 then q.1 else if x = 1 then q.2.1 else if x = 2 then q.2.2.1 else if x = 3 then (if q.1 = 0 then 0 else q.2.2.2.2) else all &&& (q.2.2.2.1 ^^^ -1)
set_option maxHeartbeats 8000000 in
theorem l_X8_winners {d r a n : Nat} {w : gx_W} {x : Int32} {k : Int32 → gx_W → Prop} (hd : 4 ≤ d) (h : isCn w r a n) (kk : k (vt_res x (nI (2 ^ n - 1)) (vt_st (w_a w a) n (nI (2 ^ n - 1)) (2 ^ n))) w) : ∀ z i : Nat, i + z = 2 ^ n → gx_G 0 0 d mX8_winners (Qi k) 24 [.ref r, .int x, .int (vt_st (w_a w a) n (nI (2 ^ n - 1)) i).1, .int (vt_st (w_a w a) n (nI (2 ^ n - 1)) i).2.1, .int (vt_st (w_a w a) n (nI (2 ^ n - 1)) i).2.2.1, .int (vt_st (w_a w a) n (nI (2 ^ n - 1)) i).2.2.2.1, .int (nI (2 ^ n - 1)), .int (vt_st (w_a w a) n (nI (2 ^ n - 1)) i).2.2.2.2, .int (nI i)] [] w := by
  intro z
  have hb := h.2.2
  have h64 : 2 ^ n ≤ 64 := Nat.pow_le_pow_right (n := 2) (by decide) hb
  have h1 : 0 < 2 ^ n := Nat.two_pow_pos n
  induction z with
  | zero =>
    intro i hi
    have e : i = 2 ^ n := by omega
    subst e
    refine g_iload dX8_winners_24 rfl ?_
    refine g_iload dX8_winners_26 rfl ?_
    refine g_icmp_gt (tgt := 91) dX8_winners_28 (by decide) (fun zc28 => ?_) (fun zc28 => ?_)
    · refine g_iload_n dX8_winners_91 rfl ?_
      by_cases s92_0 : x = 0
      · refine g_tableIn (off := 32) (tgt := 124) dX8_winners_92 (by rw [s92_0]; decide) (by rw [s92_0]; decide) (by rw [s92_0]; rfl) (by decide) ?_
        refine g_iload_n dX8_winners_124 rfl ?_
        refine g_iret dX8_winners_125 rfl ⟨_, rfl, ?_⟩
        unfold vt_res at kk
        rw [if_pos s92_0] at kk
        exact kk
      by_cases s92_1 : x = 1
      · refine g_tableIn (off := 34) (tgt := 126) dX8_winners_92 (by rw [s92_1]; decide) (by rw [s92_1]; decide) (by rw [s92_1]; rfl) (by decide) ?_
        refine g_iload_n dX8_winners_126 rfl ?_
        refine g_iret dX8_winners_127 rfl ⟨_, rfl, ?_⟩
        unfold vt_res at kk
        rw [if_neg s92_0, if_pos s92_1] at kk
        exact kk
      by_cases s92_2 : x = 2
      · refine g_tableIn (off := 36) (tgt := 128) dX8_winners_92 (by rw [s92_2]; decide) (by rw [s92_2]; decide) (by rw [s92_2]; rfl) (by decide) ?_
        refine g_iload dX8_winners_128 rfl ?_
        refine g_iret dX8_winners_130 rfl ⟨_, rfl, ?_⟩
        unfold vt_res at kk
        rw [if_neg s92_0, if_neg s92_1, if_pos s92_2] at kk
        exact kk
      by_cases s92_3 : x = 3
      · refine g_tableIn (off := 39) (tgt := 131) dX8_winners_92 (by rw [s92_3]; decide) (by rw [s92_3]; decide) (by rw [s92_3]; rfl) (by decide) ?_
        refine g_iload_n dX8_winners_131 rfl ?_
        refine g_if_ne (tgt := 139) dX8_winners_132 (by decide) (fun zc132 => ?_) (fun zc132 => ?_)
        · refine g_iload dX8_winners_139 rfl ?_
          refine g_iret dX8_winners_141 rfl ⟨_, rfl, ?_⟩
          unfold vt_res at kk
          rw [if_neg s92_0, if_neg s92_1, if_neg s92_2, if_pos s92_3] at kk
          rw [if_neg zc132] at kk
          exact kk
        · refine g_iconst (v := 0) dX8_winners_135 rfl ?_
          refine g_goto (tgt := 141) dX8_winners_136 (by decide) ?_
          refine g_iret dX8_winners_141 rfl ⟨_, rfl, ?_⟩
          unfold vt_res at kk
          rw [if_neg s92_0, if_neg s92_1, if_neg s92_2, if_pos s92_3] at kk
          rw [if_pos (by first | exact zc132 | exact Classical.not_not.mp zc132)] at kk
          exact kk
      refine g_tableOut (tgt := 142) dX8_winners_92 (by have z0 := lv_neT s92_0 (a := 0) (by decide); have z1 := lv_neT s92_1 (a := 1) (by decide); have z2 := lv_neT s92_2 (a := 2) (by decide); have z3 := lv_neT s92_3 (a := 3) (by decide); omega) (by decide) ?_
      refine g_iload dX8_winners_142 rfl ?_
      refine g_iload dX8_winners_144 rfl ?_
      refine g_iconst (v := -1) dX8_winners_146 rfl ?_
      refine g_ixor dX8_winners_147 ?_
      refine g_iand dX8_winners_148 ?_
      refine g_iret dX8_winners_149 rfl ⟨_, rfl, ?_⟩
      unfold vt_res at kk
      rw [if_neg s92_0, if_neg s92_1, if_neg s92_2, if_neg s92_3] at kk
      exact kk
    · exact absurd (by rw [pI_lt, nI_toInt (by omega), nI_toInt (by omega)]; omega) zc28
  | succ z ih =>
    intro i hi
    have ih' := ih (i + 1) (by omega)
    rw [show vt_st (w_a w a) n (nI (2 ^ n - 1)) (i + 1) = vt_s2 (nI i) (vt_s1 (nI i) (vt_st (w_a w a) n (nI (2 ^ n - 1)) i) (vt_wins (w_a w a) n (nI i))) (vt_bare (w_a w a) n (nI i)) from rfl] at ih'
    refine g_iload dX8_winners_24 rfl ?_
    refine g_iload dX8_winners_26 rfl ?_
    refine g_icmp_gt (tgt := 91) dX8_winners_28 (by decide) (fun zc28 => ?_) (fun zc28 => ?_)
    · exact absurd zc28 (by rw [pI_lt, nI_toInt (by omega), nI_toInt (by omega)]; omega)
    · refine g_aload_n dX8_winners_31 rfl ?_
      refine g_iload dX8_winners_32 rfl ?_
      refine g_cS2i dX8_winners_34 ml_X8_19 mi_X8_wins ms_X8_wins (Nat.le_of_ble_eq_true rfl) rfl (by omega) ?_
      refine c_X8_wins (by omega) h (fun e34 => ?_) (fun e34 => ?_)
      · refine g_if_eq (tgt := 50) dX8_winners_37 (by decide) (fun q => absurd q (by decide)) (fun _ => ?_)
        refine g_iinc dX8_winners_40 rfl rfl ?_
        refine g_iload dX8_winners_43 rfl ?_
        refine g_iload dX8_winners_45 rfl ?_
        refine g_iand dX8_winners_47 ?_
        refine g_istore dX8_winners_48 (Nat.le_of_ble_eq_true rfl) rfl ?_
        refine g_aload_n dX8_winners_50 rfl ?_
        refine g_iload dX8_winners_51 rfl ?_
        refine g_cS2i dX8_winners_53 ml_X8_45 mi_X8_winsBarely ms_X8_winsBarely (Nat.le_of_ble_eq_true rfl) rfl (by omega) ?_
        refine c_X8_winsBarely (by omega) h (fun e53 => ?_) (fun e53 => ?_)
        · refine g_if_eq (tgt := 85) dX8_winners_56 (by decide) (fun q => absurd q (by decide)) (fun _ => ?_)
          refine g_iinc dX8_winners_59 rfl rfl ?_
          refine g_iload dX8_winners_62 rfl ?_
          refine g_bipush (v := -2) dX8_winners_64 rfl ?_
          refine g_icmp_ne (tgt := 74) dX8_winners_66 (by decide) (fun zc66 => ?_) (fun zc66 => ?_)
          · refine g_iload dX8_winners_74 rfl ?_
            refine g_istore dX8_winners_76 (Nat.le_of_ble_eq_true rfl) rfl ?_
            refine g_iload dX8_winners_78 rfl ?_
            refine g_iload dX8_winners_80 rfl ?_
            refine g_ior dX8_winners_82 ?_
            refine g_istore dX8_winners_83 (Nat.le_of_ble_eq_true rfl) rfl ?_
            refine g_iinc dX8_winners_85 rfl rfl ?_
            refine g_goto (tgt := 24) dX8_winners_88 (by decide) ?_
            rw [nI_1']
            rw [e34, e53] at ih'
            simp only [vt_s1, vt_s2] at ih'
            rw [vt_pk_n zc66] at ih'
            exact ih'
          · refine g_iload dX8_winners_69 rfl ?_
            refine g_goto (tgt := 76) dX8_winners_71 (by decide) ?_
            refine g_istore dX8_winners_76 (Nat.le_of_ble_eq_true rfl) rfl ?_
            refine g_iload dX8_winners_78 rfl ?_
            refine g_iload dX8_winners_80 rfl ?_
            refine g_ior dX8_winners_82 ?_
            refine g_istore dX8_winners_83 (Nat.le_of_ble_eq_true rfl) rfl ?_
            refine g_iinc dX8_winners_85 rfl rfl ?_
            refine g_goto (tgt := 24) dX8_winners_88 (by decide) ?_
            rw [nI_1']
            rw [e34, e53] at ih'
            simp only [vt_s1, vt_s2] at ih'
            rw [vt_pk_p (by first | exact zc66 | exact Classical.not_not.mp zc66)] at ih'
            exact ih'
        · refine g_if_eq (tgt := 85) dX8_winners_56 (by decide) (fun _ => ?_) (fun q => absurd q (by decide))
          refine g_iinc dX8_winners_85 rfl rfl ?_
          refine g_goto (tgt := 24) dX8_winners_88 (by decide) ?_
          rw [nI_1']
          rw [e34, e53] at ih'
          simp only [vt_s1, vt_s2] at ih'
          exact ih'
      · refine g_if_eq (tgt := 50) dX8_winners_37 (by decide) (fun _ => ?_) (fun q => absurd q (by decide))
        refine g_aload_n dX8_winners_50 rfl ?_
        refine g_iload dX8_winners_51 rfl ?_
        refine g_cS2i dX8_winners_53 ml_X8_45 mi_X8_winsBarely ms_X8_winsBarely (Nat.le_of_ble_eq_true rfl) rfl (by omega) ?_
        refine c_X8_winsBarely (by omega) h (fun e53 => ?_) (fun e53 => ?_)
        · refine g_if_eq (tgt := 85) dX8_winners_56 (by decide) (fun q => absurd q (by decide)) (fun _ => ?_)
          refine g_iinc dX8_winners_59 rfl rfl ?_
          refine g_iload dX8_winners_62 rfl ?_
          refine g_bipush (v := -2) dX8_winners_64 rfl ?_
          refine g_icmp_ne (tgt := 74) dX8_winners_66 (by decide) (fun zc66 => ?_) (fun zc66 => ?_)
          · refine g_iload dX8_winners_74 rfl ?_
            refine g_istore dX8_winners_76 (Nat.le_of_ble_eq_true rfl) rfl ?_
            refine g_iload dX8_winners_78 rfl ?_
            refine g_iload dX8_winners_80 rfl ?_
            refine g_ior dX8_winners_82 ?_
            refine g_istore dX8_winners_83 (Nat.le_of_ble_eq_true rfl) rfl ?_
            refine g_iinc dX8_winners_85 rfl rfl ?_
            refine g_goto (tgt := 24) dX8_winners_88 (by decide) ?_
            rw [nI_1']
            rw [e34, e53] at ih'
            simp only [vt_s1, vt_s2] at ih'
            rw [vt_pk_n zc66] at ih'
            exact ih'
          · refine g_iload dX8_winners_69 rfl ?_
            refine g_goto (tgt := 76) dX8_winners_71 (by decide) ?_
            refine g_istore dX8_winners_76 (Nat.le_of_ble_eq_true rfl) rfl ?_
            refine g_iload dX8_winners_78 rfl ?_
            refine g_iload dX8_winners_80 rfl ?_
            refine g_ior dX8_winners_82 ?_
            refine g_istore dX8_winners_83 (Nat.le_of_ble_eq_true rfl) rfl ?_
            refine g_iinc dX8_winners_85 rfl rfl ?_
            refine g_goto (tgt := 24) dX8_winners_88 (by decide) ?_
            rw [nI_1']
            rw [e34, e53] at ih'
            simp only [vt_s1, vt_s2] at ih'
            rw [vt_pk_p (by first | exact zc66 | exact Classical.not_not.mp zc66)] at ih'
            exact ih'
        · refine g_if_eq (tgt := 85) dX8_winners_56 (by decide) (fun _ => ?_) (fun q => absurd q (by decide))
          refine g_iinc dX8_winners_85 rfl rfl ?_
          refine g_goto (tgt := 24) dX8_winners_88 (by decide) ?_
          rw [nI_1']
          rw [e34, e53] at ih'
          simp only [vt_s1, vt_s2] at ih'
          exact ih'
theorem c_X8_winners {d : Nat} {w : gx_W} {r a n : Nat} {x : Int32} {k : Int32 → gx_W → Prop} (hd : 4 ≤ d) (h : isCn w r a n) (kk : k (vt_res x (nI (2 ^ n - 1)) (vt_st (w_a w a) n (nI (2 ^ n - 1)) (2 ^ n))) w) : gx_C 0 0 d mX8_winners [.ref r, .int x] w (Qi k) := by
  refine gx_C_of' (L := [.ref r, .int x, .retAddr 0, .retAddr 0, .retAddr 0, .retAddr 0, .retAddr 0, .retAddr 0, .retAddr 0]) (by decide +kernel) rfl (Nat.le_of_ble_eq_true rfl) ?_
  refine g_iconst (v := 0) dX8_winners_0 rfl ?_
  refine g_istore_n dX8_winners_1 (Nat.le_of_ble_eq_true rfl) rfl ?_
  refine g_iconst (v := 0) dX8_winners_2 rfl ?_
  refine g_istore_n dX8_winners_3 (Nat.le_of_ble_eq_true rfl) rfl ?_
  refine g_bipush (v := -2) dX8_winners_4 rfl ?_
  refine g_istore dX8_winners_6 (Nat.le_of_ble_eq_true rfl) rfl ?_
  refine g_iconst (v := 0) dX8_winners_8 rfl ?_
  refine g_istore dX8_winners_9 (Nat.le_of_ble_eq_true rfl) rfl ?_
  refine g_aload_n dX8_winners_11 rfl ?_
  refine g_cV0i dX8_winners_12 ml_X8_41 mi_X2_allRoads mv_X2_allRoads h.1.1 ⟨_, rfl, rfl⟩ (Nat.le_of_ble_eq_true rfl) rfl (by omega) ?_
  refine c_X2_allRoads (by omega) h ?_
  refine g_istore dX8_winners_15 (Nat.le_of_ble_eq_true rfl) rfl ?_
  refine g_iload dX8_winners_17 rfl ?_
  refine g_istore dX8_winners_19 (Nat.le_of_ble_eq_true rfl) rfl ?_
  refine g_iconst (v := 0) dX8_winners_21 rfl ?_
  refine g_istore dX8_winners_22 (Nat.le_of_ble_eq_true rfl) rfl ?_
  exact l_X8_winners hd h kk (2 ^ n) 0 (by omega)

/-! The reference: winning; numbers and their changes -/
theorem idl (a u s : Int32) : (a &&& (u ^^^ -1)) &&& (s ^^^ -1) = a &&& ((u ||| s) ^^^ -1) := by
  apply Int32.toBitVec_inj.mp
  simp only [Int32.toBitVec_and, Int32.toBitVec_or, Int32.toBitVec_xor]
  generalize a.toBitVec = A
  generalize u.toBitVec = U
  generalize s.toBitVec = S
  have e : (-1 : Int32).toBitVec = BitVec.allOnes 32 := by decide
  rw [e]
  apply BitVec.eq_of_getLsbD_eq
  intro i hi
  simp only [BitVec.getLsbD_and, BitVec.getLsbD_xor, BitVec.getLsbD_or, BitVec.getLsbD_allOnes, hi, decide_true, Bool.xor_true]
  cases A.getLsbD i <;> cases U.getLsbD i <;> cases S.getLsbD i <;> rfl
theorem idl0 : ∀ n, n ≤ 6 → nI (2 ^ n - 1) &&& ((0 : Int32) ^^^ -1) = nI (2 ^ n - 1) := by decide
theorem vt_wb {f : Nat → Int32} {n : Nat} {s : Int32} (h : vt_wins f n s = false) : vt_bare f n s = false := by
  cases e : vt_bare f n s with
  | false => rfl
  | true => exact absurd ((vt_bare_iff.mp e).1.symm.trans h) (by decide)
def wnI (q : Int32 × Int32 × Int32 × Int32 × Int32) (i : Nat) : Prop := ∃ u, u ≤ i ∧ q.2.1 = nI u ∧ (u = 0 ↔ q.2.2.1 = -2)
set_option maxHeartbeats 4000000 in
theorem l_X10_winning {d n : Nat} {w : gx_W} {f : Nat → Int32} {x : Int32} {k : Int32 → gx_W → Prop} (hd : 2 ≤ d) (h : moO w) (hx : mxN w f n) (kk : k (vt_res x (nI (2 ^ n - 1)) (vt_st f n (nI (2 ^ n - 1)) (2 ^ n))) w) : ∀ z i : Nat, i + z = 2 ^ n → ∀ q, q = vt_st f n (nI (2 ^ n - 1)) i → wnI q i → gx_G 0 0 d mX10_winning (Qi k) 38 [.ref 57, .int x, .int (nI (2 ^ n - 1)), .int q.1, .int q.2.1, .int q.2.2.1, .int q.2.2.2.2, .int (nI (2 ^ n - 1) &&& (q.2.2.2.1 ^^^ -1)), .int (nI i)] [] w := by
  intro z
  have hn6 := hx.2.1
  have h64 := p2_le n hn6
  have hp := Nat.two_pow_pos n
  induction z with
  | zero =>
    intro i hi q hq hw
    have e : i = 2 ^ n := by omega
    subst e
    rw [← hq] at kk
    unfold vt_res at kk
    refine g_iload dX10_winning_38 rfl ?_
    refine g_iload_n dX10_winning_40 rfl ?_
    refine g_icmp_gt (tgt := 105) dX10_winning_41 (by decide) (fun zc41 => ?_) (fun zc41 => ?_)
    · refine g_iload_n dX10_winning_105 rfl ?_
      by_cases s106_0 : x = 0
      · refine g_tableIn (off := 30) (tgt := 136) dX10_winning_106 (by rw [s106_0]; decide) (by rw [s106_0]; decide) (by rw [s106_0]; rfl) (by decide) ?_
        refine g_iload_n dX10_winning_136 rfl ?_
        refine g_iret dX10_winning_137 rfl ⟨_, rfl, ?_⟩
        rw [if_pos s106_0] at kk
        exact kk
      by_cases s106_1 : x = 1
      · refine g_tableIn (off := 32) (tgt := 138) dX10_winning_106 (by rw [s106_1]; decide) (by rw [s106_1]; decide) (by rw [s106_1]; rfl) (by decide) ?_
        refine g_iload dX10_winning_138 rfl ?_
        refine g_iret dX10_winning_140 rfl ⟨_, rfl, ?_⟩
        rw [if_neg s106_0, if_pos s106_1] at kk
        exact kk
      by_cases s106_2 : x = 2
      · refine g_tableIn (off := 35) (tgt := 141) dX10_winning_106 (by rw [s106_2]; decide) (by rw [s106_2]; decide) (by rw [s106_2]; rfl) (by decide) ?_
        refine g_iload dX10_winning_141 rfl ?_
        refine g_iret dX10_winning_143 rfl ⟨_, rfl, ?_⟩
        rw [if_neg s106_0, if_neg s106_1, if_pos s106_2] at kk
        exact kk
      by_cases s106_3 : x = 3
      · refine g_tableIn (off := 38) (tgt := 144) dX10_winning_106 (by rw [s106_3]; decide) (by rw [s106_3]; decide) (by rw [s106_3]; rfl) (by decide) ?_
        refine g_iload_n dX10_winning_144 rfl ?_
        refine g_if_ne (tgt := 152) dX10_winning_145 (by decide) (fun zc145 => ?_) (fun zc145 => ?_)
        · refine g_iload dX10_winning_152 rfl ?_
          refine g_iret dX10_winning_154 rfl ⟨_, rfl, ?_⟩
          rw [if_neg s106_0, if_neg s106_1, if_neg s106_2, if_pos s106_3, if_neg zc145] at kk
          exact kk
        · refine g_iconst (v := 0) dX10_winning_148 rfl ?_
          refine g_goto (tgt := 154) dX10_winning_149 (by decide) ?_
          refine g_iret dX10_winning_154 rfl ⟨_, rfl, ?_⟩
          rw [if_neg s106_0, if_neg s106_1, if_neg s106_2, if_pos s106_3, if_pos zc145] at kk
          exact kk
      refine g_tableOut (tgt := 155) dX10_winning_106 (by have z0 := lv_neT s106_0 (a := 0) (by decide); have z1 := lv_neT s106_1 (a := 1) (by decide); have z2 := lv_neT s106_2 (a := 2) (by decide); have z3 := lv_neT s106_3 (a := 3) (by decide); omega) (by decide) ?_
      refine g_iload dX10_winning_155 rfl ?_
      refine g_iret dX10_winning_157 rfl ⟨_, rfl, ?_⟩
      rw [if_neg s106_0, if_neg s106_1, if_neg s106_2, if_neg s106_3] at kk
      exact kk
    · exact absurd (nI_lt (show 2 ^ n - 1 < 2 ^ n by omega) (by omega)) zc41
  | succ z ih =>
    intro i hi q hq hw
    obtain ⟨u, u1, u2, u3⟩ := hw
    refine g_iload dX10_winning_38 rfl ?_
    refine g_iload_n dX10_winning_40 rfl ?_
    refine g_icmp_gt (tgt := 105) dX10_winning_41 (by decide) (fun zc41 => ?_) (fun zc41 => ?_)
    · exact absurd zc41 (nI_nlt (by omega) (by omega))
    · refine g_aload_n dX10_winning_44 rfl ?_
      refine g_iload dX10_winning_45 rfl ?_
      refine g_cV1i dX10_winning_47 ml_X10_298 mi_X10_winsBy mv_X10_winsBy h.1 ⟨_, rfl, rfl⟩ (Nat.le_of_ble_eq_true rfl) rfl (by omega) ?_
      refine c_X10_winsBy (by omega) h hx (fun hw => ?_) (fun hw => ?_)
      · refine g_if_ne (tgt := 56) dX10_winning_50 (by decide) (fun _ => ?_) (fun q => absurd q (by decide))
        refine g_iinc dX10_winning_56 rfl rfl ?_
        refine g_iload dX10_winning_59 rfl ?_
        refine g_iload dX10_winning_61 rfl ?_
        refine g_iand dX10_winning_63 ?_
        refine g_istore dX10_winning_64 (Nat.le_of_ble_eq_true rfl) rfl ?_
        refine g_aload_n dX10_winning_66 rfl ?_
        refine g_iload dX10_winning_67 rfl ?_
        refine g_cV1i dX10_winning_69 ml_X10_311 mi_X10_isJust mv_X10_isJust h.1 ⟨_, rfl, rfl⟩ (Nat.le_of_ble_eq_true rfl) rfl (by omega) ?_
        refine c_X10_isJust (by omega) h hx (by omega) (fun hj => ?_) (fun hj => ?_)
        · refine g_if_ne (tgt := 78) dX10_winning_72 (by decide) (fun _ => ?_) (fun q => absurd q (by decide))
          refine g_iload dX10_winning_78 rfl ?_
          rw [u2]
          refine g_if_ne (tgt := 87) dX10_winning_80 (by decide) (fun zc80 => ?_) (fun zc80 => ?_)
          · have hu0 : ¬ u = 0 := fun y => zc80 (by rw [y]; rfl)
            refine g_iinc dX10_winning_87 rfl rfl ?_
            refine g_iload dX10_winning_90 rfl ?_
            refine g_iload dX10_winning_92 rfl ?_
            refine g_iconst (v := -1) dX10_winning_94 rfl ?_
            refine g_ixor dX10_winning_95 ?_
            refine g_iand dX10_winning_96 ?_
            refine g_istore dX10_winning_97 (Nat.le_of_ble_eq_true rfl) rfl ?_
            refine g_iinc dX10_winning_99 rfl rfl ?_
            refine g_goto (tgt := 38) dX10_winning_102 (by decide) ?_
            rw [nI_1' i, nI_1' u, idl]
            have eu : q.2.1 + Int32.ofInt 1 = nI (u + 1) := by rw [u2]; exact nI_1' u
            have ep : vt_pk (nI i) q.2.2.1 = q.2.2.1 := vt_pk_n (fun y => hu0 (u3.mpr y))
            refine ih (i + 1) (by omega) (q.1 + Int32.ofInt 1, nI (u + 1), q.2.2.1, q.2.2.2.1 ||| nI i, q.2.2.2.2 &&& nI i) ?_ ⟨u + 1, by omega, rfl, ⟨fun y => absurd y (by omega), fun y => ?_⟩⟩
            · show _ = vt_s2 (nI i) (vt_s1 (nI i) (vt_st f n (nI (2 ^ n - 1)) i) (vt_wins f n (nI i))) (vt_bare f n (nI i))
              rw [hw, hj, ← hq]
              show _ = (q.1 + Int32.ofInt 1, q.2.1 + Int32.ofInt 1, vt_pk (nI i) q.2.2.1, q.2.2.2.1 ||| nI i, q.2.2.2.2 &&& nI i)
              rw [ep, eu]
            · exact absurd y (fun y => hu0 (u3.mpr y))
          · have hu0 : u = 0 := pI_inj (a := u) (b := 0) (by omega) (by omega) zc80
            refine g_iload dX10_winning_83 rfl ?_
            refine g_istore dX10_winning_85 (Nat.le_of_ble_eq_true rfl) rfl ?_
            refine g_iinc dX10_winning_87 rfl rfl ?_
            refine g_iload dX10_winning_90 rfl ?_
            refine g_iload dX10_winning_92 rfl ?_
            refine g_iconst (v := -1) dX10_winning_94 rfl ?_
            refine g_ixor dX10_winning_95 ?_
            refine g_iand dX10_winning_96 ?_
            refine g_istore dX10_winning_97 (Nat.le_of_ble_eq_true rfl) rfl ?_
            refine g_iinc dX10_winning_99 rfl rfl ?_
            refine g_goto (tgt := 38) dX10_winning_102 (by decide) ?_
            rw [nI_1' i, nI_1' u, idl]
            have eu : q.2.1 + Int32.ofInt 1 = nI (u + 1) := by rw [u2]; exact nI_1' u
            have ep : vt_pk (nI i) q.2.2.1 = (nI i) := vt_pk_p (u3.mp hu0)
            refine ih (i + 1) (by omega) (q.1 + Int32.ofInt 1, nI (u + 1), nI i, q.2.2.2.1 ||| nI i, q.2.2.2.2 &&& nI i) ?_ ⟨u + 1, by omega, rfl, ⟨fun y => absurd y (by omega), fun y => ?_⟩⟩
            · show _ = vt_s2 (nI i) (vt_s1 (nI i) (vt_st f n (nI (2 ^ n - 1)) i) (vt_wins f n (nI i))) (vt_bare f n (nI i))
              rw [hw, hj, ← hq]
              show _ = (q.1 + Int32.ofInt 1, q.2.1 + Int32.ofInt 1, vt_pk (nI i) q.2.2.1, q.2.2.2.1 ||| nI i, q.2.2.2.2 &&& nI i)
              rw [ep, eu]
            · exact absurd y (nI_m2 (by omega))
        · refine g_if_ne (tgt := 78) dX10_winning_72 (by decide) (fun q => absurd q (by decide)) (fun _ => ?_)
          refine g_goto (tgt := 99) dX10_winning_75 (by decide) ?_
          refine g_iinc dX10_winning_99 rfl rfl ?_
          refine g_goto (tgt := 38) dX10_winning_102 (by decide) ?_
          rw [nI_1']
          refine ih (i + 1) (by omega) (q.1 + Int32.ofInt 1, q.2.1, q.2.2.1, q.2.2.2.1, q.2.2.2.2 &&& nI i) ?_ ⟨u, by omega, u2, u3⟩
          show _ = vt_s2 (nI i) (vt_s1 (nI i) (vt_st f n (nI (2 ^ n - 1)) i) (vt_wins f n (nI i))) (vt_bare f n (nI i))
          rw [hw, hj, ← hq]
          rfl
      · refine g_if_ne (tgt := 56) dX10_winning_50 (by decide) (fun q => absurd q (by decide)) (fun _ => ?_)
        refine g_goto (tgt := 99) dX10_winning_53 (by decide) ?_
        refine g_iinc dX10_winning_99 rfl rfl ?_
        refine g_goto (tgt := 38) dX10_winning_102 (by decide) ?_
        rw [nI_1']
        refine ih (i + 1) (by omega) q ?_ ⟨u, by omega, u2, u3⟩
        show q = vt_s2 (nI i) (vt_s1 (nI i) (vt_st f n (nI (2 ^ n - 1)) i) (vt_wins f n (nI i))) (vt_bare f n (nI i))
        rw [hw, vt_wb hw, ← hq]
        rfl
theorem c_X10_winning {d : Nat} {w : gx_W} {f : Nat → Int32} {n : Nat} {x : Int32} {k : Int32 → gx_W → Prop} (hd : 2 ≤ d) (h : moO w) (hx : mxN w f n) (k1 : (∀ m, m ≤ 4 → x ≠ nI m) → k (-1) w) (k2 : ∀ m, x = nI m → m ≤ 4 → k (vt_res x (nI (2 ^ n - 1)) (vt_st f n (nI (2 ^ n - 1)) (2 ^ n))) w) : gx_C 0 0 d mX10_winning [.ref 57, .int x] w (Qi k) := by
  refine gx_C_of' (L := [.ref 57, .int x, .retAddr 0, .retAddr 0, .retAddr 0, .retAddr 0, .retAddr 0, .retAddr 0, .retAddr 0]) (by decide +kernel) rfl (Nat.le_of_ble_eq_true rfl) ?_
  refine g_iload_n dX10_winning_0 rfl ?_
  refine g_iconst (v := 0) dX10_winning_1 rfl ?_
  refine g_iconst (v := 4) dX10_winning_2 rfl ?_
  refine g_cS3i dX10_winning_3 ml_X10_124 mi_X10_in ms_X10_in (Nat.le_of_ble_eq_true rfl) rfl (by omega) ?_
  refine c_inN (H := 4) rfl (by decide) (fun m e hm => ?_) (fun nx => ?_)
  · refine g_if_ne (tgt := 11) dX10_winning_6 (by decide) (fun _ => ?_) (fun q => absurd q (by decide))
    refine g_iconst (v := 1) dX10_winning_11 rfl ?_
    refine g_aload_n dX10_winning_12 rfl ?_
    refine g_geti dX10_winning_13 fl_X10_121 h.1 ?_
    rw [hx.1]
    refine g_ishl dX10_winning_16 ?_
    rw [vt_pow n hx.2.1]
    refine g_iconst (v := 1) dX10_winning_17 rfl ?_
    refine g_isub dX10_winning_18 ?_
    rw [show nI (2 ^ n) - 1 = nI (2 ^ n - 1) from pk_sub (a := 2 ^ n) (b := 1) (Nat.two_pow_pos n)]
    refine g_istore_n dX10_winning_19 (Nat.le_of_ble_eq_true rfl) rfl ?_
    refine g_iconst (v := 0) dX10_winning_20 rfl ?_
    refine g_istore_n dX10_winning_21 (Nat.le_of_ble_eq_true rfl) rfl ?_
    refine g_iconst (v := 0) dX10_winning_22 rfl ?_
    refine g_istore dX10_winning_23 (Nat.le_of_ble_eq_true rfl) rfl ?_
    refine g_bipush (v := -2) dX10_winning_25 rfl ?_
    refine g_istore dX10_winning_27 (Nat.le_of_ble_eq_true rfl) rfl ?_
    refine g_iload_n dX10_winning_29 rfl ?_
    refine g_istore dX10_winning_30 (Nat.le_of_ble_eq_true rfl) rfl ?_
    refine g_iload_n dX10_winning_32 rfl ?_
    refine g_istore dX10_winning_33 (Nat.le_of_ble_eq_true rfl) rfl ?_
    refine g_iconst (v := 0) dX10_winning_35 rfl ?_
    refine g_istore dX10_winning_36 (Nat.le_of_ble_eq_true rfl) rfl ?_
    have K := l_X10_winning hd h hx (k2 m e hm) (2 ^ n) 0 (Nat.zero_add _) _ rfl ⟨0, Nat.le_refl _, rfl, ⟨fun _ => rfl, fun _ => rfl⟩⟩
    rw [show (vt_st f n (nI (2 ^ n - 1)) 0).2.2.2.1 = 0 from rfl, idl0 n hx.2.1] at K
    exact K
  · refine g_if_ne (tgt := 11) dX10_winning_6 (by decide) (fun q => absurd q (by decide)) (fun _ => ?_)
    refine g_iconst (v := -1) dX10_winning_9 rfl ?_
    refine g_iret dX10_winning_10 rfl ⟨_, rfl, ?_⟩
    exact k1 nx

/-! THE ROWS of the judgement: an instruction, a row -/
theorem g_iconst {nc ns d : Nat} {M : gx_M} {Q : Option Value → gx_W → Prop} {pc : Nat} {L st : List Value} {w : gx_W} {n : Int} {v : Int32} (hd : gx_d M pc (.iconst n) 1) (hv : Int32.ofInt n = v) (k : gx_G nc ns d M Q (pc + 1) L (.int v :: st) w) : gx_G nc ns d M Q (pc) L (st) w := by
  intro D p l e R s m args below meth c H locs cells slots ls C hR hP hS hL
  exact lv_iconst  C.1 C.2.1 hd hv (k D p l e R s m args below meth c H locs cells slots ls C hR hP hS hL)
theorem g_bipush {nc ns d : Nat} {M : gx_M} {Q : Option Value → gx_W → Prop} {pc : Nat} {L st : List Value} {w : gx_W} {n : Int} {v : Int32} (hd : gx_d M pc (.bipush n) 2) (hv : (Int8.ofInt n).toInt32 = v) (k : gx_G nc ns d M Q (pc + 2) L (.int v :: st) w) : gx_G nc ns d M Q (pc) L (st) w := by
  intro D p l e R s m args below meth c H locs cells slots ls C hR hP hS hL
  exact lv_bipush  C.1 C.2.1 hd hv (k D p l e R s m args below meth c H locs cells slots ls C hR hP hS hL)
theorem g_sipush {nc ns d : Nat} {M : gx_M} {Q : Option Value → gx_W → Prop} {pc : Nat} {L st : List Value} {w : gx_W} {n : Int} {v : Int32} (hd : gx_d M pc (.sipush n) 3) (hv : (Int16.ofInt n).toInt32 = v) (k : gx_G nc ns d M Q (pc + 3) L (.int v :: st) w) : gx_G nc ns d M Q (pc) L (st) w := by
  intro D p l e R s m args below meth c H locs cells slots ls C hR hP hS hL
  exact lv_sipush  C.1 C.2.1 hd hv (k D p l e R s m args below meth c H locs cells slots ls C hR hP hS hL)
theorem g_lconst {nc ns d : Nat} {M : gx_M} {Q : Option Value → gx_W → Prop} {pc : Nat} {L st : List Value} {w : gx_W} {n : Fin 2} {v : Int64} (hd : gx_d M pc (.lconst n) 1) (hv : Int64.ofNat (n : Nat) = v) (k : gx_G nc ns d M Q (pc + 1) L (.long v :: st) w) : gx_G nc ns d M Q (pc) L (st) w := by
  intro D p l e R s m args below meth c H locs cells slots ls C hR hP hS hL
  exact lv_lconst  C.1 C.2.1 hd hv (k D p l e R s m args below meth c H locs cells slots ls C hR hP hS hL)
theorem g_null {nc ns d : Nat} {M : gx_M} {Q : Option Value → gx_W → Prop} {pc : Nat} {L st : List Value} {w : gx_W}  (hd : gx_d M pc (.aconst_null) 1) (k : gx_G nc ns d M Q (pc + 1) L (.null :: st) w) : gx_G nc ns d M Q (pc) L (st) w := by
  intro D p l e R s m args below meth c H locs cells slots ls C hR hP hS hL
  exact lv_null  C.1 C.2.1 hd  (k D p l e R s m args below meth c H locs cells slots ls C hR hP hS hL)
theorem g_iadd {nc ns d : Nat} {M : gx_M} {Q : Option Value → gx_W → Prop} {pc : Nat} {L st : List Value} {w : gx_W} {x y : Int32} (hd : gx_d M pc (.iadd) 1) (k : gx_G nc ns d M Q (pc + 1) L (.int (x + y) :: st) w) : gx_G nc ns d M Q (pc) L (.int y :: .int x :: st) w := by
  intro D p l e R s m args below meth c H locs cells slots ls C hR hP hS hL
  exact lv_iadd  C.1 C.2.1 hd  (k D p l e R s m args below meth c H locs cells slots ls C hR hP hS hL)
theorem g_isub {nc ns d : Nat} {M : gx_M} {Q : Option Value → gx_W → Prop} {pc : Nat} {L st : List Value} {w : gx_W} {x y : Int32} (hd : gx_d M pc (.isub) 1) (k : gx_G nc ns d M Q (pc + 1) L (.int (x - y) :: st) w) : gx_G nc ns d M Q (pc) L (.int y :: .int x :: st) w := by
  intro D p l e R s m args below meth c H locs cells slots ls C hR hP hS hL
  exact lv_isub  C.1 C.2.1 hd  (k D p l e R s m args below meth c H locs cells slots ls C hR hP hS hL)
theorem g_imul {nc ns d : Nat} {M : gx_M} {Q : Option Value → gx_W → Prop} {pc : Nat} {L st : List Value} {w : gx_W} {x y : Int32} (hd : gx_d M pc (.imul) 1) (k : gx_G nc ns d M Q (pc + 1) L (.int (x * y) :: st) w) : gx_G nc ns d M Q (pc) L (.int y :: .int x :: st) w := by
  intro D p l e R s m args below meth c H locs cells slots ls C hR hP hS hL
  exact lv_imul  C.1 C.2.1 hd  (k D p l e R s m args below meth c H locs cells slots ls C hR hP hS hL)
theorem g_iand {nc ns d : Nat} {M : gx_M} {Q : Option Value → gx_W → Prop} {pc : Nat} {L st : List Value} {w : gx_W} {x y : Int32} (hd : gx_d M pc (.iand) 1) (k : gx_G nc ns d M Q (pc + 1) L (.int (x &&& y) :: st) w) : gx_G nc ns d M Q (pc) L (.int y :: .int x :: st) w := by
  intro D p l e R s m args below meth c H locs cells slots ls C hR hP hS hL
  exact lv_iand  C.1 C.2.1 hd  (k D p l e R s m args below meth c H locs cells slots ls C hR hP hS hL)
theorem g_ior {nc ns d : Nat} {M : gx_M} {Q : Option Value → gx_W → Prop} {pc : Nat} {L st : List Value} {w : gx_W} {x y : Int32} (hd : gx_d M pc (.ior) 1) (k : gx_G nc ns d M Q (pc + 1) L (.int (x ||| y) :: st) w) : gx_G nc ns d M Q (pc) L (.int y :: .int x :: st) w := by
  intro D p l e R s m args below meth c H locs cells slots ls C hR hP hS hL
  exact lv_ior  C.1 C.2.1 hd  (k D p l e R s m args below meth c H locs cells slots ls C hR hP hS hL)
theorem g_ixor {nc ns d : Nat} {M : gx_M} {Q : Option Value → gx_W → Prop} {pc : Nat} {L st : List Value} {w : gx_W} {x y : Int32} (hd : gx_d M pc (.ixor) 1) (k : gx_G nc ns d M Q (pc + 1) L (.int (x ^^^ y) :: st) w) : gx_G nc ns d M Q (pc) L (.int y :: .int x :: st) w := by
  intro D p l e R s m args below meth c H locs cells slots ls C hR hP hS hL
  exact lv_ixor  C.1 C.2.1 hd  (k D p l e R s m args below meth c H locs cells slots ls C hR hP hS hL)
theorem g_ishl {nc ns d : Nat} {M : gx_M} {Q : Option Value → gx_W → Prop} {pc : Nat} {L st : List Value} {w : gx_W} {x y : Int32} (hd : gx_d M pc (.ishl) 1) (k : gx_G nc ns d M Q (pc + 1) L (.int (x <<< (y &&& 31)) :: st) w) : gx_G nc ns d M Q (pc) L (.int y :: .int x :: st) w := by
  intro D p l e R s m args below meth c H locs cells slots ls C hR hP hS hL
  exact lv_ishl  C.1 C.2.1 hd  (k D p l e R s m args below meth c H locs cells slots ls C hR hP hS hL)
theorem g_ishr {nc ns d : Nat} {M : gx_M} {Q : Option Value → gx_W → Prop} {pc : Nat} {L st : List Value} {w : gx_W} {x y : Int32} (hd : gx_d M pc (.ishr) 1) (k : gx_G nc ns d M Q (pc + 1) L (.int (x >>> (y &&& 31)) :: st) w) : gx_G nc ns d M Q (pc) L (.int y :: .int x :: st) w := by
  intro D p l e R s m args below meth c H locs cells slots ls C hR hP hS hL
  exact lv_ishr  C.1 C.2.1 hd  (k D p l e R s m args below meth c H locs cells slots ls C hR hP hS hL)
theorem g_ladd {nc ns d : Nat} {M : gx_M} {Q : Option Value → gx_W → Prop} {pc : Nat} {L st : List Value} {w : gx_W} {x y : Int64} (hd : gx_d M pc (.ladd) 1) (k : gx_G nc ns d M Q (pc + 1) L (.long (x + y) :: st) w) : gx_G nc ns d M Q (pc) L (.long y :: .long x :: st) w := by
  intro D p l e R s m args below meth c H locs cells slots ls C hR hP hS hL
  exact lv_ladd  C.1 C.2.1 hd  (k D p l e R s m args below meth c H locs cells slots ls C hR hP hS hL)
theorem g_lsub {nc ns d : Nat} {M : gx_M} {Q : Option Value → gx_W → Prop} {pc : Nat} {L st : List Value} {w : gx_W} {x y : Int64} (hd : gx_d M pc (.lsub) 1) (k : gx_G nc ns d M Q (pc + 1) L (.long (x - y) :: st) w) : gx_G nc ns d M Q (pc) L (.long y :: .long x :: st) w := by
  intro D p l e R s m args below meth c H locs cells slots ls C hR hP hS hL
  exact lv_lsub  C.1 C.2.1 hd  (k D p l e R s m args below meth c H locs cells slots ls C hR hP hS hL)
theorem g_lmul {nc ns d : Nat} {M : gx_M} {Q : Option Value → gx_W → Prop} {pc : Nat} {L st : List Value} {w : gx_W} {x y : Int64} (hd : gx_d M pc (.lmul) 1) (k : gx_G nc ns d M Q (pc + 1) L (.long (x * y) :: st) w) : gx_G nc ns d M Q (pc) L (.long y :: .long x :: st) w := by
  intro D p l e R s m args below meth c H locs cells slots ls C hR hP hS hL
  exact lv_lmul  C.1 C.2.1 hd  (k D p l e R s m args below meth c H locs cells slots ls C hR hP hS hL)
theorem g_land {nc ns d : Nat} {M : gx_M} {Q : Option Value → gx_W → Prop} {pc : Nat} {L st : List Value} {w : gx_W} {x y : Int64} (hd : gx_d M pc (.land) 1) (k : gx_G nc ns d M Q (pc + 1) L (.long (x &&& y) :: st) w) : gx_G nc ns d M Q (pc) L (.long y :: .long x :: st) w := by
  intro D p l e R s m args below meth c H locs cells slots ls C hR hP hS hL
  exact lv_land  C.1 C.2.1 hd  (k D p l e R s m args below meth c H locs cells slots ls C hR hP hS hL)
theorem g_lor {nc ns d : Nat} {M : gx_M} {Q : Option Value → gx_W → Prop} {pc : Nat} {L st : List Value} {w : gx_W} {x y : Int64} (hd : gx_d M pc (.lor) 1) (k : gx_G nc ns d M Q (pc + 1) L (.long (x ||| y) :: st) w) : gx_G nc ns d M Q (pc) L (.long y :: .long x :: st) w := by
  intro D p l e R s m args below meth c H locs cells slots ls C hR hP hS hL
  exact lv_lor  C.1 C.2.1 hd  (k D p l e R s m args below meth c H locs cells slots ls C hR hP hS hL)
theorem g_lxor {nc ns d : Nat} {M : gx_M} {Q : Option Value → gx_W → Prop} {pc : Nat} {L st : List Value} {w : gx_W} {x y : Int64} (hd : gx_d M pc (.lxor) 1) (k : gx_G nc ns d M Q (pc + 1) L (.long (x ^^^ y) :: st) w) : gx_G nc ns d M Q (pc) L (.long y :: .long x :: st) w := by
  intro D p l e R s m args below meth c H locs cells slots ls C hR hP hS hL
  exact lv_lxor  C.1 C.2.1 hd  (k D p l e R s m args below meth c H locs cells slots ls C hR hP hS hL)
theorem g_idiv {nc ns d : Nat} {M : gx_M} {Q : Option Value → gx_W → Prop} {pc : Nat} {L st : List Value} {w : gx_W} {x y : Int32} (hd : gx_d M pc (.idiv) 1) (hne : ¬ y = 0) (k : gx_G nc ns d M Q (pc + 1) L (.int (x / y) :: st) w) : gx_G nc ns d M Q (pc) L (.int y :: .int x :: st) w := by
  intro D p l e R s m args below meth c H locs cells slots ls C hR hP hS hL
  exact lv_idiv  C.1 C.2.1 hd hne (k D p l e R s m args below meth c H locs cells slots ls C hR hP hS hL)
theorem g_irem {nc ns d : Nat} {M : gx_M} {Q : Option Value → gx_W → Prop} {pc : Nat} {L st : List Value} {w : gx_W} {x y : Int32} (hd : gx_d M pc (.irem) 1) (hne : ¬ y = 0) (k : gx_G nc ns d M Q (pc + 1) L (.int (x - x / y * y) :: st) w) : gx_G nc ns d M Q (pc) L (.int y :: .int x :: st) w := by
  intro D p l e R s m args below meth c H locs cells slots ls C hR hP hS hL
  exact lv_irem  C.1 C.2.1 hd hne (k D p l e R s m args below meth c H locs cells slots ls C hR hP hS hL)
theorem g_ldiv {nc ns d : Nat} {M : gx_M} {Q : Option Value → gx_W → Prop} {pc : Nat} {L st : List Value} {w : gx_W} {x y : Int64} (hd : gx_d M pc (.ldiv) 1) (hne : ¬ y = 0) (k : gx_G nc ns d M Q (pc + 1) L (.long (x / y) :: st) w) : gx_G nc ns d M Q (pc) L (.long y :: .long x :: st) w := by
  intro D p l e R s m args below meth c H locs cells slots ls C hR hP hS hL
  exact lv_ldiv  C.1 C.2.1 hd hne (k D p l e R s m args below meth c H locs cells slots ls C hR hP hS hL)
theorem g_lrem {nc ns d : Nat} {M : gx_M} {Q : Option Value → gx_W → Prop} {pc : Nat} {L st : List Value} {w : gx_W} {x y : Int64} (hd : gx_d M pc (.lrem) 1) (hne : ¬ y = 0) (k : gx_G nc ns d M Q (pc + 1) L (.long (x - x / y * y) :: st) w) : gx_G nc ns d M Q (pc) L (.long y :: .long x :: st) w := by
  intro D p l e R s m args below meth c H locs cells slots ls C hR hP hS hL
  exact lv_lrem  C.1 C.2.1 hd hne (k D p l e R s m args below meth c H locs cells slots ls C hR hP hS hL)
theorem g_ineg {nc ns d : Nat} {M : gx_M} {Q : Option Value → gx_W → Prop} {pc : Nat} {L st : List Value} {w : gx_W} {x : Int32} (hd : gx_d M pc (.ineg) 1) (k : gx_G nc ns d M Q (pc + 1) L (.int (-x) :: st) w) : gx_G nc ns d M Q (pc) L (.int x :: st) w := by
  intro D p l e R s m args below meth c H locs cells slots ls C hR hP hS hL
  exact lv_ineg  C.1 C.2.1 hd  (k D p l e R s m args below meth c H locs cells slots ls C hR hP hS hL)
theorem g_lneg {nc ns d : Nat} {M : gx_M} {Q : Option Value → gx_W → Prop} {pc : Nat} {L st : List Value} {w : gx_W} {x : Int64} (hd : gx_d M pc (.lneg) 1) (k : gx_G nc ns d M Q (pc + 1) L (.long (-x) :: st) w) : gx_G nc ns d M Q (pc) L (.long x :: st) w := by
  intro D p l e R s m args below meth c H locs cells slots ls C hR hP hS hL
  exact lv_lneg  C.1 C.2.1 hd  (k D p l e R s m args below meth c H locs cells slots ls C hR hP hS hL)
theorem g_i2l {nc ns d : Nat} {M : gx_M} {Q : Option Value → gx_W → Prop} {pc : Nat} {L st : List Value} {w : gx_W} {x : Int32} (hd : gx_d M pc (.i2l) 1) (k : gx_G nc ns d M Q (pc + 1) L (.long x.toInt64 :: st) w) : gx_G nc ns d M Q (pc) L (.int x :: st) w := by
  intro D p l e R s m args below meth c H locs cells slots ls C hR hP hS hL
  exact lv_i2l  C.1 C.2.1 hd rfl (k D p l e R s m args below meth c H locs cells slots ls C hR hP hS hL)
theorem g_l2i {nc ns d : Nat} {M : gx_M} {Q : Option Value → gx_W → Prop} {pc : Nat} {L st : List Value} {w : gx_W} {x : Int64} (hd : gx_d M pc (.l2i) 1) (k : gx_G nc ns d M Q (pc + 1) L (.int x.toInt32 :: st) w) : gx_G nc ns d M Q (pc) L (.long x :: st) w := by
  intro D p l e R s m args below meth c H locs cells slots ls C hR hP hS hL
  exact lv_l2i  C.1 C.2.1 hd rfl (k D p l e R s m args below meth c H locs cells slots ls C hR hP hS hL)
theorem g_i2b {nc ns d : Nat} {M : gx_M} {Q : Option Value → gx_W → Prop} {pc : Nat} {L st : List Value} {w : gx_W} {x : Int32} (hd : gx_d M pc (.i2b) 1) (k : gx_G nc ns d M Q (pc + 1) L (.int x.toInt8.toInt32 :: st) w) : gx_G nc ns d M Q (pc) L (.int x :: st) w := by
  intro D p l e R s m args below meth c H locs cells slots ls C hR hP hS hL
  exact lv_i2b  C.1 C.2.1 hd rfl (k D p l e R s m args below meth c H locs cells slots ls C hR hP hS hL)
theorem g_i2s {nc ns d : Nat} {M : gx_M} {Q : Option Value → gx_W → Prop} {pc : Nat} {L st : List Value} {w : gx_W} {x : Int32} (hd : gx_d M pc (.i2s) 1) (k : gx_G nc ns d M Q (pc + 1) L (.int x.toInt16.toInt32 :: st) w) : gx_G nc ns d M Q (pc) L (.int x :: st) w := by
  intro D p l e R s m args below meth c H locs cells slots ls C hR hP hS hL
  exact lv_i2s  C.1 C.2.1 hd rfl (k D p l e R s m args below meth c H locs cells slots ls C hR hP hS hL)
theorem g_iushr {nc ns d : Nat} {M : gx_M} {Q : Option Value → gx_W → Prop} {pc : Nat} {L st : List Value} {w : gx_W} {x y : Int32} (hd : gx_d M pc (.iushr) 1) (k : gx_G nc ns d M Q (pc + 1) L (.int ((x.toUInt32 >>> (y.toUInt32 &&& Int32.toUInt32 31)).toInt32) :: st) w) : gx_G nc ns d M Q (pc) L (.int y :: .int x :: st) w := by
  intro D p l e R s m args below meth c H locs cells slots ls C hR hP hS hL
  exact lv_iushr  C.1 C.2.1 hd rfl (k D p l e R s m args below meth c H locs cells slots ls C hR hP hS hL)
theorem g_lshl {nc ns d : Nat} {M : gx_M} {Q : Option Value → gx_W → Prop} {pc : Nat} {L st : List Value} {w : gx_W} {x : Int64} {y : Int32} (hd : gx_d M pc (.lshl) 1) (k : gx_G nc ns d M Q (pc + 1) L (.long (x <<< (y.toInt64 &&& 63)) :: st) w) : gx_G nc ns d M Q (pc) L (.int y :: .long x :: st) w := by
  intro D p l e R s m args below meth c H locs cells slots ls C hR hP hS hL
  exact lv_lshl  C.1 C.2.1 hd rfl (k D p l e R s m args below meth c H locs cells slots ls C hR hP hS hL)
theorem g_lcmp {nc ns d : Nat} {M : gx_M} {Q : Option Value → gx_W → Prop} {pc : Nat} {L st : List Value} {w : gx_W} {x y : Int64} (hd : gx_d M pc (.lcmp) 1) (k : gx_G nc ns d M Q (pc + 1) L (.int (lg_cmp x y) :: st) w) : gx_G nc ns d M Q (pc) L (.long y :: .long x :: st) w := by
  intro D p l e R s m args below meth c H locs cells slots ls C hR hP hS hL
  exact W.lcmp  C.1 C.2.1 hd  (k D p l e R s m args below meth c H locs cells slots ls C hR hP hS hL)
theorem g_dup {nc ns d : Nat} {M : gx_M} {Q : Option Value → gx_W → Prop} {pc : Nat} {L st : List Value} {w : gx_W} {a : Value} (hd : gx_d M pc (.dup) 1) (ha : a.category = 1) (k : gx_G nc ns d M Q (pc + 1) L (a :: a :: st) w) : gx_G nc ns d M Q (pc) L (a :: st) w := by
  intro D p l e R s m args below meth c H locs cells slots ls C hR hP hS hL
  exact lv_dup  C.1 C.2.1 hd ((gx_c_cat D a).trans ha) (k D p l e R s m args below meth c H locs cells slots ls C hR hP hS hL)
theorem g_pop {nc ns d : Nat} {M : gx_M} {Q : Option Value → gx_W → Prop} {pc : Nat} {L st : List Value} {w : gx_W} {a : Value} (hd : gx_d M pc (.pop) 1) (ha : a.category = 1) (k : gx_G nc ns d M Q (pc + 1) L (st) w) : gx_G nc ns d M Q (pc) L (a :: st) w := by
  intro D p l e R s m args below meth c H locs cells slots ls C hR hP hS hL
  exact lv_pop  C.1 C.2.1 hd ((gx_c_cat D a).trans ha) (k D p l e R s m args below meth c H locs cells slots ls C hR hP hS hL)
theorem g_dup2 {nc ns d : Nat} {M : gx_M} {Q : Option Value → gx_W → Prop} {pc : Nat} {L st : List Value} {w : gx_W} {a b : Value} (hd : gx_d M pc (.dup2) 1) (ha : a.category = 1) (hb : b.category = 1) (k : gx_G nc ns d M Q (pc + 1) L (a :: b :: a :: b :: st) w) : gx_G nc ns d M Q (pc) L (a :: b :: st) w := by
  intro D p l e R s m args below meth c H locs cells slots ls C hR hP hS hL
  exact lv_dup2_11  C.1 C.2.1 hd ((gx_c_cat D a).trans ha) ((gx_c_cat D b).trans hb) (k D p l e R s m args below meth c H locs cells slots ls C hR hP hS hL)
theorem g_dup2l {nc ns d : Nat} {M : gx_M} {Q : Option Value → gx_W → Prop} {pc : Nat} {L st : List Value} {w : gx_W} {a : Value} (hd : gx_d M pc (.dup2) 1) (ha : a.category = 2) (k : gx_G nc ns d M Q (pc + 1) L (a :: a :: st) w) : gx_G nc ns d M Q (pc) L (a :: st) w := by
  intro D p l e R s m args below meth c H locs cells slots ls C hR hP hS hL
  exact lv_dup2_2  C.1 C.2.1 hd ((gx_c_cat D a).trans ha) (k D p l e R s m args below meth c H locs cells slots ls C hR hP hS hL)
theorem g_dup_x1 {nc ns d : Nat} {M : gx_M} {Q : Option Value → gx_W → Prop} {pc : Nat} {L st : List Value} {w : gx_W} {a b : Value} (hd : gx_d M pc (.dup_x1) 1) (ha : a.category = 1) (hb : b.category = 1) (k : gx_G nc ns d M Q (pc + 1) L (a :: b :: a :: st) w) : gx_G nc ns d M Q (pc) L (a :: b :: st) w := by
  intro D p l e R s m args below meth c H locs cells slots ls C hR hP hS hL
  exact lv_dup_x1  C.1 C.2.1 hd ((gx_c_cat D a).trans ha) ((gx_c_cat D b).trans hb) (k D p l e R s m args below meth c H locs cells slots ls C hR hP hS hL)
theorem g_dup_x2 {nc ns d : Nat} {M : gx_M} {Q : Option Value → gx_W → Prop} {pc : Nat} {L st : List Value} {w : gx_W} {a b f : Value} (hd : gx_d M pc (.dup_x2) 1) (ha : a.category = 1) (hb : b.category = 1) (hf : f.category = 1) (k : gx_G nc ns d M Q (pc + 1) L (a :: b :: f :: a :: st) w) : gx_G nc ns d M Q (pc) L (a :: b :: f :: st) w := by
  intro D p l e R s m args below meth c H locs cells slots ls C hR hP hS hL
  exact lv_dup_x2  C.1 C.2.1 hd ((gx_c_cat D a).trans ha) ((gx_c_cat D b).trans hb) ((gx_c_cat D f).trans hf) (k D p l e R s m args below meth c H locs cells slots ls C hR hP hS hL)
theorem g_iload_n {nc ns d : Nat} {M : gx_M} {Q : Option Value → gx_W → Prop} {pc : Nat} {L st : List Value} {w : gx_W} {i : Fin 4} {x : Int32} (hd : gx_d M pc (.iload_n i) 1) (hl : L[(i : Nat)]? = some (.int x)) (k : gx_G nc ns d M Q (pc + 1) L (.int x :: st) w) : gx_G nc ns d M Q (pc) L (st) w := by
  intro D p l e R s m args below meth c H locs cells slots ls C hR hP hS hL
  exact lv_iload_n C.1 C.2.1 hd rfl (hL.2.2 _ _ hl (fun h => by cases h)) (k D p l e R s m args below meth c H locs cells slots ls C hR hP hS hL)
theorem g_iload {nc ns d : Nat} {M : gx_M} {Q : Option Value → gx_W → Prop} {pc : Nat} {L st : List Value} {w : gx_W} {i : Nat} {x : Int32} (hd : gx_d M pc (.iload i) 2) (hl : L[i]? = some (.int x)) (k : gx_G nc ns d M Q (pc + 2) L (.int x :: st) w) : gx_G nc ns d M Q (pc) L (st) w := by
  intro D p l e R s m args below meth c H locs cells slots ls C hR hP hS hL
  exact lv_iload C.1 C.2.1 hd (hL.2.2 _ _ hl (fun h => by cases h)) (k D p l e R s m args below meth c H locs cells slots ls C hR hP hS hL)
theorem g_lload_n {nc ns d : Nat} {M : gx_M} {Q : Option Value → gx_W → Prop} {pc : Nat} {L st : List Value} {w : gx_W} {i : Fin 4} {x : Int64} (hd : gx_d M pc (.lload_n i) 1) (hl : L[(i : Nat)]? = some (.long x)) (k : gx_G nc ns d M Q (pc + 1) L (.long x :: st) w) : gx_G nc ns d M Q (pc) L (st) w := by
  intro D p l e R s m args below meth c H locs cells slots ls C hR hP hS hL
  exact lv_lload_n C.1 C.2.1 hd rfl (hL.2.2 _ _ hl (fun h => by cases h)) (k D p l e R s m args below meth c H locs cells slots ls C hR hP hS hL)
theorem g_lload {nc ns d : Nat} {M : gx_M} {Q : Option Value → gx_W → Prop} {pc : Nat} {L st : List Value} {w : gx_W} {i : Nat} {x : Int64} (hd : gx_d M pc (.lload i) 2) (hl : L[i]? = some (.long x)) (k : gx_G nc ns d M Q (pc + 2) L (.long x :: st) w) : gx_G nc ns d M Q (pc) L (st) w := by
  intro D p l e R s m args below meth c H locs cells slots ls C hR hP hS hL
  exact lv_lload C.1 C.2.1 hd (hL.2.2 _ _ hl (fun h => by cases h)) (k D p l e R s m args below meth c H locs cells slots ls C hR hP hS hL)
theorem g_aload_n {nc ns d : Nat} {M : gx_M} {Q : Option Value → gx_W → Prop} {pc : Nat} {L st : List Value} {w : gx_W} {i : Fin 4} {x : Nat} (hd : gx_d M pc (.aload_n i) 1) (hl : L[(i : Nat)]? = some (.ref x)) (k : gx_G nc ns d M Q (pc + 1) L (.ref x :: st) w) : gx_G nc ns d M Q (pc) L (st) w := by
  intro D p l e R s m args below meth c H locs cells slots ls C hR hP hS hL
  exact lv_aload_n C.1 C.2.1 hd rfl (hL.2.2 _ _ hl (fun h => by cases h)) (k D p l e R s m args below meth c H locs cells slots ls C hR hP hS hL)
theorem g_aload {nc ns d : Nat} {M : gx_M} {Q : Option Value → gx_W → Prop} {pc : Nat} {L st : List Value} {w : gx_W} {i : Nat} {x : Nat} (hd : gx_d M pc (.aload i) 2) (hl : L[i]? = some (.ref x)) (k : gx_G nc ns d M Q (pc + 2) L (.ref x :: st) w) : gx_G nc ns d M Q (pc) L (st) w := by
  intro D p l e R s m args below meth c H locs cells slots ls C hR hP hS hL
  exact lv_aload C.1 C.2.1 hd (hL.2.2 _ _ hl (fun h => by cases h)) (k D p l e R s m args below meth c H locs cells slots ls C hR hP hS hL)
theorem g_aload_nN {nc ns d : Nat} {M : gx_M} {Q : Option Value → gx_W → Prop} {pc : Nat} {L st : List Value} {w : gx_W} {i : Fin 4} (hd : gx_d M pc (.aload_n i) 1) (hl : L[(i : Nat)]? = some .null) (k : gx_G nc ns d M Q (pc + 1) L (.null :: st) w) : gx_G nc ns d M Q (pc) L (st) w := by
  intro D p l e R s m args below meth c H locs cells slots ls C hR hP hS hL
  exact lv_aload_nN C.1 C.2.1 hd rfl (hL.2.2 _ _ hl (fun h => by cases h)) (k D p l e R s m args below meth c H locs cells slots ls C hR hP hS hL)
theorem g_aloadN {nc ns d : Nat} {M : gx_M} {Q : Option Value → gx_W → Prop} {pc : Nat} {L st : List Value} {w : gx_W} {i : Nat} (hd : gx_d M pc (.aload i) 2) (hl : L[i]? = some .null) (k : gx_G nc ns d M Q (pc + 2) L (.null :: st) w) : gx_G nc ns d M Q (pc) L (st) w := by
  intro D p l e R s m args below meth c H locs cells slots ls C hR hP hS hL
  exact lv_aloadN C.1 C.2.1 hd (hL.2.2 _ _ hl (fun h => by cases h)) (k D p l e R s m args below meth c H locs cells slots ls C hR hP hS hL)
theorem g_istore_n {nc ns d : Nat} {M : gx_M} {Q : Option Value → gx_W → Prop} {pc : Nat} {L st : List Value} {w : gx_W} {i : Fin 4} {x : Int32} (hd : gx_d M pc (.istore_n i) 1) (hlt : (i : Nat) < L.length) (hok : gx_ok L (i : Nat) = true) (k : gx_G nc ns d M Q (pc + 1) (L.set (i : Nat) (.int x)) (st) w) : gx_G nc ns d M Q (pc) L (.int x :: st) w := by
  intro D p l e R s m args below meth c H locs cells slots ls C hR hP hS hL
  exact lv_istore_n C.1 C.2.1 hd rfl (gx_ls_has hL) hlt rfl (fun ls' h' => k D p l e R s m args below meth c H locs cells slots ls' C hR hP hS (gx_ls_1 (v := .int x) hok h'))
theorem g_istore {nc ns d : Nat} {M : gx_M} {Q : Option Value → gx_W → Prop} {pc : Nat} {L st : List Value} {w : gx_W} {i : Nat} {x : Int32} (hd : gx_d M pc (.istore i) 2) (hlt : i < L.length) (hok : gx_ok L i = true) (k : gx_G nc ns d M Q (pc + 2) (L.set i (.int x)) (st) w) : gx_G nc ns d M Q (pc) L (.int x :: st) w := by
  intro D p l e R s m args below meth c H locs cells slots ls C hR hP hS hL
  exact lv_istore C.1 C.2.1 hd (gx_ls_has hL) hlt rfl (fun ls' h' => k D p l e R s m args below meth c H locs cells slots ls' C hR hP hS (gx_ls_1 (v := .int x) hok h'))
theorem g_astore_n {nc ns d : Nat} {M : gx_M} {Q : Option Value → gx_W → Prop} {pc : Nat} {L st : List Value} {w : gx_W} {i : Fin 4} {x : Nat} (hd : gx_d M pc (.astore_n i) 1) (hlt : (i : Nat) < L.length) (hok : gx_ok L (i : Nat) = true) (k : gx_G nc ns d M Q (pc + 1) (L.set (i : Nat) (.ref x)) (st) w) : gx_G nc ns d M Q (pc) L (.ref x :: st) w := by
  intro D p l e R s m args below meth c H locs cells slots ls C hR hP hS hL
  exact lv_astore_n C.1 C.2.1 hd rfl (gx_ls_has hL) hlt rfl (fun ls' h' => k D p l e R s m args below meth c H locs cells slots ls' C hR hP hS (gx_ls_1 (v := .ref x) hok h'))
theorem g_astore {nc ns d : Nat} {M : gx_M} {Q : Option Value → gx_W → Prop} {pc : Nat} {L st : List Value} {w : gx_W} {i : Nat} {x : Nat} (hd : gx_d M pc (.astore i) 2) (hlt : i < L.length) (hok : gx_ok L i = true) (k : gx_G nc ns d M Q (pc + 2) (L.set i (.ref x)) (st) w) : gx_G nc ns d M Q (pc) L (.ref x :: st) w := by
  intro D p l e R s m args below meth c H locs cells slots ls C hR hP hS hL
  exact lv_astore C.1 C.2.1 hd (gx_ls_has hL) hlt rfl (fun ls' h' => k D p l e R s m args below meth c H locs cells slots ls' C hR hP hS (gx_ls_1 (v := .ref x) hok h'))
theorem g_astore_nN {nc ns d : Nat} {M : gx_M} {Q : Option Value → gx_W → Prop} {pc : Nat} {L st : List Value} {w : gx_W} {i : Fin 4}  (hd : gx_d M pc (.astore_n i) 1) (hlt : (i : Nat) < L.length) (hok : gx_ok L (i : Nat) = true) (k : gx_G nc ns d M Q (pc + 1) (L.set (i : Nat) (.null)) (st) w) : gx_G nc ns d M Q (pc) L (.null :: st) w := by
  intro D p l e R s m args below meth c H locs cells slots ls C hR hP hS hL
  exact lv_astore_nN C.1 C.2.1 hd rfl (gx_ls_has hL) hlt rfl (fun ls' h' => k D p l e R s m args below meth c H locs cells slots ls' C hR hP hS (gx_ls_1 (v := .null) hok h'))
theorem g_astoreN {nc ns d : Nat} {M : gx_M} {Q : Option Value → gx_W → Prop} {pc : Nat} {L st : List Value} {w : gx_W} {i : Nat}  (hd : gx_d M pc (.astore i) 2) (hlt : i < L.length) (hok : gx_ok L i = true) (k : gx_G nc ns d M Q (pc + 2) (L.set i (.null)) (st) w) : gx_G nc ns d M Q (pc) L (.null :: st) w := by
  intro D p l e R s m args below meth c H locs cells slots ls C hR hP hS hL
  exact lv_astoreN C.1 C.2.1 hd (gx_ls_has hL) hlt rfl (fun ls' h' => k D p l e R s m args below meth c H locs cells slots ls' C hR hP hS (gx_ls_1 (v := .null) hok h'))
theorem g_lstore_n {nc ns d : Nat} {M : gx_M} {Q : Option Value → gx_W → Prop} {pc : Nat} {L st : List Value} {w : gx_W} {i : Fin 4} {x : Int64} (hd : gx_d M pc (.lstore_n i) 1) (hlt : (i : Nat) + 1 < L.length) (hok : gx_ok L (i : Nat) = true) (k : gx_G nc ns d M Q (pc + 1) ((L.set (i : Nat) (.long x)).set ((i : Nat) + 1) (.retAddr 0)) (st) w) : gx_G nc ns d M Q (pc) L (.long x :: st) w := by
  intro D p l e R s m args below meth c H locs cells slots ls C hR hP hS hL
  exact lv_lstore_n C.1 C.2.1 hd rfl (gx_ls_has hL) hlt rfl (fun ls' h' => k D p l e R s m args below meth c H locs cells slots ls' C hR hP hS (gx_ls_2 (v := .long x) hok h'))
theorem g_lstore {nc ns d : Nat} {M : gx_M} {Q : Option Value → gx_W → Prop} {pc : Nat} {L st : List Value} {w : gx_W} {i : Nat} {x : Int64} (hd : gx_d M pc (.lstore i) 2) (hlt : i + 1 < L.length) (hok : gx_ok L i = true) (k : gx_G nc ns d M Q (pc + 2) ((L.set i (.long x)).set (i + 1) (.retAddr 0)) (st) w) : gx_G nc ns d M Q (pc) L (.long x :: st) w := by
  intro D p l e R s m args below meth c H locs cells slots ls C hR hP hS hL
  exact lv_lstore C.1 C.2.1 hd (gx_ls_has hL) hlt rfl (fun ls' h' => k D p l e R s m args below meth c H locs cells slots ls' C hR hP hS (gx_ls_2 (v := .long x) hok h'))
theorem g_iinc {nc ns d : Nat} {M : gx_M} {Q : Option Value → gx_W → Prop} {pc : Nat} {L st : List Value} {w : gx_W} {i : Nat} {n : Int} {x : Int32} (hd : gx_d M pc (.iinc i n) 3) (hl : L[i]? = some (.int x)) (hok : gx_ok L i = true) (k : gx_G nc ns d M Q (pc + 3) (L.set i (.int (x + Int32.ofInt n))) (st) w) : gx_G nc ns d M Q (pc) L (st) w := by
  intro D p l e R s m args below meth c H locs cells slots ls C hR hP hS hL
  obtain ⟨z, hz⟩ := List.getElem?_of_mem (gx_as_mem (D := D) hl (fun h => by cases h))
  exact lv_iinc C.1 C.2.1 hd (gx_ls_has hL) hz rfl (gx_lt hl) rfl (fun ls' h' => k D p l e R s m args below meth c H locs cells slots ls' C hR hP hS (gx_ls_1 (v := .int (x + Int32.ofInt n)) hok h'))
theorem g_if_eq {nc ns d : Nat} {M : gx_M} {Q : Option Value → gx_W → Prop} {pc : Nat} {L st : List Value} {w : gx_W} {x : Int32} {off : Int} {tgt : Nat} (hd : gx_d M pc (.ifCond .eq off) 3) (ht : (pc : Int) + off = (tgt : Int)) (kt : x = 0 → gx_G nc ns d M Q (tgt) L (st) w) (kf : ¬ x = 0 → gx_G nc ns d M Q (pc + 3) L (st) w) : gx_G nc ns d M Q (pc) L (.int x :: st) w := by
  intro D p l e R s m args below meth c H locs cells slots ls C hR hP hS hL
  exact lv_if_eq C.1 C.2.1 hd ht (fun h => kt h D p l e R s m args below meth c H locs cells slots ls C hR hP hS hL) (fun h => kf h D p l e R s m args below meth c H locs cells slots ls C hR hP hS hL)
theorem g_icmp_eq {nc ns d : Nat} {M : gx_M} {Q : Option Value → gx_W → Prop} {pc : Nat} {L st : List Value} {w : gx_W} {x y : Int32} {off : Int} {tgt : Nat} (hd : gx_d M pc (.if_icmp .eq off) 3) (ht : (pc : Int) + off = (tgt : Int)) (kt : x = y → gx_G nc ns d M Q (tgt) L (st) w) (kf : ¬ x = y → gx_G nc ns d M Q (pc + 3) L (st) w) : gx_G nc ns d M Q (pc) L (.int y :: .int x :: st) w := by
  intro D p l e R s m args below meth c H locs cells slots ls C hR hP hS hL
  exact lv_icmp_eq C.1 C.2.1 hd ht (fun h => kt h D p l e R s m args below meth c H locs cells slots ls C hR hP hS hL) (fun h => kf h D p l e R s m args below meth c H locs cells slots ls C hR hP hS hL)
theorem g_if_ne {nc ns d : Nat} {M : gx_M} {Q : Option Value → gx_W → Prop} {pc : Nat} {L st : List Value} {w : gx_W} {x : Int32} {off : Int} {tgt : Nat} (hd : gx_d M pc (.ifCond .ne off) 3) (ht : (pc : Int) + off = (tgt : Int)) (kt : ¬ x = 0 → gx_G nc ns d M Q (tgt) L (st) w) (kf : x = 0 → gx_G nc ns d M Q (pc + 3) L (st) w) : gx_G nc ns d M Q (pc) L (.int x :: st) w := by
  intro D p l e R s m args below meth c H locs cells slots ls C hR hP hS hL
  exact lv_if_ne C.1 C.2.1 hd ht (fun h => kt h D p l e R s m args below meth c H locs cells slots ls C hR hP hS hL) (fun h => kf h D p l e R s m args below meth c H locs cells slots ls C hR hP hS hL)
theorem g_icmp_ne {nc ns d : Nat} {M : gx_M} {Q : Option Value → gx_W → Prop} {pc : Nat} {L st : List Value} {w : gx_W} {x y : Int32} {off : Int} {tgt : Nat} (hd : gx_d M pc (.if_icmp .ne off) 3) (ht : (pc : Int) + off = (tgt : Int)) (kt : ¬ x = y → gx_G nc ns d M Q (tgt) L (st) w) (kf : x = y → gx_G nc ns d M Q (pc + 3) L (st) w) : gx_G nc ns d M Q (pc) L (.int y :: .int x :: st) w := by
  intro D p l e R s m args below meth c H locs cells slots ls C hR hP hS hL
  exact lv_icmp_ne C.1 C.2.1 hd ht (fun h => kt h D p l e R s m args below meth c H locs cells slots ls C hR hP hS hL) (fun h => kf h D p l e R s m args below meth c H locs cells slots ls C hR hP hS hL)
theorem g_if_lt {nc ns d : Nat} {M : gx_M} {Q : Option Value → gx_W → Prop} {pc : Nat} {L st : List Value} {w : gx_W} {x : Int32} {off : Int} {tgt : Nat} (hd : gx_d M pc (.ifCond .lt off) 3) (ht : (pc : Int) + off = (tgt : Int)) (kt : x < 0 → gx_G nc ns d M Q (tgt) L (st) w) (kf : ¬ x < 0 → gx_G nc ns d M Q (pc + 3) L (st) w) : gx_G nc ns d M Q (pc) L (.int x :: st) w := by
  intro D p l e R s m args below meth c H locs cells slots ls C hR hP hS hL
  exact lv_if_lt C.1 C.2.1 hd ht (fun h => kt h D p l e R s m args below meth c H locs cells slots ls C hR hP hS hL) (fun h => kf h D p l e R s m args below meth c H locs cells slots ls C hR hP hS hL)
theorem g_icmp_lt {nc ns d : Nat} {M : gx_M} {Q : Option Value → gx_W → Prop} {pc : Nat} {L st : List Value} {w : gx_W} {x y : Int32} {off : Int} {tgt : Nat} (hd : gx_d M pc (.if_icmp .lt off) 3) (ht : (pc : Int) + off = (tgt : Int)) (kt : x < y → gx_G nc ns d M Q (tgt) L (st) w) (kf : ¬ x < y → gx_G nc ns d M Q (pc + 3) L (st) w) : gx_G nc ns d M Q (pc) L (.int y :: .int x :: st) w := by
  intro D p l e R s m args below meth c H locs cells slots ls C hR hP hS hL
  exact lv_icmp_lt C.1 C.2.1 hd ht (fun h => kt h D p l e R s m args below meth c H locs cells slots ls C hR hP hS hL) (fun h => kf h D p l e R s m args below meth c H locs cells slots ls C hR hP hS hL)
theorem g_if_ge {nc ns d : Nat} {M : gx_M} {Q : Option Value → gx_W → Prop} {pc : Nat} {L st : List Value} {w : gx_W} {x : Int32} {off : Int} {tgt : Nat} (hd : gx_d M pc (.ifCond .ge off) 3) (ht : (pc : Int) + off = (tgt : Int)) (kt : 0 ≤ x → gx_G nc ns d M Q (tgt) L (st) w) (kf : ¬ 0 ≤ x → gx_G nc ns d M Q (pc + 3) L (st) w) : gx_G nc ns d M Q (pc) L (.int x :: st) w := by
  intro D p l e R s m args below meth c H locs cells slots ls C hR hP hS hL
  exact lv_if_ge C.1 C.2.1 hd ht (fun h => kt h D p l e R s m args below meth c H locs cells slots ls C hR hP hS hL) (fun h => kf h D p l e R s m args below meth c H locs cells slots ls C hR hP hS hL)
theorem g_icmp_ge {nc ns d : Nat} {M : gx_M} {Q : Option Value → gx_W → Prop} {pc : Nat} {L st : List Value} {w : gx_W} {x y : Int32} {off : Int} {tgt : Nat} (hd : gx_d M pc (.if_icmp .ge off) 3) (ht : (pc : Int) + off = (tgt : Int)) (kt : y ≤ x → gx_G nc ns d M Q (tgt) L (st) w) (kf : ¬ y ≤ x → gx_G nc ns d M Q (pc + 3) L (st) w) : gx_G nc ns d M Q (pc) L (.int y :: .int x :: st) w := by
  intro D p l e R s m args below meth c H locs cells slots ls C hR hP hS hL
  exact lv_icmp_ge C.1 C.2.1 hd ht (fun h => kt h D p l e R s m args below meth c H locs cells slots ls C hR hP hS hL) (fun h => kf h D p l e R s m args below meth c H locs cells slots ls C hR hP hS hL)
theorem g_if_gt {nc ns d : Nat} {M : gx_M} {Q : Option Value → gx_W → Prop} {pc : Nat} {L st : List Value} {w : gx_W} {x : Int32} {off : Int} {tgt : Nat} (hd : gx_d M pc (.ifCond .gt off) 3) (ht : (pc : Int) + off = (tgt : Int)) (kt : 0 < x → gx_G nc ns d M Q (tgt) L (st) w) (kf : ¬ 0 < x → gx_G nc ns d M Q (pc + 3) L (st) w) : gx_G nc ns d M Q (pc) L (.int x :: st) w := by
  intro D p l e R s m args below meth c H locs cells slots ls C hR hP hS hL
  exact lv_if_gt C.1 C.2.1 hd ht (fun h => kt h D p l e R s m args below meth c H locs cells slots ls C hR hP hS hL) (fun h => kf h D p l e R s m args below meth c H locs cells slots ls C hR hP hS hL)
theorem g_icmp_gt {nc ns d : Nat} {M : gx_M} {Q : Option Value → gx_W → Prop} {pc : Nat} {L st : List Value} {w : gx_W} {x y : Int32} {off : Int} {tgt : Nat} (hd : gx_d M pc (.if_icmp .gt off) 3) (ht : (pc : Int) + off = (tgt : Int)) (kt : y < x → gx_G nc ns d M Q (tgt) L (st) w) (kf : ¬ y < x → gx_G nc ns d M Q (pc + 3) L (st) w) : gx_G nc ns d M Q (pc) L (.int y :: .int x :: st) w := by
  intro D p l e R s m args below meth c H locs cells slots ls C hR hP hS hL
  exact lv_icmp_gt C.1 C.2.1 hd ht (fun h => kt h D p l e R s m args below meth c H locs cells slots ls C hR hP hS hL) (fun h => kf h D p l e R s m args below meth c H locs cells slots ls C hR hP hS hL)
theorem g_if_le {nc ns d : Nat} {M : gx_M} {Q : Option Value → gx_W → Prop} {pc : Nat} {L st : List Value} {w : gx_W} {x : Int32} {off : Int} {tgt : Nat} (hd : gx_d M pc (.ifCond .le off) 3) (ht : (pc : Int) + off = (tgt : Int)) (kt : x ≤ 0 → gx_G nc ns d M Q (tgt) L (st) w) (kf : ¬ x ≤ 0 → gx_G nc ns d M Q (pc + 3) L (st) w) : gx_G nc ns d M Q (pc) L (.int x :: st) w := by
  intro D p l e R s m args below meth c H locs cells slots ls C hR hP hS hL
  exact lv_if_le C.1 C.2.1 hd ht (fun h => kt h D p l e R s m args below meth c H locs cells slots ls C hR hP hS hL) (fun h => kf h D p l e R s m args below meth c H locs cells slots ls C hR hP hS hL)
theorem g_icmp_le {nc ns d : Nat} {M : gx_M} {Q : Option Value → gx_W → Prop} {pc : Nat} {L st : List Value} {w : gx_W} {x y : Int32} {off : Int} {tgt : Nat} (hd : gx_d M pc (.if_icmp .le off) 3) (ht : (pc : Int) + off = (tgt : Int)) (kt : x ≤ y → gx_G nc ns d M Q (tgt) L (st) w) (kf : ¬ x ≤ y → gx_G nc ns d M Q (pc + 3) L (st) w) : gx_G nc ns d M Q (pc) L (.int y :: .int x :: st) w := by
  intro D p l e R s m args below meth c H locs cells slots ls C hR hP hS hL
  exact lv_icmp_le C.1 C.2.1 hd ht (fun h => kt h D p l e R s m args below meth c H locs cells slots ls C hR hP hS hL) (fun h => kf h D p l e R s m args below meth c H locs cells slots ls C hR hP hS hL)
theorem g_goto {nc ns d : Nat} {M : gx_M} {Q : Option Value → gx_W → Prop} {pc : Nat} {L st : List Value} {w : gx_W} {off : Int} {tgt : Nat} (hd : gx_d M pc (.goto off) 3) (ht : (pc : Int) + off = (tgt : Int)) (k : gx_G nc ns d M Q (tgt) L (st) w) : gx_G nc ns d M Q (pc) L (st) w := by
  intro D p l e R s m args below meth c H locs cells slots ls C hR hP hS hL
  exact lv_goto C.1 C.2.1 hd ht (k D p l e R s m args below meth c H locs cells slots ls C hR hP hS hL)
theorem g_ifnull {nc ns d : Nat} {M : gx_M} {Q : Option Value → gx_W → Prop} {pc : Nat} {L st : List Value} {w : gx_W} {x : Nat} {off : Int} (hd : gx_d M pc (.ifnull off) 3) (k : gx_G nc ns d M Q (pc + 3) L (st) w) : gx_G nc ns d M Q (pc) L (.ref x :: st) w := by
  intro D p l e R s m args below meth c H locs cells slots ls C hR hP hS hL
  exact lv_ifnull C.1 C.2.1 hd (k D p l e R s m args below meth c H locs cells slots ls C hR hP hS hL)
theorem g_ifnonnull {nc ns d : Nat} {M : gx_M} {Q : Option Value → gx_W → Prop} {pc : Nat} {L st : List Value} {w : gx_W} {x : Nat} {off : Int} {tgt : Nat} (hd : gx_d M pc (.ifnonnull off) 3) (ht : (pc : Int) + off = (tgt : Int)) (k : gx_G nc ns d M Q (tgt) L (st) w) : gx_G nc ns d M Q (pc) L (.ref x :: st) w := by
  intro D p l e R s m args below meth c H locs cells slots ls C hR hP hS hL
  exact lv_ifnonnull C.1 C.2.1 hd ht (k D p l e R s m args below meth c H locs cells slots ls C hR hP hS hL)
theorem g_ifnullN {nc ns d : Nat} {M : gx_M} {Q : Option Value → gx_W → Prop} {pc : Nat} {L st : List Value} {w : gx_W} {off : Int} {tgt : Nat} (hd : gx_d M pc (.ifnull off) 3) (ht : (pc : Int) + off = (tgt : Int)) (k : gx_G nc ns d M Q (tgt) L (st) w) : gx_G nc ns d M Q (pc) L (.null :: st) w := by
  intro D p l e R s m args below meth c H locs cells slots ls C hR hP hS hL
  exact lv_ifnullN C.1 C.2.1 hd ht (k D p l e R s m args below meth c H locs cells slots ls C hR hP hS hL)
theorem g_ifnonnullN {nc ns d : Nat} {M : gx_M} {Q : Option Value → gx_W → Prop} {pc : Nat} {L st : List Value} {w : gx_W} {off : Int} (hd : gx_d M pc (.ifnonnull off) 3) (k : gx_G nc ns d M Q (pc + 3) L (st) w) : gx_G nc ns d M Q (pc) L (.null :: st) w := by
  intro D p l e R s m args below meth c H locs cells slots ls C hR hP hS hL
  exact lv_ifnonnullN C.1 C.2.1 hd (k D p l e R s m args below meth c H locs cells slots ls C hR hP hS hL)
theorem g_tableIn {nc ns d : Nat} {M : gx_M} {Q : Option Value → gx_W → Prop} {pc : Nat} {L st : List Value} {w : gx_W} {x : Int32} {dflt lo hi : Int} {offs : Array Int} {len : Nat} {off : Int} {tgt : Nat} (hd : gx_d M pc (.tableswitch dflt lo hi offs) len) (h1 : ¬ x.toInt < lo) (h2 : ¬ hi < x.toInt) (ho : offs[(x.toInt - lo).toNat]? = some off) (ht : (pc : Int) + off = (tgt : Int)) (k : gx_G nc ns d M Q (tgt) L (st) w) : gx_G nc ns d M Q (pc) L (.int x :: st) w := by
  intro D p l e R s m args below meth c H locs cells slots ls C hR hP hS hL
  exact lv_tableIn C.1 C.2.1 hd h1 h2 ho ht (k D p l e R s m args below meth c H locs cells slots ls C hR hP hS hL)
theorem g_tableOut {nc ns d : Nat} {M : gx_M} {Q : Option Value → gx_W → Prop} {pc : Nat} {L st : List Value} {w : gx_W} {x : Int32} {dflt lo hi : Int} {offs : Array Int} {len : Nat} {tgt : Nat} (hd : gx_d M pc (.tableswitch dflt lo hi offs) len) (h : x.toInt < lo ∨ hi < x.toInt) (ht : (pc : Int) + dflt = (tgt : Int)) (k : gx_G nc ns d M Q (tgt) L (st) w) : gx_G nc ns d M Q (pc) L (.int x :: st) w := by
  intro D p l e R s m args below meth c H locs cells slots ls C hR hP hS hL
  exact lv_tableOut C.1 C.2.1 hd h ht (k D p l e R s m args below meth c H locs cells slots ls C hR hP hS hL)
theorem g_lookup {nc ns d : Nat} {M : gx_M} {Q : Option Value → gx_W → Prop} {pc : Nat} {L st : List Value} {w : gx_W} {x : Int32} {dflt : Int} {ps : Array (Int × Int)} {len : Nat} {off : Int} {tgt : Nat} (hd : gx_d M pc (.lookupswitch dflt ps) len) (hp : (ps.toList.zip (ps.toList.drop 1)).all (fun (a, next) => a.1 < next.1) = true) (ho : Op.lookupswitch.offset ps.toList dflt x.toInt = off) (ht : (pc : Int) + off = (tgt : Int)) (k : gx_G nc ns d M Q (tgt) L (st) w) : gx_G nc ns d M Q (pc) L (.int x :: st) w := by
  intro D p l e R s m args below meth c H locs cells slots ls C hR hP hS hL
  exact lv_lookup C.1 C.2.1 hd hp ho ht (k D p l e R s m args below meth c H locs cells slots ls C hR hP hS hL)
theorem g_ldc {nc ns d : Nat} {M : gx_M} {Q : Option Value → gx_W → Prop} {pc : Nat} {L st : List Value} {w : gx_W} {idx : Nat} {v : Int32} (hd : gx_d M pc (.ldc idx) 2) (hc : Cond.constant M.1.cls idx v ∈ gx_T) (k : gx_G nc ns d M Q (pc + 2) L (.int v :: st) w) : gx_G nc ns d M Q (pc) L (st) w := by
  intro D p l e R s m args below meth c H locs cells slots ls C hR hP hS hL
  exact lv_ldc C.1 C.2.1 C.2.2.2.2.1 (C.2.2.2.2.2.1 _ hc) hd (k D p l e R s m args below meth c H locs cells slots ls C hR hP hS hL)
theorem g_ldc2 {nc ns d : Nat} {M : gx_M} {Q : Option Value → gx_W → Prop} {pc : Nat} {L st : List Value} {w : gx_W} {idx : Nat} {v : Int64} (hd : gx_d M pc (.ldc2_w idx) 3) (hc : Cond.constantLong M.1.cls idx v ∈ gx_T) (k : gx_G nc ns d M Q (pc + 3) L (.long v :: st) w) : gx_G nc ns d M Q (pc) L (st) w := by
  intro D p l e R s m args below meth c H locs cells slots ls C hR hP hS hL
  exact lv_ldc2 C.1 C.2.1 C.2.2.2.2.1 (C.2.2.2.2.2.1 _ hc) hd (k D p l e R s m args below meth c H locs cells slots ls C hR hP hS hL)

/-! ===== rules of the judgement: instructions that leave the heap alone ===== -/
def zb (c : Prop) [Decidable c] : Int32 := if c then 1 else 0
section ZR
variable {E : zE} {mi : zM} {d : Nat} {rv : Option Value} {M1 M : zMem} {pc n : Nat} {lo lo1 : List (Option Value)} {st : List Value}
theorem zi_iadd {x y : Int32} (hd : decode mi.2.1 pc = .ok (.iadd, 1)) (hn : pc + 1 = n) (k : zG E mi d rv M1 n lo (.int (x + y) :: st) M) : zG E mi d rv M1 pc lo (.int y :: .int x :: st) M := by
  subst hn; intro p e s m args below meth c H locs ls C hP hS hl
  exact lv_iadd C.1 C.2.1 hd  (k p e s m args below meth c H locs ls C hP hS hl)
theorem zi_isub {x y : Int32} (hd : decode mi.2.1 pc = .ok (.isub, 1)) (hn : pc + 1 = n) (k : zG E mi d rv M1 n lo (.int (x - y) :: st) M) : zG E mi d rv M1 pc lo (.int y :: .int x :: st) M := by
  subst hn; intro p e s m args below meth c H locs ls C hP hS hl
  exact lv_isub C.1 C.2.1 hd  (k p e s m args below meth c H locs ls C hP hS hl)
theorem zi_imul {x y : Int32} (hd : decode mi.2.1 pc = .ok (.imul, 1)) (hn : pc + 1 = n) (k : zG E mi d rv M1 n lo (.int (x * y) :: st) M) : zG E mi d rv M1 pc lo (.int y :: .int x :: st) M := by
  subst hn; intro p e s m args below meth c H locs ls C hP hS hl
  exact lv_imul C.1 C.2.1 hd  (k p e s m args below meth c H locs ls C hP hS hl)
theorem zi_iand {x y : Int32} (hd : decode mi.2.1 pc = .ok (.iand, 1)) (hn : pc + 1 = n) (k : zG E mi d rv M1 n lo (.int (x &&& y) :: st) M) : zG E mi d rv M1 pc lo (.int y :: .int x :: st) M := by
  subst hn; intro p e s m args below meth c H locs ls C hP hS hl
  exact lv_iand C.1 C.2.1 hd  (k p e s m args below meth c H locs ls C hP hS hl)
theorem zi_ior {x y : Int32} (hd : decode mi.2.1 pc = .ok (.ior, 1)) (hn : pc + 1 = n) (k : zG E mi d rv M1 n lo (.int (x ||| y) :: st) M) : zG E mi d rv M1 pc lo (.int y :: .int x :: st) M := by
  subst hn; intro p e s m args below meth c H locs ls C hP hS hl
  exact lv_ior C.1 C.2.1 hd  (k p e s m args below meth c H locs ls C hP hS hl)
theorem zi_ixor {x y : Int32} (hd : decode mi.2.1 pc = .ok (.ixor, 1)) (hn : pc + 1 = n) (k : zG E mi d rv M1 n lo (.int (x ^^^ y) :: st) M) : zG E mi d rv M1 pc lo (.int y :: .int x :: st) M := by
  subst hn; intro p e s m args below meth c H locs ls C hP hS hl
  exact lv_ixor C.1 C.2.1 hd  (k p e s m args below meth c H locs ls C hP hS hl)
theorem zi_ladd {x y : Int64} (hd : decode mi.2.1 pc = .ok (.ladd, 1)) (hn : pc + 1 = n) (k : zG E mi d rv M1 n lo (.long (x + y) :: st) M) : zG E mi d rv M1 pc lo (.long y :: .long x :: st) M := by
  subst hn; intro p e s m args below meth c H locs ls C hP hS hl
  exact lv_ladd C.1 C.2.1 hd  (k p e s m args below meth c H locs ls C hP hS hl)
theorem zi_lsub {x y : Int64} (hd : decode mi.2.1 pc = .ok (.lsub, 1)) (hn : pc + 1 = n) (k : zG E mi d rv M1 n lo (.long (x - y) :: st) M) : zG E mi d rv M1 pc lo (.long y :: .long x :: st) M := by
  subst hn; intro p e s m args below meth c H locs ls C hP hS hl
  exact lv_lsub C.1 C.2.1 hd  (k p e s m args below meth c H locs ls C hP hS hl)
theorem zi_lmul {x y : Int64} (hd : decode mi.2.1 pc = .ok (.lmul, 1)) (hn : pc + 1 = n) (k : zG E mi d rv M1 n lo (.long (x * y) :: st) M) : zG E mi d rv M1 pc lo (.long y :: .long x :: st) M := by
  subst hn; intro p e s m args below meth c H locs ls C hP hS hl
  exact lv_lmul C.1 C.2.1 hd  (k p e s m args below meth c H locs ls C hP hS hl)
theorem zi_idiv {x y : Int32} (hd : decode mi.2.1 pc = .ok (.idiv, 1)) (hn : pc + 1 = n) (h : ¬ y = 0) (k : zG E mi d rv M1 n lo (.int (x / y) :: st) M) : zG E mi d rv M1 pc lo (.int y :: .int x :: st) M := by
  subst hn; intro p e s m args below meth c H locs ls C hP hS hl
  exact lv_idiv C.1 C.2.1 hd h (k p e s m args below meth c H locs ls C hP hS hl)
theorem zi_irem {x y : Int32} (hd : decode mi.2.1 pc = .ok (.irem, 1)) (hn : pc + 1 = n) (h : ¬ y = 0) (k : zG E mi d rv M1 n lo (.int (x - x / y * y) :: st) M) : zG E mi d rv M1 pc lo (.int y :: .int x :: st) M := by
  subst hn; intro p e s m args below meth c H locs ls C hP hS hl
  exact lv_irem C.1 C.2.1 hd h (k p e s m args below meth c H locs ls C hP hS hl)
theorem zi_ldiv {x y : Int64} (hd : decode mi.2.1 pc = .ok (.ldiv, 1)) (hn : pc + 1 = n) (h : ¬ y = 0) (k : zG E mi d rv M1 n lo (.long (x / y) :: st) M) : zG E mi d rv M1 pc lo (.long y :: .long x :: st) M := by
  subst hn; intro p e s m args below meth c H locs ls C hP hS hl
  exact lv_ldiv C.1 C.2.1 hd h (k p e s m args below meth c H locs ls C hP hS hl)
theorem zi_lrem {x y : Int64} (hd : decode mi.2.1 pc = .ok (.lrem, 1)) (hn : pc + 1 = n) (h : ¬ y = 0) (k : zG E mi d rv M1 n lo (.long (x - x / y * y) :: st) M) : zG E mi d rv M1 pc lo (.long y :: .long x :: st) M := by
  subst hn; intro p e s m args below meth c H locs ls C hP hS hl
  exact lv_lrem C.1 C.2.1 hd h (k p e s m args below meth c H locs ls C hP hS hl)
theorem zi_ineg {x : Int32} (hd : decode mi.2.1 pc = .ok (.ineg, 1)) (hn : pc + 1 = n) (k : zG E mi d rv M1 n lo (.int (-x) :: st) M) : zG E mi d rv M1 pc lo (.int x :: st) M := by
  subst hn; intro p e s m args below meth c H locs ls C hP hS hl
  exact lv_ineg C.1 C.2.1 hd  (k p e s m args below meth c H locs ls C hP hS hl)
theorem zi_ishl {x y : Int32} (hd : decode mi.2.1 pc = .ok (.ishl, 1)) (hn : pc + 1 = n) (k : zG E mi d rv M1 n lo (.int (x <<< (y &&& 31)) :: st) M) : zG E mi d rv M1 pc lo (.int y :: .int x :: st) M := by
  subst hn; intro p e s m args below meth c H locs ls C hP hS hl
  exact lv_ishl C.1 C.2.1 hd  (k p e s m args below meth c H locs ls C hP hS hl)
theorem zi_ishr {x y : Int32} (hd : decode mi.2.1 pc = .ok (.ishr, 1)) (hn : pc + 1 = n) (k : zG E mi d rv M1 n lo (.int (x >>> (y &&& 31)) :: st) M) : zG E mi d rv M1 pc lo (.int y :: .int x :: st) M := by
  subst hn; intro p e s m args below meth c H locs ls C hP hS hl
  exact lv_ishr C.1 C.2.1 hd  (k p e s m args below meth c H locs ls C hP hS hl)
theorem zi_iushr {x y : Int32} (hd : decode mi.2.1 pc = .ok (.iushr, 1)) (hn : pc + 1 = n) (k : zG E mi d rv M1 n lo (.int ((x.toUInt32 >>> (y.toUInt32 &&& Int32.toUInt32 31)).toInt32) :: st) M) : zG E mi d rv M1 pc lo (.int y :: .int x :: st) M := by
  subst hn; intro p e s m args below meth c H locs ls C hP hS hl
  exact lv_iushr C.1 C.2.1 hd rfl (k p e s m args below meth c H locs ls C hP hS hl)
theorem zi_i2l {x : Int32} (hd : decode mi.2.1 pc = .ok (.i2l, 1)) (hn : pc + 1 = n) (k : zG E mi d rv M1 n lo (.long x.toInt64 :: st) M) : zG E mi d rv M1 pc lo (.int x :: st) M := by
  subst hn; intro p e s m args below meth c H locs ls C hP hS hl
  exact lv_i2l C.1 C.2.1 hd rfl (k p e s m args below meth c H locs ls C hP hS hl)
theorem zi_l2i {x : Int64} (hd : decode mi.2.1 pc = .ok (.l2i, 1)) (hn : pc + 1 = n) (k : zG E mi d rv M1 n lo (.int x.toInt32 :: st) M) : zG E mi d rv M1 pc lo (.long x :: st) M := by
  subst hn; intro p e s m args below meth c H locs ls C hP hS hl
  exact lv_l2i C.1 C.2.1 hd rfl (k p e s m args below meth c H locs ls C hP hS hl)
theorem zi_i2b {x : Int32} (hd : decode mi.2.1 pc = .ok (.i2b, 1)) (hn : pc + 1 = n) (k : zG E mi d rv M1 n lo (.int x.toInt8.toInt32 :: st) M) : zG E mi d rv M1 pc lo (.int x :: st) M := by
  subst hn; intro p e s m args below meth c H locs ls C hP hS hl
  exact lv_i2b C.1 C.2.1 hd rfl (k p e s m args below meth c H locs ls C hP hS hl)
theorem zi_i2s {x : Int32} (hd : decode mi.2.1 pc = .ok (.i2s, 1)) (hn : pc + 1 = n) (k : zG E mi d rv M1 n lo (.int x.toInt16.toInt32 :: st) M) : zG E mi d rv M1 pc lo (.int x :: st) M := by
  subst hn; intro p e s m args below meth c H locs ls C hP hS hl
  exact lv_i2s C.1 C.2.1 hd rfl (k p e s m args below meth c H locs ls C hP hS hl)
theorem zi_iconst {i : Int} (v : Int32) (hd : decode mi.2.1 pc = .ok (.iconst i, 1)) (hn : pc + 1 = n) (h : Int32.ofInt i = v) (k : zG E mi d rv M1 n lo (.int v :: st) M) : zG E mi d rv M1 pc lo st M := by
  subst hn; intro p e s m args below meth c H locs ls C hP hS hl
  exact lv_iconst C.1 C.2.1 hd h (k p e s m args below meth c H locs ls C hP hS hl)
theorem zi_bipush {i : Int} (v : Int32) (hd : decode mi.2.1 pc = .ok (.bipush i, 2)) (hn : pc + 2 = n) (h : (Int8.ofInt i).toInt32 = v) (k : zG E mi d rv M1 n lo (.int v :: st) M) : zG E mi d rv M1 pc lo st M := by
  subst hn; intro p e s m args below meth c H locs ls C hP hS hl
  exact lv_bipush C.1 C.2.1 hd h (k p e s m args below meth c H locs ls C hP hS hl)
theorem zi_sipush {i : Int} (v : Int32) (hd : decode mi.2.1 pc = .ok (.sipush i, 3)) (hn : pc + 3 = n) (h : (Int16.ofInt i).toInt32 = v) (k : zG E mi d rv M1 n lo (.int v :: st) M) : zG E mi d rv M1 pc lo st M := by
  subst hn; intro p e s m args below meth c H locs ls C hP hS hl
  exact lv_sipush C.1 C.2.1 hd h (k p e s m args below meth c H locs ls C hP hS hl)
theorem zi_lconst {i : Fin 2} (v : Int64) (hd : decode mi.2.1 pc = .ok (.lconst i, 1)) (hn : pc + 1 = n) (h : Int64.ofNat (i : Nat) = v) (k : zG E mi d rv M1 n lo (.long v :: st) M) : zG E mi d rv M1 pc lo st M := by
  subst hn; intro p e s m args below meth c H locs ls C hP hS hl
  exact lv_lconst C.1 C.2.1 hd h (k p e s m args below meth c H locs ls C hP hS hl)
theorem zi_dup {x : Value} (hd : decode mi.2.1 pc = .ok (.dup, 1)) (hn : pc + 1 = n) (h : x.category = 1) (k : zG E mi d rv M1 n lo (x :: x :: st) M) : zG E mi d rv M1 pc lo (x :: st) M := by
  subst hn; intro p e s m args below meth c H locs ls C hP hS hl
  exact lv_dup C.1 C.2.1 hd h (k p e s m args below meth c H locs ls C hP hS hl)
theorem zi_dup2 {x y : Value} (hd : decode mi.2.1 pc = .ok (.dup2, 1)) (hn : pc + 1 = n) (h : x.category = 1) (h2 : y.category = 1) (k : zG E mi d rv M1 n lo (x :: y :: x :: y :: st) M) : zG E mi d rv M1 pc lo (x :: y :: st) M := by
  subst hn; intro p e s m args below meth c H locs ls C hP hS hl
  exact lv_dup2_11 C.1 C.2.1 hd h h2 (k p e s m args below meth c H locs ls C hP hS hl)
theorem zi_lcmp {x y : Int64} (hd : decode mi.2.1 pc = .ok (.lcmp, 1)) (hn : pc + 1 = n) (k : zG E mi d rv M1 n lo (.int (lg_cmp x y) :: st) M) : zG E mi d rv M1 pc lo (.long y :: .long x :: st) M := by
  subst hn; intro p e s m args below meth c H locs ls C hP hS hl
  exact W.lcmp C.1 C.2.1 hd  (k p e s m args below meth c H locs ls C hP hS hl)
theorem zi_ldc {i : Nat} {v : Int32} (hd : decode mi.2.1 pc = .ok (.ldc i, 2)) (hn : pc + 2 = n) (h : Cond.constant mi.1.cls i v ∈ lw_good) (k : zG E mi d rv M1 n lo (.int v :: st) M) : zG E mi d rv M1 pc lo st M := by
  subst hn; intro p e s m args below meth c H locs ls C hP hS hl
  exact lv_ldc C.1 C.2.1 C.2.2.2.2.1 (C.2.2.2.2.2.1 _ h) hd (k p e s m args below meth c H locs ls C hP hS hl)
theorem zi_ldcw {i : Nat} {v : Int32} (hd : decode mi.2.1 pc = .ok (.ldc_w i, 3)) (hn : pc + 3 = n) (h : Cond.constant mi.1.cls i v ∈ lw_good) (k : zG E mi d rv M1 n lo (.int v :: st) M) : zG E mi d rv M1 pc lo st M := by
  subst hn; intro p e s m args below meth c H locs ls C hP hS hl
  exact lv_ldcw C.1 C.2.1 C.2.2.2.2.1 (C.2.2.2.2.2.1 _ h) hd (k p e s m args below meth c H locs ls C hP hS hl)
theorem zi_ldc2 {i : Nat} {v : Int64} (hd : decode mi.2.1 pc = .ok (.ldc2_w i, 3)) (hn : pc + 3 = n) (h : Cond.constantLong mi.1.cls i v ∈ lw_good) (k : zG E mi d rv M1 n lo (.long v :: st) M) : zG E mi d rv M1 pc lo st M := by
  subst hn; intro p e s m args below meth c H locs ls C hP hS hl
  exact lv_ldc2 C.1 C.2.1 C.2.2.2.2.1 (C.2.2.2.2.2.1 _ h) hd (k p e s m args below meth c H locs ls C hP hS hl)
theorem zi_ifeq {x : Int32} {off : Int} {tgt : Nat} (hd : decode mi.2.1 pc = .ok (.ifCond .eq off, 3)) (hn : pc + 3 = n) (ht : (pc : Int) + off = (tgt : Int)) (kt : x = 0 → zG E mi d rv M1 tgt lo st M) (kf : ¬ x = 0 → zG E mi d rv M1 n lo st M) : zG E mi d rv M1 pc lo (.int x :: st) M := by
  subst hn; intro p e s m args below meth c H locs ls C hP hS hl
  exact lv_if_eq C.1 C.2.1 hd ht (fun q => (kt q p e s m args below meth c H locs ls C hP hS hl)) (fun q => (kf q p e s m args below meth c H locs ls C hP hS hl))
theorem zi_ifne {x : Int32} {off : Int} {tgt : Nat} (hd : decode mi.2.1 pc = .ok (.ifCond .ne off, 3)) (hn : pc + 3 = n) (ht : (pc : Int) + off = (tgt : Int)) (kt : ¬ x = 0 → zG E mi d rv M1 tgt lo st M) (kf : x = 0 → zG E mi d rv M1 n lo st M) : zG E mi d rv M1 pc lo (.int x :: st) M := by
  subst hn; intro p e s m args below meth c H locs ls C hP hS hl
  exact lv_if_ne C.1 C.2.1 hd ht (fun q => (kt q p e s m args below meth c H locs ls C hP hS hl)) (fun q => (kf q p e s m args below meth c H locs ls C hP hS hl))
theorem zi_iflt {x : Int32} {off : Int} {tgt : Nat} (hd : decode mi.2.1 pc = .ok (.ifCond .lt off, 3)) (hn : pc + 3 = n) (ht : (pc : Int) + off = (tgt : Int)) (kt : x < 0 → zG E mi d rv M1 tgt lo st M) (kf : ¬ x < 0 → zG E mi d rv M1 n lo st M) : zG E mi d rv M1 pc lo (.int x :: st) M := by
  subst hn; intro p e s m args below meth c H locs ls C hP hS hl
  exact lv_if_lt C.1 C.2.1 hd ht (fun q => (kt q p e s m args below meth c H locs ls C hP hS hl)) (fun q => (kf q p e s m args below meth c H locs ls C hP hS hl))
theorem zi_ifge {x : Int32} {off : Int} {tgt : Nat} (hd : decode mi.2.1 pc = .ok (.ifCond .ge off, 3)) (hn : pc + 3 = n) (ht : (pc : Int) + off = (tgt : Int)) (kt : 0 ≤ x → zG E mi d rv M1 tgt lo st M) (kf : ¬ 0 ≤ x → zG E mi d rv M1 n lo st M) : zG E mi d rv M1 pc lo (.int x :: st) M := by
  subst hn; intro p e s m args below meth c H locs ls C hP hS hl
  exact lv_if_ge C.1 C.2.1 hd ht (fun q => (kt q p e s m args below meth c H locs ls C hP hS hl)) (fun q => (kf q p e s m args below meth c H locs ls C hP hS hl))
theorem zi_ifgt {x : Int32} {off : Int} {tgt : Nat} (hd : decode mi.2.1 pc = .ok (.ifCond .gt off, 3)) (hn : pc + 3 = n) (ht : (pc : Int) + off = (tgt : Int)) (kt : 0 < x → zG E mi d rv M1 tgt lo st M) (kf : ¬ 0 < x → zG E mi d rv M1 n lo st M) : zG E mi d rv M1 pc lo (.int x :: st) M := by
  subst hn; intro p e s m args below meth c H locs ls C hP hS hl
  exact lv_if_gt C.1 C.2.1 hd ht (fun q => (kt q p e s m args below meth c H locs ls C hP hS hl)) (fun q => (kf q p e s m args below meth c H locs ls C hP hS hl))
theorem zi_ifle {x : Int32} {off : Int} {tgt : Nat} (hd : decode mi.2.1 pc = .ok (.ifCond .le off, 3)) (hn : pc + 3 = n) (ht : (pc : Int) + off = (tgt : Int)) (kt : x ≤ 0 → zG E mi d rv M1 tgt lo st M) (kf : ¬ x ≤ 0 → zG E mi d rv M1 n lo st M) : zG E mi d rv M1 pc lo (.int x :: st) M := by
  subst hn; intro p e s m args below meth c H locs ls C hP hS hl
  exact lv_if_le C.1 C.2.1 hd ht (fun q => (kt q p e s m args below meth c H locs ls C hP hS hl)) (fun q => (kf q p e s m args below meth c H locs ls C hP hS hl))
theorem zi_iceq {x y : Int32} {off : Int} {tgt : Nat} (hd : decode mi.2.1 pc = .ok (.if_icmp .eq off, 3)) (hn : pc + 3 = n) (ht : (pc : Int) + off = (tgt : Int)) (kt : x = y → zG E mi d rv M1 tgt lo st M) (kf : ¬ x = y → zG E mi d rv M1 n lo st M) : zG E mi d rv M1 pc lo (.int y :: .int x :: st) M := by
  subst hn; intro p e s m args below meth c H locs ls C hP hS hl
  exact lv_icmp_eq C.1 C.2.1 hd ht (fun q => (kt q p e s m args below meth c H locs ls C hP hS hl)) (fun q => (kf q p e s m args below meth c H locs ls C hP hS hl))
theorem zi_icne {x y : Int32} {off : Int} {tgt : Nat} (hd : decode mi.2.1 pc = .ok (.if_icmp .ne off, 3)) (hn : pc + 3 = n) (ht : (pc : Int) + off = (tgt : Int)) (kt : ¬ x = y → zG E mi d rv M1 tgt lo st M) (kf : x = y → zG E mi d rv M1 n lo st M) : zG E mi d rv M1 pc lo (.int y :: .int x :: st) M := by
  subst hn; intro p e s m args below meth c H locs ls C hP hS hl
  exact lv_icmp_ne C.1 C.2.1 hd ht (fun q => (kt q p e s m args below meth c H locs ls C hP hS hl)) (fun q => (kf q p e s m args below meth c H locs ls C hP hS hl))
theorem zi_iclt {x y : Int32} {off : Int} {tgt : Nat} (hd : decode mi.2.1 pc = .ok (.if_icmp .lt off, 3)) (hn : pc + 3 = n) (ht : (pc : Int) + off = (tgt : Int)) (kt : x < y → zG E mi d rv M1 tgt lo st M) (kf : ¬ x < y → zG E mi d rv M1 n lo st M) : zG E mi d rv M1 pc lo (.int y :: .int x :: st) M := by
  subst hn; intro p e s m args below meth c H locs ls C hP hS hl
  exact lv_icmp_lt C.1 C.2.1 hd ht (fun q => (kt q p e s m args below meth c H locs ls C hP hS hl)) (fun q => (kf q p e s m args below meth c H locs ls C hP hS hl))
theorem zi_icge {x y : Int32} {off : Int} {tgt : Nat} (hd : decode mi.2.1 pc = .ok (.if_icmp .ge off, 3)) (hn : pc + 3 = n) (ht : (pc : Int) + off = (tgt : Int)) (kt : y ≤ x → zG E mi d rv M1 tgt lo st M) (kf : ¬ y ≤ x → zG E mi d rv M1 n lo st M) : zG E mi d rv M1 pc lo (.int y :: .int x :: st) M := by
  subst hn; intro p e s m args below meth c H locs ls C hP hS hl
  exact lv_icmp_ge C.1 C.2.1 hd ht (fun q => (kt q p e s m args below meth c H locs ls C hP hS hl)) (fun q => (kf q p e s m args below meth c H locs ls C hP hS hl))
theorem zi_icgt {x y : Int32} {off : Int} {tgt : Nat} (hd : decode mi.2.1 pc = .ok (.if_icmp .gt off, 3)) (hn : pc + 3 = n) (ht : (pc : Int) + off = (tgt : Int)) (kt : y < x → zG E mi d rv M1 tgt lo st M) (kf : ¬ y < x → zG E mi d rv M1 n lo st M) : zG E mi d rv M1 pc lo (.int y :: .int x :: st) M := by
  subst hn; intro p e s m args below meth c H locs ls C hP hS hl
  exact lv_icmp_gt C.1 C.2.1 hd ht (fun q => (kt q p e s m args below meth c H locs ls C hP hS hl)) (fun q => (kf q p e s m args below meth c H locs ls C hP hS hl))
theorem zi_icle {x y : Int32} {off : Int} {tgt : Nat} (hd : decode mi.2.1 pc = .ok (.if_icmp .le off, 3)) (hn : pc + 3 = n) (ht : (pc : Int) + off = (tgt : Int)) (kt : x ≤ y → zG E mi d rv M1 tgt lo st M) (kf : ¬ x ≤ y → zG E mi d rv M1 n lo st M) : zG E mi d rv M1 pc lo (.int y :: .int x :: st) M := by
  subst hn; intro p e s m args below meth c H locs ls C hP hS hl
  exact lv_icmp_le C.1 C.2.1 hd ht (fun q => (kt q p e s m args below meth c H locs ls C hP hS hl)) (fun q => (kf q p e s m args below meth c H locs ls C hP hS hl))
theorem zi_goto {off : Int} {tgt : Nat} (hd : decode mi.2.1 pc = .ok (.goto off, 3)) (ht : (pc : Int) + off = (tgt : Int)) (k : zG E mi d rv M1 tgt lo st M) : zG E mi d rv M1 pc lo st M := by
  intro p e s m args below meth c H locs ls C hP hS hl
  exact lv_goto C.1 C.2.1 hd ht (k p e s m args below meth c H locs ls C hP hS hl)
theorem zi_tableOut {dflt a b : Int} {offs : Array Int} {len : Nat} {x : Int32} {tgt : Nat} (hd : decode mi.2.1 pc = .ok (.tableswitch dflt a b offs, len)) (h : x.toInt < a ∨ b < x.toInt) (ht : (pc : Int) + dflt = (tgt : Int)) (k : zG E mi d rv M1 tgt lo st M) : zG E mi d rv M1 pc lo (.int x :: st) M := by
  intro p e s m args below meth c H locs ls C hP hS hl
  exact lv_tableOut C.1 C.2.1 hd h ht (k p e s m args below meth c H locs ls C hP hS hl)
theorem zi_tableIn {dflt a b : Int} {offs : Array Int} {len : Nat} {x : Int32} {off : Int} {tgt : Nat} (hd : decode mi.2.1 pc = .ok (.tableswitch dflt a b offs, len)) (h1 : ¬ x.toInt < a) (h2 : ¬ b < x.toInt) (ho : offs[(x.toInt - a).toNat]? = some off) (ht : (pc : Int) + off = (tgt : Int)) (k : zG E mi d rv M1 tgt lo st M) : zG E mi d rv M1 pc lo (.int x :: st) M := by
  intro p e s m args below meth c H locs ls C hP hS hl
  exact lv_tableIn C.1 C.2.1 hd h1 h2 ho ht (k p e s m args below meth c H locs ls C hP hS hl)
theorem zi_lookup {dflt : Int} {ps : Array (Int × Int)} {len : Nat} {x : Int32} {off : Int} {tgt : Nat} (hd : decode mi.2.1 pc = .ok (.lookupswitch dflt ps, len)) (hp : (ps.toList.zip (ps.toList.drop 1)).all (fun (a, next) => a.1 < next.1) = true) (ho : Op.lookupswitch.offset ps.toList dflt x.toInt = off) (ht : (pc : Int) + off = (tgt : Int)) (k : zG E mi d rv M1 tgt lo st M) : zG E mi d rv M1 pc lo (.int x :: st) M := by
  intro p e s m args below meth c H locs ls C hP hS hl
  exact lv_lookup C.1 C.2.1 hd hp ho ht (k p e s m args below meth c H locs ls C hP hS hl)
theorem zi_ifeq_b {b : Prop} [Decidable b] {off : Int} {tgt : Nat} (hd : decode mi.2.1 pc = .ok (.ifCond .eq off, 3)) (hn : pc + 3 = n) (ht : (pc : Int) + off = (tgt : Int)) (kt : ¬ b → zG E mi d rv M1 tgt lo st M) (kf : b → zG E mi d rv M1 n lo st M) : zG E mi d rv M1 pc lo (.int (zb b) :: st) M := by
  refine zi_ifeq hd hn ht (fun h => kt (fun hb => ?_)) (fun h => kf (Classical.byContradiction fun hb => h ?_))
  · rw [zb, if_pos hb] at h; exact absurd h (by decide)
  · rw [zb, if_neg hb]
theorem zi_ifne_b {b : Prop} [Decidable b] {off : Int} {tgt : Nat} (hd : decode mi.2.1 pc = .ok (.ifCond .ne off, 3)) (hn : pc + 3 = n) (ht : (pc : Int) + off = (tgt : Int)) (kt : b → zG E mi d rv M1 tgt lo st M) (kf : ¬ b → zG E mi d rv M1 n lo st M) : zG E mi d rv M1 pc lo (.int (zb b) :: st) M := by
  refine zi_ifne hd hn ht (fun h => kt (Classical.byContradiction fun hb => h ?_)) (fun h => kf (fun hb => ?_))
  · rw [zb, if_neg hb]
  · rw [zb, if_pos hb] at h; exact absurd h (by decide)
theorem zi_iload0 {tl : List (Option Value)} {x : Int32} (hd : decode mi.2.1 pc = .ok (.iload_n 0, 1)) (hn : pc + 1 = n) (k : zG E mi d rv M1 n (some (.int x) :: tl) (.int x :: st) M) : zG E mi d rv M1 pc (some (.int x) :: tl) st M := by
  subst hn; intro p e s m args below meth c H locs ls C hP hS hl
  exact lv_iload_n C.1 C.2.1 hd rfl (hl.2.2 0 _ rfl) (k p e s m args below meth c H locs ls C hP hS hl)
theorem zi_lload0 {tl : List (Option Value)} {x : Int64} (hd : decode mi.2.1 pc = .ok (.lload_n 0, 1)) (hn : pc + 1 = n) (k : zG E mi d rv M1 n (some (.long x) :: tl) (.long x :: st) M) : zG E mi d rv M1 pc (some (.long x) :: tl) st M := by
  subst hn; intro p e s m args below meth c H locs ls C hP hS hl
  exact lv_lload_n C.1 C.2.1 hd rfl (hl.2.2 0 _ rfl) (k p e s m args below meth c H locs ls C hP hS hl)
theorem zi_aload0 {tl : List (Option Value)} {x : Nat} (hd : decode mi.2.1 pc = .ok (.aload_n 0, 1)) (hn : pc + 1 = n) (k : zG E mi d rv M1 n (some (.ref x) :: tl) (.ref x :: st) M) : zG E mi d rv M1 pc (some (.ref x) :: tl) st M := by
  subst hn; intro p e s m args below meth c H locs ls C hP hS hl
  exact lv_aload_n C.1 C.2.1 hd rfl (hl.2.2 0 _ rfl) (k p e s m args below meth c H locs ls C hP hS hl)
theorem zi_istore0 {a0 : Option Value} {tl : List (Option Value)} {x : Int32} (hd : decode mi.2.1 pc = .ok (.istore_n 0, 1)) (hn : pc + 1 = n) (hi : 0 < mi.2.2.1) (hp : zpv (a0 :: tl) 0 = true) (k : zG E mi d rv M1 n (some (.int x) :: tl) st M) : zG E mi d rv M1 pc (a0 :: tl) (.int x :: st) M := by
  subst hn; intro p e s m args below meth c H locs ls C hP hS hl
  exact lv_istore_n C.1 C.2.1 hd rfl hl.has hi rfl (fun ls2 h2 => k p e s m args below meth c H locs ls2 C hP hS (zlo_store1 hp h2))
theorem zi_astore0 {a0 : Option Value} {tl : List (Option Value)} {x : Nat} (hd : decode mi.2.1 pc = .ok (.astore_n 0, 1)) (hn : pc + 1 = n) (hi : 0 < mi.2.2.1) (hp : zpv (a0 :: tl) 0 = true) (k : zG E mi d rv M1 n (some (.ref x) :: tl) st M) : zG E mi d rv M1 pc (a0 :: tl) (.ref x :: st) M := by
  subst hn; intro p e s m args below meth c H locs ls C hP hS hl
  exact lv_astore_n C.1 C.2.1 hd rfl hl.has hi rfl (fun ls2 h2 => k p e s m args below meth c H locs ls2 C hP hS (zlo_store1 hp h2))
theorem zi_iinc0 {tl : List (Option Value)} {x : Int32} {by_ : Int} (v : Int32) (hd : decode mi.2.1 pc = .ok (.iinc 0 by_, 3)) (hn : pc + 3 = n) (hi : 0 < mi.2.2.1) (hp : zpv (some (.int x) :: tl) 0 = true) (hv : x + Int32.ofInt by_ = v) (k : zG E mi d rv M1 n (some (.int v) :: tl) st M) : zG E mi d rv M1 pc (some (.int x) :: tl) st M := by
  subst hn; intro p e s m args below meth c H locs ls C hP hS hl
  obtain ⟨kk, hkk⟩ := List.getElem?_of_mem (zll_of (some (.int x) :: tl) 0 0 (.int x) rfl)
  exact lv_iinc C.1 C.2.1 hd hl.has (k := kk) (x := x) (by rw [hkk]) hv hi rfl (fun ls2 h2 => k p e s m args below meth c H locs ls2 C hP hS (zlo_store1 hp h2))
theorem zi_lstore0 {a0 a1 : Option Value} {tl : List (Option Value)} {x : Int64} (hd : decode mi.2.1 pc = .ok (.lstore_n 0, 1)) (hn : pc + 1 = n) (hi : 0 + 1 < mi.2.2.1) (hp : zpv (a0 :: a1 :: tl) 0 = true) (k : zG E mi d rv M1 n (some (.long x) :: none :: tl) st M) : zG E mi d rv M1 pc (a0 :: a1 :: tl) (.long x :: st) M := by
  subst hn; intro p e s m args below meth c H locs ls C hP hS hl
  exact lv_lstore_n C.1 C.2.1 hd rfl hl.has hi rfl (fun ls2 h2 => k p e s m args below meth c H locs ls2 C hP hS (zlo_store2 hp h2))
theorem zi_iload1 {a0 : Option Value} {tl : List (Option Value)} {x : Int32} (hd : decode mi.2.1 pc = .ok (.iload_n 1, 1)) (hn : pc + 1 = n) (k : zG E mi d rv M1 n (a0 :: some (.int x) :: tl) (.int x :: st) M) : zG E mi d rv M1 pc (a0 :: some (.int x) :: tl) st M := by
  subst hn; intro p e s m args below meth c H locs ls C hP hS hl
  exact lv_iload_n C.1 C.2.1 hd rfl (hl.2.2 1 _ rfl) (k p e s m args below meth c H locs ls C hP hS hl)
theorem zi_lload1 {a0 : Option Value} {tl : List (Option Value)} {x : Int64} (hd : decode mi.2.1 pc = .ok (.lload_n 1, 1)) (hn : pc + 1 = n) (k : zG E mi d rv M1 n (a0 :: some (.long x) :: tl) (.long x :: st) M) : zG E mi d rv M1 pc (a0 :: some (.long x) :: tl) st M := by
  subst hn; intro p e s m args below meth c H locs ls C hP hS hl
  exact lv_lload_n C.1 C.2.1 hd rfl (hl.2.2 1 _ rfl) (k p e s m args below meth c H locs ls C hP hS hl)
theorem zi_aload1 {a0 : Option Value} {tl : List (Option Value)} {x : Nat} (hd : decode mi.2.1 pc = .ok (.aload_n 1, 1)) (hn : pc + 1 = n) (k : zG E mi d rv M1 n (a0 :: some (.ref x) :: tl) (.ref x :: st) M) : zG E mi d rv M1 pc (a0 :: some (.ref x) :: tl) st M := by
  subst hn; intro p e s m args below meth c H locs ls C hP hS hl
  exact lv_aload_n C.1 C.2.1 hd rfl (hl.2.2 1 _ rfl) (k p e s m args below meth c H locs ls C hP hS hl)
theorem zi_istore1 {a0 a1 : Option Value} {tl : List (Option Value)} {x : Int32} (hd : decode mi.2.1 pc = .ok (.istore_n 1, 1)) (hn : pc + 1 = n) (hi : 1 < mi.2.2.1) (hp : zpv (a0 :: a1 :: tl) 1 = true) (k : zG E mi d rv M1 n (a0 :: some (.int x) :: tl) st M) : zG E mi d rv M1 pc (a0 :: a1 :: tl) (.int x :: st) M := by
  subst hn; intro p e s m args below meth c H locs ls C hP hS hl
  exact lv_istore_n C.1 C.2.1 hd rfl hl.has hi rfl (fun ls2 h2 => k p e s m args below meth c H locs ls2 C hP hS (zlo_store1 hp h2))
theorem zi_astore1 {a0 a1 : Option Value} {tl : List (Option Value)} {x : Nat} (hd : decode mi.2.1 pc = .ok (.astore_n 1, 1)) (hn : pc + 1 = n) (hi : 1 < mi.2.2.1) (hp : zpv (a0 :: a1 :: tl) 1 = true) (k : zG E mi d rv M1 n (a0 :: some (.ref x) :: tl) st M) : zG E mi d rv M1 pc (a0 :: a1 :: tl) (.ref x :: st) M := by
  subst hn; intro p e s m args below meth c H locs ls C hP hS hl
  exact lv_astore_n C.1 C.2.1 hd rfl hl.has hi rfl (fun ls2 h2 => k p e s m args below meth c H locs ls2 C hP hS (zlo_store1 hp h2))
theorem zi_iinc1 {a0 : Option Value} {tl : List (Option Value)} {x : Int32} {by_ : Int} (v : Int32) (hd : decode mi.2.1 pc = .ok (.iinc 1 by_, 3)) (hn : pc + 3 = n) (hi : 1 < mi.2.2.1) (hp : zpv (a0 :: some (.int x) :: tl) 1 = true) (hv : x + Int32.ofInt by_ = v) (k : zG E mi d rv M1 n (a0 :: some (.int v) :: tl) st M) : zG E mi d rv M1 pc (a0 :: some (.int x) :: tl) st M := by
  subst hn; intro p e s m args below meth c H locs ls C hP hS hl
  obtain ⟨kk, hkk⟩ := List.getElem?_of_mem (zll_of (a0 :: some (.int x) :: tl) 0 1 (.int x) rfl)
  exact lv_iinc C.1 C.2.1 hd hl.has (k := kk) (x := x) (by rw [hkk]) hv hi rfl (fun ls2 h2 => k p e s m args below meth c H locs ls2 C hP hS (zlo_store1 hp h2))
theorem zi_lstore1 {a0 a1 a2 : Option Value} {tl : List (Option Value)} {x : Int64} (hd : decode mi.2.1 pc = .ok (.lstore_n 1, 1)) (hn : pc + 1 = n) (hi : 1 + 1 < mi.2.2.1) (hp : zpv (a0 :: a1 :: a2 :: tl) 1 = true) (k : zG E mi d rv M1 n (a0 :: some (.long x) :: none :: tl) st M) : zG E mi d rv M1 pc (a0 :: a1 :: a2 :: tl) (.long x :: st) M := by
  subst hn; intro p e s m args below meth c H locs ls C hP hS hl
  exact lv_lstore_n C.1 C.2.1 hd rfl hl.has hi rfl (fun ls2 h2 => k p e s m args below meth c H locs ls2 C hP hS (zlo_store2 hp h2))
theorem zi_iload2 {a0 a1 : Option Value} {tl : List (Option Value)} {x : Int32} (hd : decode mi.2.1 pc = .ok (.iload_n 2, 1)) (hn : pc + 1 = n) (k : zG E mi d rv M1 n (a0 :: a1 :: some (.int x) :: tl) (.int x :: st) M) : zG E mi d rv M1 pc (a0 :: a1 :: some (.int x) :: tl) st M := by
  subst hn; intro p e s m args below meth c H locs ls C hP hS hl
  exact lv_iload_n C.1 C.2.1 hd rfl (hl.2.2 2 _ rfl) (k p e s m args below meth c H locs ls C hP hS hl)
theorem zi_lload2 {a0 a1 : Option Value} {tl : List (Option Value)} {x : Int64} (hd : decode mi.2.1 pc = .ok (.lload_n 2, 1)) (hn : pc + 1 = n) (k : zG E mi d rv M1 n (a0 :: a1 :: some (.long x) :: tl) (.long x :: st) M) : zG E mi d rv M1 pc (a0 :: a1 :: some (.long x) :: tl) st M := by
  subst hn; intro p e s m args below meth c H locs ls C hP hS hl
  exact lv_lload_n C.1 C.2.1 hd rfl (hl.2.2 2 _ rfl) (k p e s m args below meth c H locs ls C hP hS hl)
theorem zi_aload2 {a0 a1 : Option Value} {tl : List (Option Value)} {x : Nat} (hd : decode mi.2.1 pc = .ok (.aload_n 2, 1)) (hn : pc + 1 = n) (k : zG E mi d rv M1 n (a0 :: a1 :: some (.ref x) :: tl) (.ref x :: st) M) : zG E mi d rv M1 pc (a0 :: a1 :: some (.ref x) :: tl) st M := by
  subst hn; intro p e s m args below meth c H locs ls C hP hS hl
  exact lv_aload_n C.1 C.2.1 hd rfl (hl.2.2 2 _ rfl) (k p e s m args below meth c H locs ls C hP hS hl)
theorem zi_istore2 {a0 a1 a2 : Option Value} {tl : List (Option Value)} {x : Int32} (hd : decode mi.2.1 pc = .ok (.istore_n 2, 1)) (hn : pc + 1 = n) (hi : 2 < mi.2.2.1) (hp : zpv (a0 :: a1 :: a2 :: tl) 2 = true) (k : zG E mi d rv M1 n (a0 :: a1 :: some (.int x) :: tl) st M) : zG E mi d rv M1 pc (a0 :: a1 :: a2 :: tl) (.int x :: st) M := by
  subst hn; intro p e s m args below meth c H locs ls C hP hS hl
  exact lv_istore_n C.1 C.2.1 hd rfl hl.has hi rfl (fun ls2 h2 => k p e s m args below meth c H locs ls2 C hP hS (zlo_store1 hp h2))
theorem zi_astore2 {a0 a1 a2 : Option Value} {tl : List (Option Value)} {x : Nat} (hd : decode mi.2.1 pc = .ok (.astore_n 2, 1)) (hn : pc + 1 = n) (hi : 2 < mi.2.2.1) (hp : zpv (a0 :: a1 :: a2 :: tl) 2 = true) (k : zG E mi d rv M1 n (a0 :: a1 :: some (.ref x) :: tl) st M) : zG E mi d rv M1 pc (a0 :: a1 :: a2 :: tl) (.ref x :: st) M := by
  subst hn; intro p e s m args below meth c H locs ls C hP hS hl
  exact lv_astore_n C.1 C.2.1 hd rfl hl.has hi rfl (fun ls2 h2 => k p e s m args below meth c H locs ls2 C hP hS (zlo_store1 hp h2))
theorem zi_iinc2 {a0 a1 : Option Value} {tl : List (Option Value)} {x : Int32} {by_ : Int} (v : Int32) (hd : decode mi.2.1 pc = .ok (.iinc 2 by_, 3)) (hn : pc + 3 = n) (hi : 2 < mi.2.2.1) (hp : zpv (a0 :: a1 :: some (.int x) :: tl) 2 = true) (hv : x + Int32.ofInt by_ = v) (k : zG E mi d rv M1 n (a0 :: a1 :: some (.int v) :: tl) st M) : zG E mi d rv M1 pc (a0 :: a1 :: some (.int x) :: tl) st M := by
  subst hn; intro p e s m args below meth c H locs ls C hP hS hl
  obtain ⟨kk, hkk⟩ := List.getElem?_of_mem (zll_of (a0 :: a1 :: some (.int x) :: tl) 0 2 (.int x) rfl)
  exact lv_iinc C.1 C.2.1 hd hl.has (k := kk) (x := x) (by rw [hkk]) hv hi rfl (fun ls2 h2 => k p e s m args below meth c H locs ls2 C hP hS (zlo_store1 hp h2))
theorem zi_lstore2 {a0 a1 a2 a3 : Option Value} {tl : List (Option Value)} {x : Int64} (hd : decode mi.2.1 pc = .ok (.lstore_n 2, 1)) (hn : pc + 1 = n) (hi : 2 + 1 < mi.2.2.1) (hp : zpv (a0 :: a1 :: a2 :: a3 :: tl) 2 = true) (k : zG E mi d rv M1 n (a0 :: a1 :: some (.long x) :: none :: tl) st M) : zG E mi d rv M1 pc (a0 :: a1 :: a2 :: a3 :: tl) (.long x :: st) M := by
  subst hn; intro p e s m args below meth c H locs ls C hP hS hl
  exact lv_lstore_n C.1 C.2.1 hd rfl hl.has hi rfl (fun ls2 h2 => k p e s m args below meth c H locs ls2 C hP hS (zlo_store2 hp h2))
theorem zi_iload3 {a0 a1 a2 : Option Value} {tl : List (Option Value)} {x : Int32} (hd : decode mi.2.1 pc = .ok (.iload_n 3, 1)) (hn : pc + 1 = n) (k : zG E mi d rv M1 n (a0 :: a1 :: a2 :: some (.int x) :: tl) (.int x :: st) M) : zG E mi d rv M1 pc (a0 :: a1 :: a2 :: some (.int x) :: tl) st M := by
  subst hn; intro p e s m args below meth c H locs ls C hP hS hl
  exact lv_iload_n C.1 C.2.1 hd rfl (hl.2.2 3 _ rfl) (k p e s m args below meth c H locs ls C hP hS hl)
theorem zi_lload3 {a0 a1 a2 : Option Value} {tl : List (Option Value)} {x : Int64} (hd : decode mi.2.1 pc = .ok (.lload_n 3, 1)) (hn : pc + 1 = n) (k : zG E mi d rv M1 n (a0 :: a1 :: a2 :: some (.long x) :: tl) (.long x :: st) M) : zG E mi d rv M1 pc (a0 :: a1 :: a2 :: some (.long x) :: tl) st M := by
  subst hn; intro p e s m args below meth c H locs ls C hP hS hl
  exact lv_lload_n C.1 C.2.1 hd rfl (hl.2.2 3 _ rfl) (k p e s m args below meth c H locs ls C hP hS hl)
theorem zi_aload3 {a0 a1 a2 : Option Value} {tl : List (Option Value)} {x : Nat} (hd : decode mi.2.1 pc = .ok (.aload_n 3, 1)) (hn : pc + 1 = n) (k : zG E mi d rv M1 n (a0 :: a1 :: a2 :: some (.ref x) :: tl) (.ref x :: st) M) : zG E mi d rv M1 pc (a0 :: a1 :: a2 :: some (.ref x) :: tl) st M := by
  subst hn; intro p e s m args below meth c H locs ls C hP hS hl
  exact lv_aload_n C.1 C.2.1 hd rfl (hl.2.2 3 _ rfl) (k p e s m args below meth c H locs ls C hP hS hl)
theorem zi_istore3 {a0 a1 a2 a3 : Option Value} {tl : List (Option Value)} {x : Int32} (hd : decode mi.2.1 pc = .ok (.istore_n 3, 1)) (hn : pc + 1 = n) (hi : 3 < mi.2.2.1) (hp : zpv (a0 :: a1 :: a2 :: a3 :: tl) 3 = true) (k : zG E mi d rv M1 n (a0 :: a1 :: a2 :: some (.int x) :: tl) st M) : zG E mi d rv M1 pc (a0 :: a1 :: a2 :: a3 :: tl) (.int x :: st) M := by
  subst hn; intro p e s m args below meth c H locs ls C hP hS hl
  exact lv_istore_n C.1 C.2.1 hd rfl hl.has hi rfl (fun ls2 h2 => k p e s m args below meth c H locs ls2 C hP hS (zlo_store1 hp h2))
theorem zi_astore3 {a0 a1 a2 a3 : Option Value} {tl : List (Option Value)} {x : Nat} (hd : decode mi.2.1 pc = .ok (.astore_n 3, 1)) (hn : pc + 1 = n) (hi : 3 < mi.2.2.1) (hp : zpv (a0 :: a1 :: a2 :: a3 :: tl) 3 = true) (k : zG E mi d rv M1 n (a0 :: a1 :: a2 :: some (.ref x) :: tl) st M) : zG E mi d rv M1 pc (a0 :: a1 :: a2 :: a3 :: tl) (.ref x :: st) M := by
  subst hn; intro p e s m args below meth c H locs ls C hP hS hl
  exact lv_astore_n C.1 C.2.1 hd rfl hl.has hi rfl (fun ls2 h2 => k p e s m args below meth c H locs ls2 C hP hS (zlo_store1 hp h2))
theorem zi_iinc3 {a0 a1 a2 : Option Value} {tl : List (Option Value)} {x : Int32} {by_ : Int} (v : Int32) (hd : decode mi.2.1 pc = .ok (.iinc 3 by_, 3)) (hn : pc + 3 = n) (hi : 3 < mi.2.2.1) (hp : zpv (a0 :: a1 :: a2 :: some (.int x) :: tl) 3 = true) (hv : x + Int32.ofInt by_ = v) (k : zG E mi d rv M1 n (a0 :: a1 :: a2 :: some (.int v) :: tl) st M) : zG E mi d rv M1 pc (a0 :: a1 :: a2 :: some (.int x) :: tl) st M := by
  subst hn; intro p e s m args below meth c H locs ls C hP hS hl
  obtain ⟨kk, hkk⟩ := List.getElem?_of_mem (zll_of (a0 :: a1 :: a2 :: some (.int x) :: tl) 0 3 (.int x) rfl)
  exact lv_iinc C.1 C.2.1 hd hl.has (k := kk) (x := x) (by rw [hkk]) hv hi rfl (fun ls2 h2 => k p e s m args below meth c H locs ls2 C hP hS (zlo_store1 hp h2))
theorem zi_lstore3 {a0 a1 a2 a3 a4 : Option Value} {tl : List (Option Value)} {x : Int64} (hd : decode mi.2.1 pc = .ok (.lstore_n 3, 1)) (hn : pc + 1 = n) (hi : 3 + 1 < mi.2.2.1) (hp : zpv (a0 :: a1 :: a2 :: a3 :: a4 :: tl) 3 = true) (k : zG E mi d rv M1 n (a0 :: a1 :: a2 :: some (.long x) :: none :: tl) st M) : zG E mi d rv M1 pc (a0 :: a1 :: a2 :: a3 :: a4 :: tl) (.long x :: st) M := by
  subst hn; intro p e s m args below meth c H locs ls C hP hS hl
  exact lv_lstore_n C.1 C.2.1 hd rfl hl.has hi rfl (fun ls2 h2 => k p e s m args below meth c H locs ls2 C hP hS (zlo_store2 hp h2))
theorem zi_iload4 {a0 a1 a2 a3 : Option Value} {tl : List (Option Value)} {x : Int32} (hd : decode mi.2.1 pc = .ok (.iload 4, 2)) (hn : pc + 2 = n) (k : zG E mi d rv M1 n (a0 :: a1 :: a2 :: a3 :: some (.int x) :: tl) (.int x :: st) M) : zG E mi d rv M1 pc (a0 :: a1 :: a2 :: a3 :: some (.int x) :: tl) st M := by
  subst hn; intro p e s m args below meth c H locs ls C hP hS hl
  exact lv_iload C.1 C.2.1 hd (hl.2.2 4 _ rfl) (k p e s m args below meth c H locs ls C hP hS hl)
theorem zi_lload4 {a0 a1 a2 a3 : Option Value} {tl : List (Option Value)} {x : Int64} (hd : decode mi.2.1 pc = .ok (.lload 4, 2)) (hn : pc + 2 = n) (k : zG E mi d rv M1 n (a0 :: a1 :: a2 :: a3 :: some (.long x) :: tl) (.long x :: st) M) : zG E mi d rv M1 pc (a0 :: a1 :: a2 :: a3 :: some (.long x) :: tl) st M := by
  subst hn; intro p e s m args below meth c H locs ls C hP hS hl
  exact lv_lload C.1 C.2.1 hd (hl.2.2 4 _ rfl) (k p e s m args below meth c H locs ls C hP hS hl)
theorem zi_aload4 {a0 a1 a2 a3 : Option Value} {tl : List (Option Value)} {x : Nat} (hd : decode mi.2.1 pc = .ok (.aload 4, 2)) (hn : pc + 2 = n) (k : zG E mi d rv M1 n (a0 :: a1 :: a2 :: a3 :: some (.ref x) :: tl) (.ref x :: st) M) : zG E mi d rv M1 pc (a0 :: a1 :: a2 :: a3 :: some (.ref x) :: tl) st M := by
  subst hn; intro p e s m args below meth c H locs ls C hP hS hl
  exact lv_aload C.1 C.2.1 hd (hl.2.2 4 _ rfl) (k p e s m args below meth c H locs ls C hP hS hl)
theorem zi_istore4 {a0 a1 a2 a3 a4 : Option Value} {tl : List (Option Value)} {x : Int32} (hd : decode mi.2.1 pc = .ok (.istore 4, 2)) (hn : pc + 2 = n) (hi : 4 < mi.2.2.1) (hp : zpv (a0 :: a1 :: a2 :: a3 :: a4 :: tl) 4 = true) (k : zG E mi d rv M1 n (a0 :: a1 :: a2 :: a3 :: some (.int x) :: tl) st M) : zG E mi d rv M1 pc (a0 :: a1 :: a2 :: a3 :: a4 :: tl) (.int x :: st) M := by
  subst hn; intro p e s m args below meth c H locs ls C hP hS hl
  exact lv_istore C.1 C.2.1 hd hl.has hi rfl (fun ls2 h2 => k p e s m args below meth c H locs ls2 C hP hS (zlo_store1 hp h2))
theorem zi_astore4 {a0 a1 a2 a3 a4 : Option Value} {tl : List (Option Value)} {x : Nat} (hd : decode mi.2.1 pc = .ok (.astore 4, 2)) (hn : pc + 2 = n) (hi : 4 < mi.2.2.1) (hp : zpv (a0 :: a1 :: a2 :: a3 :: a4 :: tl) 4 = true) (k : zG E mi d rv M1 n (a0 :: a1 :: a2 :: a3 :: some (.ref x) :: tl) st M) : zG E mi d rv M1 pc (a0 :: a1 :: a2 :: a3 :: a4 :: tl) (.ref x :: st) M := by
  subst hn; intro p e s m args below meth c H locs ls C hP hS hl
  exact lv_astore C.1 C.2.1 hd hl.has hi rfl (fun ls2 h2 => k p e s m args below meth c H locs ls2 C hP hS (zlo_store1 hp h2))
theorem zi_iinc4 {a0 a1 a2 a3 : Option Value} {tl : List (Option Value)} {x : Int32} {by_ : Int} (v : Int32) (hd : decode mi.2.1 pc = .ok (.iinc 4 by_, 3)) (hn : pc + 3 = n) (hi : 4 < mi.2.2.1) (hp : zpv (a0 :: a1 :: a2 :: a3 :: some (.int x) :: tl) 4 = true) (hv : x + Int32.ofInt by_ = v) (k : zG E mi d rv M1 n (a0 :: a1 :: a2 :: a3 :: some (.int v) :: tl) st M) : zG E mi d rv M1 pc (a0 :: a1 :: a2 :: a3 :: some (.int x) :: tl) st M := by
  subst hn; intro p e s m args below meth c H locs ls C hP hS hl
  obtain ⟨kk, hkk⟩ := List.getElem?_of_mem (zll_of (a0 :: a1 :: a2 :: a3 :: some (.int x) :: tl) 0 4 (.int x) rfl)
  exact lv_iinc C.1 C.2.1 hd hl.has (k := kk) (x := x) (by rw [hkk]) hv hi rfl (fun ls2 h2 => k p e s m args below meth c H locs ls2 C hP hS (zlo_store1 hp h2))
theorem zi_lstore4 {a0 a1 a2 a3 a4 a5 : Option Value} {tl : List (Option Value)} {x : Int64} (hd : decode mi.2.1 pc = .ok (.lstore 4, 2)) (hn : pc + 2 = n) (hi : 4 + 1 < mi.2.2.1) (hp : zpv (a0 :: a1 :: a2 :: a3 :: a4 :: a5 :: tl) 4 = true) (k : zG E mi d rv M1 n (a0 :: a1 :: a2 :: a3 :: some (.long x) :: none :: tl) st M) : zG E mi d rv M1 pc (a0 :: a1 :: a2 :: a3 :: a4 :: a5 :: tl) (.long x :: st) M := by
  subst hn; intro p e s m args below meth c H locs ls C hP hS hl
  exact lv_lstore C.1 C.2.1 hd hl.has hi rfl (fun ls2 h2 => k p e s m args below meth c H locs ls2 C hP hS (zlo_store2 hp h2))
theorem zi_iload5 {a0 a1 a2 a3 a4 : Option Value} {tl : List (Option Value)} {x : Int32} (hd : decode mi.2.1 pc = .ok (.iload 5, 2)) (hn : pc + 2 = n) (k : zG E mi d rv M1 n (a0 :: a1 :: a2 :: a3 :: a4 :: some (.int x) :: tl) (.int x :: st) M) : zG E mi d rv M1 pc (a0 :: a1 :: a2 :: a3 :: a4 :: some (.int x) :: tl) st M := by
  subst hn; intro p e s m args below meth c H locs ls C hP hS hl
  exact lv_iload C.1 C.2.1 hd (hl.2.2 5 _ rfl) (k p e s m args below meth c H locs ls C hP hS hl)
theorem zi_lload5 {a0 a1 a2 a3 a4 : Option Value} {tl : List (Option Value)} {x : Int64} (hd : decode mi.2.1 pc = .ok (.lload 5, 2)) (hn : pc + 2 = n) (k : zG E mi d rv M1 n (a0 :: a1 :: a2 :: a3 :: a4 :: some (.long x) :: tl) (.long x :: st) M) : zG E mi d rv M1 pc (a0 :: a1 :: a2 :: a3 :: a4 :: some (.long x) :: tl) st M := by
  subst hn; intro p e s m args below meth c H locs ls C hP hS hl
  exact lv_lload C.1 C.2.1 hd (hl.2.2 5 _ rfl) (k p e s m args below meth c H locs ls C hP hS hl)
theorem zi_aload5 {a0 a1 a2 a3 a4 : Option Value} {tl : List (Option Value)} {x : Nat} (hd : decode mi.2.1 pc = .ok (.aload 5, 2)) (hn : pc + 2 = n) (k : zG E mi d rv M1 n (a0 :: a1 :: a2 :: a3 :: a4 :: some (.ref x) :: tl) (.ref x :: st) M) : zG E mi d rv M1 pc (a0 :: a1 :: a2 :: a3 :: a4 :: some (.ref x) :: tl) st M := by
  subst hn; intro p e s m args below meth c H locs ls C hP hS hl
  exact lv_aload C.1 C.2.1 hd (hl.2.2 5 _ rfl) (k p e s m args below meth c H locs ls C hP hS hl)
theorem zi_istore5 {a0 a1 a2 a3 a4 a5 : Option Value} {tl : List (Option Value)} {x : Int32} (hd : decode mi.2.1 pc = .ok (.istore 5, 2)) (hn : pc + 2 = n) (hi : 5 < mi.2.2.1) (hp : zpv (a0 :: a1 :: a2 :: a3 :: a4 :: a5 :: tl) 5 = true) (k : zG E mi d rv M1 n (a0 :: a1 :: a2 :: a3 :: a4 :: some (.int x) :: tl) st M) : zG E mi d rv M1 pc (a0 :: a1 :: a2 :: a3 :: a4 :: a5 :: tl) (.int x :: st) M := by
  subst hn; intro p e s m args below meth c H locs ls C hP hS hl
  exact lv_istore C.1 C.2.1 hd hl.has hi rfl (fun ls2 h2 => k p e s m args below meth c H locs ls2 C hP hS (zlo_store1 hp h2))
theorem zi_astore5 {a0 a1 a2 a3 a4 a5 : Option Value} {tl : List (Option Value)} {x : Nat} (hd : decode mi.2.1 pc = .ok (.astore 5, 2)) (hn : pc + 2 = n) (hi : 5 < mi.2.2.1) (hp : zpv (a0 :: a1 :: a2 :: a3 :: a4 :: a5 :: tl) 5 = true) (k : zG E mi d rv M1 n (a0 :: a1 :: a2 :: a3 :: a4 :: some (.ref x) :: tl) st M) : zG E mi d rv M1 pc (a0 :: a1 :: a2 :: a3 :: a4 :: a5 :: tl) (.ref x :: st) M := by
  subst hn; intro p e s m args below meth c H locs ls C hP hS hl
  exact lv_astore C.1 C.2.1 hd hl.has hi rfl (fun ls2 h2 => k p e s m args below meth c H locs ls2 C hP hS (zlo_store1 hp h2))
theorem zi_iinc5 {a0 a1 a2 a3 a4 : Option Value} {tl : List (Option Value)} {x : Int32} {by_ : Int} (v : Int32) (hd : decode mi.2.1 pc = .ok (.iinc 5 by_, 3)) (hn : pc + 3 = n) (hi : 5 < mi.2.2.1) (hp : zpv (a0 :: a1 :: a2 :: a3 :: a4 :: some (.int x) :: tl) 5 = true) (hv : x + Int32.ofInt by_ = v) (k : zG E mi d rv M1 n (a0 :: a1 :: a2 :: a3 :: a4 :: some (.int v) :: tl) st M) : zG E mi d rv M1 pc (a0 :: a1 :: a2 :: a3 :: a4 :: some (.int x) :: tl) st M := by
  subst hn; intro p e s m args below meth c H locs ls C hP hS hl
  obtain ⟨kk, hkk⟩ := List.getElem?_of_mem (zll_of (a0 :: a1 :: a2 :: a3 :: a4 :: some (.int x) :: tl) 0 5 (.int x) rfl)
  exact lv_iinc C.1 C.2.1 hd hl.has (k := kk) (x := x) (by rw [hkk]) hv hi rfl (fun ls2 h2 => k p e s m args below meth c H locs ls2 C hP hS (zlo_store1 hp h2))
theorem zi_lstore5 {a0 a1 a2 a3 a4 a5 a6 : Option Value} {tl : List (Option Value)} {x : Int64} (hd : decode mi.2.1 pc = .ok (.lstore 5, 2)) (hn : pc + 2 = n) (hi : 5 + 1 < mi.2.2.1) (hp : zpv (a0 :: a1 :: a2 :: a3 :: a4 :: a5 :: a6 :: tl) 5 = true) (k : zG E mi d rv M1 n (a0 :: a1 :: a2 :: a3 :: a4 :: some (.long x) :: none :: tl) st M) : zG E mi d rv M1 pc (a0 :: a1 :: a2 :: a3 :: a4 :: a5 :: a6 :: tl) (.long x :: st) M := by
  subst hn; intro p e s m args below meth c H locs ls C hP hS hl
  exact lv_lstore C.1 C.2.1 hd hl.has hi rfl (fun ls2 h2 => k p e s m args below meth c H locs ls2 C hP hS (zlo_store2 hp h2))
theorem zi_iload6 {a0 a1 a2 a3 a4 a5 : Option Value} {tl : List (Option Value)} {x : Int32} (hd : decode mi.2.1 pc = .ok (.iload 6, 2)) (hn : pc + 2 = n) (k : zG E mi d rv M1 n (a0 :: a1 :: a2 :: a3 :: a4 :: a5 :: some (.int x) :: tl) (.int x :: st) M) : zG E mi d rv M1 pc (a0 :: a1 :: a2 :: a3 :: a4 :: a5 :: some (.int x) :: tl) st M := by
  subst hn; intro p e s m args below meth c H locs ls C hP hS hl
  exact lv_iload C.1 C.2.1 hd (hl.2.2 6 _ rfl) (k p e s m args below meth c H locs ls C hP hS hl)
theorem zi_lload6 {a0 a1 a2 a3 a4 a5 : Option Value} {tl : List (Option Value)} {x : Int64} (hd : decode mi.2.1 pc = .ok (.lload 6, 2)) (hn : pc + 2 = n) (k : zG E mi d rv M1 n (a0 :: a1 :: a2 :: a3 :: a4 :: a5 :: some (.long x) :: tl) (.long x :: st) M) : zG E mi d rv M1 pc (a0 :: a1 :: a2 :: a3 :: a4 :: a5 :: some (.long x) :: tl) st M := by
  subst hn; intro p e s m args below meth c H locs ls C hP hS hl
  exact lv_lload C.1 C.2.1 hd (hl.2.2 6 _ rfl) (k p e s m args below meth c H locs ls C hP hS hl)
theorem zi_aload6 {a0 a1 a2 a3 a4 a5 : Option Value} {tl : List (Option Value)} {x : Nat} (hd : decode mi.2.1 pc = .ok (.aload 6, 2)) (hn : pc + 2 = n) (k : zG E mi d rv M1 n (a0 :: a1 :: a2 :: a3 :: a4 :: a5 :: some (.ref x) :: tl) (.ref x :: st) M) : zG E mi d rv M1 pc (a0 :: a1 :: a2 :: a3 :: a4 :: a5 :: some (.ref x) :: tl) st M := by
  subst hn; intro p e s m args below meth c H locs ls C hP hS hl
  exact lv_aload C.1 C.2.1 hd (hl.2.2 6 _ rfl) (k p e s m args below meth c H locs ls C hP hS hl)
theorem zi_istore6 {a0 a1 a2 a3 a4 a5 a6 : Option Value} {tl : List (Option Value)} {x : Int32} (hd : decode mi.2.1 pc = .ok (.istore 6, 2)) (hn : pc + 2 = n) (hi : 6 < mi.2.2.1) (hp : zpv (a0 :: a1 :: a2 :: a3 :: a4 :: a5 :: a6 :: tl) 6 = true) (k : zG E mi d rv M1 n (a0 :: a1 :: a2 :: a3 :: a4 :: a5 :: some (.int x) :: tl) st M) : zG E mi d rv M1 pc (a0 :: a1 :: a2 :: a3 :: a4 :: a5 :: a6 :: tl) (.int x :: st) M := by
  subst hn; intro p e s m args below meth c H locs ls C hP hS hl
  exact lv_istore C.1 C.2.1 hd hl.has hi rfl (fun ls2 h2 => k p e s m args below meth c H locs ls2 C hP hS (zlo_store1 hp h2))
theorem zi_astore6 {a0 a1 a2 a3 a4 a5 a6 : Option Value} {tl : List (Option Value)} {x : Nat} (hd : decode mi.2.1 pc = .ok (.astore 6, 2)) (hn : pc + 2 = n) (hi : 6 < mi.2.2.1) (hp : zpv (a0 :: a1 :: a2 :: a3 :: a4 :: a5 :: a6 :: tl) 6 = true) (k : zG E mi d rv M1 n (a0 :: a1 :: a2 :: a3 :: a4 :: a5 :: some (.ref x) :: tl) st M) : zG E mi d rv M1 pc (a0 :: a1 :: a2 :: a3 :: a4 :: a5 :: a6 :: tl) (.ref x :: st) M := by
  subst hn; intro p e s m args below meth c H locs ls C hP hS hl
  exact lv_astore C.1 C.2.1 hd hl.has hi rfl (fun ls2 h2 => k p e s m args below meth c H locs ls2 C hP hS (zlo_store1 hp h2))
theorem zi_iinc6 {a0 a1 a2 a3 a4 a5 : Option Value} {tl : List (Option Value)} {x : Int32} {by_ : Int} (v : Int32) (hd : decode mi.2.1 pc = .ok (.iinc 6 by_, 3)) (hn : pc + 3 = n) (hi : 6 < mi.2.2.1) (hp : zpv (a0 :: a1 :: a2 :: a3 :: a4 :: a5 :: some (.int x) :: tl) 6 = true) (hv : x + Int32.ofInt by_ = v) (k : zG E mi d rv M1 n (a0 :: a1 :: a2 :: a3 :: a4 :: a5 :: some (.int v) :: tl) st M) : zG E mi d rv M1 pc (a0 :: a1 :: a2 :: a3 :: a4 :: a5 :: some (.int x) :: tl) st M := by
  subst hn; intro p e s m args below meth c H locs ls C hP hS hl
  obtain ⟨kk, hkk⟩ := List.getElem?_of_mem (zll_of (a0 :: a1 :: a2 :: a3 :: a4 :: a5 :: some (.int x) :: tl) 0 6 (.int x) rfl)
  exact lv_iinc C.1 C.2.1 hd hl.has (k := kk) (x := x) (by rw [hkk]) hv hi rfl (fun ls2 h2 => k p e s m args below meth c H locs ls2 C hP hS (zlo_store1 hp h2))
theorem zi_lstore6 {a0 a1 a2 a3 a4 a5 a6 a7 : Option Value} {tl : List (Option Value)} {x : Int64} (hd : decode mi.2.1 pc = .ok (.lstore 6, 2)) (hn : pc + 2 = n) (hi : 6 + 1 < mi.2.2.1) (hp : zpv (a0 :: a1 :: a2 :: a3 :: a4 :: a5 :: a6 :: a7 :: tl) 6 = true) (k : zG E mi d rv M1 n (a0 :: a1 :: a2 :: a3 :: a4 :: a5 :: some (.long x) :: none :: tl) st M) : zG E mi d rv M1 pc (a0 :: a1 :: a2 :: a3 :: a4 :: a5 :: a6 :: a7 :: tl) (.long x :: st) M := by
  subst hn; intro p e s m args below meth c H locs ls C hP hS hl
  exact lv_lstore C.1 C.2.1 hd hl.has hi rfl (fun ls2 h2 => k p e s m args below meth c H locs ls2 C hP hS (zlo_store2 hp h2))
theorem zi_iload7 {a0 a1 a2 a3 a4 a5 a6 : Option Value} {tl : List (Option Value)} {x : Int32} (hd : decode mi.2.1 pc = .ok (.iload 7, 2)) (hn : pc + 2 = n) (k : zG E mi d rv M1 n (a0 :: a1 :: a2 :: a3 :: a4 :: a5 :: a6 :: some (.int x) :: tl) (.int x :: st) M) : zG E mi d rv M1 pc (a0 :: a1 :: a2 :: a3 :: a4 :: a5 :: a6 :: some (.int x) :: tl) st M := by
  subst hn; intro p e s m args below meth c H locs ls C hP hS hl
  exact lv_iload C.1 C.2.1 hd (hl.2.2 7 _ rfl) (k p e s m args below meth c H locs ls C hP hS hl)
theorem zi_lload7 {a0 a1 a2 a3 a4 a5 a6 : Option Value} {tl : List (Option Value)} {x : Int64} (hd : decode mi.2.1 pc = .ok (.lload 7, 2)) (hn : pc + 2 = n) (k : zG E mi d rv M1 n (a0 :: a1 :: a2 :: a3 :: a4 :: a5 :: a6 :: some (.long x) :: tl) (.long x :: st) M) : zG E mi d rv M1 pc (a0 :: a1 :: a2 :: a3 :: a4 :: a5 :: a6 :: some (.long x) :: tl) st M := by
  subst hn; intro p e s m args below meth c H locs ls C hP hS hl
  exact lv_lload C.1 C.2.1 hd (hl.2.2 7 _ rfl) (k p e s m args below meth c H locs ls C hP hS hl)
theorem zi_aload7 {a0 a1 a2 a3 a4 a5 a6 : Option Value} {tl : List (Option Value)} {x : Nat} (hd : decode mi.2.1 pc = .ok (.aload 7, 2)) (hn : pc + 2 = n) (k : zG E mi d rv M1 n (a0 :: a1 :: a2 :: a3 :: a4 :: a5 :: a6 :: some (.ref x) :: tl) (.ref x :: st) M) : zG E mi d rv M1 pc (a0 :: a1 :: a2 :: a3 :: a4 :: a5 :: a6 :: some (.ref x) :: tl) st M := by
  subst hn; intro p e s m args below meth c H locs ls C hP hS hl
  exact lv_aload C.1 C.2.1 hd (hl.2.2 7 _ rfl) (k p e s m args below meth c H locs ls C hP hS hl)
theorem zi_istore7 {a0 a1 a2 a3 a4 a5 a6 a7 : Option Value} {tl : List (Option Value)} {x : Int32} (hd : decode mi.2.1 pc = .ok (.istore 7, 2)) (hn : pc + 2 = n) (hi : 7 < mi.2.2.1) (hp : zpv (a0 :: a1 :: a2 :: a3 :: a4 :: a5 :: a6 :: a7 :: tl) 7 = true) (k : zG E mi d rv M1 n (a0 :: a1 :: a2 :: a3 :: a4 :: a5 :: a6 :: some (.int x) :: tl) st M) : zG E mi d rv M1 pc (a0 :: a1 :: a2 :: a3 :: a4 :: a5 :: a6 :: a7 :: tl) (.int x :: st) M := by
  subst hn; intro p e s m args below meth c H locs ls C hP hS hl
  exact lv_istore C.1 C.2.1 hd hl.has hi rfl (fun ls2 h2 => k p e s m args below meth c H locs ls2 C hP hS (zlo_store1 hp h2))
theorem zi_astore7 {a0 a1 a2 a3 a4 a5 a6 a7 : Option Value} {tl : List (Option Value)} {x : Nat} (hd : decode mi.2.1 pc = .ok (.astore 7, 2)) (hn : pc + 2 = n) (hi : 7 < mi.2.2.1) (hp : zpv (a0 :: a1 :: a2 :: a3 :: a4 :: a5 :: a6 :: a7 :: tl) 7 = true) (k : zG E mi d rv M1 n (a0 :: a1 :: a2 :: a3 :: a4 :: a5 :: a6 :: some (.ref x) :: tl) st M) : zG E mi d rv M1 pc (a0 :: a1 :: a2 :: a3 :: a4 :: a5 :: a6 :: a7 :: tl) (.ref x :: st) M := by
  subst hn; intro p e s m args below meth c H locs ls C hP hS hl
  exact lv_astore C.1 C.2.1 hd hl.has hi rfl (fun ls2 h2 => k p e s m args below meth c H locs ls2 C hP hS (zlo_store1 hp h2))
theorem zi_iinc7 {a0 a1 a2 a3 a4 a5 a6 : Option Value} {tl : List (Option Value)} {x : Int32} {by_ : Int} (v : Int32) (hd : decode mi.2.1 pc = .ok (.iinc 7 by_, 3)) (hn : pc + 3 = n) (hi : 7 < mi.2.2.1) (hp : zpv (a0 :: a1 :: a2 :: a3 :: a4 :: a5 :: a6 :: some (.int x) :: tl) 7 = true) (hv : x + Int32.ofInt by_ = v) (k : zG E mi d rv M1 n (a0 :: a1 :: a2 :: a3 :: a4 :: a5 :: a6 :: some (.int v) :: tl) st M) : zG E mi d rv M1 pc (a0 :: a1 :: a2 :: a3 :: a4 :: a5 :: a6 :: some (.int x) :: tl) st M := by
  subst hn; intro p e s m args below meth c H locs ls C hP hS hl
  obtain ⟨kk, hkk⟩ := List.getElem?_of_mem (zll_of (a0 :: a1 :: a2 :: a3 :: a4 :: a5 :: a6 :: some (.int x) :: tl) 0 7 (.int x) rfl)
  exact lv_iinc C.1 C.2.1 hd hl.has (k := kk) (x := x) (by rw [hkk]) hv hi rfl (fun ls2 h2 => k p e s m args below meth c H locs ls2 C hP hS (zlo_store1 hp h2))
theorem zi_lstore7 {a0 a1 a2 a3 a4 a5 a6 a7 a8 : Option Value} {tl : List (Option Value)} {x : Int64} (hd : decode mi.2.1 pc = .ok (.lstore 7, 2)) (hn : pc + 2 = n) (hi : 7 + 1 < mi.2.2.1) (hp : zpv (a0 :: a1 :: a2 :: a3 :: a4 :: a5 :: a6 :: a7 :: a8 :: tl) 7 = true) (k : zG E mi d rv M1 n (a0 :: a1 :: a2 :: a3 :: a4 :: a5 :: a6 :: some (.long x) :: none :: tl) st M) : zG E mi d rv M1 pc (a0 :: a1 :: a2 :: a3 :: a4 :: a5 :: a6 :: a7 :: a8 :: tl) (.long x :: st) M := by
  subst hn; intro p e s m args below meth c H locs ls C hP hS hl
  exact lv_lstore C.1 C.2.1 hd hl.has hi rfl (fun ls2 h2 => k p e s m args below meth c H locs ls2 C hP hS (zlo_store2 hp h2))
theorem zi_iload8 {a0 a1 a2 a3 a4 a5 a6 a7 : Option Value} {tl : List (Option Value)} {x : Int32} (hd : decode mi.2.1 pc = .ok (.iload 8, 2)) (hn : pc + 2 = n) (k : zG E mi d rv M1 n (a0 :: a1 :: a2 :: a3 :: a4 :: a5 :: a6 :: a7 :: some (.int x) :: tl) (.int x :: st) M) : zG E mi d rv M1 pc (a0 :: a1 :: a2 :: a3 :: a4 :: a5 :: a6 :: a7 :: some (.int x) :: tl) st M := by
  subst hn; intro p e s m args below meth c H locs ls C hP hS hl
  exact lv_iload C.1 C.2.1 hd (hl.2.2 8 _ rfl) (k p e s m args below meth c H locs ls C hP hS hl)
theorem zi_lload8 {a0 a1 a2 a3 a4 a5 a6 a7 : Option Value} {tl : List (Option Value)} {x : Int64} (hd : decode mi.2.1 pc = .ok (.lload 8, 2)) (hn : pc + 2 = n) (k : zG E mi d rv M1 n (a0 :: a1 :: a2 :: a3 :: a4 :: a5 :: a6 :: a7 :: some (.long x) :: tl) (.long x :: st) M) : zG E mi d rv M1 pc (a0 :: a1 :: a2 :: a3 :: a4 :: a5 :: a6 :: a7 :: some (.long x) :: tl) st M := by
  subst hn; intro p e s m args below meth c H locs ls C hP hS hl
  exact lv_lload C.1 C.2.1 hd (hl.2.2 8 _ rfl) (k p e s m args below meth c H locs ls C hP hS hl)
theorem zi_aload8 {a0 a1 a2 a3 a4 a5 a6 a7 : Option Value} {tl : List (Option Value)} {x : Nat} (hd : decode mi.2.1 pc = .ok (.aload 8, 2)) (hn : pc + 2 = n) (k : zG E mi d rv M1 n (a0 :: a1 :: a2 :: a3 :: a4 :: a5 :: a6 :: a7 :: some (.ref x) :: tl) (.ref x :: st) M) : zG E mi d rv M1 pc (a0 :: a1 :: a2 :: a3 :: a4 :: a5 :: a6 :: a7 :: some (.ref x) :: tl) st M := by
  subst hn; intro p e s m args below meth c H locs ls C hP hS hl
  exact lv_aload C.1 C.2.1 hd (hl.2.2 8 _ rfl) (k p e s m args below meth c H locs ls C hP hS hl)
theorem zi_istore8 {a0 a1 a2 a3 a4 a5 a6 a7 a8 : Option Value} {tl : List (Option Value)} {x : Int32} (hd : decode mi.2.1 pc = .ok (.istore 8, 2)) (hn : pc + 2 = n) (hi : 8 < mi.2.2.1) (hp : zpv (a0 :: a1 :: a2 :: a3 :: a4 :: a5 :: a6 :: a7 :: a8 :: tl) 8 = true) (k : zG E mi d rv M1 n (a0 :: a1 :: a2 :: a3 :: a4 :: a5 :: a6 :: a7 :: some (.int x) :: tl) st M) : zG E mi d rv M1 pc (a0 :: a1 :: a2 :: a3 :: a4 :: a5 :: a6 :: a7 :: a8 :: tl) (.int x :: st) M := by
  subst hn; intro p e s m args below meth c H locs ls C hP hS hl
  exact lv_istore C.1 C.2.1 hd hl.has hi rfl (fun ls2 h2 => k p e s m args below meth c H locs ls2 C hP hS (zlo_store1 hp h2))
theorem zi_astore8 {a0 a1 a2 a3 a4 a5 a6 a7 a8 : Option Value} {tl : List (Option Value)} {x : Nat} (hd : decode mi.2.1 pc = .ok (.astore 8, 2)) (hn : pc + 2 = n) (hi : 8 < mi.2.2.1) (hp : zpv (a0 :: a1 :: a2 :: a3 :: a4 :: a5 :: a6 :: a7 :: a8 :: tl) 8 = true) (k : zG E mi d rv M1 n (a0 :: a1 :: a2 :: a3 :: a4 :: a5 :: a6 :: a7 :: some (.ref x) :: tl) st M) : zG E mi d rv M1 pc (a0 :: a1 :: a2 :: a3 :: a4 :: a5 :: a6 :: a7 :: a8 :: tl) (.ref x :: st) M := by
  subst hn; intro p e s m args below meth c H locs ls C hP hS hl
  exact lv_astore C.1 C.2.1 hd hl.has hi rfl (fun ls2 h2 => k p e s m args below meth c H locs ls2 C hP hS (zlo_store1 hp h2))
theorem zi_iinc8 {a0 a1 a2 a3 a4 a5 a6 a7 : Option Value} {tl : List (Option Value)} {x : Int32} {by_ : Int} (v : Int32) (hd : decode mi.2.1 pc = .ok (.iinc 8 by_, 3)) (hn : pc + 3 = n) (hi : 8 < mi.2.2.1) (hp : zpv (a0 :: a1 :: a2 :: a3 :: a4 :: a5 :: a6 :: a7 :: some (.int x) :: tl) 8 = true) (hv : x + Int32.ofInt by_ = v) (k : zG E mi d rv M1 n (a0 :: a1 :: a2 :: a3 :: a4 :: a5 :: a6 :: a7 :: some (.int v) :: tl) st M) : zG E mi d rv M1 pc (a0 :: a1 :: a2 :: a3 :: a4 :: a5 :: a6 :: a7 :: some (.int x) :: tl) st M := by
  subst hn; intro p e s m args below meth c H locs ls C hP hS hl
  obtain ⟨kk, hkk⟩ := List.getElem?_of_mem (zll_of (a0 :: a1 :: a2 :: a3 :: a4 :: a5 :: a6 :: a7 :: some (.int x) :: tl) 0 8 (.int x) rfl)
  exact lv_iinc C.1 C.2.1 hd hl.has (k := kk) (x := x) (by rw [hkk]) hv hi rfl (fun ls2 h2 => k p e s m args below meth c H locs ls2 C hP hS (zlo_store1 hp h2))
theorem zi_lstore8 {a0 a1 a2 a3 a4 a5 a6 a7 a8 a9 : Option Value} {tl : List (Option Value)} {x : Int64} (hd : decode mi.2.1 pc = .ok (.lstore 8, 2)) (hn : pc + 2 = n) (hi : 8 + 1 < mi.2.2.1) (hp : zpv (a0 :: a1 :: a2 :: a3 :: a4 :: a5 :: a6 :: a7 :: a8 :: a9 :: tl) 8 = true) (k : zG E mi d rv M1 n (a0 :: a1 :: a2 :: a3 :: a4 :: a5 :: a6 :: a7 :: some (.long x) :: none :: tl) st M) : zG E mi d rv M1 pc (a0 :: a1 :: a2 :: a3 :: a4 :: a5 :: a6 :: a7 :: a8 :: a9 :: tl) (.long x :: st) M := by
  subst hn; intro p e s m args below meth c H locs ls C hP hS hl
  exact lv_lstore C.1 C.2.1 hd hl.has hi rfl (fun ls2 h2 => k p e s m args below meth c H locs ls2 C hP hS (zlo_store2 hp h2))
theorem zi_iload9 {a0 a1 a2 a3 a4 a5 a6 a7 a8 : Option Value} {tl : List (Option Value)} {x : Int32} (hd : decode mi.2.1 pc = .ok (.iload 9, 2)) (hn : pc + 2 = n) (k : zG E mi d rv M1 n (a0 :: a1 :: a2 :: a3 :: a4 :: a5 :: a6 :: a7 :: a8 :: some (.int x) :: tl) (.int x :: st) M) : zG E mi d rv M1 pc (a0 :: a1 :: a2 :: a3 :: a4 :: a5 :: a6 :: a7 :: a8 :: some (.int x) :: tl) st M := by
  subst hn; intro p e s m args below meth c H locs ls C hP hS hl
  exact lv_iload C.1 C.2.1 hd (hl.2.2 9 _ rfl) (k p e s m args below meth c H locs ls C hP hS hl)
theorem zi_lload9 {a0 a1 a2 a3 a4 a5 a6 a7 a8 : Option Value} {tl : List (Option Value)} {x : Int64} (hd : decode mi.2.1 pc = .ok (.lload 9, 2)) (hn : pc + 2 = n) (k : zG E mi d rv M1 n (a0 :: a1 :: a2 :: a3 :: a4 :: a5 :: a6 :: a7 :: a8 :: some (.long x) :: tl) (.long x :: st) M) : zG E mi d rv M1 pc (a0 :: a1 :: a2 :: a3 :: a4 :: a5 :: a6 :: a7 :: a8 :: some (.long x) :: tl) st M := by
  subst hn; intro p e s m args below meth c H locs ls C hP hS hl
  exact lv_lload C.1 C.2.1 hd (hl.2.2 9 _ rfl) (k p e s m args below meth c H locs ls C hP hS hl)
theorem zi_aload9 {a0 a1 a2 a3 a4 a5 a6 a7 a8 : Option Value} {tl : List (Option Value)} {x : Nat} (hd : decode mi.2.1 pc = .ok (.aload 9, 2)) (hn : pc + 2 = n) (k : zG E mi d rv M1 n (a0 :: a1 :: a2 :: a3 :: a4 :: a5 :: a6 :: a7 :: a8 :: some (.ref x) :: tl) (.ref x :: st) M) : zG E mi d rv M1 pc (a0 :: a1 :: a2 :: a3 :: a4 :: a5 :: a6 :: a7 :: a8 :: some (.ref x) :: tl) st M := by
  subst hn; intro p e s m args below meth c H locs ls C hP hS hl
  exact lv_aload C.1 C.2.1 hd (hl.2.2 9 _ rfl) (k p e s m args below meth c H locs ls C hP hS hl)
theorem zi_istore9 {a0 a1 a2 a3 a4 a5 a6 a7 a8 a9 : Option Value} {tl : List (Option Value)} {x : Int32} (hd : decode mi.2.1 pc = .ok (.istore 9, 2)) (hn : pc + 2 = n) (hi : 9 < mi.2.2.1) (hp : zpv (a0 :: a1 :: a2 :: a3 :: a4 :: a5 :: a6 :: a7 :: a8 :: a9 :: tl) 9 = true) (k : zG E mi d rv M1 n (a0 :: a1 :: a2 :: a3 :: a4 :: a5 :: a6 :: a7 :: a8 :: some (.int x) :: tl) st M) : zG E mi d rv M1 pc (a0 :: a1 :: a2 :: a3 :: a4 :: a5 :: a6 :: a7 :: a8 :: a9 :: tl) (.int x :: st) M := by
  subst hn; intro p e s m args below meth c H locs ls C hP hS hl
  exact lv_istore C.1 C.2.1 hd hl.has hi rfl (fun ls2 h2 => k p e s m args below meth c H locs ls2 C hP hS (zlo_store1 hp h2))
theorem zi_astore9 {a0 a1 a2 a3 a4 a5 a6 a7 a8 a9 : Option Value} {tl : List (Option Value)} {x : Nat} (hd : decode mi.2.1 pc = .ok (.astore 9, 2)) (hn : pc + 2 = n) (hi : 9 < mi.2.2.1) (hp : zpv (a0 :: a1 :: a2 :: a3 :: a4 :: a5 :: a6 :: a7 :: a8 :: a9 :: tl) 9 = true) (k : zG E mi d rv M1 n (a0 :: a1 :: a2 :: a3 :: a4 :: a5 :: a6 :: a7 :: a8 :: some (.ref x) :: tl) st M) : zG E mi d rv M1 pc (a0 :: a1 :: a2 :: a3 :: a4 :: a5 :: a6 :: a7 :: a8 :: a9 :: tl) (.ref x :: st) M := by
  subst hn; intro p e s m args below meth c H locs ls C hP hS hl
  exact lv_astore C.1 C.2.1 hd hl.has hi rfl (fun ls2 h2 => k p e s m args below meth c H locs ls2 C hP hS (zlo_store1 hp h2))
theorem zi_iinc9 {a0 a1 a2 a3 a4 a5 a6 a7 a8 : Option Value} {tl : List (Option Value)} {x : Int32} {by_ : Int} (v : Int32) (hd : decode mi.2.1 pc = .ok (.iinc 9 by_, 3)) (hn : pc + 3 = n) (hi : 9 < mi.2.2.1) (hp : zpv (a0 :: a1 :: a2 :: a3 :: a4 :: a5 :: a6 :: a7 :: a8 :: some (.int x) :: tl) 9 = true) (hv : x + Int32.ofInt by_ = v) (k : zG E mi d rv M1 n (a0 :: a1 :: a2 :: a3 :: a4 :: a5 :: a6 :: a7 :: a8 :: some (.int v) :: tl) st M) : zG E mi d rv M1 pc (a0 :: a1 :: a2 :: a3 :: a4 :: a5 :: a6 :: a7 :: a8 :: some (.int x) :: tl) st M := by
  subst hn; intro p e s m args below meth c H locs ls C hP hS hl
  obtain ⟨kk, hkk⟩ := List.getElem?_of_mem (zll_of (a0 :: a1 :: a2 :: a3 :: a4 :: a5 :: a6 :: a7 :: a8 :: some (.int x) :: tl) 0 9 (.int x) rfl)
  exact lv_iinc C.1 C.2.1 hd hl.has (k := kk) (x := x) (by rw [hkk]) hv hi rfl (fun ls2 h2 => k p e s m args below meth c H locs ls2 C hP hS (zlo_store1 hp h2))
theorem zi_lstore9 {a0 a1 a2 a3 a4 a5 a6 a7 a8 a9 a10 : Option Value} {tl : List (Option Value)} {x : Int64} (hd : decode mi.2.1 pc = .ok (.lstore 9, 2)) (hn : pc + 2 = n) (hi : 9 + 1 < mi.2.2.1) (hp : zpv (a0 :: a1 :: a2 :: a3 :: a4 :: a5 :: a6 :: a7 :: a8 :: a9 :: a10 :: tl) 9 = true) (k : zG E mi d rv M1 n (a0 :: a1 :: a2 :: a3 :: a4 :: a5 :: a6 :: a7 :: a8 :: some (.long x) :: none :: tl) st M) : zG E mi d rv M1 pc (a0 :: a1 :: a2 :: a3 :: a4 :: a5 :: a6 :: a7 :: a8 :: a9 :: a10 :: tl) (.long x :: st) M := by
  subst hn; intro p e s m args below meth c H locs ls C hP hS hl
  exact lv_lstore C.1 C.2.1 hd hl.has hi rfl (fun ls2 h2 => k p e s m args below meth c H locs ls2 C hP hS (zlo_store2 hp h2))
theorem zi_iload10 {a0 a1 a2 a3 a4 a5 a6 a7 a8 a9 : Option Value} {tl : List (Option Value)} {x : Int32} (hd : decode mi.2.1 pc = .ok (.iload 10, 2)) (hn : pc + 2 = n) (k : zG E mi d rv M1 n (a0 :: a1 :: a2 :: a3 :: a4 :: a5 :: a6 :: a7 :: a8 :: a9 :: some (.int x) :: tl) (.int x :: st) M) : zG E mi d rv M1 pc (a0 :: a1 :: a2 :: a3 :: a4 :: a5 :: a6 :: a7 :: a8 :: a9 :: some (.int x) :: tl) st M := by
  subst hn; intro p e s m args below meth c H locs ls C hP hS hl
  exact lv_iload C.1 C.2.1 hd (hl.2.2 10 _ rfl) (k p e s m args below meth c H locs ls C hP hS hl)
theorem zi_lload10 {a0 a1 a2 a3 a4 a5 a6 a7 a8 a9 : Option Value} {tl : List (Option Value)} {x : Int64} (hd : decode mi.2.1 pc = .ok (.lload 10, 2)) (hn : pc + 2 = n) (k : zG E mi d rv M1 n (a0 :: a1 :: a2 :: a3 :: a4 :: a5 :: a6 :: a7 :: a8 :: a9 :: some (.long x) :: tl) (.long x :: st) M) : zG E mi d rv M1 pc (a0 :: a1 :: a2 :: a3 :: a4 :: a5 :: a6 :: a7 :: a8 :: a9 :: some (.long x) :: tl) st M := by
  subst hn; intro p e s m args below meth c H locs ls C hP hS hl
  exact lv_lload C.1 C.2.1 hd (hl.2.2 10 _ rfl) (k p e s m args below meth c H locs ls C hP hS hl)
theorem zi_aload10 {a0 a1 a2 a3 a4 a5 a6 a7 a8 a9 : Option Value} {tl : List (Option Value)} {x : Nat} (hd : decode mi.2.1 pc = .ok (.aload 10, 2)) (hn : pc + 2 = n) (k : zG E mi d rv M1 n (a0 :: a1 :: a2 :: a3 :: a4 :: a5 :: a6 :: a7 :: a8 :: a9 :: some (.ref x) :: tl) (.ref x :: st) M) : zG E mi d rv M1 pc (a0 :: a1 :: a2 :: a3 :: a4 :: a5 :: a6 :: a7 :: a8 :: a9 :: some (.ref x) :: tl) st M := by
  subst hn; intro p e s m args below meth c H locs ls C hP hS hl
  exact lv_aload C.1 C.2.1 hd (hl.2.2 10 _ rfl) (k p e s m args below meth c H locs ls C hP hS hl)
theorem zi_istore10 {a0 a1 a2 a3 a4 a5 a6 a7 a8 a9 a10 : Option Value} {tl : List (Option Value)} {x : Int32} (hd : decode mi.2.1 pc = .ok (.istore 10, 2)) (hn : pc + 2 = n) (hi : 10 < mi.2.2.1) (hp : zpv (a0 :: a1 :: a2 :: a3 :: a4 :: a5 :: a6 :: a7 :: a8 :: a9 :: a10 :: tl) 10 = true) (k : zG E mi d rv M1 n (a0 :: a1 :: a2 :: a3 :: a4 :: a5 :: a6 :: a7 :: a8 :: a9 :: some (.int x) :: tl) st M) : zG E mi d rv M1 pc (a0 :: a1 :: a2 :: a3 :: a4 :: a5 :: a6 :: a7 :: a8 :: a9 :: a10 :: tl) (.int x :: st) M := by
  subst hn; intro p e s m args below meth c H locs ls C hP hS hl
  exact lv_istore C.1 C.2.1 hd hl.has hi rfl (fun ls2 h2 => k p e s m args below meth c H locs ls2 C hP hS (zlo_store1 hp h2))
theorem zi_astore10 {a0 a1 a2 a3 a4 a5 a6 a7 a8 a9 a10 : Option Value} {tl : List (Option Value)} {x : Nat} (hd : decode mi.2.1 pc = .ok (.astore 10, 2)) (hn : pc + 2 = n) (hi : 10 < mi.2.2.1) (hp : zpv (a0 :: a1 :: a2 :: a3 :: a4 :: a5 :: a6 :: a7 :: a8 :: a9 :: a10 :: tl) 10 = true) (k : zG E mi d rv M1 n (a0 :: a1 :: a2 :: a3 :: a4 :: a5 :: a6 :: a7 :: a8 :: a9 :: some (.ref x) :: tl) st M) : zG E mi d rv M1 pc (a0 :: a1 :: a2 :: a3 :: a4 :: a5 :: a6 :: a7 :: a8 :: a9 :: a10 :: tl) (.ref x :: st) M := by
  subst hn; intro p e s m args below meth c H locs ls C hP hS hl
  exact lv_astore C.1 C.2.1 hd hl.has hi rfl (fun ls2 h2 => k p e s m args below meth c H locs ls2 C hP hS (zlo_store1 hp h2))
theorem zi_iinc10 {a0 a1 a2 a3 a4 a5 a6 a7 a8 a9 : Option Value} {tl : List (Option Value)} {x : Int32} {by_ : Int} (v : Int32) (hd : decode mi.2.1 pc = .ok (.iinc 10 by_, 3)) (hn : pc + 3 = n) (hi : 10 < mi.2.2.1) (hp : zpv (a0 :: a1 :: a2 :: a3 :: a4 :: a5 :: a6 :: a7 :: a8 :: a9 :: some (.int x) :: tl) 10 = true) (hv : x + Int32.ofInt by_ = v) (k : zG E mi d rv M1 n (a0 :: a1 :: a2 :: a3 :: a4 :: a5 :: a6 :: a7 :: a8 :: a9 :: some (.int v) :: tl) st M) : zG E mi d rv M1 pc (a0 :: a1 :: a2 :: a3 :: a4 :: a5 :: a6 :: a7 :: a8 :: a9 :: some (.int x) :: tl) st M := by
  subst hn; intro p e s m args below meth c H locs ls C hP hS hl
  obtain ⟨kk, hkk⟩ := List.getElem?_of_mem (zll_of (a0 :: a1 :: a2 :: a3 :: a4 :: a5 :: a6 :: a7 :: a8 :: a9 :: some (.int x) :: tl) 0 10 (.int x) rfl)
  exact lv_iinc C.1 C.2.1 hd hl.has (k := kk) (x := x) (by rw [hkk]) hv hi rfl (fun ls2 h2 => k p e s m args below meth c H locs ls2 C hP hS (zlo_store1 hp h2))
theorem zi_lstore10 {a0 a1 a2 a3 a4 a5 a6 a7 a8 a9 a10 a11 : Option Value} {tl : List (Option Value)} {x : Int64} (hd : decode mi.2.1 pc = .ok (.lstore 10, 2)) (hn : pc + 2 = n) (hi : 10 + 1 < mi.2.2.1) (hp : zpv (a0 :: a1 :: a2 :: a3 :: a4 :: a5 :: a6 :: a7 :: a8 :: a9 :: a10 :: a11 :: tl) 10 = true) (k : zG E mi d rv M1 n (a0 :: a1 :: a2 :: a3 :: a4 :: a5 :: a6 :: a7 :: a8 :: a9 :: some (.long x) :: none :: tl) st M) : zG E mi d rv M1 pc (a0 :: a1 :: a2 :: a3 :: a4 :: a5 :: a6 :: a7 :: a8 :: a9 :: a10 :: a11 :: tl) (.long x :: st) M := by
  subst hn; intro p e s m args below meth c H locs ls C hP hS hl
  exact lv_lstore C.1 C.2.1 hd hl.has hi rfl (fun ls2 h2 => k p e s m args below meth c H locs ls2 C hP hS (zlo_store2 hp h2))
theorem zi_iload11 {a0 a1 a2 a3 a4 a5 a6 a7 a8 a9 a10 : Option Value} {tl : List (Option Value)} {x : Int32} (hd : decode mi.2.1 pc = .ok (.iload 11, 2)) (hn : pc + 2 = n) (k : zG E mi d rv M1 n (a0 :: a1 :: a2 :: a3 :: a4 :: a5 :: a6 :: a7 :: a8 :: a9 :: a10 :: some (.int x) :: tl) (.int x :: st) M) : zG E mi d rv M1 pc (a0 :: a1 :: a2 :: a3 :: a4 :: a5 :: a6 :: a7 :: a8 :: a9 :: a10 :: some (.int x) :: tl) st M := by
  subst hn; intro p e s m args below meth c H locs ls C hP hS hl
  exact lv_iload C.1 C.2.1 hd (hl.2.2 11 _ rfl) (k p e s m args below meth c H locs ls C hP hS hl)
theorem zi_lload11 {a0 a1 a2 a3 a4 a5 a6 a7 a8 a9 a10 : Option Value} {tl : List (Option Value)} {x : Int64} (hd : decode mi.2.1 pc = .ok (.lload 11, 2)) (hn : pc + 2 = n) (k : zG E mi d rv M1 n (a0 :: a1 :: a2 :: a3 :: a4 :: a5 :: a6 :: a7 :: a8 :: a9 :: a10 :: some (.long x) :: tl) (.long x :: st) M) : zG E mi d rv M1 pc (a0 :: a1 :: a2 :: a3 :: a4 :: a5 :: a6 :: a7 :: a8 :: a9 :: a10 :: some (.long x) :: tl) st M := by
  subst hn; intro p e s m args below meth c H locs ls C hP hS hl
  exact lv_lload C.1 C.2.1 hd (hl.2.2 11 _ rfl) (k p e s m args below meth c H locs ls C hP hS hl)
theorem zi_aload11 {a0 a1 a2 a3 a4 a5 a6 a7 a8 a9 a10 : Option Value} {tl : List (Option Value)} {x : Nat} (hd : decode mi.2.1 pc = .ok (.aload 11, 2)) (hn : pc + 2 = n) (k : zG E mi d rv M1 n (a0 :: a1 :: a2 :: a3 :: a4 :: a5 :: a6 :: a7 :: a8 :: a9 :: a10 :: some (.ref x) :: tl) (.ref x :: st) M) : zG E mi d rv M1 pc (a0 :: a1 :: a2 :: a3 :: a4 :: a5 :: a6 :: a7 :: a8 :: a9 :: a10 :: some (.ref x) :: tl) st M := by
  subst hn; intro p e s m args below meth c H locs ls C hP hS hl
  exact lv_aload C.1 C.2.1 hd (hl.2.2 11 _ rfl) (k p e s m args below meth c H locs ls C hP hS hl)
theorem zi_istore11 {a0 a1 a2 a3 a4 a5 a6 a7 a8 a9 a10 a11 : Option Value} {tl : List (Option Value)} {x : Int32} (hd : decode mi.2.1 pc = .ok (.istore 11, 2)) (hn : pc + 2 = n) (hi : 11 < mi.2.2.1) (hp : zpv (a0 :: a1 :: a2 :: a3 :: a4 :: a5 :: a6 :: a7 :: a8 :: a9 :: a10 :: a11 :: tl) 11 = true) (k : zG E mi d rv M1 n (a0 :: a1 :: a2 :: a3 :: a4 :: a5 :: a6 :: a7 :: a8 :: a9 :: a10 :: some (.int x) :: tl) st M) : zG E mi d rv M1 pc (a0 :: a1 :: a2 :: a3 :: a4 :: a5 :: a6 :: a7 :: a8 :: a9 :: a10 :: a11 :: tl) (.int x :: st) M := by
  subst hn; intro p e s m args below meth c H locs ls C hP hS hl
  exact lv_istore C.1 C.2.1 hd hl.has hi rfl (fun ls2 h2 => k p e s m args below meth c H locs ls2 C hP hS (zlo_store1 hp h2))
theorem zi_astore11 {a0 a1 a2 a3 a4 a5 a6 a7 a8 a9 a10 a11 : Option Value} {tl : List (Option Value)} {x : Nat} (hd : decode mi.2.1 pc = .ok (.astore 11, 2)) (hn : pc + 2 = n) (hi : 11 < mi.2.2.1) (hp : zpv (a0 :: a1 :: a2 :: a3 :: a4 :: a5 :: a6 :: a7 :: a8 :: a9 :: a10 :: a11 :: tl) 11 = true) (k : zG E mi d rv M1 n (a0 :: a1 :: a2 :: a3 :: a4 :: a5 :: a6 :: a7 :: a8 :: a9 :: a10 :: some (.ref x) :: tl) st M) : zG E mi d rv M1 pc (a0 :: a1 :: a2 :: a3 :: a4 :: a5 :: a6 :: a7 :: a8 :: a9 :: a10 :: a11 :: tl) (.ref x :: st) M := by
  subst hn; intro p e s m args below meth c H locs ls C hP hS hl
  exact lv_astore C.1 C.2.1 hd hl.has hi rfl (fun ls2 h2 => k p e s m args below meth c H locs ls2 C hP hS (zlo_store1 hp h2))
theorem zi_iinc11 {a0 a1 a2 a3 a4 a5 a6 a7 a8 a9 a10 : Option Value} {tl : List (Option Value)} {x : Int32} {by_ : Int} (v : Int32) (hd : decode mi.2.1 pc = .ok (.iinc 11 by_, 3)) (hn : pc + 3 = n) (hi : 11 < mi.2.2.1) (hp : zpv (a0 :: a1 :: a2 :: a3 :: a4 :: a5 :: a6 :: a7 :: a8 :: a9 :: a10 :: some (.int x) :: tl) 11 = true) (hv : x + Int32.ofInt by_ = v) (k : zG E mi d rv M1 n (a0 :: a1 :: a2 :: a3 :: a4 :: a5 :: a6 :: a7 :: a8 :: a9 :: a10 :: some (.int v) :: tl) st M) : zG E mi d rv M1 pc (a0 :: a1 :: a2 :: a3 :: a4 :: a5 :: a6 :: a7 :: a8 :: a9 :: a10 :: some (.int x) :: tl) st M := by
  subst hn; intro p e s m args below meth c H locs ls C hP hS hl
  obtain ⟨kk, hkk⟩ := List.getElem?_of_mem (zll_of (a0 :: a1 :: a2 :: a3 :: a4 :: a5 :: a6 :: a7 :: a8 :: a9 :: a10 :: some (.int x) :: tl) 0 11 (.int x) rfl)
  exact lv_iinc C.1 C.2.1 hd hl.has (k := kk) (x := x) (by rw [hkk]) hv hi rfl (fun ls2 h2 => k p e s m args below meth c H locs ls2 C hP hS (zlo_store1 hp h2))
theorem zi_lstore11 {a0 a1 a2 a3 a4 a5 a6 a7 a8 a9 a10 a11 a12 : Option Value} {tl : List (Option Value)} {x : Int64} (hd : decode mi.2.1 pc = .ok (.lstore 11, 2)) (hn : pc + 2 = n) (hi : 11 + 1 < mi.2.2.1) (hp : zpv (a0 :: a1 :: a2 :: a3 :: a4 :: a5 :: a6 :: a7 :: a8 :: a9 :: a10 :: a11 :: a12 :: tl) 11 = true) (k : zG E mi d rv M1 n (a0 :: a1 :: a2 :: a3 :: a4 :: a5 :: a6 :: a7 :: a8 :: a9 :: a10 :: some (.long x) :: none :: tl) st M) : zG E mi d rv M1 pc (a0 :: a1 :: a2 :: a3 :: a4 :: a5 :: a6 :: a7 :: a8 :: a9 :: a10 :: a11 :: a12 :: tl) (.long x :: st) M := by
  subst hn; intro p e s m args below meth c H locs ls C hP hS hl
  exact lv_lstore C.1 C.2.1 hd hl.has hi rfl (fun ls2 h2 => k p e s m args below meth c H locs ls2 C hP hS (zlo_store2 hp h2))
theorem zi_iload12 {a0 a1 a2 a3 a4 a5 a6 a7 a8 a9 a10 a11 : Option Value} {tl : List (Option Value)} {x : Int32} (hd : decode mi.2.1 pc = .ok (.iload 12, 2)) (hn : pc + 2 = n) (k : zG E mi d rv M1 n (a0 :: a1 :: a2 :: a3 :: a4 :: a5 :: a6 :: a7 :: a8 :: a9 :: a10 :: a11 :: some (.int x) :: tl) (.int x :: st) M) : zG E mi d rv M1 pc (a0 :: a1 :: a2 :: a3 :: a4 :: a5 :: a6 :: a7 :: a8 :: a9 :: a10 :: a11 :: some (.int x) :: tl) st M := by
  subst hn; intro p e s m args below meth c H locs ls C hP hS hl
  exact lv_iload C.1 C.2.1 hd (hl.2.2 12 _ rfl) (k p e s m args below meth c H locs ls C hP hS hl)
theorem zi_lload12 {a0 a1 a2 a3 a4 a5 a6 a7 a8 a9 a10 a11 : Option Value} {tl : List (Option Value)} {x : Int64} (hd : decode mi.2.1 pc = .ok (.lload 12, 2)) (hn : pc + 2 = n) (k : zG E mi d rv M1 n (a0 :: a1 :: a2 :: a3 :: a4 :: a5 :: a6 :: a7 :: a8 :: a9 :: a10 :: a11 :: some (.long x) :: tl) (.long x :: st) M) : zG E mi d rv M1 pc (a0 :: a1 :: a2 :: a3 :: a4 :: a5 :: a6 :: a7 :: a8 :: a9 :: a10 :: a11 :: some (.long x) :: tl) st M := by
  subst hn; intro p e s m args below meth c H locs ls C hP hS hl
  exact lv_lload C.1 C.2.1 hd (hl.2.2 12 _ rfl) (k p e s m args below meth c H locs ls C hP hS hl)
theorem zi_aload12 {a0 a1 a2 a3 a4 a5 a6 a7 a8 a9 a10 a11 : Option Value} {tl : List (Option Value)} {x : Nat} (hd : decode mi.2.1 pc = .ok (.aload 12, 2)) (hn : pc + 2 = n) (k : zG E mi d rv M1 n (a0 :: a1 :: a2 :: a3 :: a4 :: a5 :: a6 :: a7 :: a8 :: a9 :: a10 :: a11 :: some (.ref x) :: tl) (.ref x :: st) M) : zG E mi d rv M1 pc (a0 :: a1 :: a2 :: a3 :: a4 :: a5 :: a6 :: a7 :: a8 :: a9 :: a10 :: a11 :: some (.ref x) :: tl) st M := by
  subst hn; intro p e s m args below meth c H locs ls C hP hS hl
  exact lv_aload C.1 C.2.1 hd (hl.2.2 12 _ rfl) (k p e s m args below meth c H locs ls C hP hS hl)
theorem zi_istore12 {a0 a1 a2 a3 a4 a5 a6 a7 a8 a9 a10 a11 a12 : Option Value} {tl : List (Option Value)} {x : Int32} (hd : decode mi.2.1 pc = .ok (.istore 12, 2)) (hn : pc + 2 = n) (hi : 12 < mi.2.2.1) (hp : zpv (a0 :: a1 :: a2 :: a3 :: a4 :: a5 :: a6 :: a7 :: a8 :: a9 :: a10 :: a11 :: a12 :: tl) 12 = true) (k : zG E mi d rv M1 n (a0 :: a1 :: a2 :: a3 :: a4 :: a5 :: a6 :: a7 :: a8 :: a9 :: a10 :: a11 :: some (.int x) :: tl) st M) : zG E mi d rv M1 pc (a0 :: a1 :: a2 :: a3 :: a4 :: a5 :: a6 :: a7 :: a8 :: a9 :: a10 :: a11 :: a12 :: tl) (.int x :: st) M := by
  subst hn; intro p e s m args below meth c H locs ls C hP hS hl
  exact lv_istore C.1 C.2.1 hd hl.has hi rfl (fun ls2 h2 => k p e s m args below meth c H locs ls2 C hP hS (zlo_store1 hp h2))
theorem zi_astore12 {a0 a1 a2 a3 a4 a5 a6 a7 a8 a9 a10 a11 a12 : Option Value} {tl : List (Option Value)} {x : Nat} (hd : decode mi.2.1 pc = .ok (.astore 12, 2)) (hn : pc + 2 = n) (hi : 12 < mi.2.2.1) (hp : zpv (a0 :: a1 :: a2 :: a3 :: a4 :: a5 :: a6 :: a7 :: a8 :: a9 :: a10 :: a11 :: a12 :: tl) 12 = true) (k : zG E mi d rv M1 n (a0 :: a1 :: a2 :: a3 :: a4 :: a5 :: a6 :: a7 :: a8 :: a9 :: a10 :: a11 :: some (.ref x) :: tl) st M) : zG E mi d rv M1 pc (a0 :: a1 :: a2 :: a3 :: a4 :: a5 :: a6 :: a7 :: a8 :: a9 :: a10 :: a11 :: a12 :: tl) (.ref x :: st) M := by
  subst hn; intro p e s m args below meth c H locs ls C hP hS hl
  exact lv_astore C.1 C.2.1 hd hl.has hi rfl (fun ls2 h2 => k p e s m args below meth c H locs ls2 C hP hS (zlo_store1 hp h2))
theorem zi_iinc12 {a0 a1 a2 a3 a4 a5 a6 a7 a8 a9 a10 a11 : Option Value} {tl : List (Option Value)} {x : Int32} {by_ : Int} (v : Int32) (hd : decode mi.2.1 pc = .ok (.iinc 12 by_, 3)) (hn : pc + 3 = n) (hi : 12 < mi.2.2.1) (hp : zpv (a0 :: a1 :: a2 :: a3 :: a4 :: a5 :: a6 :: a7 :: a8 :: a9 :: a10 :: a11 :: some (.int x) :: tl) 12 = true) (hv : x + Int32.ofInt by_ = v) (k : zG E mi d rv M1 n (a0 :: a1 :: a2 :: a3 :: a4 :: a5 :: a6 :: a7 :: a8 :: a9 :: a10 :: a11 :: some (.int v) :: tl) st M) : zG E mi d rv M1 pc (a0 :: a1 :: a2 :: a3 :: a4 :: a5 :: a6 :: a7 :: a8 :: a9 :: a10 :: a11 :: some (.int x) :: tl) st M := by
  subst hn; intro p e s m args below meth c H locs ls C hP hS hl
  obtain ⟨kk, hkk⟩ := List.getElem?_of_mem (zll_of (a0 :: a1 :: a2 :: a3 :: a4 :: a5 :: a6 :: a7 :: a8 :: a9 :: a10 :: a11 :: some (.int x) :: tl) 0 12 (.int x) rfl)
  exact lv_iinc C.1 C.2.1 hd hl.has (k := kk) (x := x) (by rw [hkk]) hv hi rfl (fun ls2 h2 => k p e s m args below meth c H locs ls2 C hP hS (zlo_store1 hp h2))
theorem zi_lstore12 {a0 a1 a2 a3 a4 a5 a6 a7 a8 a9 a10 a11 a12 a13 : Option Value} {tl : List (Option Value)} {x : Int64} (hd : decode mi.2.1 pc = .ok (.lstore 12, 2)) (hn : pc + 2 = n) (hi : 12 + 1 < mi.2.2.1) (hp : zpv (a0 :: a1 :: a2 :: a3 :: a4 :: a5 :: a6 :: a7 :: a8 :: a9 :: a10 :: a11 :: a12 :: a13 :: tl) 12 = true) (k : zG E mi d rv M1 n (a0 :: a1 :: a2 :: a3 :: a4 :: a5 :: a6 :: a7 :: a8 :: a9 :: a10 :: a11 :: some (.long x) :: none :: tl) st M) : zG E mi d rv M1 pc (a0 :: a1 :: a2 :: a3 :: a4 :: a5 :: a6 :: a7 :: a8 :: a9 :: a10 :: a11 :: a12 :: a13 :: tl) (.long x :: st) M := by
  subst hn; intro p e s m args below meth c H locs ls C hP hS hl
  exact lv_lstore C.1 C.2.1 hd hl.has hi rfl (fun ls2 h2 => k p e s m args below meth c H locs ls2 C hP hS (zlo_store2 hp h2))
theorem zi_iload13 {a0 a1 a2 a3 a4 a5 a6 a7 a8 a9 a10 a11 a12 : Option Value} {tl : List (Option Value)} {x : Int32} (hd : decode mi.2.1 pc = .ok (.iload 13, 2)) (hn : pc + 2 = n) (k : zG E mi d rv M1 n (a0 :: a1 :: a2 :: a3 :: a4 :: a5 :: a6 :: a7 :: a8 :: a9 :: a10 :: a11 :: a12 :: some (.int x) :: tl) (.int x :: st) M) : zG E mi d rv M1 pc (a0 :: a1 :: a2 :: a3 :: a4 :: a5 :: a6 :: a7 :: a8 :: a9 :: a10 :: a11 :: a12 :: some (.int x) :: tl) st M := by
  subst hn; intro p e s m args below meth c H locs ls C hP hS hl
  exact lv_iload C.1 C.2.1 hd (hl.2.2 13 _ rfl) (k p e s m args below meth c H locs ls C hP hS hl)
theorem zi_lload13 {a0 a1 a2 a3 a4 a5 a6 a7 a8 a9 a10 a11 a12 : Option Value} {tl : List (Option Value)} {x : Int64} (hd : decode mi.2.1 pc = .ok (.lload 13, 2)) (hn : pc + 2 = n) (k : zG E mi d rv M1 n (a0 :: a1 :: a2 :: a3 :: a4 :: a5 :: a6 :: a7 :: a8 :: a9 :: a10 :: a11 :: a12 :: some (.long x) :: tl) (.long x :: st) M) : zG E mi d rv M1 pc (a0 :: a1 :: a2 :: a3 :: a4 :: a5 :: a6 :: a7 :: a8 :: a9 :: a10 :: a11 :: a12 :: some (.long x) :: tl) st M := by
  subst hn; intro p e s m args below meth c H locs ls C hP hS hl
  exact lv_lload C.1 C.2.1 hd (hl.2.2 13 _ rfl) (k p e s m args below meth c H locs ls C hP hS hl)
theorem zi_aload13 {a0 a1 a2 a3 a4 a5 a6 a7 a8 a9 a10 a11 a12 : Option Value} {tl : List (Option Value)} {x : Nat} (hd : decode mi.2.1 pc = .ok (.aload 13, 2)) (hn : pc + 2 = n) (k : zG E mi d rv M1 n (a0 :: a1 :: a2 :: a3 :: a4 :: a5 :: a6 :: a7 :: a8 :: a9 :: a10 :: a11 :: a12 :: some (.ref x) :: tl) (.ref x :: st) M) : zG E mi d rv M1 pc (a0 :: a1 :: a2 :: a3 :: a4 :: a5 :: a6 :: a7 :: a8 :: a9 :: a10 :: a11 :: a12 :: some (.ref x) :: tl) st M := by
  subst hn; intro p e s m args below meth c H locs ls C hP hS hl
  exact lv_aload C.1 C.2.1 hd (hl.2.2 13 _ rfl) (k p e s m args below meth c H locs ls C hP hS hl)
theorem zi_istore13 {a0 a1 a2 a3 a4 a5 a6 a7 a8 a9 a10 a11 a12 a13 : Option Value} {tl : List (Option Value)} {x : Int32} (hd : decode mi.2.1 pc = .ok (.istore 13, 2)) (hn : pc + 2 = n) (hi : 13 < mi.2.2.1) (hp : zpv (a0 :: a1 :: a2 :: a3 :: a4 :: a5 :: a6 :: a7 :: a8 :: a9 :: a10 :: a11 :: a12 :: a13 :: tl) 13 = true) (k : zG E mi d rv M1 n (a0 :: a1 :: a2 :: a3 :: a4 :: a5 :: a6 :: a7 :: a8 :: a9 :: a10 :: a11 :: a12 :: some (.int x) :: tl) st M) : zG E mi d rv M1 pc (a0 :: a1 :: a2 :: a3 :: a4 :: a5 :: a6 :: a7 :: a8 :: a9 :: a10 :: a11 :: a12 :: a13 :: tl) (.int x :: st) M := by
  subst hn; intro p e s m args below meth c H locs ls C hP hS hl
  exact lv_istore C.1 C.2.1 hd hl.has hi rfl (fun ls2 h2 => k p e s m args below meth c H locs ls2 C hP hS (zlo_store1 hp h2))
theorem zi_astore13 {a0 a1 a2 a3 a4 a5 a6 a7 a8 a9 a10 a11 a12 a13 : Option Value} {tl : List (Option Value)} {x : Nat} (hd : decode mi.2.1 pc = .ok (.astore 13, 2)) (hn : pc + 2 = n) (hi : 13 < mi.2.2.1) (hp : zpv (a0 :: a1 :: a2 :: a3 :: a4 :: a5 :: a6 :: a7 :: a8 :: a9 :: a10 :: a11 :: a12 :: a13 :: tl) 13 = true) (k : zG E mi d rv M1 n (a0 :: a1 :: a2 :: a3 :: a4 :: a5 :: a6 :: a7 :: a8 :: a9 :: a10 :: a11 :: a12 :: some (.ref x) :: tl) st M) : zG E mi d rv M1 pc (a0 :: a1 :: a2 :: a3 :: a4 :: a5 :: a6 :: a7 :: a8 :: a9 :: a10 :: a11 :: a12 :: a13 :: tl) (.ref x :: st) M := by
  subst hn; intro p e s m args below meth c H locs ls C hP hS hl
  exact lv_astore C.1 C.2.1 hd hl.has hi rfl (fun ls2 h2 => k p e s m args below meth c H locs ls2 C hP hS (zlo_store1 hp h2))
theorem zi_iinc13 {a0 a1 a2 a3 a4 a5 a6 a7 a8 a9 a10 a11 a12 : Option Value} {tl : List (Option Value)} {x : Int32} {by_ : Int} (v : Int32) (hd : decode mi.2.1 pc = .ok (.iinc 13 by_, 3)) (hn : pc + 3 = n) (hi : 13 < mi.2.2.1) (hp : zpv (a0 :: a1 :: a2 :: a3 :: a4 :: a5 :: a6 :: a7 :: a8 :: a9 :: a10 :: a11 :: a12 :: some (.int x) :: tl) 13 = true) (hv : x + Int32.ofInt by_ = v) (k : zG E mi d rv M1 n (a0 :: a1 :: a2 :: a3 :: a4 :: a5 :: a6 :: a7 :: a8 :: a9 :: a10 :: a11 :: a12 :: some (.int v) :: tl) st M) : zG E mi d rv M1 pc (a0 :: a1 :: a2 :: a3 :: a4 :: a5 :: a6 :: a7 :: a8 :: a9 :: a10 :: a11 :: a12 :: some (.int x) :: tl) st M := by
  subst hn; intro p e s m args below meth c H locs ls C hP hS hl
  obtain ⟨kk, hkk⟩ := List.getElem?_of_mem (zll_of (a0 :: a1 :: a2 :: a3 :: a4 :: a5 :: a6 :: a7 :: a8 :: a9 :: a10 :: a11 :: a12 :: some (.int x) :: tl) 0 13 (.int x) rfl)
  exact lv_iinc C.1 C.2.1 hd hl.has (k := kk) (x := x) (by rw [hkk]) hv hi rfl (fun ls2 h2 => k p e s m args below meth c H locs ls2 C hP hS (zlo_store1 hp h2))
theorem zi_lstore13 {a0 a1 a2 a3 a4 a5 a6 a7 a8 a9 a10 a11 a12 a13 a14 : Option Value} {tl : List (Option Value)} {x : Int64} (hd : decode mi.2.1 pc = .ok (.lstore 13, 2)) (hn : pc + 2 = n) (hi : 13 + 1 < mi.2.2.1) (hp : zpv (a0 :: a1 :: a2 :: a3 :: a4 :: a5 :: a6 :: a7 :: a8 :: a9 :: a10 :: a11 :: a12 :: a13 :: a14 :: tl) 13 = true) (k : zG E mi d rv M1 n (a0 :: a1 :: a2 :: a3 :: a4 :: a5 :: a6 :: a7 :: a8 :: a9 :: a10 :: a11 :: a12 :: some (.long x) :: none :: tl) st M) : zG E mi d rv M1 pc (a0 :: a1 :: a2 :: a3 :: a4 :: a5 :: a6 :: a7 :: a8 :: a9 :: a10 :: a11 :: a12 :: a13 :: a14 :: tl) (.long x :: st) M := by
  subst hn; intro p e s m args below meth c H locs ls C hP hS hl
  exact lv_lstore C.1 C.2.1 hd hl.has hi rfl (fun ls2 h2 => k p e s m args below meth c H locs ls2 C hP hS (zlo_store2 hp h2))
theorem zi_iload14 {a0 a1 a2 a3 a4 a5 a6 a7 a8 a9 a10 a11 a12 a13 : Option Value} {tl : List (Option Value)} {x : Int32} (hd : decode mi.2.1 pc = .ok (.iload 14, 2)) (hn : pc + 2 = n) (k : zG E mi d rv M1 n (a0 :: a1 :: a2 :: a3 :: a4 :: a5 :: a6 :: a7 :: a8 :: a9 :: a10 :: a11 :: a12 :: a13 :: some (.int x) :: tl) (.int x :: st) M) : zG E mi d rv M1 pc (a0 :: a1 :: a2 :: a3 :: a4 :: a5 :: a6 :: a7 :: a8 :: a9 :: a10 :: a11 :: a12 :: a13 :: some (.int x) :: tl) st M := by
  subst hn; intro p e s m args below meth c H locs ls C hP hS hl
  exact lv_iload C.1 C.2.1 hd (hl.2.2 14 _ rfl) (k p e s m args below meth c H locs ls C hP hS hl)
theorem zi_lload14 {a0 a1 a2 a3 a4 a5 a6 a7 a8 a9 a10 a11 a12 a13 : Option Value} {tl : List (Option Value)} {x : Int64} (hd : decode mi.2.1 pc = .ok (.lload 14, 2)) (hn : pc + 2 = n) (k : zG E mi d rv M1 n (a0 :: a1 :: a2 :: a3 :: a4 :: a5 :: a6 :: a7 :: a8 :: a9 :: a10 :: a11 :: a12 :: a13 :: some (.long x) :: tl) (.long x :: st) M) : zG E mi d rv M1 pc (a0 :: a1 :: a2 :: a3 :: a4 :: a5 :: a6 :: a7 :: a8 :: a9 :: a10 :: a11 :: a12 :: a13 :: some (.long x) :: tl) st M := by
  subst hn; intro p e s m args below meth c H locs ls C hP hS hl
  exact lv_lload C.1 C.2.1 hd (hl.2.2 14 _ rfl) (k p e s m args below meth c H locs ls C hP hS hl)
theorem zi_aload14 {a0 a1 a2 a3 a4 a5 a6 a7 a8 a9 a10 a11 a12 a13 : Option Value} {tl : List (Option Value)} {x : Nat} (hd : decode mi.2.1 pc = .ok (.aload 14, 2)) (hn : pc + 2 = n) (k : zG E mi d rv M1 n (a0 :: a1 :: a2 :: a3 :: a4 :: a5 :: a6 :: a7 :: a8 :: a9 :: a10 :: a11 :: a12 :: a13 :: some (.ref x) :: tl) (.ref x :: st) M) : zG E mi d rv M1 pc (a0 :: a1 :: a2 :: a3 :: a4 :: a5 :: a6 :: a7 :: a8 :: a9 :: a10 :: a11 :: a12 :: a13 :: some (.ref x) :: tl) st M := by
  subst hn; intro p e s m args below meth c H locs ls C hP hS hl
  exact lv_aload C.1 C.2.1 hd (hl.2.2 14 _ rfl) (k p e s m args below meth c H locs ls C hP hS hl)
theorem zi_istore14 {a0 a1 a2 a3 a4 a5 a6 a7 a8 a9 a10 a11 a12 a13 a14 : Option Value} {tl : List (Option Value)} {x : Int32} (hd : decode mi.2.1 pc = .ok (.istore 14, 2)) (hn : pc + 2 = n) (hi : 14 < mi.2.2.1) (hp : zpv (a0 :: a1 :: a2 :: a3 :: a4 :: a5 :: a6 :: a7 :: a8 :: a9 :: a10 :: a11 :: a12 :: a13 :: a14 :: tl) 14 = true) (k : zG E mi d rv M1 n (a0 :: a1 :: a2 :: a3 :: a4 :: a5 :: a6 :: a7 :: a8 :: a9 :: a10 :: a11 :: a12 :: a13 :: some (.int x) :: tl) st M) : zG E mi d rv M1 pc (a0 :: a1 :: a2 :: a3 :: a4 :: a5 :: a6 :: a7 :: a8 :: a9 :: a10 :: a11 :: a12 :: a13 :: a14 :: tl) (.int x :: st) M := by
  subst hn; intro p e s m args below meth c H locs ls C hP hS hl
  exact lv_istore C.1 C.2.1 hd hl.has hi rfl (fun ls2 h2 => k p e s m args below meth c H locs ls2 C hP hS (zlo_store1 hp h2))
theorem zi_astore14 {a0 a1 a2 a3 a4 a5 a6 a7 a8 a9 a10 a11 a12 a13 a14 : Option Value} {tl : List (Option Value)} {x : Nat} (hd : decode mi.2.1 pc = .ok (.astore 14, 2)) (hn : pc + 2 = n) (hi : 14 < mi.2.2.1) (hp : zpv (a0 :: a1 :: a2 :: a3 :: a4 :: a5 :: a6 :: a7 :: a8 :: a9 :: a10 :: a11 :: a12 :: a13 :: a14 :: tl) 14 = true) (k : zG E mi d rv M1 n (a0 :: a1 :: a2 :: a3 :: a4 :: a5 :: a6 :: a7 :: a8 :: a9 :: a10 :: a11 :: a12 :: a13 :: some (.ref x) :: tl) st M) : zG E mi d rv M1 pc (a0 :: a1 :: a2 :: a3 :: a4 :: a5 :: a6 :: a7 :: a8 :: a9 :: a10 :: a11 :: a12 :: a13 :: a14 :: tl) (.ref x :: st) M := by
  subst hn; intro p e s m args below meth c H locs ls C hP hS hl
  exact lv_astore C.1 C.2.1 hd hl.has hi rfl (fun ls2 h2 => k p e s m args below meth c H locs ls2 C hP hS (zlo_store1 hp h2))
theorem zi_iinc14 {a0 a1 a2 a3 a4 a5 a6 a7 a8 a9 a10 a11 a12 a13 : Option Value} {tl : List (Option Value)} {x : Int32} {by_ : Int} (v : Int32) (hd : decode mi.2.1 pc = .ok (.iinc 14 by_, 3)) (hn : pc + 3 = n) (hi : 14 < mi.2.2.1) (hp : zpv (a0 :: a1 :: a2 :: a3 :: a4 :: a5 :: a6 :: a7 :: a8 :: a9 :: a10 :: a11 :: a12 :: a13 :: some (.int x) :: tl) 14 = true) (hv : x + Int32.ofInt by_ = v) (k : zG E mi d rv M1 n (a0 :: a1 :: a2 :: a3 :: a4 :: a5 :: a6 :: a7 :: a8 :: a9 :: a10 :: a11 :: a12 :: a13 :: some (.int v) :: tl) st M) : zG E mi d rv M1 pc (a0 :: a1 :: a2 :: a3 :: a4 :: a5 :: a6 :: a7 :: a8 :: a9 :: a10 :: a11 :: a12 :: a13 :: some (.int x) :: tl) st M := by
  subst hn; intro p e s m args below meth c H locs ls C hP hS hl
  obtain ⟨kk, hkk⟩ := List.getElem?_of_mem (zll_of (a0 :: a1 :: a2 :: a3 :: a4 :: a5 :: a6 :: a7 :: a8 :: a9 :: a10 :: a11 :: a12 :: a13 :: some (.int x) :: tl) 0 14 (.int x) rfl)
  exact lv_iinc C.1 C.2.1 hd hl.has (k := kk) (x := x) (by rw [hkk]) hv hi rfl (fun ls2 h2 => k p e s m args below meth c H locs ls2 C hP hS (zlo_store1 hp h2))
theorem zi_lstore14 {a0 a1 a2 a3 a4 a5 a6 a7 a8 a9 a10 a11 a12 a13 a14 a15 : Option Value} {tl : List (Option Value)} {x : Int64} (hd : decode mi.2.1 pc = .ok (.lstore 14, 2)) (hn : pc + 2 = n) (hi : 14 + 1 < mi.2.2.1) (hp : zpv (a0 :: a1 :: a2 :: a3 :: a4 :: a5 :: a6 :: a7 :: a8 :: a9 :: a10 :: a11 :: a12 :: a13 :: a14 :: a15 :: tl) 14 = true) (k : zG E mi d rv M1 n (a0 :: a1 :: a2 :: a3 :: a4 :: a5 :: a6 :: a7 :: a8 :: a9 :: a10 :: a11 :: a12 :: a13 :: some (.long x) :: none :: tl) st M) : zG E mi d rv M1 pc (a0 :: a1 :: a2 :: a3 :: a4 :: a5 :: a6 :: a7 :: a8 :: a9 :: a10 :: a11 :: a12 :: a13 :: a14 :: a15 :: tl) (.long x :: st) M := by
  subst hn; intro p e s m args below meth c H locs ls C hP hS hl
  exact lv_lstore C.1 C.2.1 hd hl.has hi rfl (fun ls2 h2 => k p e s m args below meth c H locs ls2 C hP hS (zlo_store2 hp h2))
theorem zi_iload15 {a0 a1 a2 a3 a4 a5 a6 a7 a8 a9 a10 a11 a12 a13 a14 : Option Value} {tl : List (Option Value)} {x : Int32} (hd : decode mi.2.1 pc = .ok (.iload 15, 2)) (hn : pc + 2 = n) (k : zG E mi d rv M1 n (a0 :: a1 :: a2 :: a3 :: a4 :: a5 :: a6 :: a7 :: a8 :: a9 :: a10 :: a11 :: a12 :: a13 :: a14 :: some (.int x) :: tl) (.int x :: st) M) : zG E mi d rv M1 pc (a0 :: a1 :: a2 :: a3 :: a4 :: a5 :: a6 :: a7 :: a8 :: a9 :: a10 :: a11 :: a12 :: a13 :: a14 :: some (.int x) :: tl) st M := by
  subst hn; intro p e s m args below meth c H locs ls C hP hS hl
  exact lv_iload C.1 C.2.1 hd (hl.2.2 15 _ rfl) (k p e s m args below meth c H locs ls C hP hS hl)
theorem zi_lload15 {a0 a1 a2 a3 a4 a5 a6 a7 a8 a9 a10 a11 a12 a13 a14 : Option Value} {tl : List (Option Value)} {x : Int64} (hd : decode mi.2.1 pc = .ok (.lload 15, 2)) (hn : pc + 2 = n) (k : zG E mi d rv M1 n (a0 :: a1 :: a2 :: a3 :: a4 :: a5 :: a6 :: a7 :: a8 :: a9 :: a10 :: a11 :: a12 :: a13 :: a14 :: some (.long x) :: tl) (.long x :: st) M) : zG E mi d rv M1 pc (a0 :: a1 :: a2 :: a3 :: a4 :: a5 :: a6 :: a7 :: a8 :: a9 :: a10 :: a11 :: a12 :: a13 :: a14 :: some (.long x) :: tl) st M := by
  subst hn; intro p e s m args below meth c H locs ls C hP hS hl
  exact lv_lload C.1 C.2.1 hd (hl.2.2 15 _ rfl) (k p e s m args below meth c H locs ls C hP hS hl)
theorem zi_aload15 {a0 a1 a2 a3 a4 a5 a6 a7 a8 a9 a10 a11 a12 a13 a14 : Option Value} {tl : List (Option Value)} {x : Nat} (hd : decode mi.2.1 pc = .ok (.aload 15, 2)) (hn : pc + 2 = n) (k : zG E mi d rv M1 n (a0 :: a1 :: a2 :: a3 :: a4 :: a5 :: a6 :: a7 :: a8 :: a9 :: a10 :: a11 :: a12 :: a13 :: a14 :: some (.ref x) :: tl) (.ref x :: st) M) : zG E mi d rv M1 pc (a0 :: a1 :: a2 :: a3 :: a4 :: a5 :: a6 :: a7 :: a8 :: a9 :: a10 :: a11 :: a12 :: a13 :: a14 :: some (.ref x) :: tl) st M := by
  subst hn; intro p e s m args below meth c H locs ls C hP hS hl
  exact lv_aload C.1 C.2.1 hd (hl.2.2 15 _ rfl) (k p e s m args below meth c H locs ls C hP hS hl)
theorem zi_istore15 {a0 a1 a2 a3 a4 a5 a6 a7 a8 a9 a10 a11 a12 a13 a14 a15 : Option Value} {tl : List (Option Value)} {x : Int32} (hd : decode mi.2.1 pc = .ok (.istore 15, 2)) (hn : pc + 2 = n) (hi : 15 < mi.2.2.1) (hp : zpv (a0 :: a1 :: a2 :: a3 :: a4 :: a5 :: a6 :: a7 :: a8 :: a9 :: a10 :: a11 :: a12 :: a13 :: a14 :: a15 :: tl) 15 = true) (k : zG E mi d rv M1 n (a0 :: a1 :: a2 :: a3 :: a4 :: a5 :: a6 :: a7 :: a8 :: a9 :: a10 :: a11 :: a12 :: a13 :: a14 :: some (.int x) :: tl) st M) : zG E mi d rv M1 pc (a0 :: a1 :: a2 :: a3 :: a4 :: a5 :: a6 :: a7 :: a8 :: a9 :: a10 :: a11 :: a12 :: a13 :: a14 :: a15 :: tl) (.int x :: st) M := by
  subst hn; intro p e s m args below meth c H locs ls C hP hS hl
  exact lv_istore C.1 C.2.1 hd hl.has hi rfl (fun ls2 h2 => k p e s m args below meth c H locs ls2 C hP hS (zlo_store1 hp h2))
theorem zi_astore15 {a0 a1 a2 a3 a4 a5 a6 a7 a8 a9 a10 a11 a12 a13 a14 a15 : Option Value} {tl : List (Option Value)} {x : Nat} (hd : decode mi.2.1 pc = .ok (.astore 15, 2)) (hn : pc + 2 = n) (hi : 15 < mi.2.2.1) (hp : zpv (a0 :: a1 :: a2 :: a3 :: a4 :: a5 :: a6 :: a7 :: a8 :: a9 :: a10 :: a11 :: a12 :: a13 :: a14 :: a15 :: tl) 15 = true) (k : zG E mi d rv M1 n (a0 :: a1 :: a2 :: a3 :: a4 :: a5 :: a6 :: a7 :: a8 :: a9 :: a10 :: a11 :: a12 :: a13 :: a14 :: some (.ref x) :: tl) st M) : zG E mi d rv M1 pc (a0 :: a1 :: a2 :: a3 :: a4 :: a5 :: a6 :: a7 :: a8 :: a9 :: a10 :: a11 :: a12 :: a13 :: a14 :: a15 :: tl) (.ref x :: st) M := by
  subst hn; intro p e s m args below meth c H locs ls C hP hS hl
  exact lv_astore C.1 C.2.1 hd hl.has hi rfl (fun ls2 h2 => k p e s m args below meth c H locs ls2 C hP hS (zlo_store1 hp h2))
theorem zi_iinc15 {a0 a1 a2 a3 a4 a5 a6 a7 a8 a9 a10 a11 a12 a13 a14 : Option Value} {tl : List (Option Value)} {x : Int32} {by_ : Int} (v : Int32) (hd : decode mi.2.1 pc = .ok (.iinc 15 by_, 3)) (hn : pc + 3 = n) (hi : 15 < mi.2.2.1) (hp : zpv (a0 :: a1 :: a2 :: a3 :: a4 :: a5 :: a6 :: a7 :: a8 :: a9 :: a10 :: a11 :: a12 :: a13 :: a14 :: some (.int x) :: tl) 15 = true) (hv : x + Int32.ofInt by_ = v) (k : zG E mi d rv M1 n (a0 :: a1 :: a2 :: a3 :: a4 :: a5 :: a6 :: a7 :: a8 :: a9 :: a10 :: a11 :: a12 :: a13 :: a14 :: some (.int v) :: tl) st M) : zG E mi d rv M1 pc (a0 :: a1 :: a2 :: a3 :: a4 :: a5 :: a6 :: a7 :: a8 :: a9 :: a10 :: a11 :: a12 :: a13 :: a14 :: some (.int x) :: tl) st M := by
  subst hn; intro p e s m args below meth c H locs ls C hP hS hl
  obtain ⟨kk, hkk⟩ := List.getElem?_of_mem (zll_of (a0 :: a1 :: a2 :: a3 :: a4 :: a5 :: a6 :: a7 :: a8 :: a9 :: a10 :: a11 :: a12 :: a13 :: a14 :: some (.int x) :: tl) 0 15 (.int x) rfl)
  exact lv_iinc C.1 C.2.1 hd hl.has (k := kk) (x := x) (by rw [hkk]) hv hi rfl (fun ls2 h2 => k p e s m args below meth c H locs ls2 C hP hS (zlo_store1 hp h2))
theorem zi_lstore15 {a0 a1 a2 a3 a4 a5 a6 a7 a8 a9 a10 a11 a12 a13 a14 a15 a16 : Option Value} {tl : List (Option Value)} {x : Int64} (hd : decode mi.2.1 pc = .ok (.lstore 15, 2)) (hn : pc + 2 = n) (hi : 15 + 1 < mi.2.2.1) (hp : zpv (a0 :: a1 :: a2 :: a3 :: a4 :: a5 :: a6 :: a7 :: a8 :: a9 :: a10 :: a11 :: a12 :: a13 :: a14 :: a15 :: a16 :: tl) 15 = true) (k : zG E mi d rv M1 n (a0 :: a1 :: a2 :: a3 :: a4 :: a5 :: a6 :: a7 :: a8 :: a9 :: a10 :: a11 :: a12 :: a13 :: a14 :: some (.long x) :: none :: tl) st M) : zG E mi d rv M1 pc (a0 :: a1 :: a2 :: a3 :: a4 :: a5 :: a6 :: a7 :: a8 :: a9 :: a10 :: a11 :: a12 :: a13 :: a14 :: a15 :: a16 :: tl) (.long x :: st) M := by
  subst hn; intro p e s m args below meth c H locs ls C hP hS hl
  exact lv_lstore C.1 C.2.1 hd hl.has hi rfl (fun ls2 h2 => k p e s m args below meth c H locs ls2 C hP hS (zlo_store2 hp h2))
theorem zi_drop {lo2 : List (Option Value)} (h : ∀ (i : Nat) (v : Value), lo2[i]? = some (some v) → lo[i]? = some (some v)) (k : zG E mi d rv M1 pc lo2 st M) : zG E mi d rv M1 pc lo st M := by
  intro p e s m args below meth c H locs ls C hP hS hl
  exact k p e s m args below meth c H locs ls C hP hS ⟨hl.1, hl.2.1, fun i v hv => hl.2.2 i v (h i v hv)⟩
theorem zi_iret {v : Int32} (hd : decode mi.2.1 pc = .ok (.ireturn, 1)) (hr : mi.2.2.2 = some .int) (hv : rv = some (.int v)) (hM : M1 = M) : zG E mi d rv M1 pc lo [.int v] M := by
  subst hv; subst hM
  intro p e s m args below meth c H locs ls C hP hS hl
  have hlocks := C.2.2.2.2.2.2.1
  exact W.iret C.1 C.2.1 (C.2.2.1.trans hr) (fun t ht hW => ⟨rfl, by rw [ht]; exact hP, hS.F ht⟩) hS.2.2 hd
theorem zi_zret {b : Prop} [Decidable b] (hd : decode mi.2.1 pc = .ok (.ireturn, 1)) (hr : mi.2.2.2 = some .boolean) {v : Int32} (hb : v = zb b) (hv : rv = some (.int (zb b))) (hM : M1 = M) : zG E mi d rv M1 pc lo [.int v] M := by
  subst hv; subst hM; subst hb
  intro p e s m args below meth c H locs ls C hP hS hl
  have hlocks := C.2.2.2.2.2.2.1
  refine W.zret C.1 C.2.1 (C.2.2.1.trans hr) ?_ (fun t ht hW => ⟨rfl, by rw [ht]; exact hP, hS.F ht⟩) hS.2.2 hd
  unfold zb
  split <;> decide
theorem zi_lret {v : Int64} (hd : decode mi.2.1 pc = .ok (.lreturn, 1)) (hr : mi.2.2.2 = some .long) (hv : rv = some (.long v)) (hM : M1 = M) : zG E mi d rv M1 pc lo [.long v] M := by
  subst hv; subst hM
  intro p e s m args below meth c H locs ls C hP hS hl
  have hlocks := C.2.2.2.2.2.2.1
  exact W.lret C.1 C.2.1 (C.2.2.1.trans hr) (fun t ht hW => ⟨rfl, by rw [ht]; exact hP, hS.F ht⟩) hS.2.2 hd
theorem zi_vret (hd : decode mi.2.1 pc = .ok (.return_, 1)) (hr : mi.2.2.2 = none) (hv : rv = none) (hM : M1 = M) : zG E mi d rv M1 pc lo [] M := by
  subst hv; subst hM
  intro p e s m args below meth c H locs ls C hP hS hl
  have hlocks := C.2.2.2.2.2.2.1
  exact W.vret C.1 C.2.1 (C.2.2.1.trans hr) (fun t ht hW => ⟨rfl, by rw [ht]; exact hP, hS.F ht⟩) hS.2.2 hd
theorem zi_aret {a : Nat} {cn : String} (hd : decode mi.2.1 pc = .ok (.areturn, 1)) (hr : mi.2.2.2 = some (.object cn)) (hv : rv = some (.ref a)) (hM : M1 = M) : zG E mi d rv M1 pc lo [.ref a] M := by
  subst hv; subst hM
  intro p e s m args below meth c H locs ls C hP hS hl
  have hlocks := C.2.2.2.2.2.2.1
  exact W.aret C.1 C.2.1 (C.2.2.1.trans hr) (Or.inl ⟨_, rfl⟩) (Or.inr ⟨_, rfl⟩) (fun t ht hW => ⟨rfl, by rw [ht]; exact hP, hS.F ht⟩) hS.2.2 hd
/-- a contract, from its walk -/
def zargs : List Value → List (Option Value)
  | [] => []
  | v :: vs => if v.category = 2 then some v :: none :: zargs vs else some v :: zargs vs
theorem zargs_at : ∀ (vs : List Value) (i : Nat) (v : Value), (zargs vs)[i]? = some (some v) → ∀ b, (b + i, v) ∈ lv_args b vs
  | [], i, v, h, b => by simp [zargs] at h
  | w :: vs, i, v, h, b => by
    unfold zargs at h
    by_cases hc : w.category = 2
    · rw [if_pos hc] at h
      match i, h with
      | 0, h =>
        have e : w = v := by simpa using h
        subst e
        exact List.mem_cons_self
      | 1, h => simp at h
      | i + 2, h =>
        have := zargs_at vs i v (by simpa using h) (b + 2)
        unfold lv_args
        rw [if_pos hc, show b + (i + 2) = b + 2 + i by omega]
        exact List.mem_cons_of_mem _ this
    · rw [if_neg hc] at h
      match i, h with
      | 0, h =>
        have e : w = v := by simpa using h
        subst e
        exact List.mem_cons_self
      | i + 1, h =>
        have := zargs_at vs i v (by simpa using h) (b + 1)
        unfold lv_args
        rw [if_neg hc, show b + (i + 1) = b + 1 + i by omega]
        exact List.mem_cons_of_mem _ this
theorem zCT.of {av : List Value} (hy : plainFor mi.1 = true) (hlen : (lg_sl av).length ≤ mi.2.2.1) (h : zG E mi d rv M1 0 (zargs av ++ List.replicate (mi.2.2.1 - (lg_sl av).length) none) [] M) : zCT E d mi av M rv M1 := by
  refine va_MetF (cc := mi.2.1) (maxL := mi.2.2.1) (ret := mi.2.2.2) hy rfl ?_
  intro p e s m args below meth c s₁ B hml hv
  obtain ⟨rfl, hP, hW⟩ := hv
  have hts := atoms_spec (ws := zws mi) B.pre
  have hown : s.vm.findClass mi.1.cls = some m.cls := findClass_of_methodNamed B.named
  have hl := lv_entry av (n := mi.2.2.1) hlen
  rw [lg_entry_eq]
  refine h p e s m _ below meth c s.heap [] _ ⟨B.exec, B.bytes, B.returns, hml, hown, fun w hw => hts w (List.mem_cons_of_mem _ hw), B.notSynchronized, hW⟩ hP va_S.rf ⟨hl.1, hl.2.1, fun i v hi => ?_⟩
  by_cases hlt : i < (zargs av).length
  · rw [List.getElem?_append_left hlt] at hi
    have := zargs_at av i v hi 0
    rw [Nat.zero_add] at this
    exact hl.2.2 _ this
  · rw [List.getElem?_append_right (by omega)] at hi
    have := List.mem_of_getElem? hi
    rw [List.mem_replicate] at this
    exact absurd this.2 (by simp)
end ZR

theorem g_iconst {κ : am_K} {μ : am_N} {o1 : am_O} {h1 : List am_E} {nc ns pc n : Nat} {ls : List (Nat × Value)} {st : List Value} {h : List am_E} {i : Int} {v : Int32} (d : decode (am_cc μ) pc = .ok (.iconst i, 1)) (en : pc + 1 = n) (hv : Int32.ofInt i = v)
    (k : am_G κ μ o1 h1 nc ns n ls (.int v :: st) h) : am_G κ μ o1 h1 nc ns pc ls st h := by
  subst en
  intro p e s m args below meth c H locs A sb ad0 ad lv I hl
  exact lv_iconst I.1.1 I.1.2.1 d hv (k p e s m args below meth c H locs A sb ad0 ad lv I hl)
theorem g_bipush {κ : am_K} {μ : am_N} {o1 : am_O} {h1 : List am_E} {nc ns pc n : Nat} {ls : List (Nat × Value)} {st : List Value} {h : List am_E} {i : Int} {v : Int32} (d : decode (am_cc μ) pc = .ok (.bipush i, 2)) (en : pc + 2 = n) (hv : (Int8.ofInt i).toInt32 = v)
    (k : am_G κ μ o1 h1 nc ns n ls (.int v :: st) h) : am_G κ μ o1 h1 nc ns pc ls st h := by
  subst en
  intro p e s m args below meth c H locs A sb ad0 ad lv I hl
  exact lv_bipush I.1.1 I.1.2.1 d hv (k p e s m args below meth c H locs A sb ad0 ad lv I hl)
theorem g_sipush {κ : am_K} {μ : am_N} {o1 : am_O} {h1 : List am_E} {nc ns pc n : Nat} {ls : List (Nat × Value)} {st : List Value} {h : List am_E} {i : Int} {v : Int32} (d : decode (am_cc μ) pc = .ok (.sipush i, 3)) (en : pc + 3 = n) (hv : (Int16.ofInt i).toInt32 = v)
    (k : am_G κ μ o1 h1 nc ns n ls (.int v :: st) h) : am_G κ μ o1 h1 nc ns pc ls st h := by
  subst en
  intro p e s m args below meth c H locs A sb ad0 ad lv I hl
  exact lv_sipush I.1.1 I.1.2.1 d hv (k p e s m args below meth c H locs A sb ad0 ad lv I hl)
theorem g_lconst {κ : am_K} {μ : am_N} {o1 : am_O} {h1 : List am_E} {nc ns pc n : Nat} {ls : List (Nat × Value)} {st : List Value} {h : List am_E} {i : Fin 2} {v : Int64} (d : decode (am_cc μ) pc = .ok (.lconst i, 1)) (en : pc + 1 = n) (hv : Int64.ofNat (i : Nat) = v)
    (k : am_G κ μ o1 h1 nc ns n ls (.long v :: st) h) : am_G κ μ o1 h1 nc ns pc ls st h := by
  subst en
  intro p e s m args below meth c H locs A sb ad0 ad lv I hl
  exact lv_lconst I.1.1 I.1.2.1 d hv (k p e s m args below meth c H locs A sb ad0 ad lv I hl)
theorem g_iadd {κ : am_K} {μ : am_N} {o1 : am_O} {h1 : List am_E} {nc ns pc n : Nat} {ls : List (Nat × Value)} {st : List Value} {h : List am_E} {x y : Int32} (d : decode (am_cc μ) pc = .ok (.iadd, 1)) (en : pc + 1 = n) 
    (k : am_G κ μ o1 h1 nc ns n ls (.int (x + y) :: st) h) : am_G κ μ o1 h1 nc ns pc ls (.int y :: .int x :: st) h := by
  subst en
  intro p e s m args below meth c H locs A sb ad0 ad lv I hl
  exact lv_iadd I.1.1 I.1.2.1 d  (k p e s m args below meth c H locs A sb ad0 ad lv I hl)
theorem g_isub {κ : am_K} {μ : am_N} {o1 : am_O} {h1 : List am_E} {nc ns pc n : Nat} {ls : List (Nat × Value)} {st : List Value} {h : List am_E} {x y : Int32} (d : decode (am_cc μ) pc = .ok (.isub, 1)) (en : pc + 1 = n) 
    (k : am_G κ μ o1 h1 nc ns n ls (.int (x - y) :: st) h) : am_G κ μ o1 h1 nc ns pc ls (.int y :: .int x :: st) h := by
  subst en
  intro p e s m args below meth c H locs A sb ad0 ad lv I hl
  exact lv_isub I.1.1 I.1.2.1 d  (k p e s m args below meth c H locs A sb ad0 ad lv I hl)
theorem g_imul {κ : am_K} {μ : am_N} {o1 : am_O} {h1 : List am_E} {nc ns pc n : Nat} {ls : List (Nat × Value)} {st : List Value} {h : List am_E} {x y : Int32} (d : decode (am_cc μ) pc = .ok (.imul, 1)) (en : pc + 1 = n) 
    (k : am_G κ μ o1 h1 nc ns n ls (.int (x * y) :: st) h) : am_G κ μ o1 h1 nc ns pc ls (.int y :: .int x :: st) h := by
  subst en
  intro p e s m args below meth c H locs A sb ad0 ad lv I hl
  exact lv_imul I.1.1 I.1.2.1 d  (k p e s m args below meth c H locs A sb ad0 ad lv I hl)
theorem g_iand {κ : am_K} {μ : am_N} {o1 : am_O} {h1 : List am_E} {nc ns pc n : Nat} {ls : List (Nat × Value)} {st : List Value} {h : List am_E} {x y : Int32} (d : decode (am_cc μ) pc = .ok (.iand, 1)) (en : pc + 1 = n) 
    (k : am_G κ μ o1 h1 nc ns n ls (.int (x &&& y) :: st) h) : am_G κ μ o1 h1 nc ns pc ls (.int y :: .int x :: st) h := by
  subst en
  intro p e s m args below meth c H locs A sb ad0 ad lv I hl
  exact lv_iand I.1.1 I.1.2.1 d  (k p e s m args below meth c H locs A sb ad0 ad lv I hl)
theorem g_ior {κ : am_K} {μ : am_N} {o1 : am_O} {h1 : List am_E} {nc ns pc n : Nat} {ls : List (Nat × Value)} {st : List Value} {h : List am_E} {x y : Int32} (d : decode (am_cc μ) pc = .ok (.ior, 1)) (en : pc + 1 = n) 
    (k : am_G κ μ o1 h1 nc ns n ls (.int (x ||| y) :: st) h) : am_G κ μ o1 h1 nc ns pc ls (.int y :: .int x :: st) h := by
  subst en
  intro p e s m args below meth c H locs A sb ad0 ad lv I hl
  exact lv_ior I.1.1 I.1.2.1 d  (k p e s m args below meth c H locs A sb ad0 ad lv I hl)
theorem g_ixor {κ : am_K} {μ : am_N} {o1 : am_O} {h1 : List am_E} {nc ns pc n : Nat} {ls : List (Nat × Value)} {st : List Value} {h : List am_E} {x y : Int32} (d : decode (am_cc μ) pc = .ok (.ixor, 1)) (en : pc + 1 = n) 
    (k : am_G κ μ o1 h1 nc ns n ls (.int (x ^^^ y) :: st) h) : am_G κ μ o1 h1 nc ns pc ls (.int y :: .int x :: st) h := by
  subst en
  intro p e s m args below meth c H locs A sb ad0 ad lv I hl
  exact lv_ixor I.1.1 I.1.2.1 d  (k p e s m args below meth c H locs A sb ad0 ad lv I hl)
theorem g_ishl {κ : am_K} {μ : am_N} {o1 : am_O} {h1 : List am_E} {nc ns pc n : Nat} {ls : List (Nat × Value)} {st : List Value} {h : List am_E} {x y : Int32} (d : decode (am_cc μ) pc = .ok (.ishl, 1)) (en : pc + 1 = n) 
    (k : am_G κ μ o1 h1 nc ns n ls (.int (x <<< (y &&& 31)) :: st) h) : am_G κ μ o1 h1 nc ns pc ls (.int y :: .int x :: st) h := by
  subst en
  intro p e s m args below meth c H locs A sb ad0 ad lv I hl
  exact lv_ishl I.1.1 I.1.2.1 d  (k p e s m args below meth c H locs A sb ad0 ad lv I hl)
theorem g_ishr {κ : am_K} {μ : am_N} {o1 : am_O} {h1 : List am_E} {nc ns pc n : Nat} {ls : List (Nat × Value)} {st : List Value} {h : List am_E} {x y : Int32} (d : decode (am_cc μ) pc = .ok (.ishr, 1)) (en : pc + 1 = n) 
    (k : am_G κ μ o1 h1 nc ns n ls (.int (x >>> (y &&& 31)) :: st) h) : am_G κ μ o1 h1 nc ns pc ls (.int y :: .int x :: st) h := by
  subst en
  intro p e s m args below meth c H locs A sb ad0 ad lv I hl
  exact lv_ishr I.1.1 I.1.2.1 d  (k p e s m args below meth c H locs A sb ad0 ad lv I hl)
theorem g_idiv {κ : am_K} {μ : am_N} {o1 : am_O} {h1 : List am_E} {nc ns pc n : Nat} {ls : List (Nat × Value)} {st : List Value} {h : List am_E} {x y : Int32} (d : decode (am_cc μ) pc = .ok (.idiv, 1)) (en : pc + 1 = n) (hne : ¬ y = 0)
    (k : am_G κ μ o1 h1 nc ns n ls (.int (x / y) :: st) h) : am_G κ μ o1 h1 nc ns pc ls (.int y :: .int x :: st) h := by
  subst en
  intro p e s m args below meth c H locs A sb ad0 ad lv I hl
  exact lv_idiv I.1.1 I.1.2.1 d hne (k p e s m args below meth c H locs A sb ad0 ad lv I hl)
theorem g_irem {κ : am_K} {μ : am_N} {o1 : am_O} {h1 : List am_E} {nc ns pc n : Nat} {ls : List (Nat × Value)} {st : List Value} {h : List am_E} {x y : Int32} (d : decode (am_cc μ) pc = .ok (.irem, 1)) (en : pc + 1 = n) (hne : ¬ y = 0)
    (k : am_G κ μ o1 h1 nc ns n ls (.int (x - x / y * y) :: st) h) : am_G κ μ o1 h1 nc ns pc ls (.int y :: .int x :: st) h := by
  subst en
  intro p e s m args below meth c H locs A sb ad0 ad lv I hl
  exact lv_irem I.1.1 I.1.2.1 d hne (k p e s m args below meth c H locs A sb ad0 ad lv I hl)
theorem g_iushr {κ : am_K} {μ : am_N} {o1 : am_O} {h1 : List am_E} {nc ns pc n : Nat} {ls : List (Nat × Value)} {st : List Value} {h : List am_E} {x y : Int32} (d : decode (am_cc μ) pc = .ok (.iushr, 1)) (en : pc + 1 = n) 
    (k : am_G κ μ o1 h1 nc ns n ls (.int (x.toUInt32 >>> (y.toUInt32 &&& Int32.toUInt32 31)).toInt32 :: st) h) : am_G κ μ o1 h1 nc ns pc ls (.int y :: .int x :: st) h := by
  subst en
  intro p e s m args below meth c H locs A sb ad0 ad lv I hl
  exact lv_iushr I.1.1 I.1.2.1 d rfl (k p e s m args below meth c H locs A sb ad0 ad lv I hl)
theorem g_ineg {κ : am_K} {μ : am_N} {o1 : am_O} {h1 : List am_E} {nc ns pc n : Nat} {ls : List (Nat × Value)} {st : List Value} {h : List am_E} {x : Int32} (d : decode (am_cc μ) pc = .ok (.ineg, 1)) (en : pc + 1 = n) 
    (k : am_G κ μ o1 h1 nc ns n ls (.int (-x) :: st) h) : am_G κ μ o1 h1 nc ns pc ls (.int x :: st) h := by
  subst en
  intro p e s m args below meth c H locs A sb ad0 ad lv I hl
  exact lv_ineg I.1.1 I.1.2.1 d  (k p e s m args below meth c H locs A sb ad0 ad lv I hl)
theorem g_ladd {κ : am_K} {μ : am_N} {o1 : am_O} {h1 : List am_E} {nc ns pc n : Nat} {ls : List (Nat × Value)} {st : List Value} {h : List am_E} {x y : Int64} (d : decode (am_cc μ) pc = .ok (.ladd, 1)) (en : pc + 1 = n) 
    (k : am_G κ μ o1 h1 nc ns n ls (.long (x + y) :: st) h) : am_G κ μ o1 h1 nc ns pc ls (.long y :: .long x :: st) h := by
  subst en
  intro p e s m args below meth c H locs A sb ad0 ad lv I hl
  exact lv_ladd I.1.1 I.1.2.1 d  (k p e s m args below meth c H locs A sb ad0 ad lv I hl)
theorem g_lsub {κ : am_K} {μ : am_N} {o1 : am_O} {h1 : List am_E} {nc ns pc n : Nat} {ls : List (Nat × Value)} {st : List Value} {h : List am_E} {x y : Int64} (d : decode (am_cc μ) pc = .ok (.lsub, 1)) (en : pc + 1 = n) 
    (k : am_G κ μ o1 h1 nc ns n ls (.long (x - y) :: st) h) : am_G κ μ o1 h1 nc ns pc ls (.long y :: .long x :: st) h := by
  subst en
  intro p e s m args below meth c H locs A sb ad0 ad lv I hl
  exact lv_lsub I.1.1 I.1.2.1 d  (k p e s m args below meth c H locs A sb ad0 ad lv I hl)
theorem g_lmul {κ : am_K} {μ : am_N} {o1 : am_O} {h1 : List am_E} {nc ns pc n : Nat} {ls : List (Nat × Value)} {st : List Value} {h : List am_E} {x y : Int64} (d : decode (am_cc μ) pc = .ok (.lmul, 1)) (en : pc + 1 = n) 
    (k : am_G κ μ o1 h1 nc ns n ls (.long (x * y) :: st) h) : am_G κ μ o1 h1 nc ns pc ls (.long y :: .long x :: st) h := by
  subst en
  intro p e s m args below meth c H locs A sb ad0 ad lv I hl
  exact lv_lmul I.1.1 I.1.2.1 d  (k p e s m args below meth c H locs A sb ad0 ad lv I hl)
theorem g_land {κ : am_K} {μ : am_N} {o1 : am_O} {h1 : List am_E} {nc ns pc n : Nat} {ls : List (Nat × Value)} {st : List Value} {h : List am_E} {x y : Int64} (d : decode (am_cc μ) pc = .ok (.land, 1)) (en : pc + 1 = n) 
    (k : am_G κ μ o1 h1 nc ns n ls (.long (x &&& y) :: st) h) : am_G κ μ o1 h1 nc ns pc ls (.long y :: .long x :: st) h := by
  subst en
  intro p e s m args below meth c H locs A sb ad0 ad lv I hl
  exact lv_land I.1.1 I.1.2.1 d  (k p e s m args below meth c H locs A sb ad0 ad lv I hl)
theorem g_lor {κ : am_K} {μ : am_N} {o1 : am_O} {h1 : List am_E} {nc ns pc n : Nat} {ls : List (Nat × Value)} {st : List Value} {h : List am_E} {x y : Int64} (d : decode (am_cc μ) pc = .ok (.lor, 1)) (en : pc + 1 = n) 
    (k : am_G κ μ o1 h1 nc ns n ls (.long (x ||| y) :: st) h) : am_G κ μ o1 h1 nc ns pc ls (.long y :: .long x :: st) h := by
  subst en
  intro p e s m args below meth c H locs A sb ad0 ad lv I hl
  exact lv_lor I.1.1 I.1.2.1 d  (k p e s m args below meth c H locs A sb ad0 ad lv I hl)
theorem g_lxor {κ : am_K} {μ : am_N} {o1 : am_O} {h1 : List am_E} {nc ns pc n : Nat} {ls : List (Nat × Value)} {st : List Value} {h : List am_E} {x y : Int64} (d : decode (am_cc μ) pc = .ok (.lxor, 1)) (en : pc + 1 = n) 
    (k : am_G κ μ o1 h1 nc ns n ls (.long (x ^^^ y) :: st) h) : am_G κ μ o1 h1 nc ns pc ls (.long y :: .long x :: st) h := by
  subst en
  intro p e s m args below meth c H locs A sb ad0 ad lv I hl
  exact lv_lxor I.1.1 I.1.2.1 d  (k p e s m args below meth c H locs A sb ad0 ad lv I hl)
theorem g_lshl {κ : am_K} {μ : am_N} {o1 : am_O} {h1 : List am_E} {nc ns pc n : Nat} {ls : List (Nat × Value)} {st : List Value} {h : List am_E} {x : Int64} {y : Int32} (d : decode (am_cc μ) pc = .ok (.lshl, 1)) (en : pc + 1 = n) 
    (k : am_G κ μ o1 h1 nc ns n ls (.long (x <<< (y.toInt64 &&& 63)) :: st) h) : am_G κ μ o1 h1 nc ns pc ls (.int y :: .long x :: st) h := by
  subst en
  intro p e s m args below meth c H locs A sb ad0 ad lv I hl
  exact lv_lshl I.1.1 I.1.2.1 d rfl (k p e s m args below meth c H locs A sb ad0 ad lv I hl)
theorem g_lshr {κ : am_K} {μ : am_N} {o1 : am_O} {h1 : List am_E} {nc ns pc n : Nat} {ls : List (Nat × Value)} {st : List Value} {h : List am_E} {x : Int64} {y : Int32} (d : decode (am_cc μ) pc = .ok (.lshr, 1)) (en : pc + 1 = n) 
    (k : am_G κ μ o1 h1 nc ns n ls (.long (x >>> (y.toInt64 &&& 63)) :: st) h) : am_G κ μ o1 h1 nc ns pc ls (.int y :: .long x :: st) h := by
  subst en
  intro p e s m args below meth c H locs A sb ad0 ad lv I hl
  exact lv_lshr I.1.1 I.1.2.1 d rfl (k p e s m args below meth c H locs A sb ad0 ad lv I hl)
theorem g_lushr {κ : am_K} {μ : am_N} {o1 : am_O} {h1 : List am_E} {nc ns pc n : Nat} {ls : List (Nat × Value)} {st : List Value} {h : List am_E} {x : Int64} {y : Int32} (d : decode (am_cc μ) pc = .ok (.lushr, 1)) (en : pc + 1 = n) 
    (k : am_G κ μ o1 h1 nc ns n ls (.long (x.toUInt64 >>> (y.toInt64.toUInt64 &&& Int64.toUInt64 63)).toInt64 :: st) h) : am_G κ μ o1 h1 nc ns pc ls (.int y :: .long x :: st) h := by
  subst en
  intro p e s m args below meth c H locs A sb ad0 ad lv I hl
  exact lv_lushr I.1.1 I.1.2.1 d rfl (k p e s m args below meth c H locs A sb ad0 ad lv I hl)
theorem g_i2l {κ : am_K} {μ : am_N} {o1 : am_O} {h1 : List am_E} {nc ns pc n : Nat} {ls : List (Nat × Value)} {st : List Value} {h : List am_E} {x : Int32} (d : decode (am_cc μ) pc = .ok (.i2l, 1)) (en : pc + 1 = n) 
    (k : am_G κ μ o1 h1 nc ns n ls (.long x.toInt64 :: st) h) : am_G κ μ o1 h1 nc ns pc ls (.int x :: st) h := by
  subst en
  intro p e s m args below meth c H locs A sb ad0 ad lv I hl
  exact lv_i2l I.1.1 I.1.2.1 d rfl (k p e s m args below meth c H locs A sb ad0 ad lv I hl)
theorem g_l2i {κ : am_K} {μ : am_N} {o1 : am_O} {h1 : List am_E} {nc ns pc n : Nat} {ls : List (Nat × Value)} {st : List Value} {h : List am_E} {x : Int64} (d : decode (am_cc μ) pc = .ok (.l2i, 1)) (en : pc + 1 = n) 
    (k : am_G κ μ o1 h1 nc ns n ls (.int x.toInt32 :: st) h) : am_G κ μ o1 h1 nc ns pc ls (.long x :: st) h := by
  subst en
  intro p e s m args below meth c H locs A sb ad0 ad lv I hl
  exact lv_l2i I.1.1 I.1.2.1 d rfl (k p e s m args below meth c H locs A sb ad0 ad lv I hl)
theorem g_i2b {κ : am_K} {μ : am_N} {o1 : am_O} {h1 : List am_E} {nc ns pc n : Nat} {ls : List (Nat × Value)} {st : List Value} {h : List am_E} {x : Int32} (d : decode (am_cc μ) pc = .ok (.i2b, 1)) (en : pc + 1 = n) 
    (k : am_G κ μ o1 h1 nc ns n ls (.int x.toInt8.toInt32 :: st) h) : am_G κ μ o1 h1 nc ns pc ls (.int x :: st) h := by
  subst en
  intro p e s m args below meth c H locs A sb ad0 ad lv I hl
  exact lv_i2b I.1.1 I.1.2.1 d rfl (k p e s m args below meth c H locs A sb ad0 ad lv I hl)
theorem g_i2s {κ : am_K} {μ : am_N} {o1 : am_O} {h1 : List am_E} {nc ns pc n : Nat} {ls : List (Nat × Value)} {st : List Value} {h : List am_E} {x : Int32} (d : decode (am_cc μ) pc = .ok (.i2s, 1)) (en : pc + 1 = n) 
    (k : am_G κ μ o1 h1 nc ns n ls (.int x.toInt16.toInt32 :: st) h) : am_G κ μ o1 h1 nc ns pc ls (.int x :: st) h := by
  subst en
  intro p e s m args below meth c H locs A sb ad0 ad lv I hl
  exact lv_i2s I.1.1 I.1.2.1 d rfl (k p e s m args below meth c H locs A sb ad0 ad lv I hl)
theorem g_i2c {κ : am_K} {μ : am_N} {o1 : am_O} {h1 : List am_E} {nc ns pc n : Nat} {ls : List (Nat × Value)} {st : List Value} {h : List am_E} {x : Int32} (d : decode (am_cc μ) pc = .ok (.i2c, 1)) (en : pc + 1 = n) 
    (k : am_G κ μ o1 h1 nc ns n ls (.int (x.toUInt32 % 65536).toInt32 :: st) h) : am_G κ μ o1 h1 nc ns pc ls (.int x :: st) h := by
  subst en
  intro p e s m args below meth c H locs A sb ad0 ad lv I hl
  exact lv_i2c I.1.1 I.1.2.1 d rfl (k p e s m args below meth c H locs A sb ad0 ad lv I hl)
theorem g_lcmp {κ : am_K} {μ : am_N} {o1 : am_O} {h1 : List am_E} {nc ns pc n : Nat} {ls : List (Nat × Value)} {st : List Value} {h : List am_E} {x y : Int64} (d : decode (am_cc μ) pc = .ok (.lcmp, 1)) (en : pc + 1 = n) 
    (k : am_G κ μ o1 h1 nc ns n ls (.int (lg_cmp x y) :: st) h) : am_G κ μ o1 h1 nc ns pc ls (.long y :: .long x :: st) h := by
  subst en
  intro p e s m args below meth c H locs A sb ad0 ad lv I hl
  exact W.lcmp I.1.1 I.1.2.1 d  (k p e s m args below meth c H locs A sb ad0 ad lv I hl)
theorem g_dup {κ : am_K} {μ : am_N} {o1 : am_O} {h1 : List am_E} {nc ns pc n : Nat} {ls : List (Nat × Value)} {st : List Value} {h : List am_E} {v : Value} (d : decode (am_cc μ) pc = .ok (.dup, 1)) (en : pc + 1 = n) (hv : v.category = 1)
    (k : am_G κ μ o1 h1 nc ns n ls (v :: v :: st) h) : am_G κ μ o1 h1 nc ns pc ls (v :: st) h := by
  subst en
  intro p e s m args below meth c H locs A sb ad0 ad lv I hl
  exact lv_dup I.1.1 I.1.2.1 d (by rw [am_v_cat]; exact hv) (k p e s m args below meth c H locs A sb ad0 ad lv I hl)
theorem g_pop {κ : am_K} {μ : am_N} {o1 : am_O} {h1 : List am_E} {nc ns pc n : Nat} {ls : List (Nat × Value)} {st : List Value} {h : List am_E} {v : Value} (d : decode (am_cc μ) pc = .ok (.pop, 1)) (en : pc + 1 = n) (hv : v.category = 1)
    (k : am_G κ μ o1 h1 nc ns n ls st h) : am_G κ μ o1 h1 nc ns pc ls (v :: st) h := by
  subst en
  intro p e s m args below meth c H locs A sb ad0 ad lv I hl
  exact lv_pop I.1.1 I.1.2.1 d (by rw [am_v_cat]; exact hv) (k p e s m args below meth c H locs A sb ad0 ad lv I hl)
theorem g_dup_x1 {κ : am_K} {μ : am_N} {o1 : am_O} {h1 : List am_E} {nc ns pc n : Nat} {ls : List (Nat × Value)} {st : List Value} {h : List am_E} {v w : Value} (d : decode (am_cc μ) pc = .ok (.dup_x1, 1)) (en : pc + 1 = n) (hv : v.category = 1) (hw : w.category = 1)
    (k : am_G κ μ o1 h1 nc ns n ls (v :: w :: v :: st) h) : am_G κ μ o1 h1 nc ns pc ls (v :: w :: st) h := by
  subst en
  intro p e s m args below meth c H locs A sb ad0 ad lv I hl
  exact lv_dup_x1 I.1.1 I.1.2.1 d (by rw [am_v_cat]; exact hv) (by rw [am_v_cat]; exact hw) (k p e s m args below meth c H locs A sb ad0 ad lv I hl)
theorem g_dup_x2 {κ : am_K} {μ : am_N} {o1 : am_O} {h1 : List am_E} {nc ns pc n : Nat} {ls : List (Nat × Value)} {st : List Value} {h : List am_E} {v w u : Value} (d : decode (am_cc μ) pc = .ok (.dup_x2, 1)) (en : pc + 1 = n) (hv : v.category = 1) (hw : w.category = 1) (hu : u.category = 1)
    (k : am_G κ μ o1 h1 nc ns n ls (v :: w :: u :: v :: st) h) : am_G κ μ o1 h1 nc ns pc ls (v :: w :: u :: st) h := by
  subst en
  intro p e s m args below meth c H locs A sb ad0 ad lv I hl
  exact lv_dup_x2 I.1.1 I.1.2.1 d (by rw [am_v_cat]; exact hv) (by rw [am_v_cat]; exact hw) (by rw [am_v_cat]; exact hu) (k p e s m args below meth c H locs A sb ad0 ad lv I hl)
theorem g_dup2 {κ : am_K} {μ : am_N} {o1 : am_O} {h1 : List am_E} {nc ns pc n : Nat} {ls : List (Nat × Value)} {st : List Value} {h : List am_E} {v w : Value} (d : decode (am_cc μ) pc = .ok (.dup2, 1)) (en : pc + 1 = n) (hv : v.category = 1) (hw : w.category = 1)
    (k : am_G κ μ o1 h1 nc ns n ls (v :: w :: v :: w :: st) h) : am_G κ μ o1 h1 nc ns pc ls (v :: w :: st) h := by
  subst en
  intro p e s m args below meth c H locs A sb ad0 ad lv I hl
  exact lv_dup2_11 I.1.1 I.1.2.1 d (by rw [am_v_cat]; exact hv) (by rw [am_v_cat]; exact hw) (k p e s m args below meth c H locs A sb ad0 ad lv I hl)
theorem g_dup2l {κ : am_K} {μ : am_N} {o1 : am_O} {h1 : List am_E} {nc ns pc n : Nat} {ls : List (Nat × Value)} {st : List Value} {h : List am_E} {v : Value} (d : decode (am_cc μ) pc = .ok (.dup2, 1)) (en : pc + 1 = n) (hv : v.category = 2)
    (k : am_G κ μ o1 h1 nc ns n ls (v :: v :: st) h) : am_G κ μ o1 h1 nc ns pc ls (v :: st) h := by
  subst en
  intro p e s m args below meth c H locs A sb ad0 ad lv I hl
  exact lv_dup2_2 I.1.1 I.1.2.1 d (by rw [am_v_cat]; exact hv) (k p e s m args below meth c H locs A sb ad0 ad lv I hl)
theorem g_pop2l {κ : am_K} {μ : am_N} {o1 : am_O} {h1 : List am_E} {nc ns pc n : Nat} {ls : List (Nat × Value)} {st : List Value} {h : List am_E} {v : Value} (d : decode (am_cc μ) pc = .ok (.pop2, 1)) (en : pc + 1 = n) (hv : v.category = 2)
    (k : am_G κ μ o1 h1 nc ns n ls st h) : am_G κ μ o1 h1 nc ns pc ls (v :: st) h := by
  subst en
  intro p e s m args below meth c H locs A sb ad0 ad lv I hl
  exact lv_pop2_2 I.1.1 I.1.2.1 d (by rw [am_v_cat]; exact hv) (k p e s m args below meth c H locs A sb ad0 ad lv I hl)
theorem g_ldc {κ : am_K} {μ : am_N} {o1 : am_O} {h1 : List am_E} {nc ns pc n : Nat} {ls : List (Nat × Value)} {st : List Value} {h : List am_E} {i : Nat} {v : Int32} (d : decode (am_cc μ) pc = .ok (.ldc i, 2)) (en : pc + 2 = n) (hc : Jvm.Cond.constant (am_own μ) i v ∈ am_ws μ)
    (k : am_G κ μ o1 h1 nc ns n ls (.int v :: st) h) : am_G κ μ o1 h1 nc ns pc ls st h := by
  subst en
  intro p e s m args below meth c H locs A sb ad0 ad lv I hl
  exact lv_ldc I.1.1 I.1.2.1 I.1.2.2.2.1 (I.1.2.2.2.2 _ hc) d (k p e s m args below meth c H locs A sb ad0 ad lv I hl)
theorem g_ldc2 {κ : am_K} {μ : am_N} {o1 : am_O} {h1 : List am_E} {nc ns pc n : Nat} {ls : List (Nat × Value)} {st : List Value} {h : List am_E} {i : Nat} {v : Int64} (d : decode (am_cc μ) pc = .ok (.ldc2_w i, 3)) (en : pc + 3 = n) (hc : Jvm.Cond.constantLong (am_own μ) i v ∈ am_ws μ)
    (k : am_G κ μ o1 h1 nc ns n ls (.long v :: st) h) : am_G κ μ o1 h1 nc ns pc ls st h := by
  subst en
  intro p e s m args below meth c H locs A sb ad0 ad lv I hl
  exact lv_ldc2 I.1.1 I.1.2.1 I.1.2.2.2.1 (I.1.2.2.2.2 _ hc) d (k p e s m args below meth c H locs A sb ad0 ad lv I hl)
theorem am_at {sb : Nat} {ad : List Nat} {ls : List (Nat × Value)} {lv : Array Slot} {nL k i : Nat} {v : Value} (hl : lv_has lv nL (am_ls sb ad ls)) (hk : ls[k]? = some (i, v)) : lv[i]? = some (.val (am_v sb ad v)) :=
  lv_at hl k (by unfold am_ls; rw [List.getElem?_map, hk]; rfl)
def am_keep (i : Nat) (q : Nat × Value) : Bool := !(q.1 == i) && !(q.1 + 1 == i && q.2.category == 2)
def am_keep2 (i : Nat) (q : Nat × Value) : Bool := !(q.1 == i) && (!(q.1 == i + 1) && !(q.1 + 1 == i && q.2.category == 2))
theorem am_st {sb : Nat} {ad : List Nat} {ls ls' : List (Nat × Value)} {i : Nat} {v : Value} (e : (i, v) :: ls.filter (am_keep i) = ls') : (i, am_v sb ad v) :: (am_ls sb ad ls).filter (fun q => !(q.1 == i) && !(q.1 + 1 == i && q.2.category == 2)) = am_ls sb ad ls' := by
  subst e
  unfold am_ls
  rw [List.map_cons, List.filter_map]
  congr 2
  apply List.filter_congr
  intro q _
  simp only [Function.comp, am_keep, am_v_cat]
theorem am_st2 {sb : Nat} {ad : List Nat} {ls ls' : List (Nat × Value)} {i : Nat} {v : Value} (e : (i, v) :: ls.filter (am_keep2 i) = ls') : (i, am_v sb ad v) :: (am_ls sb ad ls).filter (fun q => !(q.1 == i) && (!(q.1 == i + 1) && !(q.1 + 1 == i && q.2.category == 2))) = am_ls sb ad ls' := by
  subst e
  unfold am_ls
  rw [List.map_cons, List.filter_map]
  congr 2
  apply List.filter_congr
  intro q _
  simp only [Function.comp, am_keep2, am_v_cat]
theorem g_iload_n {κ : am_K} {μ : am_N} {o1 : am_O} {h1 : List am_E} {nc ns pc n : Nat} {ls : List (Nat × Value)} {st : List Value} {h : List am_E} {j : Fin 4} {i : Nat} {x : Int32} (d : decode (am_cc μ) pc = .ok (.iload_n j, 1)) (en : pc + 1 = n) (kx : Nat) (hi : (j : Nat) = i) (hk : ls[kx]? = some (i, .int x))
    (k : am_G κ μ o1 h1 nc ns n ls (.int x :: st) h) : am_G κ μ o1 h1 nc ns pc ls st h := by
  subst en
  intro p e s m args below meth c H locs A sb ad0 ad lv I hl
  exact lv_iload_n I.1.1 I.1.2.1 d hi (am_at hl hk) (k p e s m args below meth c H locs A sb ad0 ad lv I hl)
theorem g_iload {κ : am_K} {μ : am_N} {o1 : am_O} {h1 : List am_E} {nc ns pc n : Nat} {ls : List (Nat × Value)} {st : List Value} {h : List am_E} {i : Nat} {x : Int32} (d : decode (am_cc μ) pc = .ok (.iload i, 2)) (en : pc + 2 = n) (kx : Nat) (hk : ls[kx]? = some (i, .int x))
    (k : am_G κ μ o1 h1 nc ns n ls (.int x :: st) h) : am_G κ μ o1 h1 nc ns pc ls st h := by
  subst en
  intro p e s m args below meth c H locs A sb ad0 ad lv I hl
  exact lv_iload I.1.1 I.1.2.1 d (am_at hl hk) (k p e s m args below meth c H locs A sb ad0 ad lv I hl)
theorem g_istore_n {κ : am_K} {μ : am_N} {o1 : am_O} {h1 : List am_E} {nc ns pc n : Nat} {ls : List (Nat × Value)} {st : List Value} {h : List am_E} {j : Fin 4} {i : Nat} {x : Int32} {ls' : List (Nat × Value)} (d : decode (am_cc μ) pc = .ok (.istore_n j, 1)) (en : pc + 1 = n) (hi : (j : Nat) = i) (hn : i < am_nL μ) (e : (i, Value.int x) :: ls.filter (am_keep i) = ls')
    (k : am_G κ μ o1 h1 nc ns n ls' st h) : am_G κ μ o1 h1 nc ns pc ls (.int x :: st) h := by
  subst en
  intro p e9 s m args below meth c H locs A sb ad0 ad lv I hl
  exact lv_istore_n I.1.1 I.1.2.1 d hi hl hn (am_st e) (fun lv' hl' => k p e9 s m args below meth c H locs A sb ad0 ad lv' I hl')
theorem g_istore {κ : am_K} {μ : am_N} {o1 : am_O} {h1 : List am_E} {nc ns pc n : Nat} {ls : List (Nat × Value)} {st : List Value} {h : List am_E} {i : Nat} {x : Int32} {ls' : List (Nat × Value)} (d : decode (am_cc μ) pc = .ok (.istore i, 2)) (en : pc + 2 = n) (hn : i < am_nL μ) (e : (i, Value.int x) :: ls.filter (am_keep i) = ls')
    (k : am_G κ μ o1 h1 nc ns n ls' st h) : am_G κ μ o1 h1 nc ns pc ls (.int x :: st) h := by
  subst en
  intro p e9 s m args below meth c H locs A sb ad0 ad lv I hl
  exact lv_istore I.1.1 I.1.2.1 d hl hn (am_st e) (fun lv' hl' => k p e9 s m args below meth c H locs A sb ad0 ad lv' I hl')
theorem g_lload_n {κ : am_K} {μ : am_N} {o1 : am_O} {h1 : List am_E} {nc ns pc n : Nat} {ls : List (Nat × Value)} {st : List Value} {h : List am_E} {j : Fin 4} {i : Nat} {x : Int64} (d : decode (am_cc μ) pc = .ok (.lload_n j, 1)) (en : pc + 1 = n) (kx : Nat) (hi : (j : Nat) = i) (hk : ls[kx]? = some (i, .long x))
    (k : am_G κ μ o1 h1 nc ns n ls (.long x :: st) h) : am_G κ μ o1 h1 nc ns pc ls st h := by
  subst en
  intro p e s m args below meth c H locs A sb ad0 ad lv I hl
  exact lv_lload_n I.1.1 I.1.2.1 d hi (am_at hl hk) (k p e s m args below meth c H locs A sb ad0 ad lv I hl)
theorem g_lload {κ : am_K} {μ : am_N} {o1 : am_O} {h1 : List am_E} {nc ns pc n : Nat} {ls : List (Nat × Value)} {st : List Value} {h : List am_E} {i : Nat} {x : Int64} (d : decode (am_cc μ) pc = .ok (.lload i, 2)) (en : pc + 2 = n) (kx : Nat) (hk : ls[kx]? = some (i, .long x))
    (k : am_G κ μ o1 h1 nc ns n ls (.long x :: st) h) : am_G κ μ o1 h1 nc ns pc ls st h := by
  subst en
  intro p e s m args below meth c H locs A sb ad0 ad lv I hl
  exact lv_lload I.1.1 I.1.2.1 d (am_at hl hk) (k p e s m args below meth c H locs A sb ad0 ad lv I hl)
theorem g_lstore_n {κ : am_K} {μ : am_N} {o1 : am_O} {h1 : List am_E} {nc ns pc n : Nat} {ls : List (Nat × Value)} {st : List Value} {h : List am_E} {j : Fin 4} {i : Nat} {x : Int64} {ls' : List (Nat × Value)} (d : decode (am_cc μ) pc = .ok (.lstore_n j, 1)) (en : pc + 1 = n) (hi : (j : Nat) = i) (hn : i + 1 < am_nL μ) (e : (i, Value.long x) :: ls.filter (am_keep2 i) = ls')
    (k : am_G κ μ o1 h1 nc ns n ls' st h) : am_G κ μ o1 h1 nc ns pc ls (.long x :: st) h := by
  subst en
  intro p e9 s m args below meth c H locs A sb ad0 ad lv I hl
  exact lv_lstore_n I.1.1 I.1.2.1 d hi hl hn (am_st2 e) (fun lv' hl' => k p e9 s m args below meth c H locs A sb ad0 ad lv' I hl')
theorem g_lstore {κ : am_K} {μ : am_N} {o1 : am_O} {h1 : List am_E} {nc ns pc n : Nat} {ls : List (Nat × Value)} {st : List Value} {h : List am_E} {i : Nat} {x : Int64} {ls' : List (Nat × Value)} (d : decode (am_cc μ) pc = .ok (.lstore i, 2)) (en : pc + 2 = n) (hn : i + 1 < am_nL μ) (e : (i, Value.long x) :: ls.filter (am_keep2 i) = ls')
    (k : am_G κ μ o1 h1 nc ns n ls' st h) : am_G κ μ o1 h1 nc ns pc ls (.long x :: st) h := by
  subst en
  intro p e9 s m args below meth c H locs A sb ad0 ad lv I hl
  exact lv_lstore I.1.1 I.1.2.1 d hl hn (am_st2 e) (fun lv' hl' => k p e9 s m args below meth c H locs A sb ad0 ad lv' I hl')
theorem g_aload_n {κ : am_K} {μ : am_N} {o1 : am_O} {h1 : List am_E} {nc ns pc n : Nat} {ls : List (Nat × Value)} {st : List Value} {h : List am_E} {j : Fin 4} {i : Nat} {x : Nat} (d : decode (am_cc μ) pc = .ok (.aload_n j, 1)) (en : pc + 1 = n) (kx : Nat) (hi : (j : Nat) = i) (hk : ls[kx]? = some (i, .ref x))
    (k : am_G κ μ o1 h1 nc ns n ls (.ref x :: st) h) : am_G κ μ o1 h1 nc ns pc ls st h := by
  subst en
  intro p e s m args below meth c H locs A sb ad0 ad lv I hl
  exact lv_aload_n I.1.1 I.1.2.1 d hi (am_at hl hk) (k p e s m args below meth c H locs A sb ad0 ad lv I hl)
theorem g_aload {κ : am_K} {μ : am_N} {o1 : am_O} {h1 : List am_E} {nc ns pc n : Nat} {ls : List (Nat × Value)} {st : List Value} {h : List am_E} {i : Nat} {x : Nat} (d : decode (am_cc μ) pc = .ok (.aload i, 2)) (en : pc + 2 = n) (kx : Nat) (hk : ls[kx]? = some (i, .ref x))
    (k : am_G κ μ o1 h1 nc ns n ls (.ref x :: st) h) : am_G κ μ o1 h1 nc ns pc ls st h := by
  subst en
  intro p e s m args below meth c H locs A sb ad0 ad lv I hl
  exact lv_aload I.1.1 I.1.2.1 d (am_at hl hk) (k p e s m args below meth c H locs A sb ad0 ad lv I hl)
theorem g_astore_n {κ : am_K} {μ : am_N} {o1 : am_O} {h1 : List am_E} {nc ns pc n : Nat} {ls : List (Nat × Value)} {st : List Value} {h : List am_E} {j : Fin 4} {i : Nat} {x : Nat} {ls' : List (Nat × Value)} (d : decode (am_cc μ) pc = .ok (.astore_n j, 1)) (en : pc + 1 = n) (hi : (j : Nat) = i) (hn : i < am_nL μ) (e : (i, Value.ref x) :: ls.filter (am_keep i) = ls')
    (k : am_G κ μ o1 h1 nc ns n ls' st h) : am_G κ μ o1 h1 nc ns pc ls (.ref x :: st) h := by
  subst en
  intro p e9 s m args below meth c H locs A sb ad0 ad lv I hl
  exact lv_astore_n I.1.1 I.1.2.1 d hi hl hn (am_st e) (fun lv' hl' => k p e9 s m args below meth c H locs A sb ad0 ad lv' I hl')
theorem g_astore {κ : am_K} {μ : am_N} {o1 : am_O} {h1 : List am_E} {nc ns pc n : Nat} {ls : List (Nat × Value)} {st : List Value} {h : List am_E} {i : Nat} {x : Nat} {ls' : List (Nat × Value)} (d : decode (am_cc μ) pc = .ok (.astore i, 2)) (en : pc + 2 = n) (hn : i < am_nL μ) (e : (i, Value.ref x) :: ls.filter (am_keep i) = ls')
    (k : am_G κ μ o1 h1 nc ns n ls' st h) : am_G κ μ o1 h1 nc ns pc ls (.ref x :: st) h := by
  subst en
  intro p e9 s m args below meth c H locs A sb ad0 ad lv I hl
  exact lv_astore I.1.1 I.1.2.1 d hl hn (am_st e) (fun lv' hl' => k p e9 s m args below meth c H locs A sb ad0 ad lv' I hl')
theorem g_iinc {κ : am_K} {μ : am_N} {o1 : am_O} {h1 : List am_E} {nc ns pc n : Nat} {ls : List (Nat × Value)} {st : List Value} {h : List am_E} {i : Nat} {a : Int} {x v : Int32} {ls' : List (Nat × Value)} (d : decode (am_cc μ) pc = .ok (.iinc i a, 3)) (en : pc + 3 = n) (kx : Nat) (hk : ls[kx]? = some (i, .int x)) (hv : x + Int32.ofInt a = v) (hn : i < am_nL μ) (e : (i, Value.int v) :: ls.filter (am_keep i) = ls')
    (k : am_G κ μ o1 h1 nc ns n ls' st h) : am_G κ μ o1 h1 nc ns pc ls st h := by
  subst en
  intro p e9 s m args below meth c H locs A sb ad0 ad lv I hl
  exact lv_iinc (k := kx) I.1.1 I.1.2.1 d hl (by unfold am_ls; rw [List.getElem?_map, hk]; rfl) hv hn (am_st e) (fun lv' hl' => k p e9 s m args below meth c H locs A sb ad0 ad lv' I hl')
theorem g_if_eq {κ : am_K} {μ : am_N} {o1 : am_O} {h1 : List am_E} {nc ns pc n : Nat} {ls : List (Nat × Value)} {st : List Value} {h : List am_E} {x : Int32} {off : Int} {tgt : Nat} (d : decode (am_cc μ) pc = .ok (.ifCond .eq off, 3)) (en : pc + 3 = n) (ht : (pc : Int) + off = (tgt : Int))
    (kt : x = 0 → am_G κ μ o1 h1 nc ns tgt ls st h) (kf : ¬ x = 0 → am_G κ μ o1 h1 nc ns n ls st h) : am_G κ μ o1 h1 nc ns pc ls (.int x :: st) h := by
  subst en
  intro p e s m args below meth c H locs A sb ad0 ad lv I hl
  exact lv_if_eq I.1.1 I.1.2.1 d ht (fun z => kt z p e s m args below meth c H locs A sb ad0 ad lv I hl) (fun z => kf z p e s m args below meth c H locs A sb ad0 ad lv I hl)
theorem g_if_ne {κ : am_K} {μ : am_N} {o1 : am_O} {h1 : List am_E} {nc ns pc n : Nat} {ls : List (Nat × Value)} {st : List Value} {h : List am_E} {x : Int32} {off : Int} {tgt : Nat} (d : decode (am_cc μ) pc = .ok (.ifCond .ne off, 3)) (en : pc + 3 = n) (ht : (pc : Int) + off = (tgt : Int))
    (kt : ¬ x = 0 → am_G κ μ o1 h1 nc ns tgt ls st h) (kf : x = 0 → am_G κ μ o1 h1 nc ns n ls st h) : am_G κ μ o1 h1 nc ns pc ls (.int x :: st) h := by
  subst en
  intro p e s m args below meth c H locs A sb ad0 ad lv I hl
  exact lv_if_ne I.1.1 I.1.2.1 d ht (fun z => kt z p e s m args below meth c H locs A sb ad0 ad lv I hl) (fun z => kf z p e s m args below meth c H locs A sb ad0 ad lv I hl)
theorem g_if_lt {κ : am_K} {μ : am_N} {o1 : am_O} {h1 : List am_E} {nc ns pc n : Nat} {ls : List (Nat × Value)} {st : List Value} {h : List am_E} {x : Int32} {off : Int} {tgt : Nat} (d : decode (am_cc μ) pc = .ok (.ifCond .lt off, 3)) (en : pc + 3 = n) (ht : (pc : Int) + off = (tgt : Int))
    (kt : x < 0 → am_G κ μ o1 h1 nc ns tgt ls st h) (kf : ¬ x < 0 → am_G κ μ o1 h1 nc ns n ls st h) : am_G κ μ o1 h1 nc ns pc ls (.int x :: st) h := by
  subst en
  intro p e s m args below meth c H locs A sb ad0 ad lv I hl
  exact lv_if_lt I.1.1 I.1.2.1 d ht (fun z => kt z p e s m args below meth c H locs A sb ad0 ad lv I hl) (fun z => kf z p e s m args below meth c H locs A sb ad0 ad lv I hl)
theorem g_if_ge {κ : am_K} {μ : am_N} {o1 : am_O} {h1 : List am_E} {nc ns pc n : Nat} {ls : List (Nat × Value)} {st : List Value} {h : List am_E} {x : Int32} {off : Int} {tgt : Nat} (d : decode (am_cc μ) pc = .ok (.ifCond .ge off, 3)) (en : pc + 3 = n) (ht : (pc : Int) + off = (tgt : Int))
    (kt : 0 ≤ x → am_G κ μ o1 h1 nc ns tgt ls st h) (kf : ¬ 0 ≤ x → am_G κ μ o1 h1 nc ns n ls st h) : am_G κ μ o1 h1 nc ns pc ls (.int x :: st) h := by
  subst en
  intro p e s m args below meth c H locs A sb ad0 ad lv I hl
  exact lv_if_ge I.1.1 I.1.2.1 d ht (fun z => kt z p e s m args below meth c H locs A sb ad0 ad lv I hl) (fun z => kf z p e s m args below meth c H locs A sb ad0 ad lv I hl)
theorem g_if_gt {κ : am_K} {μ : am_N} {o1 : am_O} {h1 : List am_E} {nc ns pc n : Nat} {ls : List (Nat × Value)} {st : List Value} {h : List am_E} {x : Int32} {off : Int} {tgt : Nat} (d : decode (am_cc μ) pc = .ok (.ifCond .gt off, 3)) (en : pc + 3 = n) (ht : (pc : Int) + off = (tgt : Int))
    (kt : 0 < x → am_G κ μ o1 h1 nc ns tgt ls st h) (kf : ¬ 0 < x → am_G κ μ o1 h1 nc ns n ls st h) : am_G κ μ o1 h1 nc ns pc ls (.int x :: st) h := by
  subst en
  intro p e s m args below meth c H locs A sb ad0 ad lv I hl
  exact lv_if_gt I.1.1 I.1.2.1 d ht (fun z => kt z p e s m args below meth c H locs A sb ad0 ad lv I hl) (fun z => kf z p e s m args below meth c H locs A sb ad0 ad lv I hl)
theorem g_if_le {κ : am_K} {μ : am_N} {o1 : am_O} {h1 : List am_E} {nc ns pc n : Nat} {ls : List (Nat × Value)} {st : List Value} {h : List am_E} {x : Int32} {off : Int} {tgt : Nat} (d : decode (am_cc μ) pc = .ok (.ifCond .le off, 3)) (en : pc + 3 = n) (ht : (pc : Int) + off = (tgt : Int))
    (kt : x ≤ 0 → am_G κ μ o1 h1 nc ns tgt ls st h) (kf : ¬ x ≤ 0 → am_G κ μ o1 h1 nc ns n ls st h) : am_G κ μ o1 h1 nc ns pc ls (.int x :: st) h := by
  subst en
  intro p e s m args below meth c H locs A sb ad0 ad lv I hl
  exact lv_if_le I.1.1 I.1.2.1 d ht (fun z => kt z p e s m args below meth c H locs A sb ad0 ad lv I hl) (fun z => kf z p e s m args below meth c H locs A sb ad0 ad lv I hl)
theorem g_icmp_eq {κ : am_K} {μ : am_N} {o1 : am_O} {h1 : List am_E} {nc ns pc n : Nat} {ls : List (Nat × Value)} {st : List Value} {h : List am_E} {x y : Int32} {off : Int} {tgt : Nat} (d : decode (am_cc μ) pc = .ok (.if_icmp .eq off, 3)) (en : pc + 3 = n) (ht : (pc : Int) + off = (tgt : Int))
    (kt : x = y → am_G κ μ o1 h1 nc ns tgt ls st h) (kf : ¬ x = y → am_G κ μ o1 h1 nc ns n ls st h) : am_G κ μ o1 h1 nc ns pc ls (.int y :: .int x :: st) h := by
  subst en
  intro p e s m args below meth c H locs A sb ad0 ad lv I hl
  exact lv_icmp_eq I.1.1 I.1.2.1 d ht (fun z => kt z p e s m args below meth c H locs A sb ad0 ad lv I hl) (fun z => kf z p e s m args below meth c H locs A sb ad0 ad lv I hl)
theorem g_icmp_ne {κ : am_K} {μ : am_N} {o1 : am_O} {h1 : List am_E} {nc ns pc n : Nat} {ls : List (Nat × Value)} {st : List Value} {h : List am_E} {x y : Int32} {off : Int} {tgt : Nat} (d : decode (am_cc μ) pc = .ok (.if_icmp .ne off, 3)) (en : pc + 3 = n) (ht : (pc : Int) + off = (tgt : Int))
    (kt : ¬ x = y → am_G κ μ o1 h1 nc ns tgt ls st h) (kf : x = y → am_G κ μ o1 h1 nc ns n ls st h) : am_G κ μ o1 h1 nc ns pc ls (.int y :: .int x :: st) h := by
  subst en
  intro p e s m args below meth c H locs A sb ad0 ad lv I hl
  exact lv_icmp_ne I.1.1 I.1.2.1 d ht (fun z => kt z p e s m args below meth c H locs A sb ad0 ad lv I hl) (fun z => kf z p e s m args below meth c H locs A sb ad0 ad lv I hl)
theorem g_icmp_lt {κ : am_K} {μ : am_N} {o1 : am_O} {h1 : List am_E} {nc ns pc n : Nat} {ls : List (Nat × Value)} {st : List Value} {h : List am_E} {x y : Int32} {off : Int} {tgt : Nat} (d : decode (am_cc μ) pc = .ok (.if_icmp .lt off, 3)) (en : pc + 3 = n) (ht : (pc : Int) + off = (tgt : Int))
    (kt : x < y → am_G κ μ o1 h1 nc ns tgt ls st h) (kf : ¬ x < y → am_G κ μ o1 h1 nc ns n ls st h) : am_G κ μ o1 h1 nc ns pc ls (.int y :: .int x :: st) h := by
  subst en
  intro p e s m args below meth c H locs A sb ad0 ad lv I hl
  exact lv_icmp_lt I.1.1 I.1.2.1 d ht (fun z => kt z p e s m args below meth c H locs A sb ad0 ad lv I hl) (fun z => kf z p e s m args below meth c H locs A sb ad0 ad lv I hl)
theorem g_icmp_ge {κ : am_K} {μ : am_N} {o1 : am_O} {h1 : List am_E} {nc ns pc n : Nat} {ls : List (Nat × Value)} {st : List Value} {h : List am_E} {x y : Int32} {off : Int} {tgt : Nat} (d : decode (am_cc μ) pc = .ok (.if_icmp .ge off, 3)) (en : pc + 3 = n) (ht : (pc : Int) + off = (tgt : Int))
    (kt : y ≤ x → am_G κ μ o1 h1 nc ns tgt ls st h) (kf : ¬ y ≤ x → am_G κ μ o1 h1 nc ns n ls st h) : am_G κ μ o1 h1 nc ns pc ls (.int y :: .int x :: st) h := by
  subst en
  intro p e s m args below meth c H locs A sb ad0 ad lv I hl
  exact lv_icmp_ge I.1.1 I.1.2.1 d ht (fun z => kt z p e s m args below meth c H locs A sb ad0 ad lv I hl) (fun z => kf z p e s m args below meth c H locs A sb ad0 ad lv I hl)
theorem g_icmp_gt {κ : am_K} {μ : am_N} {o1 : am_O} {h1 : List am_E} {nc ns pc n : Nat} {ls : List (Nat × Value)} {st : List Value} {h : List am_E} {x y : Int32} {off : Int} {tgt : Nat} (d : decode (am_cc μ) pc = .ok (.if_icmp .gt off, 3)) (en : pc + 3 = n) (ht : (pc : Int) + off = (tgt : Int))
    (kt : y < x → am_G κ μ o1 h1 nc ns tgt ls st h) (kf : ¬ y < x → am_G κ μ o1 h1 nc ns n ls st h) : am_G κ μ o1 h1 nc ns pc ls (.int y :: .int x :: st) h := by
  subst en
  intro p e s m args below meth c H locs A sb ad0 ad lv I hl
  exact lv_icmp_gt I.1.1 I.1.2.1 d ht (fun z => kt z p e s m args below meth c H locs A sb ad0 ad lv I hl) (fun z => kf z p e s m args below meth c H locs A sb ad0 ad lv I hl)
theorem g_icmp_le {κ : am_K} {μ : am_N} {o1 : am_O} {h1 : List am_E} {nc ns pc n : Nat} {ls : List (Nat × Value)} {st : List Value} {h : List am_E} {x y : Int32} {off : Int} {tgt : Nat} (d : decode (am_cc μ) pc = .ok (.if_icmp .le off, 3)) (en : pc + 3 = n) (ht : (pc : Int) + off = (tgt : Int))
    (kt : x ≤ y → am_G κ μ o1 h1 nc ns tgt ls st h) (kf : ¬ x ≤ y → am_G κ μ o1 h1 nc ns n ls st h) : am_G κ μ o1 h1 nc ns pc ls (.int y :: .int x :: st) h := by
  subst en
  intro p e s m args below meth c H locs A sb ad0 ad lv I hl
  exact lv_icmp_le I.1.1 I.1.2.1 d ht (fun z => kt z p e s m args below meth c H locs A sb ad0 ad lv I hl) (fun z => kf z p e s m args below meth c H locs A sb ad0 ad lv I hl)
theorem g_goto {κ : am_K} {μ : am_N} {o1 : am_O} {h1 : List am_E} {nc ns pc n : Nat} {ls : List (Nat × Value)} {st : List Value} {h : List am_E} {off : Int} (d : decode (am_cc μ) pc = .ok (.goto off, 3)) (ht : (pc : Int) + off = (n : Int)) (k : am_G κ μ o1 h1 nc ns n ls st h) : am_G κ μ o1 h1 nc ns pc ls st h := by
  intro p e s m args below meth c H locs A sb ad0 ad lv I hl
  exact lv_goto I.1.1 I.1.2.1 d ht (k p e s m args below meth c H locs A sb ad0 ad lv I hl)
theorem g_tabIn {κ : am_K} {μ : am_N} {o1 : am_O} {h1 : List am_E} {nc ns pc n : Nat} {ls : List (Nat × Value)} {st : List Value} {h : List am_E} {dflt lo hi : Int} {offs : Array Int} {len : Nat} {x : Int32} {off : Int} (d : decode (am_cc μ) pc = .ok (.tableswitch dflt lo hi offs, len)) (z1 : ¬ x.toInt < lo) (z2 : ¬ hi < x.toInt) (ho : offs[(x.toInt - lo).toNat]? = some off) (ht : (pc : Int) + off = (n : Int)) (k : am_G κ μ o1 h1 nc ns n ls st h) : am_G κ μ o1 h1 nc ns pc ls (.int x :: st) h := by
  intro p e s m args below meth c H locs A sb ad0 ad lv I hl
  exact lv_tableIn I.1.1 I.1.2.1 d z1 z2 ho ht (k p e s m args below meth c H locs A sb ad0 ad lv I hl)
theorem g_tabOut {κ : am_K} {μ : am_N} {o1 : am_O} {h1 : List am_E} {nc ns pc n : Nat} {ls : List (Nat × Value)} {st : List Value} {h : List am_E} {dflt lo hi : Int} {offs : Array Int} {len : Nat} {x : Int32} (d : decode (am_cc μ) pc = .ok (.tableswitch dflt lo hi offs, len)) (z1 : x.toInt < lo ∨ hi < x.toInt) (ht : (pc : Int) + dflt = (n : Int)) (k : am_G κ μ o1 h1 nc ns n ls st h) : am_G κ μ o1 h1 nc ns pc ls (.int x :: st) h := by
  intro p e s m args below meth c H locs A sb ad0 ad lv I hl
  exact lv_tableOut I.1.1 I.1.2.1 d z1 ht (k p e s m args below meth c H locs A sb ad0 ad lv I hl)
theorem g_lookup {κ : am_K} {μ : am_N} {o1 : am_O} {h1 : List am_E} {nc ns pc n : Nat} {ls : List (Nat × Value)} {st : List Value} {h : List am_E} {dflt : Int} {ps : Array (Int × Int)} {len : Nat} {x : Int32} {off : Int} (d : decode (am_cc μ) pc = .ok (.lookupswitch dflt ps, len)) (hp : (ps.toList.zip (ps.toList.drop 1)).all (fun (a, next) => a.1 < next.1) = true) (ho : Op.lookupswitch.offset ps.toList dflt x.toInt = off) (ht : (pc : Int) + off = (n : Int)) (k : am_G κ μ o1 h1 nc ns n ls st h) : am_G κ μ o1 h1 nc ns pc ls (.int x :: st) h := by
  intro p e s m args below meth c H locs A sb ad0 ad lv I hl
  exact lv_lookup I.1.1 I.1.2.1 d hp ho ht (k p e s m args below meth c H locs A sb ad0 ad lv I hl)

section AM
variable {E : Nat × (Nat → Int32)} {M : am_M} {pc : Nat} {ls : List (Option Value)} {st : List Value} {h : am_H} {n n1 : Nat} {Q : Option Value → am_H → Prop}
theorem am_iadd {x y : Int32} (hd : decode M.2.1 pc = .ok (.iadd, 1)) (k : am_R E M (pc + 1) ls (.int (x + y) :: st) h n n1 Q) : am_R E M pc ls (.int y :: .int x :: st) h n n1 Q := by
  intro p l e s m args below meth c g n0 Z H locs lsc Rm C hR hP hS hn hl hq
  exact lv_iadd C.1 C.2.1 hd (k p l e s m args below meth c g n0 Z H locs lsc Rm C hR hP hS hn hl hq)
theorem am_isub {x y : Int32} (hd : decode M.2.1 pc = .ok (.isub, 1)) (k : am_R E M (pc + 1) ls (.int (x - y) :: st) h n n1 Q) : am_R E M pc ls (.int y :: .int x :: st) h n n1 Q := by
  intro p l e s m args below meth c g n0 Z H locs lsc Rm C hR hP hS hn hl hq
  exact lv_isub C.1 C.2.1 hd (k p l e s m args below meth c g n0 Z H locs lsc Rm C hR hP hS hn hl hq)
theorem am_imul {x y : Int32} (hd : decode M.2.1 pc = .ok (.imul, 1)) (k : am_R E M (pc + 1) ls (.int (x * y) :: st) h n n1 Q) : am_R E M pc ls (.int y :: .int x :: st) h n n1 Q := by
  intro p l e s m args below meth c g n0 Z H locs lsc Rm C hR hP hS hn hl hq
  exact lv_imul C.1 C.2.1 hd (k p l e s m args below meth c g n0 Z H locs lsc Rm C hR hP hS hn hl hq)
theorem am_iand {x y : Int32} (hd : decode M.2.1 pc = .ok (.iand, 1)) (k : am_R E M (pc + 1) ls (.int (x &&& y) :: st) h n n1 Q) : am_R E M pc ls (.int y :: .int x :: st) h n n1 Q := by
  intro p l e s m args below meth c g n0 Z H locs lsc Rm C hR hP hS hn hl hq
  exact lv_iand C.1 C.2.1 hd (k p l e s m args below meth c g n0 Z H locs lsc Rm C hR hP hS hn hl hq)
theorem am_ior {x y : Int32} (hd : decode M.2.1 pc = .ok (.ior, 1)) (k : am_R E M (pc + 1) ls (.int (x ||| y) :: st) h n n1 Q) : am_R E M pc ls (.int y :: .int x :: st) h n n1 Q := by
  intro p l e s m args below meth c g n0 Z H locs lsc Rm C hR hP hS hn hl hq
  exact lv_ior C.1 C.2.1 hd (k p l e s m args below meth c g n0 Z H locs lsc Rm C hR hP hS hn hl hq)
theorem am_ixor {x y : Int32} (hd : decode M.2.1 pc = .ok (.ixor, 1)) (k : am_R E M (pc + 1) ls (.int (x ^^^ y) :: st) h n n1 Q) : am_R E M pc ls (.int y :: .int x :: st) h n n1 Q := by
  intro p l e s m args below meth c g n0 Z H locs lsc Rm C hR hP hS hn hl hq
  exact lv_ixor C.1 C.2.1 hd (k p l e s m args below meth c g n0 Z H locs lsc Rm C hR hP hS hn hl hq)
theorem am_ishl {x y : Int32} (hd : decode M.2.1 pc = .ok (.ishl, 1)) (k : am_R E M (pc + 1) ls (.int (x <<< (y &&& 31)) :: st) h n n1 Q) : am_R E M pc ls (.int y :: .int x :: st) h n n1 Q := by
  intro p l e s m args below meth c g n0 Z H locs lsc Rm C hR hP hS hn hl hq
  exact lv_ishl C.1 C.2.1 hd (k p l e s m args below meth c g n0 Z H locs lsc Rm C hR hP hS hn hl hq)
theorem am_ishr {x y : Int32} (hd : decode M.2.1 pc = .ok (.ishr, 1)) (k : am_R E M (pc + 1) ls (.int (x >>> (y &&& 31)) :: st) h n n1 Q) : am_R E M pc ls (.int y :: .int x :: st) h n n1 Q := by
  intro p l e s m args below meth c g n0 Z H locs lsc Rm C hR hP hS hn hl hq
  exact lv_ishr C.1 C.2.1 hd (k p l e s m args below meth c g n0 Z H locs lsc Rm C hR hP hS hn hl hq)
theorem am_idiv {x y : Int32} (h0 : ¬ y = 0) (hd : decode M.2.1 pc = .ok (.idiv, 1)) (k : am_R E M (pc + 1) ls (.int (x / y) :: st) h n n1 Q) : am_R E M pc ls (.int y :: .int x :: st) h n n1 Q := by
  intro p l e s m args below meth c g n0 Z H locs lsc Rm C hR hP hS hn hl hq
  exact lv_idiv C.1 C.2.1 hd h0 (k p l e s m args below meth c g n0 Z H locs lsc Rm C hR hP hS hn hl hq)
theorem am_irem {x y : Int32} (h0 : ¬ y = 0) (hd : decode M.2.1 pc = .ok (.irem, 1)) (k : am_R E M (pc + 1) ls (.int (x - x / y * y) :: st) h n n1 Q) : am_R E M pc ls (.int y :: .int x :: st) h n n1 Q := by
  intro p l e s m args below meth c g n0 Z H locs lsc Rm C hR hP hS hn hl hq
  exact lv_irem C.1 C.2.1 hd h0 (k p l e s m args below meth c g n0 Z H locs lsc Rm C hR hP hS hn hl hq)
theorem am_iushr {x y : Int32} (hd : decode M.2.1 pc = .ok (.iushr, 1)) (k : am_R E M (pc + 1) ls (.int ((x.toUInt32 >>> (y.toUInt32 &&& Int32.toUInt32 31)).toInt32) :: st) h n n1 Q) : am_R E M pc ls (.int y :: .int x :: st) h n n1 Q := by
  intro p l e s m args below meth c g n0 Z H locs lsc Rm C hR hP hS hn hl hq
  exact lv_iushr C.1 C.2.1 hd rfl (k p l e s m args below meth c g n0 Z H locs lsc Rm C hR hP hS hn hl hq)
theorem am_ladd {x y : Int64} (hd : decode M.2.1 pc = .ok (.ladd, 1)) (k : am_R E M (pc + 1) ls (.long (x + y) :: st) h n n1 Q) : am_R E M pc ls (.long y :: .long x :: st) h n n1 Q := by
  intro p l e s m args below meth c g n0 Z H locs lsc Rm C hR hP hS hn hl hq
  exact lv_ladd C.1 C.2.1 hd (k p l e s m args below meth c g n0 Z H locs lsc Rm C hR hP hS hn hl hq)
theorem am_lsub {x y : Int64} (hd : decode M.2.1 pc = .ok (.lsub, 1)) (k : am_R E M (pc + 1) ls (.long (x - y) :: st) h n n1 Q) : am_R E M pc ls (.long y :: .long x :: st) h n n1 Q := by
  intro p l e s m args below meth c g n0 Z H locs lsc Rm C hR hP hS hn hl hq
  exact lv_lsub C.1 C.2.1 hd (k p l e s m args below meth c g n0 Z H locs lsc Rm C hR hP hS hn hl hq)
theorem am_lmul {x y : Int64} (hd : decode M.2.1 pc = .ok (.lmul, 1)) (k : am_R E M (pc + 1) ls (.long (x * y) :: st) h n n1 Q) : am_R E M pc ls (.long y :: .long x :: st) h n n1 Q := by
  intro p l e s m args below meth c g n0 Z H locs lsc Rm C hR hP hS hn hl hq
  exact lv_lmul C.1 C.2.1 hd (k p l e s m args below meth c g n0 Z H locs lsc Rm C hR hP hS hn hl hq)
theorem am_land {x y : Int64} (hd : decode M.2.1 pc = .ok (.land, 1)) (k : am_R E M (pc + 1) ls (.long (x &&& y) :: st) h n n1 Q) : am_R E M pc ls (.long y :: .long x :: st) h n n1 Q := by
  intro p l e s m args below meth c g n0 Z H locs lsc Rm C hR hP hS hn hl hq
  exact lv_land C.1 C.2.1 hd (k p l e s m args below meth c g n0 Z H locs lsc Rm C hR hP hS hn hl hq)
theorem am_lor {x y : Int64} (hd : decode M.2.1 pc = .ok (.lor, 1)) (k : am_R E M (pc + 1) ls (.long (x ||| y) :: st) h n n1 Q) : am_R E M pc ls (.long y :: .long x :: st) h n n1 Q := by
  intro p l e s m args below meth c g n0 Z H locs lsc Rm C hR hP hS hn hl hq
  exact lv_lor C.1 C.2.1 hd (k p l e s m args below meth c g n0 Z H locs lsc Rm C hR hP hS hn hl hq)
theorem am_ldiv {x y : Int64} (h0 : ¬ y = 0) (hd : decode M.2.1 pc = .ok (.ldiv, 1)) (k : am_R E M (pc + 1) ls (.long (x / y) :: st) h n n1 Q) : am_R E M pc ls (.long y :: .long x :: st) h n n1 Q := by
  intro p l e s m args below meth c g n0 Z H locs lsc Rm C hR hP hS hn hl hq
  exact lv_ldiv C.1 C.2.1 hd h0 (k p l e s m args below meth c g n0 Z H locs lsc Rm C hR hP hS hn hl hq)
theorem am_lrem {x y : Int64} (h0 : ¬ y = 0) (hd : decode M.2.1 pc = .ok (.lrem, 1)) (k : am_R E M (pc + 1) ls (.long (x - x / y * y) :: st) h n n1 Q) : am_R E M pc ls (.long y :: .long x :: st) h n n1 Q := by
  intro p l e s m args below meth c g n0 Z H locs lsc Rm C hR hP hS hn hl hq
  exact lv_lrem C.1 C.2.1 hd h0 (k p l e s m args below meth c g n0 Z H locs lsc Rm C hR hP hS hn hl hq)
theorem am_lshl {x : Int64} {y : Int32} (hd : decode M.2.1 pc = .ok (.lshl, 1)) (k : am_R E M (pc + 1) ls (.long (x <<< (y.toInt64 &&& 63)) :: st) h n n1 Q) : am_R E M pc ls (.int y :: .long x :: st) h n n1 Q := by
  intro p l e s m args below meth c g n0 Z H locs lsc Rm C hR hP hS hn hl hq
  exact lv_lshl C.1 C.2.1 hd rfl (k p l e s m args below meth c g n0 Z H locs lsc Rm C hR hP hS hn hl hq)
theorem am_lshr {x : Int64} {y : Int32} (hd : decode M.2.1 pc = .ok (.lshr, 1)) (k : am_R E M (pc + 1) ls (.long (x >>> (y.toInt64 &&& 63)) :: st) h n n1 Q) : am_R E M pc ls (.int y :: .long x :: st) h n n1 Q := by
  intro p l e s m args below meth c g n0 Z H locs lsc Rm C hR hP hS hn hl hq
  exact lv_lshr C.1 C.2.1 hd rfl (k p l e s m args below meth c g n0 Z H locs lsc Rm C hR hP hS hn hl hq)
theorem am_lushr {x : Int64} {y : Int32} (hd : decode M.2.1 pc = .ok (.lushr, 1)) (k : am_R E M (pc + 1) ls (.long ((x.toUInt64 >>> (y.toInt64.toUInt64 &&& Int64.toUInt64 63)).toInt64) :: st) h n n1 Q) : am_R E M pc ls (.int y :: .long x :: st) h n n1 Q := by
  intro p l e s m args below meth c g n0 Z H locs lsc Rm C hR hP hS hn hl hq
  exact lv_lushr C.1 C.2.1 hd rfl (k p l e s m args below meth c g n0 Z H locs lsc Rm C hR hP hS hn hl hq)
theorem am_lcmp {x y : Int64} (hd : decode M.2.1 pc = .ok (.lcmp, 1)) (k : am_R E M (pc + 1) ls (.int (lg_cmp x y) :: st) h n n1 Q) : am_R E M pc ls (.long y :: .long x :: st) h n n1 Q := by
  intro p l e s m args below meth c g n0 Z H locs lsc Rm C hR hP hS hn hl hq
  exact W.lcmp C.1 C.2.1 hd (k p l e s m args below meth c g n0 Z H locs lsc Rm C hR hP hS hn hl hq)
theorem am_i2l {x : Int32} (hd : decode M.2.1 pc = .ok (.i2l, 1)) (k : am_R E M (pc + 1) ls (.long x.toInt64 :: st) h n n1 Q) : am_R E M pc ls (.int x :: st) h n n1 Q := by
  intro p l e s m args below meth c g n0 Z H locs lsc Rm C hR hP hS hn hl hq
  exact lv_i2l C.1 C.2.1 hd rfl (k p l e s m args below meth c g n0 Z H locs lsc Rm C hR hP hS hn hl hq)
theorem am_l2i {x : Int64} (hd : decode M.2.1 pc = .ok (.l2i, 1)) (k : am_R E M (pc + 1) ls (.int x.toInt32 :: st) h n n1 Q) : am_R E M pc ls (.long x :: st) h n n1 Q := by
  intro p l e s m args below meth c g n0 Z H locs lsc Rm C hR hP hS hn hl hq
  exact lv_l2i C.1 C.2.1 hd rfl (k p l e s m args below meth c g n0 Z H locs lsc Rm C hR hP hS hn hl hq)
theorem am_i2c {x : Int32} (hd : decode M.2.1 pc = .ok (.i2c, 1)) (k : am_R E M (pc + 1) ls (.int (x.toUInt32 % 65536).toInt32 :: st) h n n1 Q) : am_R E M pc ls (.int x :: st) h n n1 Q := by
  intro p l e s m args below meth c g n0 Z H locs lsc Rm C hR hP hS hn hl hq
  exact lv_i2c C.1 C.2.1 hd rfl (k p l e s m args below meth c g n0 Z H locs lsc Rm C hR hP hS hn hl hq)
theorem am_iconst {z : Int} (v : Int32) (hv : Int32.ofInt z = v) (hd : decode M.2.1 pc = .ok (.iconst z, 1)) (k : am_R E M (pc + 1) ls (.int v :: st) h n n1 Q) : am_R E M pc ls st h n n1 Q := by
  intro p l e s m args below meth c g n0 Z H locs lsc Rm C hR hP hS hn hl hq
  exact lv_iconst C.1 C.2.1 hd hv (k p l e s m args below meth c g n0 Z H locs lsc Rm C hR hP hS hn hl hq)
theorem am_bipush {z : Int} (v : Int32) (hv : (Int8.ofInt z).toInt32 = v) (hd : decode M.2.1 pc = .ok (.bipush z, 2)) (k : am_R E M (pc + 2) ls (.int v :: st) h n n1 Q) : am_R E M pc ls st h n n1 Q := by
  intro p l e s m args below meth c g n0 Z H locs lsc Rm C hR hP hS hn hl hq
  exact lv_bipush C.1 C.2.1 hd hv (k p l e s m args below meth c g n0 Z H locs lsc Rm C hR hP hS hn hl hq)
theorem am_sipush {z : Int} (v : Int32) (hv : (Int16.ofInt z).toInt32 = v) (hd : decode M.2.1 pc = .ok (.sipush z, 3)) (k : am_R E M (pc + 3) ls (.int v :: st) h n n1 Q) : am_R E M pc ls st h n n1 Q := by
  intro p l e s m args below meth c g n0 Z H locs lsc Rm C hR hP hS hn hl hq
  exact lv_sipush C.1 C.2.1 hd hv (k p l e s m args below meth c g n0 Z H locs lsc Rm C hR hP hS hn hl hq)
theorem am_lconst {z : Fin 2} (v : Int64) (hv : Int64.ofNat (z : Nat) = v) (hd : decode M.2.1 pc = .ok (.lconst z, 1)) (k : am_R E M (pc + 1) ls (.long v :: st) h n n1 Q) : am_R E M pc ls st h n n1 Q := by
  intro p l e s m args below meth c g n0 Z H locs lsc Rm C hR hP hS hn hl hq
  exact lv_lconst C.1 C.2.1 hd hv (k p l e s m args below meth c g n0 Z H locs lsc Rm C hR hP hS hn hl hq)
theorem am_ldc {i : Nat} (v : Int32) (hc : Cond.constant M.1.cls i v ∈ am_TB) (hd : decode M.2.1 pc = .ok (.ldc i, 2)) (k : am_R E M (pc + 2) ls (.int v :: st) h n n1 Q) : am_R E M pc ls st h n n1 Q := by
  intro p l e s m args below meth c g n0 Z H locs lsc Rm C hR hP hS hn hl hq
  exact lv_ldc C.1 C.2.1 C.2.2.2.2.1 (C.2.2.2.2.2.1 _ hc) hd (k p l e s m args below meth c g n0 Z H locs lsc Rm C hR hP hS hn hl hq)
theorem am_ldcw {i : Nat} (v : Int32) (hc : Cond.constant M.1.cls i v ∈ am_TB) (hd : decode M.2.1 pc = .ok (.ldc_w i, 3)) (k : am_R E M (pc + 3) ls (.int v :: st) h n n1 Q) : am_R E M pc ls st h n n1 Q := by
  intro p l e s m args below meth c g n0 Z H locs lsc Rm C hR hP hS hn hl hq
  exact lv_ldcw C.1 C.2.1 C.2.2.2.2.1 (C.2.2.2.2.2.1 _ hc) hd (k p l e s m args below meth c g n0 Z H locs lsc Rm C hR hP hS hn hl hq)
theorem am_ldc2 {i : Nat} (v : Int64) (hc : Cond.constantLong M.1.cls i v ∈ am_TB) (hd : decode M.2.1 pc = .ok (.ldc2_w i, 3)) (k : am_R E M (pc + 3) ls (.long v :: st) h n n1 Q) : am_R E M pc ls st h n n1 Q := by
  intro p l e s m args below meth c g n0 Z H locs lsc Rm C hR hP hS hn hl hq
  exact lv_ldc2 C.1 C.2.1 C.2.2.2.2.1 (C.2.2.2.2.2.1 _ hc) hd (k p l e s m args below meth c g n0 Z H locs lsc Rm C hR hP hS hn hl hq)
theorem am_dup {v : Value} (hv : v.category = 1) (hd : decode M.2.1 pc = .ok (.dup, 1)) (k : am_R E M (pc + 1) ls (v :: v :: st) h n n1 Q) : am_R E M pc ls (v :: st) h n n1 Q := by
  intro p l e s m args below meth c g n0 Z H locs lsc Rm C hR hP hS hn hl hq
  exact lv_dup C.1 C.2.1 hd ((am_cat g v).trans hv) (k p l e s m args below meth c g n0 Z H locs lsc Rm C hR hP hS hn hl hq)
theorem am_pop {v : Value} (hv : v.category = 1) (hd : decode M.2.1 pc = .ok (.pop, 1)) (k : am_R E M (pc + 1) ls st h n n1 Q) : am_R E M pc ls (v :: st) h n n1 Q := by
  intro p l e s m args below meth c g n0 Z H locs lsc Rm C hR hP hS hn hl hq
  exact lv_pop C.1 C.2.1 hd ((am_cat g v).trans hv) (k p l e s m args below meth c g n0 Z H locs lsc Rm C hR hP hS hn hl hq)
theorem am_dup2 {v w : Value} (hv : v.category = 1) (hw : w.category = 1) (hd : decode M.2.1 pc = .ok (.dup2, 1)) (k : am_R E M (pc + 1) ls (v :: w :: v :: w :: st) h n n1 Q) : am_R E M pc ls (v :: w :: st) h n n1 Q := by
  intro p l e s m args below meth c g n0 Z H locs lsc Rm C hR hP hS hn hl hq
  exact lv_dup2_11 C.1 C.2.1 hd ((am_cat g v).trans hv) ((am_cat g w).trans hw) (k p l e s m args below meth c g n0 Z H locs lsc Rm C hR hP hS hn hl hq)
theorem am_iload_n {z : Fin 4} {i : Nat} {x : Int32} (hi : (z : Nat) = i) (hv : ls[i]? = some (some (.int x))) (hd : decode M.2.1 pc = .ok (.iload_n z, 1)) (k : am_R E M (pc + 1) ls (.int x :: st) h n n1 Q) : am_R E M pc ls st h n n1 Q := by
  intro p l e s m args below meth c g n0 Z H locs lsc Rm C hR hP hS hn hl hq
  exact lv_iload_n C.1 C.2.1 hd hi (hl.2.2.2 _ _ hv) (k p l e s m args below meth c g n0 Z H locs lsc Rm C hR hP hS hn hl hq)
theorem am_iload {i : Nat} {x : Int32} (hv : ls[i]? = some (some (.int x))) (hd : decode M.2.1 pc = .ok (.iload i, 2)) (k : am_R E M (pc + 2) ls (.int x :: st) h n n1 Q) : am_R E M pc ls st h n n1 Q := by
  intro p l e s m args below meth c g n0 Z H locs lsc Rm C hR hP hS hn hl hq
  exact lv_iload C.1 C.2.1 hd (hl.2.2.2 _ _ hv) (k p l e s m args below meth c g n0 Z H locs lsc Rm C hR hP hS hn hl hq)
theorem am_lload_n {z : Fin 4} {i : Nat} {x : Int64} (hi : (z : Nat) = i) (hv : ls[i]? = some (some (.long x))) (hd : decode M.2.1 pc = .ok (.lload_n z, 1)) (k : am_R E M (pc + 1) ls (.long x :: st) h n n1 Q) : am_R E M pc ls st h n n1 Q := by
  intro p l e s m args below meth c g n0 Z H locs lsc Rm C hR hP hS hn hl hq
  exact lv_lload_n C.1 C.2.1 hd hi (hl.2.2.2 _ _ hv) (k p l e s m args below meth c g n0 Z H locs lsc Rm C hR hP hS hn hl hq)
theorem am_lload {i : Nat} {x : Int64} (hv : ls[i]? = some (some (.long x))) (hd : decode M.2.1 pc = .ok (.lload i, 2)) (k : am_R E M (pc + 2) ls (.long x :: st) h n n1 Q) : am_R E M pc ls st h n n1 Q := by
  intro p l e s m args below meth c g n0 Z H locs lsc Rm C hR hP hS hn hl hq
  exact lv_lload C.1 C.2.1 hd (hl.2.2.2 _ _ hv) (k p l e s m args below meth c g n0 Z H locs lsc Rm C hR hP hS hn hl hq)
theorem am_aload_n {z : Fin 4} {i : Nat} {x : Nat} (hi : (z : Nat) = i) (hv : ls[i]? = some (some (.ref x))) (hd : decode M.2.1 pc = .ok (.aload_n z, 1)) (k : am_R E M (pc + 1) ls (.ref x :: st) h n n1 Q) : am_R E M pc ls st h n n1 Q := by
  intro p l e s m args below meth c g n0 Z H locs lsc Rm C hR hP hS hn hl hq
  exact lv_aload_n C.1 C.2.1 hd hi (hl.2.2.2 _ _ hv) (k p l e s m args below meth c g n0 Z H locs lsc Rm C hR hP hS hn hl hq)
theorem am_aload {i : Nat} {x : Nat} (hv : ls[i]? = some (some (.ref x))) (hd : decode M.2.1 pc = .ok (.aload i, 2)) (k : am_R E M (pc + 2) ls (.ref x :: st) h n n1 Q) : am_R E M pc ls st h n n1 Q := by
  intro p l e s m args below meth c g n0 Z H locs lsc Rm C hR hP hS hn hl hq
  exact lv_aload C.1 C.2.1 hd (hl.2.2.2 _ _ hv) (k p l e s m args below meth c g n0 Z H locs lsc Rm C hR hP hS hn hl hq)
theorem am_istore_n {z : Fin 4} {i : Nat} {x : Int32} {ls' : List (Option Value)} (hz : (z : Nat) = i) (hi : i < M.2.2.1) (ho : am_o1 ls i = true) (hv : ls.set i (some (.int x)) = ls') (hd : decode M.2.1 pc = .ok (.istore_n z, 1)) (k : am_R E M (pc + 1) ls' st h n n1 Q) : am_R E M pc ls (.int x :: st) h n n1 Q := by
  intro p l e s m args below meth c g n0 Z H locs lsc Rm C hR hP hS hn hl hq
  exact lv_istore_n C.1 C.2.1 hd hz hl.has hi rfl (fun ls2 h2 => (k p l e s m args below meth c g n0 Z H locs ls2 Rm C hR hP hS hn (hv ▸ hl.st1 hi ho h2) hq))
theorem am_istore {i : Nat} {x : Int32} {ls' : List (Option Value)} (hi : i < M.2.2.1) (ho : am_o1 ls i = true) (hv : ls.set i (some (.int x)) = ls') (hd : decode M.2.1 pc = .ok (.istore i, 2)) (k : am_R E M (pc + 2) ls' st h n n1 Q) : am_R E M pc ls (.int x :: st) h n n1 Q := by
  intro p l e s m args below meth c g n0 Z H locs lsc Rm C hR hP hS hn hl hq
  exact lv_istore C.1 C.2.1 hd hl.has hi rfl (fun ls2 h2 => (k p l e s m args below meth c g n0 Z H locs ls2 Rm C hR hP hS hn (hv ▸ hl.st1 hi ho h2) hq))
theorem am_astore_n {z : Fin 4} {i : Nat} {x : Nat} {ls' : List (Option Value)} (hz : (z : Nat) = i) (hi : i < M.2.2.1) (ho : am_o1 ls i = true) (hv : ls.set i (some (.ref x)) = ls') (hd : decode M.2.1 pc = .ok (.astore_n z, 1)) (k : am_R E M (pc + 1) ls' st h n n1 Q) : am_R E M pc ls (.ref x :: st) h n n1 Q := by
  intro p l e s m args below meth c g n0 Z H locs lsc Rm C hR hP hS hn hl hq
  exact lv_astore_n C.1 C.2.1 hd hz hl.has hi rfl (fun ls2 h2 => (k p l e s m args below meth c g n0 Z H locs ls2 Rm C hR hP hS hn (hv ▸ hl.st1 hi ho h2) hq))
theorem am_astore {i : Nat} {x : Nat} {ls' : List (Option Value)} (hi : i < M.2.2.1) (ho : am_o1 ls i = true) (hv : ls.set i (some (.ref x)) = ls') (hd : decode M.2.1 pc = .ok (.astore i, 2)) (k : am_R E M (pc + 2) ls' st h n n1 Q) : am_R E M pc ls (.ref x :: st) h n n1 Q := by
  intro p l e s m args below meth c g n0 Z H locs lsc Rm C hR hP hS hn hl hq
  exact lv_astore C.1 C.2.1 hd hl.has hi rfl (fun ls2 h2 => (k p l e s m args below meth c g n0 Z H locs ls2 Rm C hR hP hS hn (hv ▸ hl.st1 hi ho h2) hq))
theorem am_lstore_n {z : Fin 4} {i : Nat} {x : Int64} {ls' : List (Option Value)} (hz : (z : Nat) = i) (hi : i + 1 < M.2.2.1) (ho : am_o1 ls i = true) (hv : (ls.set i (some (.long x))).set (i + 1) none = ls') (hd : decode M.2.1 pc = .ok (.lstore_n z, 1)) (k : am_R E M (pc + 1) ls' st h n n1 Q) : am_R E M pc ls (.long x :: st) h n n1 Q := by
  intro p l e s m args below meth c g n0 Z H locs lsc Rm C hR hP hS hn hl hq
  exact lv_lstore_n C.1 C.2.1 hd hz hl.has hi rfl (fun ls2 h2 => (k p l e s m args below meth c g n0 Z H locs ls2 Rm C hR hP hS hn (hv ▸ hl.st2 hi ho h2) hq))
theorem am_lstore {i : Nat} {x : Int64} {ls' : List (Option Value)} (hi : i + 1 < M.2.2.1) (ho : am_o1 ls i = true) (hv : (ls.set i (some (.long x))).set (i + 1) none = ls') (hd : decode M.2.1 pc = .ok (.lstore i, 2)) (k : am_R E M (pc + 2) ls' st h n n1 Q) : am_R E M pc ls (.long x :: st) h n n1 Q := by
  intro p l e s m args below meth c g n0 Z H locs lsc Rm C hR hP hS hn hl hq
  exact lv_lstore C.1 C.2.1 hd hl.has hi rfl (fun ls2 h2 => (k p l e s m args below meth c g n0 Z H locs ls2 Rm C hR hP hS hn (hv ▸ hl.st2 hi ho h2) hq))
theorem am_iinc {z : Int} {i : Nat} {x : Int32} {ls' : List (Option Value)} (hi : i < M.2.2.1) (hx : ls[i]? = some (some (.int x))) (ho : am_o1 ls i = true) (hv : ls.set i (some (.int (x + Int32.ofInt z))) = ls') (hd : decode M.2.1 pc = .ok (.iinc i z, 3)) (k : am_R E M (pc + 3) ls' st h n n1 Q) : am_R E M pc ls st h n n1 Q := by
  intro p l e s m args below meth c g n0 Z H locs lsc Rm C hR hP hS hn hl hq
  obtain ⟨j, hj⟩ := List.getElem?_of_mem (am_l_mem.mpr ⟨_, hx, rfl⟩ : (i, Value.int x) ∈ am_l g ls)
  exact lv_iinc C.1 C.2.1 hd hl.has hj rfl hi rfl (fun ls2 h2 => (k p l e s m args below meth c g n0 Z H locs ls2 Rm C hR hP hS hn (hv ▸ hl.st1 (v := .int (x + Int32.ofInt z)) hi ho h2) hq))
theorem am_if_eq {x : Int32} {off : Int} {tgt : Nat} (hd : decode M.2.1 pc = .ok (.ifCond .eq off, 3)) (ht : (pc : Int) + off = (tgt : Int)) (kt : x = 0 → am_R E M tgt ls st h n n1 Q) (kf : ¬ x = 0 → am_R E M (pc + 3) ls st h n n1 Q) : am_R E M pc ls (.int x :: st) h n n1 Q := by
  intro p l e s m args below meth c g n0 Z H locs lsc Rm C hR hP hS hn hl hq
  exact lv_if_eq C.1 C.2.1 hd ht (fun hh => (kt hh p l e s m args below meth c g n0 Z H locs lsc Rm C hR hP hS hn hl hq)) (fun hh => (kf hh p l e s m args below meth c g n0 Z H locs lsc Rm C hR hP hS hn hl hq))
theorem am_if_ne {x : Int32} {off : Int} {tgt : Nat} (hd : decode M.2.1 pc = .ok (.ifCond .ne off, 3)) (ht : (pc : Int) + off = (tgt : Int)) (kt : ¬ x = 0 → am_R E M tgt ls st h n n1 Q) (kf : x = 0 → am_R E M (pc + 3) ls st h n n1 Q) : am_R E M pc ls (.int x :: st) h n n1 Q := by
  intro p l e s m args below meth c g n0 Z H locs lsc Rm C hR hP hS hn hl hq
  exact lv_if_ne C.1 C.2.1 hd ht (fun hh => (kt hh p l e s m args below meth c g n0 Z H locs lsc Rm C hR hP hS hn hl hq)) (fun hh => (kf hh p l e s m args below meth c g n0 Z H locs lsc Rm C hR hP hS hn hl hq))
theorem am_if_lt {x : Int32} {off : Int} {tgt : Nat} (hd : decode M.2.1 pc = .ok (.ifCond .lt off, 3)) (ht : (pc : Int) + off = (tgt : Int)) (kt : x < 0 → am_R E M tgt ls st h n n1 Q) (kf : ¬ x < 0 → am_R E M (pc + 3) ls st h n n1 Q) : am_R E M pc ls (.int x :: st) h n n1 Q := by
  intro p l e s m args below meth c g n0 Z H locs lsc Rm C hR hP hS hn hl hq
  exact lv_if_lt C.1 C.2.1 hd ht (fun hh => (kt hh p l e s m args below meth c g n0 Z H locs lsc Rm C hR hP hS hn hl hq)) (fun hh => (kf hh p l e s m args below meth c g n0 Z H locs lsc Rm C hR hP hS hn hl hq))
theorem am_if_ge {x : Int32} {off : Int} {tgt : Nat} (hd : decode M.2.1 pc = .ok (.ifCond .ge off, 3)) (ht : (pc : Int) + off = (tgt : Int)) (kt : 0 ≤ x → am_R E M tgt ls st h n n1 Q) (kf : ¬ 0 ≤ x → am_R E M (pc + 3) ls st h n n1 Q) : am_R E M pc ls (.int x :: st) h n n1 Q := by
  intro p l e s m args below meth c g n0 Z H locs lsc Rm C hR hP hS hn hl hq
  exact lv_if_ge C.1 C.2.1 hd ht (fun hh => (kt hh p l e s m args below meth c g n0 Z H locs lsc Rm C hR hP hS hn hl hq)) (fun hh => (kf hh p l e s m args below meth c g n0 Z H locs lsc Rm C hR hP hS hn hl hq))
theorem am_if_gt {x : Int32} {off : Int} {tgt : Nat} (hd : decode M.2.1 pc = .ok (.ifCond .gt off, 3)) (ht : (pc : Int) + off = (tgt : Int)) (kt : 0 < x → am_R E M tgt ls st h n n1 Q) (kf : ¬ 0 < x → am_R E M (pc + 3) ls st h n n1 Q) : am_R E M pc ls (.int x :: st) h n n1 Q := by
  intro p l e s m args below meth c g n0 Z H locs lsc Rm C hR hP hS hn hl hq
  exact lv_if_gt C.1 C.2.1 hd ht (fun hh => (kt hh p l e s m args below meth c g n0 Z H locs lsc Rm C hR hP hS hn hl hq)) (fun hh => (kf hh p l e s m args below meth c g n0 Z H locs lsc Rm C hR hP hS hn hl hq))
theorem am_if_le {x : Int32} {off : Int} {tgt : Nat} (hd : decode M.2.1 pc = .ok (.ifCond .le off, 3)) (ht : (pc : Int) + off = (tgt : Int)) (kt : x ≤ 0 → am_R E M tgt ls st h n n1 Q) (kf : ¬ x ≤ 0 → am_R E M (pc + 3) ls st h n n1 Q) : am_R E M pc ls (.int x :: st) h n n1 Q := by
  intro p l e s m args below meth c g n0 Z H locs lsc Rm C hR hP hS hn hl hq
  exact lv_if_le C.1 C.2.1 hd ht (fun hh => (kt hh p l e s m args below meth c g n0 Z H locs lsc Rm C hR hP hS hn hl hq)) (fun hh => (kf hh p l e s m args below meth c g n0 Z H locs lsc Rm C hR hP hS hn hl hq))
theorem am_icmp_eq {x y : Int32} {off : Int} {tgt : Nat} (hd : decode M.2.1 pc = .ok (.if_icmp .eq off, 3)) (ht : (pc : Int) + off = (tgt : Int)) (kt : x = y → am_R E M tgt ls st h n n1 Q) (kf : ¬ x = y → am_R E M (pc + 3) ls st h n n1 Q) : am_R E M pc ls (.int y :: .int x :: st) h n n1 Q := by
  intro p l e s m args below meth c g n0 Z H locs lsc Rm C hR hP hS hn hl hq
  exact lv_icmp_eq C.1 C.2.1 hd ht (fun hh => (kt hh p l e s m args below meth c g n0 Z H locs lsc Rm C hR hP hS hn hl hq)) (fun hh => (kf hh p l e s m args below meth c g n0 Z H locs lsc Rm C hR hP hS hn hl hq))
theorem am_icmp_ne {x y : Int32} {off : Int} {tgt : Nat} (hd : decode M.2.1 pc = .ok (.if_icmp .ne off, 3)) (ht : (pc : Int) + off = (tgt : Int)) (kt : ¬ x = y → am_R E M tgt ls st h n n1 Q) (kf : x = y → am_R E M (pc + 3) ls st h n n1 Q) : am_R E M pc ls (.int y :: .int x :: st) h n n1 Q := by
  intro p l e s m args below meth c g n0 Z H locs lsc Rm C hR hP hS hn hl hq
  exact lv_icmp_ne C.1 C.2.1 hd ht (fun hh => (kt hh p l e s m args below meth c g n0 Z H locs lsc Rm C hR hP hS hn hl hq)) (fun hh => (kf hh p l e s m args below meth c g n0 Z H locs lsc Rm C hR hP hS hn hl hq))
theorem am_icmp_lt {x y : Int32} {off : Int} {tgt : Nat} (hd : decode M.2.1 pc = .ok (.if_icmp .lt off, 3)) (ht : (pc : Int) + off = (tgt : Int)) (kt : x < y → am_R E M tgt ls st h n n1 Q) (kf : ¬ x < y → am_R E M (pc + 3) ls st h n n1 Q) : am_R E M pc ls (.int y :: .int x :: st) h n n1 Q := by
  intro p l e s m args below meth c g n0 Z H locs lsc Rm C hR hP hS hn hl hq
  exact lv_icmp_lt C.1 C.2.1 hd ht (fun hh => (kt hh p l e s m args below meth c g n0 Z H locs lsc Rm C hR hP hS hn hl hq)) (fun hh => (kf hh p l e s m args below meth c g n0 Z H locs lsc Rm C hR hP hS hn hl hq))
theorem am_icmp_ge {x y : Int32} {off : Int} {tgt : Nat} (hd : decode M.2.1 pc = .ok (.if_icmp .ge off, 3)) (ht : (pc : Int) + off = (tgt : Int)) (kt : y ≤ x → am_R E M tgt ls st h n n1 Q) (kf : ¬ y ≤ x → am_R E M (pc + 3) ls st h n n1 Q) : am_R E M pc ls (.int y :: .int x :: st) h n n1 Q := by
  intro p l e s m args below meth c g n0 Z H locs lsc Rm C hR hP hS hn hl hq
  exact lv_icmp_ge C.1 C.2.1 hd ht (fun hh => (kt hh p l e s m args below meth c g n0 Z H locs lsc Rm C hR hP hS hn hl hq)) (fun hh => (kf hh p l e s m args below meth c g n0 Z H locs lsc Rm C hR hP hS hn hl hq))
theorem am_icmp_gt {x y : Int32} {off : Int} {tgt : Nat} (hd : decode M.2.1 pc = .ok (.if_icmp .gt off, 3)) (ht : (pc : Int) + off = (tgt : Int)) (kt : y < x → am_R E M tgt ls st h n n1 Q) (kf : ¬ y < x → am_R E M (pc + 3) ls st h n n1 Q) : am_R E M pc ls (.int y :: .int x :: st) h n n1 Q := by
  intro p l e s m args below meth c g n0 Z H locs lsc Rm C hR hP hS hn hl hq
  exact lv_icmp_gt C.1 C.2.1 hd ht (fun hh => (kt hh p l e s m args below meth c g n0 Z H locs lsc Rm C hR hP hS hn hl hq)) (fun hh => (kf hh p l e s m args below meth c g n0 Z H locs lsc Rm C hR hP hS hn hl hq))
theorem am_icmp_le {x y : Int32} {off : Int} {tgt : Nat} (hd : decode M.2.1 pc = .ok (.if_icmp .le off, 3)) (ht : (pc : Int) + off = (tgt : Int)) (kt : x ≤ y → am_R E M tgt ls st h n n1 Q) (kf : ¬ x ≤ y → am_R E M (pc + 3) ls st h n n1 Q) : am_R E M pc ls (.int y :: .int x :: st) h n n1 Q := by
  intro p l e s m args below meth c g n0 Z H locs lsc Rm C hR hP hS hn hl hq
  exact lv_icmp_le C.1 C.2.1 hd ht (fun hh => (kt hh p l e s m args below meth c g n0 Z H locs lsc Rm C hR hP hS hn hl hq)) (fun hh => (kf hh p l e s m args below meth c g n0 Z H locs lsc Rm C hR hP hS hn hl hq))
theorem am_goto {off : Int} {tgt : Nat} (hd : decode M.2.1 pc = .ok (.goto off, 3)) (ht : (pc : Int) + off = (tgt : Int)) (k : am_R E M tgt ls st h n n1 Q) : am_R E M pc ls st h n n1 Q := by
  intro p l e s m args below meth c g n0 Z H locs lsc Rm C hR hP hS hn hl hq
  exact lv_goto C.1 C.2.1 hd ht (k p l e s m args below meth c g n0 Z H locs lsc Rm C hR hP hS hn hl hq)
theorem am_tabIn {dflt lo hi : Int} {offs : Array Int} {len : Nat} {x : Int32} {off : Int} {tgt : Nat} (hd : decode M.2.1 pc = .ok (.tableswitch dflt lo hi offs, len)) (h1 : ¬ x.toInt < lo) (h2 : ¬ hi < x.toInt) (ho : offs[(x.toInt - lo).toNat]? = some off) (ht : (pc : Int) + off = (tgt : Int)) (k : am_R E M tgt ls st h n n1 Q) : am_R E M pc ls (.int x :: st) h n n1 Q := by
  intro p l e s m args below meth c g n0 Z H locs lsc Rm C hR hP hS hn hl hq
  exact lv_tableIn C.1 C.2.1 hd h1 h2 ho ht (k p l e s m args below meth c g n0 Z H locs lsc Rm C hR hP hS hn hl hq)
theorem am_tabOut {dflt lo hi : Int} {offs : Array Int} {len : Nat} {x : Int32} {tgt : Nat} (hd : decode M.2.1 pc = .ok (.tableswitch dflt lo hi offs, len)) (h1 : x.toInt < lo ∨ hi < x.toInt) (ht : (pc : Int) + dflt = (tgt : Int)) (k : am_R E M tgt ls st h n n1 Q) : am_R E M pc ls (.int x :: st) h n n1 Q := by
  intro p l e s m args below meth c g n0 Z H locs lsc Rm C hR hP hS hn hl hq
  exact lv_tableOut C.1 C.2.1 hd h1 ht (k p l e s m args below meth c g n0 Z H locs lsc Rm C hR hP hS hn hl hq)
theorem am_look {dflt : Int} {ps : Array (Int × Int)} {len : Nat} {x : Int32} {off : Int} {tgt : Nat} (hd : decode M.2.1 pc = .ok (.lookupswitch dflt ps, len)) (hp : (ps.toList.zip (ps.toList.drop 1)).all (fun (a, next) => a.1 < next.1) = true) (ho : Op.lookupswitch.offset ps.toList dflt x.toInt = off) (ht : (pc : Int) + off = (tgt : Int)) (k : am_R E M tgt ls st h n n1 Q) : am_R E M pc ls (.int x :: st) h n n1 Q := by
  intro p l e s m args below meth c g n0 Z H locs lsc Rm C hR hP hS hn hl hq
  exact lv_lookup C.1 C.2.1 hd hp ho ht (k p l e s m args below meth c g n0 Z H locs lsc Rm C hR hP hS hn hl hq)
theorem am_iret {v : Int32} {ty : FieldType} (hd : decode M.2.1 pc = .ok (.ireturn, 1)) (hr : M.2.2.2.1 = some ty) (hw : narrow ty (.int v) = .int v) (k : Q (some (.int v)) h) : am_R E M pc ls [.int v] h n n Q := by
  intro p l e s m args below meth c g n0 Z H locs lsc Rm C hR hP hS hn hl hq
  exact hq pc (some (.int v)) h H locs lsc k hP hS ⟨hd, ty, hr, hw⟩
theorem am_lret {v : Int64} (hd : decode M.2.1 pc = .ok (.lreturn, 1)) (hr : M.2.2.2.1 = some .long) (k : Q (some (.long v)) h) : am_R E M pc ls [.long v] h n n Q := by
  intro p l e s m args below meth c g n0 Z H locs lsc Rm C hR hP hS hn hl hq
  exact hq pc (some (.long v)) h H locs lsc k hP hS ⟨hd, hr⟩
theorem am_aret {v : Nat} {rt : FieldType} (hd : decode M.2.1 pc = .ok (.areturn, 1)) (hr : M.2.2.2.1 = some rt) (hw : (∃ n, rt = .object n) ∨ ∃ t, rt = .array t) (k : Q (some (.ref v)) h) : am_R E M pc ls [.ref v] h n n Q := by
  intro p l e s m args below meth c g n0 Z H locs lsc Rm C hR hP hS hn hl hq
  exact hq pc (some (.ref v)) h H locs lsc k hP hS ⟨hd, rt, hr, hw⟩
theorem am_vret (hd : decode M.2.1 pc = .ok (.return_, 1)) (hr : M.2.2.2.1 = none) (k : Q none h) : am_R E M pc ls [] h n n Q := by
  intro p l e s m args below meth c g n0 Z H locs lsc Rm C hR hP hS hn hl hq
  exact hq pc none h H locs lsc k hP hS ⟨hd, hr⟩
theorem am_R.mono {Q' : Option Value → am_H → Prop} (k : am_R E M pc ls st h n n1 Q) (hQ : ∀ r h', Q r h' → Q' r h') : am_R E M pc ls st h n n1 Q' := by
  intro p l e s m args below meth c g n0 Z H locs lsc Rm C hR hP hS hn hl hq
  exact k p l e s m args below meth c g n0 Z H locs lsc Rm C hR hP hS hn hl (fun pc' r h' H' locs' lsc' q => hq pc' r h' H' locs' lsc' (hQ r h' q))
theorem am_R.heq {h2 : am_H} (k : am_R E M pc ls st h2 n n1 Q) (hs : ∀ j, j < n → ∀ i, i < am_z j → h2.1 j i = h.1 j i ∧ h2.2.1 j i = h.2.1 j i ∧ h2.2.2 j i = h.2.2 j i) : am_R E M pc ls st h n n1 Q := by
  intro p l e s m args below meth c g n0 Z H locs lsc Rm C hR hP hS hn hl hq
  exact k p l e s m args below meth c g n0 Z H locs lsc Rm C hR (hP.same hs) hS hn hl hq
end AM

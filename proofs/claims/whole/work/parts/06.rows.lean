/-! ROWS OF THE JUDGEMENT: one an instruction -/
section GR
variable {d RC RS nL cells slots pc q t : Nat} {y : MethodName} {cc : ByteArray} {ret : Option FieldType} {Q : Option Value → Hp → Prop} {lv st : List Value} {h : Hp}
theorem g_iadd {a b : Int32} (hd : gd cc pc .iadd 1 q)  (k : gY d RC RS y cc nL ret cells slots Q q lv (.int (a + b) :: st) h) : gY d RC RS y cc nL ret cells slots Q pc lv (.int b :: .int a :: st) h := by
  obtain ⟨hd, rfl⟩ := hd
  intro p l e s m args below meth c G C ls H locs hl hw hS
  obtain ⟨hx, hb, -⟩ := id C
  exact lv_iadd hx hb hd  (k p l e s m args below meth c G C ls H locs hl hw hS)
theorem g_isub {a b : Int32} (hd : gd cc pc .isub 1 q)  (k : gY d RC RS y cc nL ret cells slots Q q lv (.int (a - b) :: st) h) : gY d RC RS y cc nL ret cells slots Q pc lv (.int b :: .int a :: st) h := by
  obtain ⟨hd, rfl⟩ := hd
  intro p l e s m args below meth c G C ls H locs hl hw hS
  obtain ⟨hx, hb, -⟩ := id C
  exact lv_isub hx hb hd  (k p l e s m args below meth c G C ls H locs hl hw hS)
theorem g_imul {a b : Int32} (hd : gd cc pc .imul 1 q)  (k : gY d RC RS y cc nL ret cells slots Q q lv (.int (a * b) :: st) h) : gY d RC RS y cc nL ret cells slots Q pc lv (.int b :: .int a :: st) h := by
  obtain ⟨hd, rfl⟩ := hd
  intro p l e s m args below meth c G C ls H locs hl hw hS
  obtain ⟨hx, hb, -⟩ := id C
  exact lv_imul hx hb hd  (k p l e s m args below meth c G C ls H locs hl hw hS)
theorem g_iand {a b : Int32} (hd : gd cc pc .iand 1 q)  (k : gY d RC RS y cc nL ret cells slots Q q lv (.int (a &&& b) :: st) h) : gY d RC RS y cc nL ret cells slots Q pc lv (.int b :: .int a :: st) h := by
  obtain ⟨hd, rfl⟩ := hd
  intro p l e s m args below meth c G C ls H locs hl hw hS
  obtain ⟨hx, hb, -⟩ := id C
  exact lv_iand hx hb hd  (k p l e s m args below meth c G C ls H locs hl hw hS)
theorem g_ior {a b : Int32} (hd : gd cc pc .ior 1 q)  (k : gY d RC RS y cc nL ret cells slots Q q lv (.int (a ||| b) :: st) h) : gY d RC RS y cc nL ret cells slots Q pc lv (.int b :: .int a :: st) h := by
  obtain ⟨hd, rfl⟩ := hd
  intro p l e s m args below meth c G C ls H locs hl hw hS
  obtain ⟨hx, hb, -⟩ := id C
  exact lv_ior hx hb hd  (k p l e s m args below meth c G C ls H locs hl hw hS)
theorem g_ixor {a b : Int32} (hd : gd cc pc .ixor 1 q)  (k : gY d RC RS y cc nL ret cells slots Q q lv (.int (a ^^^ b) :: st) h) : gY d RC RS y cc nL ret cells slots Q pc lv (.int b :: .int a :: st) h := by
  obtain ⟨hd, rfl⟩ := hd
  intro p l e s m args below meth c G C ls H locs hl hw hS
  obtain ⟨hx, hb, -⟩ := id C
  exact lv_ixor hx hb hd  (k p l e s m args below meth c G C ls H locs hl hw hS)
theorem g_ishl {a b : Int32} (hd : gd cc pc .ishl 1 q)  (k : gY d RC RS y cc nL ret cells slots Q q lv (.int (a <<< (b &&& 31)) :: st) h) : gY d RC RS y cc nL ret cells slots Q pc lv (.int b :: .int a :: st) h := by
  obtain ⟨hd, rfl⟩ := hd
  intro p l e s m args below meth c G C ls H locs hl hw hS
  obtain ⟨hx, hb, -⟩ := id C
  exact lv_ishl hx hb hd  (k p l e s m args below meth c G C ls H locs hl hw hS)
theorem g_ishr {a b : Int32} (hd : gd cc pc .ishr 1 q)  (k : gY d RC RS y cc nL ret cells slots Q q lv (.int (a >>> (b &&& 31)) :: st) h) : gY d RC RS y cc nL ret cells slots Q pc lv (.int b :: .int a :: st) h := by
  obtain ⟨hd, rfl⟩ := hd
  intro p l e s m args below meth c G C ls H locs hl hw hS
  obtain ⟨hx, hb, -⟩ := id C
  exact lv_ishr hx hb hd  (k p l e s m args below meth c G C ls H locs hl hw hS)
theorem g_iushr {a b : Int32} (hd : gd cc pc .iushr 1 q)  (k : gY d RC RS y cc nL ret cells slots Q q lv (.int ((a.toUInt32 >>> (b.toUInt32 &&& Int32.toUInt32 31)).toInt32) :: st) h) : gY d RC RS y cc nL ret cells slots Q pc lv (.int b :: .int a :: st) h := by
  obtain ⟨hd, rfl⟩ := hd
  intro p l e s m args below meth c G C ls H locs hl hw hS
  obtain ⟨hx, hb, -⟩ := id C
  exact lv_iushr hx hb hd rfl (k p l e s m args below meth c G C ls H locs hl hw hS)
theorem g_irem {a b : Int32} (hd : gd cc pc .irem 1 q) (hne : ¬ b = 0) (k : gY d RC RS y cc nL ret cells slots Q q lv (.int (a - a / b * b) :: st) h) : gY d RC RS y cc nL ret cells slots Q pc lv (.int b :: .int a :: st) h := by
  obtain ⟨hd, rfl⟩ := hd
  intro p l e s m args below meth c G C ls H locs hl hw hS
  obtain ⟨hx, hb, -⟩ := id C
  exact lv_irem hx hb hd hne (k p l e s m args below meth c G C ls H locs hl hw hS)
theorem g_ladd {a b : Int64} (hd : gd cc pc .ladd 1 q)  (k : gY d RC RS y cc nL ret cells slots Q q lv (.long (a + b) :: st) h) : gY d RC RS y cc nL ret cells slots Q pc lv (.long b :: .long a :: st) h := by
  obtain ⟨hd, rfl⟩ := hd
  intro p l e s m args below meth c G C ls H locs hl hw hS
  obtain ⟨hx, hb, -⟩ := id C
  exact lv_ladd hx hb hd  (k p l e s m args below meth c G C ls H locs hl hw hS)
theorem g_lsub {a b : Int64} (hd : gd cc pc .lsub 1 q)  (k : gY d RC RS y cc nL ret cells slots Q q lv (.long (a - b) :: st) h) : gY d RC RS y cc nL ret cells slots Q pc lv (.long b :: .long a :: st) h := by
  obtain ⟨hd, rfl⟩ := hd
  intro p l e s m args below meth c G C ls H locs hl hw hS
  obtain ⟨hx, hb, -⟩ := id C
  exact lv_lsub hx hb hd  (k p l e s m args below meth c G C ls H locs hl hw hS)
theorem g_lmul {a b : Int64} (hd : gd cc pc .lmul 1 q)  (k : gY d RC RS y cc nL ret cells slots Q q lv (.long (a * b) :: st) h) : gY d RC RS y cc nL ret cells slots Q pc lv (.long b :: .long a :: st) h := by
  obtain ⟨hd, rfl⟩ := hd
  intro p l e s m args below meth c G C ls H locs hl hw hS
  obtain ⟨hx, hb, -⟩ := id C
  exact lv_lmul hx hb hd  (k p l e s m args below meth c G C ls H locs hl hw hS)
theorem g_ldiv {a b : Int64} (hd : gd cc pc .ldiv 1 q) (hne : ¬ b = 0) (k : gY d RC RS y cc nL ret cells slots Q q lv (.long (a / b) :: st) h) : gY d RC RS y cc nL ret cells slots Q pc lv (.long b :: .long a :: st) h := by
  obtain ⟨hd, rfl⟩ := hd
  intro p l e s m args below meth c G C ls H locs hl hw hS
  obtain ⟨hx, hb, -⟩ := id C
  exact lv_ldiv hx hb hd hne (k p l e s m args below meth c G C ls H locs hl hw hS)
theorem g_lrem {a b : Int64} (hd : gd cc pc .lrem 1 q) (hne : ¬ b = 0) (k : gY d RC RS y cc nL ret cells slots Q q lv (.long (a - a / b * b) :: st) h) : gY d RC RS y cc nL ret cells slots Q pc lv (.long b :: .long a :: st) h := by
  obtain ⟨hd, rfl⟩ := hd
  intro p l e s m args below meth c G C ls H locs hl hw hS
  obtain ⟨hx, hb, -⟩ := id C
  exact lv_lrem hx hb hd hne (k p l e s m args below meth c G C ls H locs hl hw hS)
theorem g_lneg {a : Int64} (hd : gd cc pc .lneg 1 q)  (k : gY d RC RS y cc nL ret cells slots Q q lv (.long (-a) :: st) h) : gY d RC RS y cc nL ret cells slots Q pc lv (.long a :: st) h := by
  obtain ⟨hd, rfl⟩ := hd
  intro p l e s m args below meth c G C ls H locs hl hw hS
  obtain ⟨hx, hb, -⟩ := id C
  exact lv_lneg hx hb hd  (k p l e s m args below meth c G C ls H locs hl hw hS)
theorem g_ineg {a : Int32} (hd : gd cc pc .ineg 1 q)  (k : gY d RC RS y cc nL ret cells slots Q q lv (.int (-a) :: st) h) : gY d RC RS y cc nL ret cells slots Q pc lv (.int a :: st) h := by
  obtain ⟨hd, rfl⟩ := hd
  intro p l e s m args below meth c G C ls H locs hl hw hS
  obtain ⟨hx, hb, -⟩ := id C
  exact lv_ineg hx hb hd  (k p l e s m args below meth c G C ls H locs hl hw hS)
theorem g_lshl {a : Int64} {b : Int32} (hd : gd cc pc .lshl 1 q)  (k : gY d RC RS y cc nL ret cells slots Q q lv (.long (a <<< (b.toInt64 &&& 63)) :: st) h) : gY d RC RS y cc nL ret cells slots Q pc lv (.int b :: .long a :: st) h := by
  obtain ⟨hd, rfl⟩ := hd
  intro p l e s m args below meth c G C ls H locs hl hw hS
  obtain ⟨hx, hb, -⟩ := id C
  exact lv_lshl hx hb hd rfl (k p l e s m args below meth c G C ls H locs hl hw hS)
theorem g_i2l {a : Int32} (hd : gd cc pc .i2l 1 q)  (k : gY d RC RS y cc nL ret cells slots Q q lv (.long a.toInt64 :: st) h) : gY d RC RS y cc nL ret cells slots Q pc lv (.int a :: st) h := by
  obtain ⟨hd, rfl⟩ := hd
  intro p l e s m args below meth c G C ls H locs hl hw hS
  obtain ⟨hx, hb, -⟩ := id C
  exact lv_i2l hx hb hd rfl (k p l e s m args below meth c G C ls H locs hl hw hS)
theorem g_l2i {a : Int64} (hd : gd cc pc .l2i 1 q)  (k : gY d RC RS y cc nL ret cells slots Q q lv (.int a.toInt32 :: st) h) : gY d RC RS y cc nL ret cells slots Q pc lv (.long a :: st) h := by
  obtain ⟨hd, rfl⟩ := hd
  intro p l e s m args below meth c G C ls H locs hl hw hS
  obtain ⟨hx, hb, -⟩ := id C
  exact lv_l2i hx hb hd rfl (k p l e s m args below meth c G C ls H locs hl hw hS)
theorem g_i2b {a : Int32} (hd : gd cc pc .i2b 1 q)  (k : gY d RC RS y cc nL ret cells slots Q q lv (.int a.toInt8.toInt32 :: st) h) : gY d RC RS y cc nL ret cells slots Q pc lv (.int a :: st) h := by
  obtain ⟨hd, rfl⟩ := hd
  intro p l e s m args below meth c G C ls H locs hl hw hS
  obtain ⟨hx, hb, -⟩ := id C
  exact lv_i2b hx hb hd rfl (k p l e s m args below meth c G C ls H locs hl hw hS)
theorem g_i2c {a : Int32} (hd : gd cc pc .i2c 1 q)  (k : gY d RC RS y cc nL ret cells slots Q q lv (.int (a.toUInt32 % 65536).toInt32 :: st) h) : gY d RC RS y cc nL ret cells slots Q pc lv (.int a :: st) h := by
  obtain ⟨hd, rfl⟩ := hd
  intro p l e s m args below meth c G C ls H locs hl hw hS
  obtain ⟨hx, hb, -⟩ := id C
  exact lv_i2c hx hb hd rfl (k p l e s m args below meth c G C ls H locs hl hw hS)
theorem g_lcmp {a b : Int64} (hd : gd cc pc .lcmp 1 q)  (k : gY d RC RS y cc nL ret cells slots Q q lv (.int (lg_cmp a b) :: st) h) : gY d RC RS y cc nL ret cells slots Q pc lv (.long b :: .long a :: st) h := by
  obtain ⟨hd, rfl⟩ := hd
  intro p l e s m args below meth c G C ls H locs hl hw hS
  obtain ⟨hx, hb, -⟩ := id C
  exact W.lcmp hx hb hd  (k p l e s m args below meth c G C ls H locs hl hw hS)
theorem g_dup {v : Value} (hd : gd cc pc .dup 1 q) (hv : v.category = 1) (k : gY d RC RS y cc nL ret cells slots Q q lv (v :: v :: st) h) : gY d RC RS y cc nL ret cells slots Q pc lv (v :: st) h := by
  obtain ⟨hd, rfl⟩ := hd
  intro p l e s m args below meth c G C ls H locs hl hw hS
  obtain ⟨hx, hb, -⟩ := id C
  exact lv_dup hx hb hd ((gtr_cat G _).trans hv) (k p l e s m args below meth c G C ls H locs hl hw hS)
theorem g_dup2 {v u : Value} (hd : gd cc pc .dup2 1 q) (hv : v.category = 1) (hu : u.category = 1) (k : gY d RC RS y cc nL ret cells slots Q q lv (v :: u :: v :: u :: st) h) : gY d RC RS y cc nL ret cells slots Q pc lv (v :: u :: st) h := by
  obtain ⟨hd, rfl⟩ := hd
  intro p l e s m args below meth c G C ls H locs hl hw hS
  obtain ⟨hx, hb, -⟩ := id C
  exact lv_dup2_11 hx hb hd ((gtr_cat G _).trans hv) ((gtr_cat G _).trans hu) (k p l e s m args below meth c G C ls H locs hl hw hS)
theorem g_pop {v : Value} (hd : gd cc pc .pop 1 q) (hv : v.category = 1) (k : gY d RC RS y cc nL ret cells slots Q q lv (st) h) : gY d RC RS y cc nL ret cells slots Q pc lv (v :: st) h := by
  obtain ⟨hd, rfl⟩ := hd
  intro p l e s m args below meth c G C ls H locs hl hw hS
  obtain ⟨hx, hb, -⟩ := id C
  exact lv_pop hx hb hd ((gtr_cat G _).trans hv) (k p l e s m args below meth c G C ls H locs hl hw hS)
theorem g_iconst {n : Int} {v : Int32} (hd : decode cc pc = .ok ((.iconst n), 1) ∧ pc + 1 = q ∧ Int32.ofInt n = v) (k : gY d RC RS y cc nL ret cells slots Q q lv (.int v :: st) h) : gY d RC RS y cc nL ret cells slots Q pc lv st h := by
  obtain ⟨hd, rfl, hv⟩ := hd
  intro p l e s m args below meth c G C ls H locs hl hw hS
  obtain ⟨hx, hb, -⟩ := id C
  exact lv_iconst hx hb hd hv (k p l e s m args below meth c G C ls H locs hl hw hS)
theorem g_bipush {n : Int} {v : Int32} (hd : decode cc pc = .ok ((.bipush n), 2) ∧ pc + 2 = q ∧ (Int8.ofInt n).toInt32 = v) (k : gY d RC RS y cc nL ret cells slots Q q lv (.int v :: st) h) : gY d RC RS y cc nL ret cells slots Q pc lv st h := by
  obtain ⟨hd, rfl, hv⟩ := hd
  intro p l e s m args below meth c G C ls H locs hl hw hS
  obtain ⟨hx, hb, -⟩ := id C
  exact lv_bipush hx hb hd hv (k p l e s m args below meth c G C ls H locs hl hw hS)
theorem g_sipush {n : Int} {v : Int32} (hd : decode cc pc = .ok ((.sipush n), 3) ∧ pc + 3 = q ∧ (Int16.ofInt n).toInt32 = v) (k : gY d RC RS y cc nL ret cells slots Q q lv (.int v :: st) h) : gY d RC RS y cc nL ret cells slots Q pc lv st h := by
  obtain ⟨hd, rfl, hv⟩ := hd
  intro p l e s m args below meth c G C ls H locs hl hw hS
  obtain ⟨hx, hb, -⟩ := id C
  exact lv_sipush hx hb hd hv (k p l e s m args below meth c G C ls H locs hl hw hS)
theorem g_lconst {n : Fin 2} {v : Int64} (hd : decode cc pc = .ok (.lconst n, 1) ∧ pc + 1 = q ∧ Int64.ofNat (n : Nat) = v) (k : gY d RC RS y cc nL ret cells slots Q q lv (.long v :: st) h) : gY d RC RS y cc nL ret cells slots Q pc lv st h := by
  obtain ⟨hd, rfl, hv⟩ := hd
  intro p l e s m args below meth c G C ls H locs hl hw hS
  obtain ⟨hx, hb, -⟩ := id C
  exact lv_lconst hx hb hd hv (k p l e s m args below meth c G C ls H locs hl hw hS)
theorem g_ldc {i : Nat} {v : Int32} (hd : gd cc pc (.ldc i) 2 q) (hc : Cond.constant y.cls i v ∈ gtb) (k : gY d RC RS y cc nL ret cells slots Q q lv (.int v :: st) h) : gY d RC RS y cc nL ret cells slots Q pc lv st h := by
  obtain ⟨hd, rfl⟩ := hd
  intro p l e s m args below meth c G C ls H locs hl hw hS
  obtain ⟨hx, hb, hml, hown, hts, -⟩ := id C
  exact lv_ldc hx hb hown (hts _ hc) hd (k p l e s m args below meth c G C ls H locs hl hw hS)
theorem g_ldc_w {i : Nat} {v : Int32} (hd : gd cc pc (.ldc_w i) 3 q) (hc : Cond.constant y.cls i v ∈ gtb) (k : gY d RC RS y cc nL ret cells slots Q q lv (.int v :: st) h) : gY d RC RS y cc nL ret cells slots Q pc lv st h := by
  obtain ⟨hd, rfl⟩ := hd
  intro p l e s m args below meth c G C ls H locs hl hw hS
  obtain ⟨hx, hb, hml, hown, hts, -⟩ := id C
  exact lv_ldcw hx hb hown (hts _ hc) hd (k p l e s m args below meth c G C ls H locs hl hw hS)
theorem g_ldc2 {i : Nat} {v : Int64} (hd : gd cc pc (.ldc2_w i) 3 q) (hc : Cond.constantLong y.cls i v ∈ gtb) (k : gY d RC RS y cc nL ret cells slots Q q lv (.long v :: st) h) : gY d RC RS y cc nL ret cells slots Q pc lv st h := by
  obtain ⟨hd, rfl⟩ := hd
  intro p l e s m args below meth c G C ls H locs hl hw hS
  obtain ⟨hx, hb, hml, hown, hts, -⟩ := id C
  exact lv_ldc2 hx hb hown (hts _ hc) hd (k p l e s m args below meth c G C ls H locs hl hw hS)
theorem g_ifeq {x : Int32} {off : Int} (hd : gb cc pc (.ifCond .eq off) off q t) (kt : x = 0 → gY d RC RS y cc nL ret cells slots Q t lv st h) (kf : ¬ x = 0 → gY d RC RS y cc nL ret cells slots Q q lv st h) : gY d RC RS y cc nL ret cells slots Q pc lv (.int x :: st) h := by
  obtain ⟨hd, rfl, ht⟩ := hd
  intro p l e s m args below meth c G C ls H locs hl hw hS
  obtain ⟨hx, hb, -⟩ := id C
  exact lv_if_eq hx hb hd ht (fun z => kt z p l e s m args below meth c G C ls H locs hl hw hS) (fun z => kf z p l e s m args below meth c G C ls H locs hl hw hS)
theorem g_ifne {x : Int32} {off : Int} (hd : gb cc pc (.ifCond .ne off) off q t) (kt : ¬ x = 0 → gY d RC RS y cc nL ret cells slots Q t lv st h) (kf : x = 0 → gY d RC RS y cc nL ret cells slots Q q lv st h) : gY d RC RS y cc nL ret cells slots Q pc lv (.int x :: st) h := by
  obtain ⟨hd, rfl, ht⟩ := hd
  intro p l e s m args below meth c G C ls H locs hl hw hS
  obtain ⟨hx, hb, -⟩ := id C
  exact lv_if_ne hx hb hd ht (fun z => kt z p l e s m args below meth c G C ls H locs hl hw hS) (fun z => kf z p l e s m args below meth c G C ls H locs hl hw hS)
theorem g_iflt {x : Int32} {off : Int} (hd : gb cc pc (.ifCond .lt off) off q t) (kt : x < 0 → gY d RC RS y cc nL ret cells slots Q t lv st h) (kf : ¬ x < 0 → gY d RC RS y cc nL ret cells slots Q q lv st h) : gY d RC RS y cc nL ret cells slots Q pc lv (.int x :: st) h := by
  obtain ⟨hd, rfl, ht⟩ := hd
  intro p l e s m args below meth c G C ls H locs hl hw hS
  obtain ⟨hx, hb, -⟩ := id C
  exact lv_if_lt hx hb hd ht (fun z => kt z p l e s m args below meth c G C ls H locs hl hw hS) (fun z => kf z p l e s m args below meth c G C ls H locs hl hw hS)
theorem g_ifge {x : Int32} {off : Int} (hd : gb cc pc (.ifCond .ge off) off q t) (kt : 0 ≤ x → gY d RC RS y cc nL ret cells slots Q t lv st h) (kf : ¬ 0 ≤ x → gY d RC RS y cc nL ret cells slots Q q lv st h) : gY d RC RS y cc nL ret cells slots Q pc lv (.int x :: st) h := by
  obtain ⟨hd, rfl, ht⟩ := hd
  intro p l e s m args below meth c G C ls H locs hl hw hS
  obtain ⟨hx, hb, -⟩ := id C
  exact lv_if_ge hx hb hd ht (fun z => kt z p l e s m args below meth c G C ls H locs hl hw hS) (fun z => kf z p l e s m args below meth c G C ls H locs hl hw hS)
theorem g_ifgt {x : Int32} {off : Int} (hd : gb cc pc (.ifCond .gt off) off q t) (kt : 0 < x → gY d RC RS y cc nL ret cells slots Q t lv st h) (kf : ¬ 0 < x → gY d RC RS y cc nL ret cells slots Q q lv st h) : gY d RC RS y cc nL ret cells slots Q pc lv (.int x :: st) h := by
  obtain ⟨hd, rfl, ht⟩ := hd
  intro p l e s m args below meth c G C ls H locs hl hw hS
  obtain ⟨hx, hb, -⟩ := id C
  exact lv_if_gt hx hb hd ht (fun z => kt z p l e s m args below meth c G C ls H locs hl hw hS) (fun z => kf z p l e s m args below meth c G C ls H locs hl hw hS)
theorem g_ifle {x : Int32} {off : Int} (hd : gb cc pc (.ifCond .le off) off q t) (kt : x ≤ 0 → gY d RC RS y cc nL ret cells slots Q t lv st h) (kf : ¬ x ≤ 0 → gY d RC RS y cc nL ret cells slots Q q lv st h) : gY d RC RS y cc nL ret cells slots Q pc lv (.int x :: st) h := by
  obtain ⟨hd, rfl, ht⟩ := hd
  intro p l e s m args below meth c G C ls H locs hl hw hS
  obtain ⟨hx, hb, -⟩ := id C
  exact lv_if_le hx hb hd ht (fun z => kt z p l e s m args below meth c G C ls H locs hl hw hS) (fun z => kf z p l e s m args below meth c G C ls H locs hl hw hS)
theorem g_iceq {x z : Int32} {off : Int} (hd : gb cc pc (.if_icmp .eq off) off q t) (kt : x = z → gY d RC RS y cc nL ret cells slots Q t lv st h) (kf : ¬ x = z → gY d RC RS y cc nL ret cells slots Q q lv st h) : gY d RC RS y cc nL ret cells slots Q pc lv (.int z :: .int x :: st) h := by
  obtain ⟨hd, rfl, ht⟩ := hd
  intro p l e s m args below meth c G C ls H locs hl hw hS
  obtain ⟨hx, hb, -⟩ := id C
  exact lv_icmp_eq hx hb hd ht (fun z => kt z p l e s m args below meth c G C ls H locs hl hw hS) (fun z => kf z p l e s m args below meth c G C ls H locs hl hw hS)
theorem g_icne {x z : Int32} {off : Int} (hd : gb cc pc (.if_icmp .ne off) off q t) (kt : ¬ x = z → gY d RC RS y cc nL ret cells slots Q t lv st h) (kf : x = z → gY d RC RS y cc nL ret cells slots Q q lv st h) : gY d RC RS y cc nL ret cells slots Q pc lv (.int z :: .int x :: st) h := by
  obtain ⟨hd, rfl, ht⟩ := hd
  intro p l e s m args below meth c G C ls H locs hl hw hS
  obtain ⟨hx, hb, -⟩ := id C
  exact lv_icmp_ne hx hb hd ht (fun z => kt z p l e s m args below meth c G C ls H locs hl hw hS) (fun z => kf z p l e s m args below meth c G C ls H locs hl hw hS)
theorem g_iclt {x z : Int32} {off : Int} (hd : gb cc pc (.if_icmp .lt off) off q t) (kt : x < z → gY d RC RS y cc nL ret cells slots Q t lv st h) (kf : ¬ x < z → gY d RC RS y cc nL ret cells slots Q q lv st h) : gY d RC RS y cc nL ret cells slots Q pc lv (.int z :: .int x :: st) h := by
  obtain ⟨hd, rfl, ht⟩ := hd
  intro p l e s m args below meth c G C ls H locs hl hw hS
  obtain ⟨hx, hb, -⟩ := id C
  exact lv_icmp_lt hx hb hd ht (fun z => kt z p l e s m args below meth c G C ls H locs hl hw hS) (fun z => kf z p l e s m args below meth c G C ls H locs hl hw hS)
theorem g_icge {x z : Int32} {off : Int} (hd : gb cc pc (.if_icmp .ge off) off q t) (kt : z ≤ x → gY d RC RS y cc nL ret cells slots Q t lv st h) (kf : ¬ z ≤ x → gY d RC RS y cc nL ret cells slots Q q lv st h) : gY d RC RS y cc nL ret cells slots Q pc lv (.int z :: .int x :: st) h := by
  obtain ⟨hd, rfl, ht⟩ := hd
  intro p l e s m args below meth c G C ls H locs hl hw hS
  obtain ⟨hx, hb, -⟩ := id C
  exact lv_icmp_ge hx hb hd ht (fun z => kt z p l e s m args below meth c G C ls H locs hl hw hS) (fun z => kf z p l e s m args below meth c G C ls H locs hl hw hS)
theorem g_icgt {x z : Int32} {off : Int} (hd : gb cc pc (.if_icmp .gt off) off q t) (kt : z < x → gY d RC RS y cc nL ret cells slots Q t lv st h) (kf : ¬ z < x → gY d RC RS y cc nL ret cells slots Q q lv st h) : gY d RC RS y cc nL ret cells slots Q pc lv (.int z :: .int x :: st) h := by
  obtain ⟨hd, rfl, ht⟩ := hd
  intro p l e s m args below meth c G C ls H locs hl hw hS
  obtain ⟨hx, hb, -⟩ := id C
  exact lv_icmp_gt hx hb hd ht (fun z => kt z p l e s m args below meth c G C ls H locs hl hw hS) (fun z => kf z p l e s m args below meth c G C ls H locs hl hw hS)
theorem g_icle {x z : Int32} {off : Int} (hd : gb cc pc (.if_icmp .le off) off q t) (kt : x ≤ z → gY d RC RS y cc nL ret cells slots Q t lv st h) (kf : ¬ x ≤ z → gY d RC RS y cc nL ret cells slots Q q lv st h) : gY d RC RS y cc nL ret cells slots Q pc lv (.int z :: .int x :: st) h := by
  obtain ⟨hd, rfl, ht⟩ := hd
  intro p l e s m args below meth c G C ls H locs hl hw hS
  obtain ⟨hx, hb, -⟩ := id C
  exact lv_icmp_le hx hb hd ht (fun z => kt z p l e s m args below meth c G C ls H locs hl hw hS) (fun z => kf z p l e s m args below meth c G C ls H locs hl hw hS)
theorem g_goto {off : Int} (hd : gb cc pc (.goto off) off q t) (k : gY d RC RS y cc nL ret cells slots Q t lv st h) : gY d RC RS y cc nL ret cells slots Q pc lv st h := by
  obtain ⟨hd, rfl, ht⟩ := hd
  intro p l e s m args below meth c G C ls H locs hl hw hS
  obtain ⟨hx, hb, -⟩ := id C
  exact lv_goto hx hb hd ht (k p l e s m args below meth c G C ls H locs hl hw hS)
theorem g_ifnull {r : Option Nat} {off : Int} (hd : gb cc pc (.ifnull off) off q t) (kn : r = none → gY d RC RS y cc nL ret cells slots Q t lv st h) (ks : ∀ a, r = some a → gY d RC RS y cc nL ret cells slots Q q lv st h) : gY d RC RS y cc nL ret cells slots Q pc lv (va_rf r :: st) h := by
  obtain ⟨hd, rfl, ht⟩ := hd
  intro p l e s m args below meth c G C ls H locs hl hw hS
  obtain ⟨hx, hb, -⟩ := id C
  cases r with
  | none => exact lv_ifnullN hx hb hd ht (kn rfl p l e s m args below meth c G C ls H locs hl hw hS)
  | some a => exact lv_ifnull hx hb hd (ks a rfl p l e s m args below meth c G C ls H locs hl hw hS)
theorem g_ifnonnull {r : Option Nat} {off : Int} (hd : gb cc pc (.ifnonnull off) off q t) (kn : r = none → gY d RC RS y cc nL ret cells slots Q q lv st h) (ks : ∀ a, r = some a → gY d RC RS y cc nL ret cells slots Q t lv st h) : gY d RC RS y cc nL ret cells slots Q pc lv (va_rf r :: st) h := by
  obtain ⟨hd, rfl, ht⟩ := hd
  intro p l e s m args below meth c G C ls H locs hl hw hS
  obtain ⟨hx, hb, -⟩ := id C
  cases r with
  | none => exact lv_ifnonnullN hx hb hd (kn rfl p l e s m args below meth c G C ls H locs hl hw hS)
  | some a => exact lv_ifnonnull hx hb hd ht (ks a rfl p l e s m args below meth c G C ls H locs hl hw hS)
/-- a switch: the targets, from lo on, and the default's -/
def gsw (cc : ByteArray) (pc : Nat) (dflt lo hi : Int) (offs : Array Int) (len : Nat) (ts : List Nat) (t : Nat) : Prop := decode cc pc = .ok (.tableswitch dflt lo hi offs, len) ∧ (pc : Int) + dflt = (t : Int) ∧ offs.toList.map (fun o => (pc : Int) + o) = ts.map (fun n : Nat => ((n : Nat) : Int)) ∧ hi = lo + ts.length - 1
theorem g_swOut {x : Int32} {dflt lo hi : Int} {offs : Array Int} {len : Nat} {ts : List Nat} (hd : gsw cc pc dflt lo hi offs len ts t) (hx0 : x.toInt < lo ∨ lo + ts.length ≤ x.toInt) (k : gY d RC RS y cc nL ret cells slots Q t lv st h) : gY d RC RS y cc nL ret cells slots Q pc lv (.int x :: st) h := by
  obtain ⟨hd, ht, h3, h4⟩ := hd
  intro p l e s m args below meth c G C ls H locs hl hw hS
  obtain ⟨hx, hb, -⟩ := id C
  exact lv_tableOut hx hb hd (by omega) ht (k p l e s m args below meth c G C ls H locs hl hw hS)
theorem g_swIn {x : Int32} (i : Nat) {dflt lo hi : Int} {offs : Array Int} {len : Nat} {ts : List Nat} {t0 : Nat} (hd : gsw cc pc dflt lo hi offs len ts t0) (hx0 : x.toInt = lo + i) (hi0 : ts[i]? = some t) (k : gY d RC RS y cc nL ret cells slots Q t lv st h) : gY d RC RS y cc nL ret cells slots Q pc lv (.int x :: st) h := by
  obtain ⟨hd, ht, h3, h4⟩ := hd
  intro p l e s m args below meth c G C ls H locs hl hw hS
  obtain ⟨hx, hb, -⟩ := id C
  have hlt : i < ts.length := (List.getElem?_eq_some_iff.mp hi0).1
  have e1 : (offs.toList.map (fun o => (pc : Int) + o))[i]? = some (t : Int) := by rw [h3, List.getElem?_map, hi0]; rfl
  rw [List.getElem?_map] at e1
  cases ho : offs.toList[i]? with
  | none => rw [ho] at e1; cases e1
  | some off =>
    rw [ho] at e1
    have e2 : (pc : Int) + off = (t : Int) := Option.some.inj e1
    exact lv_tableIn (off := off) hx hb hd (by omega) (by omega) (by rw [show (x.toInt - lo).toNat = i by omega, ← Array.getElem?_toList]; exact ho) e2 (k p l e s m args below meth c G C ls H locs hl hw hS)
theorem gls_mem {G : Gp} : ∀ {lv : List Value} {j i : Nat} {v : Value}, lv[i]? = some v → (∀ n, v ≠ .retAddr n) → (j + i, gtr G v) ∈ gls G j lv
  | [], j, i, v, h, _ => by simp at h
  | u :: lv, j, 0, v, h, hv => by
    simp at h
    subst h
    cases u <;> first | exact List.mem_cons_self | exact absurd rfl (hv _)
  | u :: lv, j, i + 1, v, h, hv => by
    rw [List.getElem?_cons_succ] at h
    have h1 := gls_mem (G := G) (j := j + 1) h hv
    rw [show j + 1 + i = j + (i + 1) by omega] at h1
    cases u <;> first | exact List.mem_cons_of_mem _ h1 | exact h1
theorem gls_of {G : Gp} : ∀ {lv : List Value} {j : Nat} {x : Nat × Value}, x ∈ gls G j lv → ∃ i v, x = (j + i, gtr G v) ∧ lv[i]? = some v ∧ ∀ n, v ≠ .retAddr n
  | [], j, x, h => by cases h
  | u :: lv, j, x, h => by
    have step : x ∈ gls G (j + 1) lv → ∃ i v, x = (j + i, gtr G v) ∧ (u :: lv)[i]? = some v ∧ ∀ n, v ≠ .retAddr n := by
      intro h1
      obtain ⟨i, v, e1, e2, e3⟩ := gls_of h1
      exact ⟨i + 1, v, by rw [e1, show j + 1 + i = j + (i + 1) by omega], by rw [List.getElem?_cons_succ]; exact e2, e3⟩
    cases u with
    | retAddr n => exact step h
    | _ =>
      rcases List.mem_cons.mp h with e | h
      · exact ⟨0, _, e, rfl, fun n z => by cases z⟩
      · exact step h
theorem gls_at {G : Gp} {ls : Array Slot} {lv : List Value} {i : Nat} {v : Value} (hl : lv_has ls nL (gls G 0 lv)) (hv : lv[i]? = some v) (hn : ∀ n, v ≠ .retAddr n) : ls[i]? = some (.val (gtr G v)) := by
  have := hl.2.2 _ (gls_mem (G := G) (j := 0) hv hn)
  rwa [Nat.zero_add] at this
/-- storing a value of one word -/
theorem gls_set1 {G : Gp} {lv : List Value} {i : Nat} {v w : Value} (hp : ∀ u, lv[i - 1]? = some u → 0 < i → u.category = 1) (hv : gtr G v = w) (hi : i < lv.length) : ∀ x ∈ gls G 0 (lv.set i v), x ∈ (i, w) :: (gls G 0 lv).filter (fun q => !(q.1 == i) && !(q.1 + 1 == i && q.2.category == 2)) := by
  intro x hx
  obtain ⟨j, u, e1, e2, e3⟩ := gls_of hx
  rw [Nat.zero_add] at e1
  by_cases hji : j = i
  · subst hji
    rw [List.getElem?_set_self hi] at e2
    cases e2
    rw [e1, hv]
    exact List.mem_cons_self
  · rw [List.getElem?_set_ne (Ne.symm hji)] at e2
    refine List.mem_cons_of_mem _ (List.mem_filter.mpr ⟨?_, ?_⟩)
    · have := gls_mem (G := G) (j := 0) e2 e3
      rw [Nat.zero_add] at this
      rw [e1]; exact this
    · rw [e1]
      have h1 : (j == i) = false := by simpa using hji
      by_cases h2 : j + 1 = i
      · have hu := hp u (by rw [show i - 1 = j by omega]; exact e2) (by omega)
        simp [h1, gtr_cat, hu]
      · simp [h1, h2]
theorem gls_set2 {G : Gp} {lv : List Value} {i : Nat} {x0 : Int64} {n0 : Nat} (hp : ∀ u, lv[i - 1]? = some u → 0 < i → u.category = 1) (hi : i + 1 < lv.length) : ∀ x ∈ gls G 0 ((lv.set i (.long x0)).set (i + 1) (.retAddr n0)), x ∈ (i, Value.long x0) :: (gls G 0 lv).filter (fun q => !(q.1 == i) && (!(q.1 == i + 1) && !(q.1 + 1 == i && q.2.category == 2))) := by
  intro x hx
  obtain ⟨j, u, e1, e2, e3⟩ := gls_of hx
  rw [Nat.zero_add] at e1
  by_cases hj1 : j = i + 1
  · subst hj1
    rw [List.getElem?_set_self (by rw [List.length_set]; exact hi)] at e2
    cases e2
    exact absurd rfl (e3 n0)
  · rw [List.getElem?_set_ne (Ne.symm hj1)] at e2
    by_cases hji : j = i
    · subst hji
      rw [List.getElem?_set_self (by omega)] at e2
      cases e2
      rw [e1]
      exact List.mem_cons_self
    · rw [List.getElem?_set_ne (Ne.symm hji)] at e2
      refine List.mem_cons_of_mem _ (List.mem_filter.mpr ⟨?_, ?_⟩)
      · have := gls_mem (G := G) (j := 0) e2 e3
        rw [Nat.zero_add] at this
        rw [e1]; exact this
      · rw [e1]
        have h1 : (j == i) = false := by simpa using hji
        have h3 : (j == i + 1) = false := by simpa using hj1
        by_cases h2 : j + 1 = i
        · have hu := hp u (by rw [show i - 1 = j by omega]; exact e2) (by omega)
          simp [h1, h3, gtr_cat, hu]
        · simp [h1, h2, h3]
theorem lv_less {ls : Array Slot} {l l' : List (Nat × Value)} (h : lv_has ls nL l) (hs : ∀ x ∈ l', x ∈ l) : lv_has ls nL l' := ⟨h.1, h.2.1, fun x hx => h.2.2 x (hs x hx)⟩
/-- to forget a local -/
theorem g_kill (lv' : List Value) (hk : ∀ (i : Nat) (v : Value), lv'[i]? = some v → (∀ n, v ≠ .retAddr n) → lv[i]? = some v) (k : gY d RC RS y cc nL ret cells slots Q pc lv' st h) : gY d RC RS y cc nL ret cells slots Q pc lv st h := by
  intro p l e s m args below meth c G C ls H locs hl hw hS
  refine k p l e s m args below meth c G C ls H locs (lv_less hl (fun x hx => ?_)) hw hS
  obtain ⟨i, v, e1, e2, e3⟩ := gls_of hx
  rw [e1]
  exact gls_mem (hk i v e2 e3) e3
theorem g_iload_n {k0 : Fin 4} {x : Int32} (hd : gd cc pc (.iload_n k0) 1 q) (hi : lv[(k0 : Nat)]? = some (.int x)) (k : gY d RC RS y cc nL ret cells slots Q q lv (.int x :: st) h) : gY d RC RS y cc nL ret cells slots Q pc lv st h := by
  obtain ⟨hd, rfl⟩ := hd
  intro p l e s m args below meth c G C ls H locs hl hw hS
  obtain ⟨hx, hb, -⟩ := id C
  exact lv_iload_n hx hb hd rfl (gls_at hl hi (fun n z => by cases z)) (k p l e s m args below meth c G C ls H locs hl hw hS)
theorem g_iload {i : Nat} {x : Int32} (hd : gd cc pc (.iload i) 2 q) (hi : lv[i]? = some (.int x)) (k : gY d RC RS y cc nL ret cells slots Q q lv (.int x :: st) h) : gY d RC RS y cc nL ret cells slots Q pc lv st h := by
  obtain ⟨hd, rfl⟩ := hd
  intro p l e s m args below meth c G C ls H locs hl hw hS
  obtain ⟨hx, hb, -⟩ := id C
  exact lv_iload hx hb hd (gls_at hl hi (fun n z => by cases z)) (k p l e s m args below meth c G C ls H locs hl hw hS)
theorem g_lload_n {k0 : Fin 4} {x : Int64} (hd : gd cc pc (.lload_n k0) 1 q) (hi : lv[(k0 : Nat)]? = some (.long x)) (k : gY d RC RS y cc nL ret cells slots Q q lv (.long x :: st) h) : gY d RC RS y cc nL ret cells slots Q pc lv st h := by
  obtain ⟨hd, rfl⟩ := hd
  intro p l e s m args below meth c G C ls H locs hl hw hS
  obtain ⟨hx, hb, -⟩ := id C
  exact lv_lload_n hx hb hd rfl (gls_at hl hi (fun n z => by cases z)) (k p l e s m args below meth c G C ls H locs hl hw hS)
theorem g_lload {i : Nat} {x : Int64} (hd : gd cc pc (.lload i) 2 q) (hi : lv[i]? = some (.long x)) (k : gY d RC RS y cc nL ret cells slots Q q lv (.long x :: st) h) : gY d RC RS y cc nL ret cells slots Q pc lv st h := by
  obtain ⟨hd, rfl⟩ := hd
  intro p l e s m args below meth c G C ls H locs hl hw hS
  obtain ⟨hx, hb, -⟩ := id C
  exact lv_lload hx hb hd (gls_at hl hi (fun n z => by cases z)) (k p l e s m args below meth c G C ls H locs hl hw hS)
theorem g_aload_n {k0 : Fin 4} {x : Nat} (hd : gd cc pc (.aload_n k0) 1 q) (hi : lv[(k0 : Nat)]? = some (.ref x)) (k : gY d RC RS y cc nL ret cells slots Q q lv (.ref x :: st) h) : gY d RC RS y cc nL ret cells slots Q pc lv st h := by
  obtain ⟨hd, rfl⟩ := hd
  intro p l e s m args below meth c G C ls H locs hl hw hS
  obtain ⟨hx, hb, -⟩ := id C
  exact lv_aload_n hx hb hd rfl (gls_at hl hi (fun n z => by cases z)) (k p l e s m args below meth c G C ls H locs hl hw hS)
theorem g_aload {i : Nat} {x : Nat} (hd : gd cc pc (.aload i) 2 q) (hi : lv[i]? = some (.ref x)) (k : gY d RC RS y cc nL ret cells slots Q q lv (.ref x :: st) h) : gY d RC RS y cc nL ret cells slots Q pc lv st h := by
  obtain ⟨hd, rfl⟩ := hd
  intro p l e s m args below meth c G C ls H locs hl hw hS
  obtain ⟨hx, hb, -⟩ := id C
  exact lv_aload hx hb hd (gls_at hl hi (fun n z => by cases z)) (k p l e s m args below meth c G C ls H locs hl hw hS)
theorem g_sload_n {k0 : Fin 4} {x : UInt32} (hd : gd cc pc (.aload_n k0) 1 q) (hi : lv[(k0 : Nat)]? = some (.float x)) (k : gY d RC RS y cc nL ret cells slots Q q lv (.float x :: st) h) : gY d RC RS y cc nL ret cells slots Q pc lv st h := by
  obtain ⟨hd, rfl⟩ := hd
  intro p l e s m args below meth c G C ls H locs hl hw hS
  obtain ⟨hx, hb, -⟩ := id C
  exact lv_aload_n hx hb hd rfl (gls_at hl hi (fun n z => by cases z)) (k p l e s m args below meth c G C ls H locs hl hw hS)
theorem g_istore_n {k0 : Fin 4} {x : Int32} (hd : gd cc pc (.istore_n k0) 1 q) (hn : (k0 : Nat) < nL) (hi : (k0 : Nat) < lv.length) (hp : ∀ u, lv[(k0 : Nat) - 1]? = some u → 0 < (k0 : Nat) → u.category = 1) (k : gY d RC RS y cc nL ret cells slots Q q (lv.set (k0 : Nat) (.int x)) st h) : gY d RC RS y cc nL ret cells slots Q pc lv (.int x :: st) h := by
  obtain ⟨hd, rfl⟩ := hd
  intro p l e s m args below meth c G C ls H locs hl hw hS
  obtain ⟨hx, hb, -⟩ := id C
  exact lv_istore_n hx hb hd rfl hl hn rfl (fun ls' hl' => k p l e s m args below meth c G C ls' H locs (lv_less hl' (gls_set1 hp rfl hi)) hw hS)
theorem g_istore {i : Nat} {x : Int32} (hd : gd cc pc (.istore i) 2 q) (hn : i < nL) (hi : i < lv.length) (hp : ∀ u, lv[i - 1]? = some u → 0 < i → u.category = 1) (k : gY d RC RS y cc nL ret cells slots Q q (lv.set i (.int x)) st h) : gY d RC RS y cc nL ret cells slots Q pc lv (.int x :: st) h := by
  obtain ⟨hd, rfl⟩ := hd
  intro p l e s m args below meth c G C ls H locs hl hw hS
  obtain ⟨hx, hb, -⟩ := id C
  exact lv_istore hx hb hd hl hn rfl (fun ls' hl' => k p l e s m args below meth c G C ls' H locs (lv_less hl' (gls_set1 hp rfl hi)) hw hS)
theorem g_astore_n {k0 : Fin 4} {x : Nat} (hd : gd cc pc (.astore_n k0) 1 q) (hn : (k0 : Nat) < nL) (hi : (k0 : Nat) < lv.length) (hp : ∀ u, lv[(k0 : Nat) - 1]? = some u → 0 < (k0 : Nat) → u.category = 1) (k : gY d RC RS y cc nL ret cells slots Q q (lv.set (k0 : Nat) (.ref x)) st h) : gY d RC RS y cc nL ret cells slots Q pc lv (.ref x :: st) h := by
  obtain ⟨hd, rfl⟩ := hd
  intro p l e s m args below meth c G C ls H locs hl hw hS
  obtain ⟨hx, hb, -⟩ := id C
  exact lv_astore_n hx hb hd rfl hl hn rfl (fun ls' hl' => k p l e s m args below meth c G C ls' H locs (lv_less hl' (gls_set1 hp rfl hi)) hw hS)
theorem g_astore {i : Nat} {x : Nat} (hd : gd cc pc (.astore i) 2 q) (hn : i < nL) (hi : i < lv.length) (hp : ∀ u, lv[i - 1]? = some u → 0 < i → u.category = 1) (k : gY d RC RS y cc nL ret cells slots Q q (lv.set i (.ref x)) st h) : gY d RC RS y cc nL ret cells slots Q pc lv (.ref x :: st) h := by
  obtain ⟨hd, rfl⟩ := hd
  intro p l e s m args below meth c G C ls H locs hl hw hS
  obtain ⟨hx, hb, -⟩ := id C
  exact lv_astore hx hb hd hl hn rfl (fun ls' hl' => k p l e s m args below meth c G C ls' H locs (lv_less hl' (gls_set1 hp rfl hi)) hw hS)
theorem g_lstore_n {k0 : Fin 4} {x : Int64} (hd : gd cc pc (.lstore_n k0) 1 q) (hn : (k0 : Nat) + 1 < nL) (hi : (k0 : Nat) + 1 < lv.length) (hp : ∀ u, lv[(k0 : Nat) - 1]? = some u → 0 < (k0 : Nat) → u.category = 1) (k : gY d RC RS y cc nL ret cells slots Q q ((lv.set (k0 : Nat) (.long x)).set ((k0 : Nat) + 1) (.retAddr 0)) st h) : gY d RC RS y cc nL ret cells slots Q pc lv (.long x :: st) h := by
  obtain ⟨hd, rfl⟩ := hd
  intro p l e s m args below meth c G C ls H locs hl hw hS
  obtain ⟨hx, hb, -⟩ := id C
  exact lv_lstore_n hx hb hd rfl hl hn rfl (fun ls' hl' => k p l e s m args below meth c G C ls' H locs (lv_less hl' (gls_set2 hp hi)) hw hS)
theorem g_lstore {i : Nat} {x : Int64} (hd : gd cc pc (.lstore i) 2 q) (hn : i + 1 < nL) (hi : i + 1 < lv.length) (hp : ∀ u, lv[i - 1]? = some u → 0 < i → u.category = 1) (k : gY d RC RS y cc nL ret cells slots Q q ((lv.set i (.long x)).set (i + 1) (.retAddr 0)) st h) : gY d RC RS y cc nL ret cells slots Q pc lv (.long x :: st) h := by
  obtain ⟨hd, rfl⟩ := hd
  intro p l e s m args below meth c G C ls H locs hl hw hS
  obtain ⟨hx, hb, -⟩ := id C
  exact lv_lstore hx hb hd hl hn rfl (fun ls' hl' => k p l e s m args below meth c G C ls' H locs (lv_less hl' (gls_set2 hp hi)) hw hS)
theorem g_iinc {i : Nat} {n : Int} {x v : Int32} (hd : decode cc pc = .ok (.iinc i n, 3) ∧ pc + 3 = q ∧ Int32.ofInt n = v) (hn : i < nL) (hi : lv[i]? = some (.int x)) (hp : ∀ u, lv[i - 1]? = some u → 0 < i → u.category = 1) (k : gY d RC RS y cc nL ret cells slots Q q (lv.set i (.int (x + v))) st h) : gY d RC RS y cc nL ret cells slots Q pc lv st h := by
  obtain ⟨hd, rfl, hv⟩ := hd
  intro p l e s m args below meth c G C ls H locs hl hw hS
  obtain ⟨hx, hb, -⟩ := id C
  obtain ⟨k9, hk9⟩ := List.getElem?_of_mem (gls_mem (G := G) (j := 0) hi (fun n z => by cases z))
  rw [Nat.zero_add] at hk9
  exact lv_iinc (v := x + v) hx hb hd hl hk9 (by rw [hv]) hn rfl (fun ls' hl' => k p l e s m args below meth c G C ls' H locs (lv_less hl' (gls_set1 hp rfl (List.getElem?_eq_some_iff.mp hi).1)) hw hS)
theorem g_iL0  {x : Int32} (hd : gd cc pc (.iload_n 0) 1 q) (k : gY d RC RS y cc nL ret cells slots Q q (.int x :: lv) (.int x :: st) h) : gY d RC RS y cc nL ret cells slots Q pc (.int x :: lv) st h := g_iload_n (k0 := 0) hd rfl k
theorem g_iL1 {v0 : Value} {x : Int32} (hd : gd cc pc (.iload_n 1) 1 q) (k : gY d RC RS y cc nL ret cells slots Q q (v0 :: .int x :: lv) (.int x :: st) h) : gY d RC RS y cc nL ret cells slots Q pc (v0 :: .int x :: lv) st h := g_iload_n (k0 := 1) hd rfl k
theorem g_iL2 {v0 v1 : Value} {x : Int32} (hd : gd cc pc (.iload_n 2) 1 q) (k : gY d RC RS y cc nL ret cells slots Q q (v0 :: v1 :: .int x :: lv) (.int x :: st) h) : gY d RC RS y cc nL ret cells slots Q pc (v0 :: v1 :: .int x :: lv) st h := g_iload_n (k0 := 2) hd rfl k
theorem g_iL3 {v0 v1 v2 : Value} {x : Int32} (hd : gd cc pc (.iload_n 3) 1 q) (k : gY d RC RS y cc nL ret cells slots Q q (v0 :: v1 :: v2 :: .int x :: lv) (.int x :: st) h) : gY d RC RS y cc nL ret cells slots Q pc (v0 :: v1 :: v2 :: .int x :: lv) st h := g_iload_n (k0 := 3) hd rfl k
theorem g_iL4 {v0 v1 v2 v3 : Value} {x : Int32} (hd : gd cc pc (.iload 4) 2 q) (k : gY d RC RS y cc nL ret cells slots Q q (v0 :: v1 :: v2 :: v3 :: .int x :: lv) (.int x :: st) h) : gY d RC RS y cc nL ret cells slots Q pc (v0 :: v1 :: v2 :: v3 :: .int x :: lv) st h := g_iload hd rfl k
theorem g_iL5 {v0 v1 v2 v3 v4 : Value} {x : Int32} (hd : gd cc pc (.iload 5) 2 q) (k : gY d RC RS y cc nL ret cells slots Q q (v0 :: v1 :: v2 :: v3 :: v4 :: .int x :: lv) (.int x :: st) h) : gY d RC RS y cc nL ret cells slots Q pc (v0 :: v1 :: v2 :: v3 :: v4 :: .int x :: lv) st h := g_iload hd rfl k
theorem g_iL6 {v0 v1 v2 v3 v4 v5 : Value} {x : Int32} (hd : gd cc pc (.iload 6) 2 q) (k : gY d RC RS y cc nL ret cells slots Q q (v0 :: v1 :: v2 :: v3 :: v4 :: v5 :: .int x :: lv) (.int x :: st) h) : gY d RC RS y cc nL ret cells slots Q pc (v0 :: v1 :: v2 :: v3 :: v4 :: v5 :: .int x :: lv) st h := g_iload hd rfl k
theorem g_iL7 {v0 v1 v2 v3 v4 v5 v6 : Value} {x : Int32} (hd : gd cc pc (.iload 7) 2 q) (k : gY d RC RS y cc nL ret cells slots Q q (v0 :: v1 :: v2 :: v3 :: v4 :: v5 :: v6 :: .int x :: lv) (.int x :: st) h) : gY d RC RS y cc nL ret cells slots Q pc (v0 :: v1 :: v2 :: v3 :: v4 :: v5 :: v6 :: .int x :: lv) st h := g_iload hd rfl k
theorem g_iL8 {v0 v1 v2 v3 v4 v5 v6 v7 : Value} {x : Int32} (hd : gd cc pc (.iload 8) 2 q) (k : gY d RC RS y cc nL ret cells slots Q q (v0 :: v1 :: v2 :: v3 :: v4 :: v5 :: v6 :: v7 :: .int x :: lv) (.int x :: st) h) : gY d RC RS y cc nL ret cells slots Q pc (v0 :: v1 :: v2 :: v3 :: v4 :: v5 :: v6 :: v7 :: .int x :: lv) st h := g_iload hd rfl k
theorem g_iL9 {v0 v1 v2 v3 v4 v5 v6 v7 v8 : Value} {x : Int32} (hd : gd cc pc (.iload 9) 2 q) (k : gY d RC RS y cc nL ret cells slots Q q (v0 :: v1 :: v2 :: v3 :: v4 :: v5 :: v6 :: v7 :: v8 :: .int x :: lv) (.int x :: st) h) : gY d RC RS y cc nL ret cells slots Q pc (v0 :: v1 :: v2 :: v3 :: v4 :: v5 :: v6 :: v7 :: v8 :: .int x :: lv) st h := g_iload hd rfl k
theorem g_iL10 {v0 v1 v2 v3 v4 v5 v6 v7 v8 v9 : Value} {x : Int32} (hd : gd cc pc (.iload 10) 2 q) (k : gY d RC RS y cc nL ret cells slots Q q (v0 :: v1 :: v2 :: v3 :: v4 :: v5 :: v6 :: v7 :: v8 :: v9 :: .int x :: lv) (.int x :: st) h) : gY d RC RS y cc nL ret cells slots Q pc (v0 :: v1 :: v2 :: v3 :: v4 :: v5 :: v6 :: v7 :: v8 :: v9 :: .int x :: lv) st h := g_iload hd rfl k
theorem g_iL11 {v0 v1 v2 v3 v4 v5 v6 v7 v8 v9 v10 : Value} {x : Int32} (hd : gd cc pc (.iload 11) 2 q) (k : gY d RC RS y cc nL ret cells slots Q q (v0 :: v1 :: v2 :: v3 :: v4 :: v5 :: v6 :: v7 :: v8 :: v9 :: v10 :: .int x :: lv) (.int x :: st) h) : gY d RC RS y cc nL ret cells slots Q pc (v0 :: v1 :: v2 :: v3 :: v4 :: v5 :: v6 :: v7 :: v8 :: v9 :: v10 :: .int x :: lv) st h := g_iload hd rfl k
theorem g_iL12 {v0 v1 v2 v3 v4 v5 v6 v7 v8 v9 v10 v11 : Value} {x : Int32} (hd : gd cc pc (.iload 12) 2 q) (k : gY d RC RS y cc nL ret cells slots Q q (v0 :: v1 :: v2 :: v3 :: v4 :: v5 :: v6 :: v7 :: v8 :: v9 :: v10 :: v11 :: .int x :: lv) (.int x :: st) h) : gY d RC RS y cc nL ret cells slots Q pc (v0 :: v1 :: v2 :: v3 :: v4 :: v5 :: v6 :: v7 :: v8 :: v9 :: v10 :: v11 :: .int x :: lv) st h := g_iload hd rfl k
theorem g_iL13 {v0 v1 v2 v3 v4 v5 v6 v7 v8 v9 v10 v11 v12 : Value} {x : Int32} (hd : gd cc pc (.iload 13) 2 q) (k : gY d RC RS y cc nL ret cells slots Q q (v0 :: v1 :: v2 :: v3 :: v4 :: v5 :: v6 :: v7 :: v8 :: v9 :: v10 :: v11 :: v12 :: .int x :: lv) (.int x :: st) h) : gY d RC RS y cc nL ret cells slots Q pc (v0 :: v1 :: v2 :: v3 :: v4 :: v5 :: v6 :: v7 :: v8 :: v9 :: v10 :: v11 :: v12 :: .int x :: lv) st h := g_iload hd rfl k
theorem g_lL0  {x : Int64} (hd : gd cc pc (.lload_n 0) 1 q) (k : gY d RC RS y cc nL ret cells slots Q q (.long x :: lv) (.long x :: st) h) : gY d RC RS y cc nL ret cells slots Q pc (.long x :: lv) st h := g_lload_n (k0 := 0) hd rfl k
theorem g_lL1 {v0 : Value} {x : Int64} (hd : gd cc pc (.lload_n 1) 1 q) (k : gY d RC RS y cc nL ret cells slots Q q (v0 :: .long x :: lv) (.long x :: st) h) : gY d RC RS y cc nL ret cells slots Q pc (v0 :: .long x :: lv) st h := g_lload_n (k0 := 1) hd rfl k
theorem g_lL2 {v0 v1 : Value} {x : Int64} (hd : gd cc pc (.lload_n 2) 1 q) (k : gY d RC RS y cc nL ret cells slots Q q (v0 :: v1 :: .long x :: lv) (.long x :: st) h) : gY d RC RS y cc nL ret cells slots Q pc (v0 :: v1 :: .long x :: lv) st h := g_lload_n (k0 := 2) hd rfl k
theorem g_lL3 {v0 v1 v2 : Value} {x : Int64} (hd : gd cc pc (.lload_n 3) 1 q) (k : gY d RC RS y cc nL ret cells slots Q q (v0 :: v1 :: v2 :: .long x :: lv) (.long x :: st) h) : gY d RC RS y cc nL ret cells slots Q pc (v0 :: v1 :: v2 :: .long x :: lv) st h := g_lload_n (k0 := 3) hd rfl k
theorem g_lL4 {v0 v1 v2 v3 : Value} {x : Int64} (hd : gd cc pc (.lload 4) 2 q) (k : gY d RC RS y cc nL ret cells slots Q q (v0 :: v1 :: v2 :: v3 :: .long x :: lv) (.long x :: st) h) : gY d RC RS y cc nL ret cells slots Q pc (v0 :: v1 :: v2 :: v3 :: .long x :: lv) st h := g_lload hd rfl k
theorem g_lL5 {v0 v1 v2 v3 v4 : Value} {x : Int64} (hd : gd cc pc (.lload 5) 2 q) (k : gY d RC RS y cc nL ret cells slots Q q (v0 :: v1 :: v2 :: v3 :: v4 :: .long x :: lv) (.long x :: st) h) : gY d RC RS y cc nL ret cells slots Q pc (v0 :: v1 :: v2 :: v3 :: v4 :: .long x :: lv) st h := g_lload hd rfl k
theorem g_lL6 {v0 v1 v2 v3 v4 v5 : Value} {x : Int64} (hd : gd cc pc (.lload 6) 2 q) (k : gY d RC RS y cc nL ret cells slots Q q (v0 :: v1 :: v2 :: v3 :: v4 :: v5 :: .long x :: lv) (.long x :: st) h) : gY d RC RS y cc nL ret cells slots Q pc (v0 :: v1 :: v2 :: v3 :: v4 :: v5 :: .long x :: lv) st h := g_lload hd rfl k
theorem g_lL7 {v0 v1 v2 v3 v4 v5 v6 : Value} {x : Int64} (hd : gd cc pc (.lload 7) 2 q) (k : gY d RC RS y cc nL ret cells slots Q q (v0 :: v1 :: v2 :: v3 :: v4 :: v5 :: v6 :: .long x :: lv) (.long x :: st) h) : gY d RC RS y cc nL ret cells slots Q pc (v0 :: v1 :: v2 :: v3 :: v4 :: v5 :: v6 :: .long x :: lv) st h := g_lload hd rfl k
theorem g_lL8 {v0 v1 v2 v3 v4 v5 v6 v7 : Value} {x : Int64} (hd : gd cc pc (.lload 8) 2 q) (k : gY d RC RS y cc nL ret cells slots Q q (v0 :: v1 :: v2 :: v3 :: v4 :: v5 :: v6 :: v7 :: .long x :: lv) (.long x :: st) h) : gY d RC RS y cc nL ret cells slots Q pc (v0 :: v1 :: v2 :: v3 :: v4 :: v5 :: v6 :: v7 :: .long x :: lv) st h := g_lload hd rfl k
theorem g_lL9 {v0 v1 v2 v3 v4 v5 v6 v7 v8 : Value} {x : Int64} (hd : gd cc pc (.lload 9) 2 q) (k : gY d RC RS y cc nL ret cells slots Q q (v0 :: v1 :: v2 :: v3 :: v4 :: v5 :: v6 :: v7 :: v8 :: .long x :: lv) (.long x :: st) h) : gY d RC RS y cc nL ret cells slots Q pc (v0 :: v1 :: v2 :: v3 :: v4 :: v5 :: v6 :: v7 :: v8 :: .long x :: lv) st h := g_lload hd rfl k
theorem g_lL10 {v0 v1 v2 v3 v4 v5 v6 v7 v8 v9 : Value} {x : Int64} (hd : gd cc pc (.lload 10) 2 q) (k : gY d RC RS y cc nL ret cells slots Q q (v0 :: v1 :: v2 :: v3 :: v4 :: v5 :: v6 :: v7 :: v8 :: v9 :: .long x :: lv) (.long x :: st) h) : gY d RC RS y cc nL ret cells slots Q pc (v0 :: v1 :: v2 :: v3 :: v4 :: v5 :: v6 :: v7 :: v8 :: v9 :: .long x :: lv) st h := g_lload hd rfl k
theorem g_lL11 {v0 v1 v2 v3 v4 v5 v6 v7 v8 v9 v10 : Value} {x : Int64} (hd : gd cc pc (.lload 11) 2 q) (k : gY d RC RS y cc nL ret cells slots Q q (v0 :: v1 :: v2 :: v3 :: v4 :: v5 :: v6 :: v7 :: v8 :: v9 :: v10 :: .long x :: lv) (.long x :: st) h) : gY d RC RS y cc nL ret cells slots Q pc (v0 :: v1 :: v2 :: v3 :: v4 :: v5 :: v6 :: v7 :: v8 :: v9 :: v10 :: .long x :: lv) st h := g_lload hd rfl k
theorem g_lL12 {v0 v1 v2 v3 v4 v5 v6 v7 v8 v9 v10 v11 : Value} {x : Int64} (hd : gd cc pc (.lload 12) 2 q) (k : gY d RC RS y cc nL ret cells slots Q q (v0 :: v1 :: v2 :: v3 :: v4 :: v5 :: v6 :: v7 :: v8 :: v9 :: v10 :: v11 :: .long x :: lv) (.long x :: st) h) : gY d RC RS y cc nL ret cells slots Q pc (v0 :: v1 :: v2 :: v3 :: v4 :: v5 :: v6 :: v7 :: v8 :: v9 :: v10 :: v11 :: .long x :: lv) st h := g_lload hd rfl k
theorem g_lL13 {v0 v1 v2 v3 v4 v5 v6 v7 v8 v9 v10 v11 v12 : Value} {x : Int64} (hd : gd cc pc (.lload 13) 2 q) (k : gY d RC RS y cc nL ret cells slots Q q (v0 :: v1 :: v2 :: v3 :: v4 :: v5 :: v6 :: v7 :: v8 :: v9 :: v10 :: v11 :: v12 :: .long x :: lv) (.long x :: st) h) : gY d RC RS y cc nL ret cells slots Q pc (v0 :: v1 :: v2 :: v3 :: v4 :: v5 :: v6 :: v7 :: v8 :: v9 :: v10 :: v11 :: v12 :: .long x :: lv) st h := g_lload hd rfl k
theorem g_aL0  {x : Nat} (hd : gd cc pc (.aload_n 0) 1 q) (k : gY d RC RS y cc nL ret cells slots Q q (.ref x :: lv) (.ref x :: st) h) : gY d RC RS y cc nL ret cells slots Q pc (.ref x :: lv) st h := g_aload_n (k0 := 0) hd rfl k
theorem g_aL1 {v0 : Value} {x : Nat} (hd : gd cc pc (.aload_n 1) 1 q) (k : gY d RC RS y cc nL ret cells slots Q q (v0 :: .ref x :: lv) (.ref x :: st) h) : gY d RC RS y cc nL ret cells slots Q pc (v0 :: .ref x :: lv) st h := g_aload_n (k0 := 1) hd rfl k
theorem g_aL2 {v0 v1 : Value} {x : Nat} (hd : gd cc pc (.aload_n 2) 1 q) (k : gY d RC RS y cc nL ret cells slots Q q (v0 :: v1 :: .ref x :: lv) (.ref x :: st) h) : gY d RC RS y cc nL ret cells slots Q pc (v0 :: v1 :: .ref x :: lv) st h := g_aload_n (k0 := 2) hd rfl k
theorem g_aL3 {v0 v1 v2 : Value} {x : Nat} (hd : gd cc pc (.aload_n 3) 1 q) (k : gY d RC RS y cc nL ret cells slots Q q (v0 :: v1 :: v2 :: .ref x :: lv) (.ref x :: st) h) : gY d RC RS y cc nL ret cells slots Q pc (v0 :: v1 :: v2 :: .ref x :: lv) st h := g_aload_n (k0 := 3) hd rfl k
theorem g_aL4 {v0 v1 v2 v3 : Value} {x : Nat} (hd : gd cc pc (.aload 4) 2 q) (k : gY d RC RS y cc nL ret cells slots Q q (v0 :: v1 :: v2 :: v3 :: .ref x :: lv) (.ref x :: st) h) : gY d RC RS y cc nL ret cells slots Q pc (v0 :: v1 :: v2 :: v3 :: .ref x :: lv) st h := g_aload hd rfl k
theorem g_aL5 {v0 v1 v2 v3 v4 : Value} {x : Nat} (hd : gd cc pc (.aload 5) 2 q) (k : gY d RC RS y cc nL ret cells slots Q q (v0 :: v1 :: v2 :: v3 :: v4 :: .ref x :: lv) (.ref x :: st) h) : gY d RC RS y cc nL ret cells slots Q pc (v0 :: v1 :: v2 :: v3 :: v4 :: .ref x :: lv) st h := g_aload hd rfl k
theorem g_aL6 {v0 v1 v2 v3 v4 v5 : Value} {x : Nat} (hd : gd cc pc (.aload 6) 2 q) (k : gY d RC RS y cc nL ret cells slots Q q (v0 :: v1 :: v2 :: v3 :: v4 :: v5 :: .ref x :: lv) (.ref x :: st) h) : gY d RC RS y cc nL ret cells slots Q pc (v0 :: v1 :: v2 :: v3 :: v4 :: v5 :: .ref x :: lv) st h := g_aload hd rfl k
theorem g_aL7 {v0 v1 v2 v3 v4 v5 v6 : Value} {x : Nat} (hd : gd cc pc (.aload 7) 2 q) (k : gY d RC RS y cc nL ret cells slots Q q (v0 :: v1 :: v2 :: v3 :: v4 :: v5 :: v6 :: .ref x :: lv) (.ref x :: st) h) : gY d RC RS y cc nL ret cells slots Q pc (v0 :: v1 :: v2 :: v3 :: v4 :: v5 :: v6 :: .ref x :: lv) st h := g_aload hd rfl k
theorem g_aL8 {v0 v1 v2 v3 v4 v5 v6 v7 : Value} {x : Nat} (hd : gd cc pc (.aload 8) 2 q) (k : gY d RC RS y cc nL ret cells slots Q q (v0 :: v1 :: v2 :: v3 :: v4 :: v5 :: v6 :: v7 :: .ref x :: lv) (.ref x :: st) h) : gY d RC RS y cc nL ret cells slots Q pc (v0 :: v1 :: v2 :: v3 :: v4 :: v5 :: v6 :: v7 :: .ref x :: lv) st h := g_aload hd rfl k
theorem g_aL9 {v0 v1 v2 v3 v4 v5 v6 v7 v8 : Value} {x : Nat} (hd : gd cc pc (.aload 9) 2 q) (k : gY d RC RS y cc nL ret cells slots Q q (v0 :: v1 :: v2 :: v3 :: v4 :: v5 :: v6 :: v7 :: v8 :: .ref x :: lv) (.ref x :: st) h) : gY d RC RS y cc nL ret cells slots Q pc (v0 :: v1 :: v2 :: v3 :: v4 :: v5 :: v6 :: v7 :: v8 :: .ref x :: lv) st h := g_aload hd rfl k
theorem g_aL10 {v0 v1 v2 v3 v4 v5 v6 v7 v8 v9 : Value} {x : Nat} (hd : gd cc pc (.aload 10) 2 q) (k : gY d RC RS y cc nL ret cells slots Q q (v0 :: v1 :: v2 :: v3 :: v4 :: v5 :: v6 :: v7 :: v8 :: v9 :: .ref x :: lv) (.ref x :: st) h) : gY d RC RS y cc nL ret cells slots Q pc (v0 :: v1 :: v2 :: v3 :: v4 :: v5 :: v6 :: v7 :: v8 :: v9 :: .ref x :: lv) st h := g_aload hd rfl k
theorem g_aL11 {v0 v1 v2 v3 v4 v5 v6 v7 v8 v9 v10 : Value} {x : Nat} (hd : gd cc pc (.aload 11) 2 q) (k : gY d RC RS y cc nL ret cells slots Q q (v0 :: v1 :: v2 :: v3 :: v4 :: v5 :: v6 :: v7 :: v8 :: v9 :: v10 :: .ref x :: lv) (.ref x :: st) h) : gY d RC RS y cc nL ret cells slots Q pc (v0 :: v1 :: v2 :: v3 :: v4 :: v5 :: v6 :: v7 :: v8 :: v9 :: v10 :: .ref x :: lv) st h := g_aload hd rfl k
theorem g_aL12 {v0 v1 v2 v3 v4 v5 v6 v7 v8 v9 v10 v11 : Value} {x : Nat} (hd : gd cc pc (.aload 12) 2 q) (k : gY d RC RS y cc nL ret cells slots Q q (v0 :: v1 :: v2 :: v3 :: v4 :: v5 :: v6 :: v7 :: v8 :: v9 :: v10 :: v11 :: .ref x :: lv) (.ref x :: st) h) : gY d RC RS y cc nL ret cells slots Q pc (v0 :: v1 :: v2 :: v3 :: v4 :: v5 :: v6 :: v7 :: v8 :: v9 :: v10 :: v11 :: .ref x :: lv) st h := g_aload hd rfl k
theorem g_aL13 {v0 v1 v2 v3 v4 v5 v6 v7 v8 v9 v10 v11 v12 : Value} {x : Nat} (hd : gd cc pc (.aload 13) 2 q) (k : gY d RC RS y cc nL ret cells slots Q q (v0 :: v1 :: v2 :: v3 :: v4 :: v5 :: v6 :: v7 :: v8 :: v9 :: v10 :: v11 :: v12 :: .ref x :: lv) (.ref x :: st) h) : gY d RC RS y cc nL ret cells slots Q pc (v0 :: v1 :: v2 :: v3 :: v4 :: v5 :: v6 :: v7 :: v8 :: v9 :: v10 :: v11 :: v12 :: .ref x :: lv) st h := g_aload hd rfl k
theorem g_sL0  {x : UInt32} (hd : gd cc pc (.aload_n 0) 1 q) (k : gY d RC RS y cc nL ret cells slots Q q (.float x :: lv) (.float x :: st) h) : gY d RC RS y cc nL ret cells slots Q pc (.float x :: lv) st h := g_sload_n (k0 := 0) hd rfl k
theorem g_sL1 {v0 : Value} {x : UInt32} (hd : gd cc pc (.aload_n 1) 1 q) (k : gY d RC RS y cc nL ret cells slots Q q (v0 :: .float x :: lv) (.float x :: st) h) : gY d RC RS y cc nL ret cells slots Q pc (v0 :: .float x :: lv) st h := g_sload_n (k0 := 1) hd rfl k
theorem g_sL2 {v0 v1 : Value} {x : UInt32} (hd : gd cc pc (.aload_n 2) 1 q) (k : gY d RC RS y cc nL ret cells slots Q q (v0 :: v1 :: .float x :: lv) (.float x :: st) h) : gY d RC RS y cc nL ret cells slots Q pc (v0 :: v1 :: .float x :: lv) st h := g_sload_n (k0 := 2) hd rfl k
theorem g_sL3 {v0 v1 v2 : Value} {x : UInt32} (hd : gd cc pc (.aload_n 3) 1 q) (k : gY d RC RS y cc nL ret cells slots Q q (v0 :: v1 :: v2 :: .float x :: lv) (.float x :: st) h) : gY d RC RS y cc nL ret cells slots Q pc (v0 :: v1 :: v2 :: .float x :: lv) st h := g_sload_n (k0 := 3) hd rfl k
theorem g_iS0 {v0 : Value} {x : Int32} (hd : gd cc pc (.istore_n 0) 1 q) (hn : Nat.ble 1 nL = true)  (k : gY d RC RS y cc nL ret cells slots Q q (.int x :: lv) st h) : gY d RC RS y cc nL ret cells slots Q pc (v0 :: lv) (.int x :: st) h := g_istore_n (k0 := 0) hd (Nat.le_of_ble_eq_true hn) (by show 0 < _; simp) (fun u e z => absurd z (Nat.lt_irrefl 0)) k
theorem g_iS1 {v0 v1 : Value} {x : Int32} (hd : gd cc pc (.istore_n 1) 1 q) (hn : Nat.ble 2 nL = true) (hc : v0.category = 1) (k : gY d RC RS y cc nL ret cells slots Q q (v0 :: .int x :: lv) st h) : gY d RC RS y cc nL ret cells slots Q pc (v0 :: v1 :: lv) (.int x :: st) h := g_istore_n (k0 := 1) hd (Nat.le_of_ble_eq_true hn) (by show 1 < _; simp) (fun u e z => by first | (cases e; exact hc) | exact absurd z (Nat.lt_irrefl 0)) k
theorem g_iS2 {v0 v1 v2 : Value} {x : Int32} (hd : gd cc pc (.istore_n 2) 1 q) (hn : Nat.ble 3 nL = true) (hc : v1.category = 1) (k : gY d RC RS y cc nL ret cells slots Q q (v0 :: v1 :: .int x :: lv) st h) : gY d RC RS y cc nL ret cells slots Q pc (v0 :: v1 :: v2 :: lv) (.int x :: st) h := g_istore_n (k0 := 2) hd (Nat.le_of_ble_eq_true hn) (by show 2 < _; simp) (fun u e z => by first | (cases e; exact hc) | exact absurd z (Nat.lt_irrefl 0)) k
theorem g_iS3 {v0 v1 v2 v3 : Value} {x : Int32} (hd : gd cc pc (.istore_n 3) 1 q) (hn : Nat.ble 4 nL = true) (hc : v2.category = 1) (k : gY d RC RS y cc nL ret cells slots Q q (v0 :: v1 :: v2 :: .int x :: lv) st h) : gY d RC RS y cc nL ret cells slots Q pc (v0 :: v1 :: v2 :: v3 :: lv) (.int x :: st) h := g_istore_n (k0 := 3) hd (Nat.le_of_ble_eq_true hn) (by show 3 < _; simp) (fun u e z => by first | (cases e; exact hc) | exact absurd z (Nat.lt_irrefl 0)) k
theorem g_iS4 {v0 v1 v2 v3 v4 : Value} {x : Int32} (hd : gd cc pc (.istore 4) 2 q) (hn : Nat.ble 5 nL = true) (hc : v3.category = 1) (k : gY d RC RS y cc nL ret cells slots Q q (v0 :: v1 :: v2 :: v3 :: .int x :: lv) st h) : gY d RC RS y cc nL ret cells slots Q pc (v0 :: v1 :: v2 :: v3 :: v4 :: lv) (.int x :: st) h := g_istore hd (Nat.le_of_ble_eq_true hn) (by show 4 < _; simp) (fun u e z => by first | (cases e; exact hc) | exact absurd z (Nat.lt_irrefl 0)) k
theorem g_iS5 {v0 v1 v2 v3 v4 v5 : Value} {x : Int32} (hd : gd cc pc (.istore 5) 2 q) (hn : Nat.ble 6 nL = true) (hc : v4.category = 1) (k : gY d RC RS y cc nL ret cells slots Q q (v0 :: v1 :: v2 :: v3 :: v4 :: .int x :: lv) st h) : gY d RC RS y cc nL ret cells slots Q pc (v0 :: v1 :: v2 :: v3 :: v4 :: v5 :: lv) (.int x :: st) h := g_istore hd (Nat.le_of_ble_eq_true hn) (by show 5 < _; simp) (fun u e z => by first | (cases e; exact hc) | exact absurd z (Nat.lt_irrefl 0)) k
theorem g_iS6 {v0 v1 v2 v3 v4 v5 v6 : Value} {x : Int32} (hd : gd cc pc (.istore 6) 2 q) (hn : Nat.ble 7 nL = true) (hc : v5.category = 1) (k : gY d RC RS y cc nL ret cells slots Q q (v0 :: v1 :: v2 :: v3 :: v4 :: v5 :: .int x :: lv) st h) : gY d RC RS y cc nL ret cells slots Q pc (v0 :: v1 :: v2 :: v3 :: v4 :: v5 :: v6 :: lv) (.int x :: st) h := g_istore hd (Nat.le_of_ble_eq_true hn) (by show 6 < _; simp) (fun u e z => by first | (cases e; exact hc) | exact absurd z (Nat.lt_irrefl 0)) k
theorem g_iS7 {v0 v1 v2 v3 v4 v5 v6 v7 : Value} {x : Int32} (hd : gd cc pc (.istore 7) 2 q) (hn : Nat.ble 8 nL = true) (hc : v6.category = 1) (k : gY d RC RS y cc nL ret cells slots Q q (v0 :: v1 :: v2 :: v3 :: v4 :: v5 :: v6 :: .int x :: lv) st h) : gY d RC RS y cc nL ret cells slots Q pc (v0 :: v1 :: v2 :: v3 :: v4 :: v5 :: v6 :: v7 :: lv) (.int x :: st) h := g_istore hd (Nat.le_of_ble_eq_true hn) (by show 7 < _; simp) (fun u e z => by first | (cases e; exact hc) | exact absurd z (Nat.lt_irrefl 0)) k
theorem g_iS8 {v0 v1 v2 v3 v4 v5 v6 v7 v8 : Value} {x : Int32} (hd : gd cc pc (.istore 8) 2 q) (hn : Nat.ble 9 nL = true) (hc : v7.category = 1) (k : gY d RC RS y cc nL ret cells slots Q q (v0 :: v1 :: v2 :: v3 :: v4 :: v5 :: v6 :: v7 :: .int x :: lv) st h) : gY d RC RS y cc nL ret cells slots Q pc (v0 :: v1 :: v2 :: v3 :: v4 :: v5 :: v6 :: v7 :: v8 :: lv) (.int x :: st) h := g_istore hd (Nat.le_of_ble_eq_true hn) (by show 8 < _; simp) (fun u e z => by first | (cases e; exact hc) | exact absurd z (Nat.lt_irrefl 0)) k
theorem g_iS9 {v0 v1 v2 v3 v4 v5 v6 v7 v8 v9 : Value} {x : Int32} (hd : gd cc pc (.istore 9) 2 q) (hn : Nat.ble 10 nL = true) (hc : v8.category = 1) (k : gY d RC RS y cc nL ret cells slots Q q (v0 :: v1 :: v2 :: v3 :: v4 :: v5 :: v6 :: v7 :: v8 :: .int x :: lv) st h) : gY d RC RS y cc nL ret cells slots Q pc (v0 :: v1 :: v2 :: v3 :: v4 :: v5 :: v6 :: v7 :: v8 :: v9 :: lv) (.int x :: st) h := g_istore hd (Nat.le_of_ble_eq_true hn) (by show 9 < _; simp) (fun u e z => by first | (cases e; exact hc) | exact absurd z (Nat.lt_irrefl 0)) k
theorem g_iS10 {v0 v1 v2 v3 v4 v5 v6 v7 v8 v9 v10 : Value} {x : Int32} (hd : gd cc pc (.istore 10) 2 q) (hn : Nat.ble 11 nL = true) (hc : v9.category = 1) (k : gY d RC RS y cc nL ret cells slots Q q (v0 :: v1 :: v2 :: v3 :: v4 :: v5 :: v6 :: v7 :: v8 :: v9 :: .int x :: lv) st h) : gY d RC RS y cc nL ret cells slots Q pc (v0 :: v1 :: v2 :: v3 :: v4 :: v5 :: v6 :: v7 :: v8 :: v9 :: v10 :: lv) (.int x :: st) h := g_istore hd (Nat.le_of_ble_eq_true hn) (by show 10 < _; simp) (fun u e z => by first | (cases e; exact hc) | exact absurd z (Nat.lt_irrefl 0)) k
theorem g_iS11 {v0 v1 v2 v3 v4 v5 v6 v7 v8 v9 v10 v11 : Value} {x : Int32} (hd : gd cc pc (.istore 11) 2 q) (hn : Nat.ble 12 nL = true) (hc : v10.category = 1) (k : gY d RC RS y cc nL ret cells slots Q q (v0 :: v1 :: v2 :: v3 :: v4 :: v5 :: v6 :: v7 :: v8 :: v9 :: v10 :: .int x :: lv) st h) : gY d RC RS y cc nL ret cells slots Q pc (v0 :: v1 :: v2 :: v3 :: v4 :: v5 :: v6 :: v7 :: v8 :: v9 :: v10 :: v11 :: lv) (.int x :: st) h := g_istore hd (Nat.le_of_ble_eq_true hn) (by show 11 < _; simp) (fun u e z => by first | (cases e; exact hc) | exact absurd z (Nat.lt_irrefl 0)) k
theorem g_iS12 {v0 v1 v2 v3 v4 v5 v6 v7 v8 v9 v10 v11 v12 : Value} {x : Int32} (hd : gd cc pc (.istore 12) 2 q) (hn : Nat.ble 13 nL = true) (hc : v11.category = 1) (k : gY d RC RS y cc nL ret cells slots Q q (v0 :: v1 :: v2 :: v3 :: v4 :: v5 :: v6 :: v7 :: v8 :: v9 :: v10 :: v11 :: .int x :: lv) st h) : gY d RC RS y cc nL ret cells slots Q pc (v0 :: v1 :: v2 :: v3 :: v4 :: v5 :: v6 :: v7 :: v8 :: v9 :: v10 :: v11 :: v12 :: lv) (.int x :: st) h := g_istore hd (Nat.le_of_ble_eq_true hn) (by show 12 < _; simp) (fun u e z => by first | (cases e; exact hc) | exact absurd z (Nat.lt_irrefl 0)) k
theorem g_iS13 {v0 v1 v2 v3 v4 v5 v6 v7 v8 v9 v10 v11 v12 v13 : Value} {x : Int32} (hd : gd cc pc (.istore 13) 2 q) (hn : Nat.ble 14 nL = true) (hc : v12.category = 1) (k : gY d RC RS y cc nL ret cells slots Q q (v0 :: v1 :: v2 :: v3 :: v4 :: v5 :: v6 :: v7 :: v8 :: v9 :: v10 :: v11 :: v12 :: .int x :: lv) st h) : gY d RC RS y cc nL ret cells slots Q pc (v0 :: v1 :: v2 :: v3 :: v4 :: v5 :: v6 :: v7 :: v8 :: v9 :: v10 :: v11 :: v12 :: v13 :: lv) (.int x :: st) h := g_istore hd (Nat.le_of_ble_eq_true hn) (by show 13 < _; simp) (fun u e z => by first | (cases e; exact hc) | exact absurd z (Nat.lt_irrefl 0)) k
theorem g_aS0 {v0 : Value} {x : Nat} (hd : gd cc pc (.astore_n 0) 1 q) (hn : Nat.ble 1 nL = true)  (k : gY d RC RS y cc nL ret cells slots Q q (.ref x :: lv) st h) : gY d RC RS y cc nL ret cells slots Q pc (v0 :: lv) (.ref x :: st) h := g_astore_n (k0 := 0) hd (Nat.le_of_ble_eq_true hn) (by show 0 < _; simp) (fun u e z => absurd z (Nat.lt_irrefl 0)) k
theorem g_aS1 {v0 v1 : Value} {x : Nat} (hd : gd cc pc (.astore_n 1) 1 q) (hn : Nat.ble 2 nL = true) (hc : v0.category = 1) (k : gY d RC RS y cc nL ret cells slots Q q (v0 :: .ref x :: lv) st h) : gY d RC RS y cc nL ret cells slots Q pc (v0 :: v1 :: lv) (.ref x :: st) h := g_astore_n (k0 := 1) hd (Nat.le_of_ble_eq_true hn) (by show 1 < _; simp) (fun u e z => by first | (cases e; exact hc) | exact absurd z (Nat.lt_irrefl 0)) k
theorem g_aS2 {v0 v1 v2 : Value} {x : Nat} (hd : gd cc pc (.astore_n 2) 1 q) (hn : Nat.ble 3 nL = true) (hc : v1.category = 1) (k : gY d RC RS y cc nL ret cells slots Q q (v0 :: v1 :: .ref x :: lv) st h) : gY d RC RS y cc nL ret cells slots Q pc (v0 :: v1 :: v2 :: lv) (.ref x :: st) h := g_astore_n (k0 := 2) hd (Nat.le_of_ble_eq_true hn) (by show 2 < _; simp) (fun u e z => by first | (cases e; exact hc) | exact absurd z (Nat.lt_irrefl 0)) k
theorem g_aS3 {v0 v1 v2 v3 : Value} {x : Nat} (hd : gd cc pc (.astore_n 3) 1 q) (hn : Nat.ble 4 nL = true) (hc : v2.category = 1) (k : gY d RC RS y cc nL ret cells slots Q q (v0 :: v1 :: v2 :: .ref x :: lv) st h) : gY d RC RS y cc nL ret cells slots Q pc (v0 :: v1 :: v2 :: v3 :: lv) (.ref x :: st) h := g_astore_n (k0 := 3) hd (Nat.le_of_ble_eq_true hn) (by show 3 < _; simp) (fun u e z => by first | (cases e; exact hc) | exact absurd z (Nat.lt_irrefl 0)) k
theorem g_aS4 {v0 v1 v2 v3 v4 : Value} {x : Nat} (hd : gd cc pc (.astore 4) 2 q) (hn : Nat.ble 5 nL = true) (hc : v3.category = 1) (k : gY d RC RS y cc nL ret cells slots Q q (v0 :: v1 :: v2 :: v3 :: .ref x :: lv) st h) : gY d RC RS y cc nL ret cells slots Q pc (v0 :: v1 :: v2 :: v3 :: v4 :: lv) (.ref x :: st) h := g_astore hd (Nat.le_of_ble_eq_true hn) (by show 4 < _; simp) (fun u e z => by first | (cases e; exact hc) | exact absurd z (Nat.lt_irrefl 0)) k
theorem g_aS5 {v0 v1 v2 v3 v4 v5 : Value} {x : Nat} (hd : gd cc pc (.astore 5) 2 q) (hn : Nat.ble 6 nL = true) (hc : v4.category = 1) (k : gY d RC RS y cc nL ret cells slots Q q (v0 :: v1 :: v2 :: v3 :: v4 :: .ref x :: lv) st h) : gY d RC RS y cc nL ret cells slots Q pc (v0 :: v1 :: v2 :: v3 :: v4 :: v5 :: lv) (.ref x :: st) h := g_astore hd (Nat.le_of_ble_eq_true hn) (by show 5 < _; simp) (fun u e z => by first | (cases e; exact hc) | exact absurd z (Nat.lt_irrefl 0)) k
theorem g_aS6 {v0 v1 v2 v3 v4 v5 v6 : Value} {x : Nat} (hd : gd cc pc (.astore 6) 2 q) (hn : Nat.ble 7 nL = true) (hc : v5.category = 1) (k : gY d RC RS y cc nL ret cells slots Q q (v0 :: v1 :: v2 :: v3 :: v4 :: v5 :: .ref x :: lv) st h) : gY d RC RS y cc nL ret cells slots Q pc (v0 :: v1 :: v2 :: v3 :: v4 :: v5 :: v6 :: lv) (.ref x :: st) h := g_astore hd (Nat.le_of_ble_eq_true hn) (by show 6 < _; simp) (fun u e z => by first | (cases e; exact hc) | exact absurd z (Nat.lt_irrefl 0)) k
theorem g_aS7 {v0 v1 v2 v3 v4 v5 v6 v7 : Value} {x : Nat} (hd : gd cc pc (.astore 7) 2 q) (hn : Nat.ble 8 nL = true) (hc : v6.category = 1) (k : gY d RC RS y cc nL ret cells slots Q q (v0 :: v1 :: v2 :: v3 :: v4 :: v5 :: v6 :: .ref x :: lv) st h) : gY d RC RS y cc nL ret cells slots Q pc (v0 :: v1 :: v2 :: v3 :: v4 :: v5 :: v6 :: v7 :: lv) (.ref x :: st) h := g_astore hd (Nat.le_of_ble_eq_true hn) (by show 7 < _; simp) (fun u e z => by first | (cases e; exact hc) | exact absurd z (Nat.lt_irrefl 0)) k
theorem g_aS8 {v0 v1 v2 v3 v4 v5 v6 v7 v8 : Value} {x : Nat} (hd : gd cc pc (.astore 8) 2 q) (hn : Nat.ble 9 nL = true) (hc : v7.category = 1) (k : gY d RC RS y cc nL ret cells slots Q q (v0 :: v1 :: v2 :: v3 :: v4 :: v5 :: v6 :: v7 :: .ref x :: lv) st h) : gY d RC RS y cc nL ret cells slots Q pc (v0 :: v1 :: v2 :: v3 :: v4 :: v5 :: v6 :: v7 :: v8 :: lv) (.ref x :: st) h := g_astore hd (Nat.le_of_ble_eq_true hn) (by show 8 < _; simp) (fun u e z => by first | (cases e; exact hc) | exact absurd z (Nat.lt_irrefl 0)) k
theorem g_aS9 {v0 v1 v2 v3 v4 v5 v6 v7 v8 v9 : Value} {x : Nat} (hd : gd cc pc (.astore 9) 2 q) (hn : Nat.ble 10 nL = true) (hc : v8.category = 1) (k : gY d RC RS y cc nL ret cells slots Q q (v0 :: v1 :: v2 :: v3 :: v4 :: v5 :: v6 :: v7 :: v8 :: .ref x :: lv) st h) : gY d RC RS y cc nL ret cells slots Q pc (v0 :: v1 :: v2 :: v3 :: v4 :: v5 :: v6 :: v7 :: v8 :: v9 :: lv) (.ref x :: st) h := g_astore hd (Nat.le_of_ble_eq_true hn) (by show 9 < _; simp) (fun u e z => by first | (cases e; exact hc) | exact absurd z (Nat.lt_irrefl 0)) k
theorem g_aS10 {v0 v1 v2 v3 v4 v5 v6 v7 v8 v9 v10 : Value} {x : Nat} (hd : gd cc pc (.astore 10) 2 q) (hn : Nat.ble 11 nL = true) (hc : v9.category = 1) (k : gY d RC RS y cc nL ret cells slots Q q (v0 :: v1 :: v2 :: v3 :: v4 :: v5 :: v6 :: v7 :: v8 :: v9 :: .ref x :: lv) st h) : gY d RC RS y cc nL ret cells slots Q pc (v0 :: v1 :: v2 :: v3 :: v4 :: v5 :: v6 :: v7 :: v8 :: v9 :: v10 :: lv) (.ref x :: st) h := g_astore hd (Nat.le_of_ble_eq_true hn) (by show 10 < _; simp) (fun u e z => by first | (cases e; exact hc) | exact absurd z (Nat.lt_irrefl 0)) k
theorem g_aS11 {v0 v1 v2 v3 v4 v5 v6 v7 v8 v9 v10 v11 : Value} {x : Nat} (hd : gd cc pc (.astore 11) 2 q) (hn : Nat.ble 12 nL = true) (hc : v10.category = 1) (k : gY d RC RS y cc nL ret cells slots Q q (v0 :: v1 :: v2 :: v3 :: v4 :: v5 :: v6 :: v7 :: v8 :: v9 :: v10 :: .ref x :: lv) st h) : gY d RC RS y cc nL ret cells slots Q pc (v0 :: v1 :: v2 :: v3 :: v4 :: v5 :: v6 :: v7 :: v8 :: v9 :: v10 :: v11 :: lv) (.ref x :: st) h := g_astore hd (Nat.le_of_ble_eq_true hn) (by show 11 < _; simp) (fun u e z => by first | (cases e; exact hc) | exact absurd z (Nat.lt_irrefl 0)) k
theorem g_aS12 {v0 v1 v2 v3 v4 v5 v6 v7 v8 v9 v10 v11 v12 : Value} {x : Nat} (hd : gd cc pc (.astore 12) 2 q) (hn : Nat.ble 13 nL = true) (hc : v11.category = 1) (k : gY d RC RS y cc nL ret cells slots Q q (v0 :: v1 :: v2 :: v3 :: v4 :: v5 :: v6 :: v7 :: v8 :: v9 :: v10 :: v11 :: .ref x :: lv) st h) : gY d RC RS y cc nL ret cells slots Q pc (v0 :: v1 :: v2 :: v3 :: v4 :: v5 :: v6 :: v7 :: v8 :: v9 :: v10 :: v11 :: v12 :: lv) (.ref x :: st) h := g_astore hd (Nat.le_of_ble_eq_true hn) (by show 12 < _; simp) (fun u e z => by first | (cases e; exact hc) | exact absurd z (Nat.lt_irrefl 0)) k
theorem g_aS13 {v0 v1 v2 v3 v4 v5 v6 v7 v8 v9 v10 v11 v12 v13 : Value} {x : Nat} (hd : gd cc pc (.astore 13) 2 q) (hn : Nat.ble 14 nL = true) (hc : v12.category = 1) (k : gY d RC RS y cc nL ret cells slots Q q (v0 :: v1 :: v2 :: v3 :: v4 :: v5 :: v6 :: v7 :: v8 :: v9 :: v10 :: v11 :: v12 :: .ref x :: lv) st h) : gY d RC RS y cc nL ret cells slots Q pc (v0 :: v1 :: v2 :: v3 :: v4 :: v5 :: v6 :: v7 :: v8 :: v9 :: v10 :: v11 :: v12 :: v13 :: lv) (.ref x :: st) h := g_astore hd (Nat.le_of_ble_eq_true hn) (by show 13 < _; simp) (fun u e z => by first | (cases e; exact hc) | exact absurd z (Nat.lt_irrefl 0)) k
theorem g_lS0 {v0 v1 : Value} {x : Int64} (hd : gd cc pc (.lstore_n 0) 1 q) (hn : Nat.ble 2 nL = true)  (k : gY d RC RS y cc nL ret cells slots Q q (.long x :: .retAddr 0 :: lv) st h) : gY d RC RS y cc nL ret cells slots Q pc (v0 :: v1 :: lv) (.long x :: st) h := g_lstore_n (k0 := 0) hd (Nat.le_of_ble_eq_true hn) (by show 0 + 1 < _; simp) (fun u e z => absurd z (Nat.lt_irrefl 0)) k
theorem g_lS1 {v0 v1 v2 : Value} {x : Int64} (hd : gd cc pc (.lstore_n 1) 1 q) (hn : Nat.ble 3 nL = true) (hc : v0.category = 1) (k : gY d RC RS y cc nL ret cells slots Q q (v0 :: .long x :: .retAddr 0 :: lv) st h) : gY d RC RS y cc nL ret cells slots Q pc (v0 :: v1 :: v2 :: lv) (.long x :: st) h := g_lstore_n (k0 := 1) hd (Nat.le_of_ble_eq_true hn) (by show 1 + 1 < _; simp) (fun u e z => by first | (cases e; exact hc) | exact absurd z (Nat.lt_irrefl 0)) k
theorem g_lS2 {v0 v1 v2 v3 : Value} {x : Int64} (hd : gd cc pc (.lstore_n 2) 1 q) (hn : Nat.ble 4 nL = true) (hc : v1.category = 1) (k : gY d RC RS y cc nL ret cells slots Q q (v0 :: v1 :: .long x :: .retAddr 0 :: lv) st h) : gY d RC RS y cc nL ret cells slots Q pc (v0 :: v1 :: v2 :: v3 :: lv) (.long x :: st) h := g_lstore_n (k0 := 2) hd (Nat.le_of_ble_eq_true hn) (by show 2 + 1 < _; simp) (fun u e z => by first | (cases e; exact hc) | exact absurd z (Nat.lt_irrefl 0)) k
theorem g_lS3 {v0 v1 v2 v3 v4 : Value} {x : Int64} (hd : gd cc pc (.lstore_n 3) 1 q) (hn : Nat.ble 5 nL = true) (hc : v2.category = 1) (k : gY d RC RS y cc nL ret cells slots Q q (v0 :: v1 :: v2 :: .long x :: .retAddr 0 :: lv) st h) : gY d RC RS y cc nL ret cells slots Q pc (v0 :: v1 :: v2 :: v3 :: v4 :: lv) (.long x :: st) h := g_lstore_n (k0 := 3) hd (Nat.le_of_ble_eq_true hn) (by show 3 + 1 < _; simp) (fun u e z => by first | (cases e; exact hc) | exact absurd z (Nat.lt_irrefl 0)) k
theorem g_lS4 {v0 v1 v2 v3 v4 v5 : Value} {x : Int64} (hd : gd cc pc (.lstore 4) 2 q) (hn : Nat.ble 6 nL = true) (hc : v3.category = 1) (k : gY d RC RS y cc nL ret cells slots Q q (v0 :: v1 :: v2 :: v3 :: .long x :: .retAddr 0 :: lv) st h) : gY d RC RS y cc nL ret cells slots Q pc (v0 :: v1 :: v2 :: v3 :: v4 :: v5 :: lv) (.long x :: st) h := g_lstore hd (Nat.le_of_ble_eq_true hn) (by show 4 + 1 < _; simp) (fun u e z => by first | (cases e; exact hc) | exact absurd z (Nat.lt_irrefl 0)) k
theorem g_lS5 {v0 v1 v2 v3 v4 v5 v6 : Value} {x : Int64} (hd : gd cc pc (.lstore 5) 2 q) (hn : Nat.ble 7 nL = true) (hc : v4.category = 1) (k : gY d RC RS y cc nL ret cells slots Q q (v0 :: v1 :: v2 :: v3 :: v4 :: .long x :: .retAddr 0 :: lv) st h) : gY d RC RS y cc nL ret cells slots Q pc (v0 :: v1 :: v2 :: v3 :: v4 :: v5 :: v6 :: lv) (.long x :: st) h := g_lstore hd (Nat.le_of_ble_eq_true hn) (by show 5 + 1 < _; simp) (fun u e z => by first | (cases e; exact hc) | exact absurd z (Nat.lt_irrefl 0)) k
theorem g_lS6 {v0 v1 v2 v3 v4 v5 v6 v7 : Value} {x : Int64} (hd : gd cc pc (.lstore 6) 2 q) (hn : Nat.ble 8 nL = true) (hc : v5.category = 1) (k : gY d RC RS y cc nL ret cells slots Q q (v0 :: v1 :: v2 :: v3 :: v4 :: v5 :: .long x :: .retAddr 0 :: lv) st h) : gY d RC RS y cc nL ret cells slots Q pc (v0 :: v1 :: v2 :: v3 :: v4 :: v5 :: v6 :: v7 :: lv) (.long x :: st) h := g_lstore hd (Nat.le_of_ble_eq_true hn) (by show 6 + 1 < _; simp) (fun u e z => by first | (cases e; exact hc) | exact absurd z (Nat.lt_irrefl 0)) k
theorem g_lS7 {v0 v1 v2 v3 v4 v5 v6 v7 v8 : Value} {x : Int64} (hd : gd cc pc (.lstore 7) 2 q) (hn : Nat.ble 9 nL = true) (hc : v6.category = 1) (k : gY d RC RS y cc nL ret cells slots Q q (v0 :: v1 :: v2 :: v3 :: v4 :: v5 :: v6 :: .long x :: .retAddr 0 :: lv) st h) : gY d RC RS y cc nL ret cells slots Q pc (v0 :: v1 :: v2 :: v3 :: v4 :: v5 :: v6 :: v7 :: v8 :: lv) (.long x :: st) h := g_lstore hd (Nat.le_of_ble_eq_true hn) (by show 7 + 1 < _; simp) (fun u e z => by first | (cases e; exact hc) | exact absurd z (Nat.lt_irrefl 0)) k
theorem g_lS8 {v0 v1 v2 v3 v4 v5 v6 v7 v8 v9 : Value} {x : Int64} (hd : gd cc pc (.lstore 8) 2 q) (hn : Nat.ble 10 nL = true) (hc : v7.category = 1) (k : gY d RC RS y cc nL ret cells slots Q q (v0 :: v1 :: v2 :: v3 :: v4 :: v5 :: v6 :: v7 :: .long x :: .retAddr 0 :: lv) st h) : gY d RC RS y cc nL ret cells slots Q pc (v0 :: v1 :: v2 :: v3 :: v4 :: v5 :: v6 :: v7 :: v8 :: v9 :: lv) (.long x :: st) h := g_lstore hd (Nat.le_of_ble_eq_true hn) (by show 8 + 1 < _; simp) (fun u e z => by first | (cases e; exact hc) | exact absurd z (Nat.lt_irrefl 0)) k
theorem g_lS9 {v0 v1 v2 v3 v4 v5 v6 v7 v8 v9 v10 : Value} {x : Int64} (hd : gd cc pc (.lstore 9) 2 q) (hn : Nat.ble 11 nL = true) (hc : v8.category = 1) (k : gY d RC RS y cc nL ret cells slots Q q (v0 :: v1 :: v2 :: v3 :: v4 :: v5 :: v6 :: v7 :: v8 :: .long x :: .retAddr 0 :: lv) st h) : gY d RC RS y cc nL ret cells slots Q pc (v0 :: v1 :: v2 :: v3 :: v4 :: v5 :: v6 :: v7 :: v8 :: v9 :: v10 :: lv) (.long x :: st) h := g_lstore hd (Nat.le_of_ble_eq_true hn) (by show 9 + 1 < _; simp) (fun u e z => by first | (cases e; exact hc) | exact absurd z (Nat.lt_irrefl 0)) k
theorem g_lS10 {v0 v1 v2 v3 v4 v5 v6 v7 v8 v9 v10 v11 : Value} {x : Int64} (hd : gd cc pc (.lstore 10) 2 q) (hn : Nat.ble 12 nL = true) (hc : v9.category = 1) (k : gY d RC RS y cc nL ret cells slots Q q (v0 :: v1 :: v2 :: v3 :: v4 :: v5 :: v6 :: v7 :: v8 :: v9 :: .long x :: .retAddr 0 :: lv) st h) : gY d RC RS y cc nL ret cells slots Q pc (v0 :: v1 :: v2 :: v3 :: v4 :: v5 :: v6 :: v7 :: v8 :: v9 :: v10 :: v11 :: lv) (.long x :: st) h := g_lstore hd (Nat.le_of_ble_eq_true hn) (by show 10 + 1 < _; simp) (fun u e z => by first | (cases e; exact hc) | exact absurd z (Nat.lt_irrefl 0)) k
theorem g_lS11 {v0 v1 v2 v3 v4 v5 v6 v7 v8 v9 v10 v11 v12 : Value} {x : Int64} (hd : gd cc pc (.lstore 11) 2 q) (hn : Nat.ble 13 nL = true) (hc : v10.category = 1) (k : gY d RC RS y cc nL ret cells slots Q q (v0 :: v1 :: v2 :: v3 :: v4 :: v5 :: v6 :: v7 :: v8 :: v9 :: v10 :: .long x :: .retAddr 0 :: lv) st h) : gY d RC RS y cc nL ret cells slots Q pc (v0 :: v1 :: v2 :: v3 :: v4 :: v5 :: v6 :: v7 :: v8 :: v9 :: v10 :: v11 :: v12 :: lv) (.long x :: st) h := g_lstore hd (Nat.le_of_ble_eq_true hn) (by show 11 + 1 < _; simp) (fun u e z => by first | (cases e; exact hc) | exact absurd z (Nat.lt_irrefl 0)) k
theorem g_lS12 {v0 v1 v2 v3 v4 v5 v6 v7 v8 v9 v10 v11 v12 v13 : Value} {x : Int64} (hd : gd cc pc (.lstore 12) 2 q) (hn : Nat.ble 14 nL = true) (hc : v11.category = 1) (k : gY d RC RS y cc nL ret cells slots Q q (v0 :: v1 :: v2 :: v3 :: v4 :: v5 :: v6 :: v7 :: v8 :: v9 :: v10 :: v11 :: .long x :: .retAddr 0 :: lv) st h) : gY d RC RS y cc nL ret cells slots Q pc (v0 :: v1 :: v2 :: v3 :: v4 :: v5 :: v6 :: v7 :: v8 :: v9 :: v10 :: v11 :: v12 :: v13 :: lv) (.long x :: st) h := g_lstore hd (Nat.le_of_ble_eq_true hn) (by show 12 + 1 < _; simp) (fun u e z => by first | (cases e; exact hc) | exact absurd z (Nat.lt_irrefl 0)) k
theorem g_lS13 {v0 v1 v2 v3 v4 v5 v6 v7 v8 v9 v10 v11 v12 v13 v14 : Value} {x : Int64} (hd : gd cc pc (.lstore 13) 2 q) (hn : Nat.ble 15 nL = true) (hc : v12.category = 1) (k : gY d RC RS y cc nL ret cells slots Q q (v0 :: v1 :: v2 :: v3 :: v4 :: v5 :: v6 :: v7 :: v8 :: v9 :: v10 :: v11 :: v12 :: .long x :: .retAddr 0 :: lv) st h) : gY d RC RS y cc nL ret cells slots Q pc (v0 :: v1 :: v2 :: v3 :: v4 :: v5 :: v6 :: v7 :: v8 :: v9 :: v10 :: v11 :: v12 :: v13 :: v14 :: lv) (.long x :: st) h := g_lstore hd (Nat.le_of_ble_eq_true hn) (by show 13 + 1 < _; simp) (fun u e z => by first | (cases e; exact hc) | exact absurd z (Nat.lt_irrefl 0)) k
theorem g_ii0  {x v : Int32} {n : Int} (hd : decode cc pc = .ok (.iinc 0 n, 3) ∧ pc + 3 = q ∧ Int32.ofInt n = v) (hn : Nat.ble 1 nL = true)  (k : gY d RC RS y cc nL ret cells slots Q q (.int (x + v) :: lv) st h) : gY d RC RS y cc nL ret cells slots Q pc (.int x :: lv) st h := g_iinc hd (Nat.le_of_ble_eq_true hn) rfl (fun u e z => absurd z (Nat.lt_irrefl 0)) k
theorem g_ii1 {v0 : Value} {x v : Int32} {n : Int} (hd : decode cc pc = .ok (.iinc 1 n, 3) ∧ pc + 3 = q ∧ Int32.ofInt n = v) (hn : Nat.ble 2 nL = true) (hc : v0.category = 1) (k : gY d RC RS y cc nL ret cells slots Q q (v0 :: .int (x + v) :: lv) st h) : gY d RC RS y cc nL ret cells slots Q pc (v0 :: .int x :: lv) st h := g_iinc hd (Nat.le_of_ble_eq_true hn) rfl (fun u e z => by first | (cases e; exact hc) | exact absurd z (Nat.lt_irrefl 0)) k
theorem g_ii2 {v0 v1 : Value} {x v : Int32} {n : Int} (hd : decode cc pc = .ok (.iinc 2 n, 3) ∧ pc + 3 = q ∧ Int32.ofInt n = v) (hn : Nat.ble 3 nL = true) (hc : v1.category = 1) (k : gY d RC RS y cc nL ret cells slots Q q (v0 :: v1 :: .int (x + v) :: lv) st h) : gY d RC RS y cc nL ret cells slots Q pc (v0 :: v1 :: .int x :: lv) st h := g_iinc hd (Nat.le_of_ble_eq_true hn) rfl (fun u e z => by first | (cases e; exact hc) | exact absurd z (Nat.lt_irrefl 0)) k
theorem g_ii3 {v0 v1 v2 : Value} {x v : Int32} {n : Int} (hd : decode cc pc = .ok (.iinc 3 n, 3) ∧ pc + 3 = q ∧ Int32.ofInt n = v) (hn : Nat.ble 4 nL = true) (hc : v2.category = 1) (k : gY d RC RS y cc nL ret cells slots Q q (v0 :: v1 :: v2 :: .int (x + v) :: lv) st h) : gY d RC RS y cc nL ret cells slots Q pc (v0 :: v1 :: v2 :: .int x :: lv) st h := g_iinc hd (Nat.le_of_ble_eq_true hn) rfl (fun u e z => by first | (cases e; exact hc) | exact absurd z (Nat.lt_irrefl 0)) k
theorem g_ii4 {v0 v1 v2 v3 : Value} {x v : Int32} {n : Int} (hd : decode cc pc = .ok (.iinc 4 n, 3) ∧ pc + 3 = q ∧ Int32.ofInt n = v) (hn : Nat.ble 5 nL = true) (hc : v3.category = 1) (k : gY d RC RS y cc nL ret cells slots Q q (v0 :: v1 :: v2 :: v3 :: .int (x + v) :: lv) st h) : gY d RC RS y cc nL ret cells slots Q pc (v0 :: v1 :: v2 :: v3 :: .int x :: lv) st h := g_iinc hd (Nat.le_of_ble_eq_true hn) rfl (fun u e z => by first | (cases e; exact hc) | exact absurd z (Nat.lt_irrefl 0)) k
theorem g_ii5 {v0 v1 v2 v3 v4 : Value} {x v : Int32} {n : Int} (hd : decode cc pc = .ok (.iinc 5 n, 3) ∧ pc + 3 = q ∧ Int32.ofInt n = v) (hn : Nat.ble 6 nL = true) (hc : v4.category = 1) (k : gY d RC RS y cc nL ret cells slots Q q (v0 :: v1 :: v2 :: v3 :: v4 :: .int (x + v) :: lv) st h) : gY d RC RS y cc nL ret cells slots Q pc (v0 :: v1 :: v2 :: v3 :: v4 :: .int x :: lv) st h := g_iinc hd (Nat.le_of_ble_eq_true hn) rfl (fun u e z => by first | (cases e; exact hc) | exact absurd z (Nat.lt_irrefl 0)) k
theorem g_ii6 {v0 v1 v2 v3 v4 v5 : Value} {x v : Int32} {n : Int} (hd : decode cc pc = .ok (.iinc 6 n, 3) ∧ pc + 3 = q ∧ Int32.ofInt n = v) (hn : Nat.ble 7 nL = true) (hc : v5.category = 1) (k : gY d RC RS y cc nL ret cells slots Q q (v0 :: v1 :: v2 :: v3 :: v4 :: v5 :: .int (x + v) :: lv) st h) : gY d RC RS y cc nL ret cells slots Q pc (v0 :: v1 :: v2 :: v3 :: v4 :: v5 :: .int x :: lv) st h := g_iinc hd (Nat.le_of_ble_eq_true hn) rfl (fun u e z => by first | (cases e; exact hc) | exact absurd z (Nat.lt_irrefl 0)) k
theorem g_ii7 {v0 v1 v2 v3 v4 v5 v6 : Value} {x v : Int32} {n : Int} (hd : decode cc pc = .ok (.iinc 7 n, 3) ∧ pc + 3 = q ∧ Int32.ofInt n = v) (hn : Nat.ble 8 nL = true) (hc : v6.category = 1) (k : gY d RC RS y cc nL ret cells slots Q q (v0 :: v1 :: v2 :: v3 :: v4 :: v5 :: v6 :: .int (x + v) :: lv) st h) : gY d RC RS y cc nL ret cells slots Q pc (v0 :: v1 :: v2 :: v3 :: v4 :: v5 :: v6 :: .int x :: lv) st h := g_iinc hd (Nat.le_of_ble_eq_true hn) rfl (fun u e z => by first | (cases e; exact hc) | exact absurd z (Nat.lt_irrefl 0)) k
theorem g_ii8 {v0 v1 v2 v3 v4 v5 v6 v7 : Value} {x v : Int32} {n : Int} (hd : decode cc pc = .ok (.iinc 8 n, 3) ∧ pc + 3 = q ∧ Int32.ofInt n = v) (hn : Nat.ble 9 nL = true) (hc : v7.category = 1) (k : gY d RC RS y cc nL ret cells slots Q q (v0 :: v1 :: v2 :: v3 :: v4 :: v5 :: v6 :: v7 :: .int (x + v) :: lv) st h) : gY d RC RS y cc nL ret cells slots Q pc (v0 :: v1 :: v2 :: v3 :: v4 :: v5 :: v6 :: v7 :: .int x :: lv) st h := g_iinc hd (Nat.le_of_ble_eq_true hn) rfl (fun u e z => by first | (cases e; exact hc) | exact absurd z (Nat.lt_irrefl 0)) k
theorem g_ii9 {v0 v1 v2 v3 v4 v5 v6 v7 v8 : Value} {x v : Int32} {n : Int} (hd : decode cc pc = .ok (.iinc 9 n, 3) ∧ pc + 3 = q ∧ Int32.ofInt n = v) (hn : Nat.ble 10 nL = true) (hc : v8.category = 1) (k : gY d RC RS y cc nL ret cells slots Q q (v0 :: v1 :: v2 :: v3 :: v4 :: v5 :: v6 :: v7 :: v8 :: .int (x + v) :: lv) st h) : gY d RC RS y cc nL ret cells slots Q pc (v0 :: v1 :: v2 :: v3 :: v4 :: v5 :: v6 :: v7 :: v8 :: .int x :: lv) st h := g_iinc hd (Nat.le_of_ble_eq_true hn) rfl (fun u e z => by first | (cases e; exact hc) | exact absurd z (Nat.lt_irrefl 0)) k
theorem g_ii10 {v0 v1 v2 v3 v4 v5 v6 v7 v8 v9 : Value} {x v : Int32} {n : Int} (hd : decode cc pc = .ok (.iinc 10 n, 3) ∧ pc + 3 = q ∧ Int32.ofInt n = v) (hn : Nat.ble 11 nL = true) (hc : v9.category = 1) (k : gY d RC RS y cc nL ret cells slots Q q (v0 :: v1 :: v2 :: v3 :: v4 :: v5 :: v6 :: v7 :: v8 :: v9 :: .int (x + v) :: lv) st h) : gY d RC RS y cc nL ret cells slots Q pc (v0 :: v1 :: v2 :: v3 :: v4 :: v5 :: v6 :: v7 :: v8 :: v9 :: .int x :: lv) st h := g_iinc hd (Nat.le_of_ble_eq_true hn) rfl (fun u e z => by first | (cases e; exact hc) | exact absurd z (Nat.lt_irrefl 0)) k
theorem g_ii11 {v0 v1 v2 v3 v4 v5 v6 v7 v8 v9 v10 : Value} {x v : Int32} {n : Int} (hd : decode cc pc = .ok (.iinc 11 n, 3) ∧ pc + 3 = q ∧ Int32.ofInt n = v) (hn : Nat.ble 12 nL = true) (hc : v10.category = 1) (k : gY d RC RS y cc nL ret cells slots Q q (v0 :: v1 :: v2 :: v3 :: v4 :: v5 :: v6 :: v7 :: v8 :: v9 :: v10 :: .int (x + v) :: lv) st h) : gY d RC RS y cc nL ret cells slots Q pc (v0 :: v1 :: v2 :: v3 :: v4 :: v5 :: v6 :: v7 :: v8 :: v9 :: v10 :: .int x :: lv) st h := g_iinc hd (Nat.le_of_ble_eq_true hn) rfl (fun u e z => by first | (cases e; exact hc) | exact absurd z (Nat.lt_irrefl 0)) k
theorem g_ii12 {v0 v1 v2 v3 v4 v5 v6 v7 v8 v9 v10 v11 : Value} {x v : Int32} {n : Int} (hd : decode cc pc = .ok (.iinc 12 n, 3) ∧ pc + 3 = q ∧ Int32.ofInt n = v) (hn : Nat.ble 13 nL = true) (hc : v11.category = 1) (k : gY d RC RS y cc nL ret cells slots Q q (v0 :: v1 :: v2 :: v3 :: v4 :: v5 :: v6 :: v7 :: v8 :: v9 :: v10 :: v11 :: .int (x + v) :: lv) st h) : gY d RC RS y cc nL ret cells slots Q pc (v0 :: v1 :: v2 :: v3 :: v4 :: v5 :: v6 :: v7 :: v8 :: v9 :: v10 :: v11 :: .int x :: lv) st h := g_iinc hd (Nat.le_of_ble_eq_true hn) rfl (fun u e z => by first | (cases e; exact hc) | exact absurd z (Nat.lt_irrefl 0)) k
theorem g_ii13 {v0 v1 v2 v3 v4 v5 v6 v7 v8 v9 v10 v11 v12 : Value} {x v : Int32} {n : Int} (hd : decode cc pc = .ok (.iinc 13 n, 3) ∧ pc + 3 = q ∧ Int32.ofInt n = v) (hn : Nat.ble 14 nL = true) (hc : v12.category = 1) (k : gY d RC RS y cc nL ret cells slots Q q (v0 :: v1 :: v2 :: v3 :: v4 :: v5 :: v6 :: v7 :: v8 :: v9 :: v10 :: v11 :: v12 :: .int (x + v) :: lv) st h) : gY d RC RS y cc nL ret cells slots Q pc (v0 :: v1 :: v2 :: v3 :: v4 :: v5 :: v6 :: v7 :: v8 :: v9 :: v10 :: v11 :: v12 :: .int x :: lv) st h := g_iinc hd (Nat.le_of_ble_eq_true hn) rfl (fun u e z => by first | (cases e; exact hc) | exact absurd z (Nat.lt_irrefl 0)) k
end GR

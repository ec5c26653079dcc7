/-! ROWS FOR FRAMES THAT END OTHERWISE, by program out of the rows above -/
def gP (PG : Gp → Code → Prop) (PQ : Gp → List Frame → Array Value → State → State → Prop) (d RC RS : Nat) (y : MethodName) (cc : ByteArray) (nL : Nat) (ret : Option FieldType) (cells slots : Nat) (pc : Nat) (lv st : List Value) (h : Hp) : Prop :=
  ∀ (p : Program) (l : gLn) (e : Env) (s : State) (m : MethodId) (args : Array Value) (below : List Frame) (meth : Method) (c : Code) (G : Gp), gCx y cc nL ret p s m args meth c G → PG G c → ∀ (ls : Array Slot) (H : Heap) (locs : List Loc), lv_has ls nL (gls G 0 lv) → gWh G h H → va_S (gA G) s.heap H locs → W p l.1 e (grm d RC RS) s m args below meth c H locs cells slots (PQ G below args s) (F0 m pc ls (st.map (gtr G)))
section PR
variable {PG : Gp → Code → Prop} {PQ : Gp → List Frame → Array Value → State → State → Prop} {d RC RS nL cells slots pc q t : Nat} {y : MethodName} {cc : ByteArray} {ret : Option FieldType} {lv st : List Value} {h : Hp}
theorem p_iadd {a b : Int32} (hd : gd cc pc .iadd 1 q)  (k : gP PG PQ d RC RS y cc nL ret cells slots q lv (.int (a + b) :: st) h) : gP PG PQ d RC RS y cc nL ret cells slots pc lv (.int b :: .int a :: st) h := by
  obtain ⟨hd, rfl⟩ := hd
  intro p l e s m args below meth c G C hPG ls H locs hl hw hS
  obtain ⟨hx, hb, -⟩ := id C
  exact lv_iadd hx hb hd  (k p l e s m args below meth c G C hPG ls H locs hl hw hS)
theorem p_isub {a b : Int32} (hd : gd cc pc .isub 1 q)  (k : gP PG PQ d RC RS y cc nL ret cells slots q lv (.int (a - b) :: st) h) : gP PG PQ d RC RS y cc nL ret cells slots pc lv (.int b :: .int a :: st) h := by
  obtain ⟨hd, rfl⟩ := hd
  intro p l e s m args below meth c G C hPG ls H locs hl hw hS
  obtain ⟨hx, hb, -⟩ := id C
  exact lv_isub hx hb hd  (k p l e s m args below meth c G C hPG ls H locs hl hw hS)
theorem p_imul {a b : Int32} (hd : gd cc pc .imul 1 q)  (k : gP PG PQ d RC RS y cc nL ret cells slots q lv (.int (a * b) :: st) h) : gP PG PQ d RC RS y cc nL ret cells slots pc lv (.int b :: .int a :: st) h := by
  obtain ⟨hd, rfl⟩ := hd
  intro p l e s m args below meth c G C hPG ls H locs hl hw hS
  obtain ⟨hx, hb, -⟩ := id C
  exact lv_imul hx hb hd  (k p l e s m args below meth c G C hPG ls H locs hl hw hS)
theorem p_iand {a b : Int32} (hd : gd cc pc .iand 1 q)  (k : gP PG PQ d RC RS y cc nL ret cells slots q lv (.int (a &&& b) :: st) h) : gP PG PQ d RC RS y cc nL ret cells slots pc lv (.int b :: .int a :: st) h := by
  obtain ⟨hd, rfl⟩ := hd
  intro p l e s m args below meth c G C hPG ls H locs hl hw hS
  obtain ⟨hx, hb, -⟩ := id C
  exact lv_iand hx hb hd  (k p l e s m args below meth c G C hPG ls H locs hl hw hS)
theorem p_ior {a b : Int32} (hd : gd cc pc .ior 1 q)  (k : gP PG PQ d RC RS y cc nL ret cells slots q lv (.int (a ||| b) :: st) h) : gP PG PQ d RC RS y cc nL ret cells slots pc lv (.int b :: .int a :: st) h := by
  obtain ⟨hd, rfl⟩ := hd
  intro p l e s m args below meth c G C hPG ls H locs hl hw hS
  obtain ⟨hx, hb, -⟩ := id C
  exact lv_ior hx hb hd  (k p l e s m args below meth c G C hPG ls H locs hl hw hS)
theorem p_ixor {a b : Int32} (hd : gd cc pc .ixor 1 q)  (k : gP PG PQ d RC RS y cc nL ret cells slots q lv (.int (a ^^^ b) :: st) h) : gP PG PQ d RC RS y cc nL ret cells slots pc lv (.int b :: .int a :: st) h := by
  obtain ⟨hd, rfl⟩ := hd
  intro p l e s m args below meth c G C hPG ls H locs hl hw hS
  obtain ⟨hx, hb, -⟩ := id C
  exact lv_ixor hx hb hd  (k p l e s m args below meth c G C hPG ls H locs hl hw hS)
theorem p_ishl {a b : Int32} (hd : gd cc pc .ishl 1 q)  (k : gP PG PQ d RC RS y cc nL ret cells slots q lv (.int (a <<< (b &&& 31)) :: st) h) : gP PG PQ d RC RS y cc nL ret cells slots pc lv (.int b :: .int a :: st) h := by
  obtain ⟨hd, rfl⟩ := hd
  intro p l e s m args below meth c G C hPG ls H locs hl hw hS
  obtain ⟨hx, hb, -⟩ := id C
  exact lv_ishl hx hb hd  (k p l e s m args below meth c G C hPG ls H locs hl hw hS)
theorem p_ishr {a b : Int32} (hd : gd cc pc .ishr 1 q)  (k : gP PG PQ d RC RS y cc nL ret cells slots q lv (.int (a >>> (b &&& 31)) :: st) h) : gP PG PQ d RC RS y cc nL ret cells slots pc lv (.int b :: .int a :: st) h := by
  obtain ⟨hd, rfl⟩ := hd
  intro p l e s m args below meth c G C hPG ls H locs hl hw hS
  obtain ⟨hx, hb, -⟩ := id C
  exact lv_ishr hx hb hd  (k p l e s m args below meth c G C hPG ls H locs hl hw hS)
theorem p_iushr {a b : Int32} (hd : gd cc pc .iushr 1 q)  (k : gP PG PQ d RC RS y cc nL ret cells slots q lv (.int ((a.toUInt32 >>> (b.toUInt32 &&& Int32.toUInt32 31)).toInt32) :: st) h) : gP PG PQ d RC RS y cc nL ret cells slots pc lv (.int b :: .int a :: st) h := by
  obtain ⟨hd, rfl⟩ := hd
  intro p l e s m args below meth c G C hPG ls H locs hl hw hS
  obtain ⟨hx, hb, -⟩ := id C
  exact lv_iushr hx hb hd rfl (k p l e s m args below meth c G C hPG ls H locs hl hw hS)
theorem p_irem {a b : Int32} (hd : gd cc pc .irem 1 q) (hne : ¬ b = 0) (k : gP PG PQ d RC RS y cc nL ret cells slots q lv (.int (a - a / b * b) :: st) h) : gP PG PQ d RC RS y cc nL ret cells slots pc lv (.int b :: .int a :: st) h := by
  obtain ⟨hd, rfl⟩ := hd
  intro p l e s m args below meth c G C hPG ls H locs hl hw hS
  obtain ⟨hx, hb, -⟩ := id C
  exact lv_irem hx hb hd hne (k p l e s m args below meth c G C hPG ls H locs hl hw hS)
theorem p_ladd {a b : Int64} (hd : gd cc pc .ladd 1 q)  (k : gP PG PQ d RC RS y cc nL ret cells slots q lv (.long (a + b) :: st) h) : gP PG PQ d RC RS y cc nL ret cells slots pc lv (.long b :: .long a :: st) h := by
  obtain ⟨hd, rfl⟩ := hd
  intro p l e s m args below meth c G C hPG ls H locs hl hw hS
  obtain ⟨hx, hb, -⟩ := id C
  exact lv_ladd hx hb hd  (k p l e s m args below meth c G C hPG ls H locs hl hw hS)
theorem p_lsub {a b : Int64} (hd : gd cc pc .lsub 1 q)  (k : gP PG PQ d RC RS y cc nL ret cells slots q lv (.long (a - b) :: st) h) : gP PG PQ d RC RS y cc nL ret cells slots pc lv (.long b :: .long a :: st) h := by
  obtain ⟨hd, rfl⟩ := hd
  intro p l e s m args below meth c G C hPG ls H locs hl hw hS
  obtain ⟨hx, hb, -⟩ := id C
  exact lv_lsub hx hb hd  (k p l e s m args below meth c G C hPG ls H locs hl hw hS)
theorem p_lmul {a b : Int64} (hd : gd cc pc .lmul 1 q)  (k : gP PG PQ d RC RS y cc nL ret cells slots q lv (.long (a * b) :: st) h) : gP PG PQ d RC RS y cc nL ret cells slots pc lv (.long b :: .long a :: st) h := by
  obtain ⟨hd, rfl⟩ := hd
  intro p l e s m args below meth c G C hPG ls H locs hl hw hS
  obtain ⟨hx, hb, -⟩ := id C
  exact lv_lmul hx hb hd  (k p l e s m args below meth c G C hPG ls H locs hl hw hS)
theorem p_ldiv {a b : Int64} (hd : gd cc pc .ldiv 1 q) (hne : ¬ b = 0) (k : gP PG PQ d RC RS y cc nL ret cells slots q lv (.long (a / b) :: st) h) : gP PG PQ d RC RS y cc nL ret cells slots pc lv (.long b :: .long a :: st) h := by
  obtain ⟨hd, rfl⟩ := hd
  intro p l e s m args below meth c G C hPG ls H locs hl hw hS
  obtain ⟨hx, hb, -⟩ := id C
  exact lv_ldiv hx hb hd hne (k p l e s m args below meth c G C hPG ls H locs hl hw hS)
theorem p_lrem {a b : Int64} (hd : gd cc pc .lrem 1 q) (hne : ¬ b = 0) (k : gP PG PQ d RC RS y cc nL ret cells slots q lv (.long (a - a / b * b) :: st) h) : gP PG PQ d RC RS y cc nL ret cells slots pc lv (.long b :: .long a :: st) h := by
  obtain ⟨hd, rfl⟩ := hd
  intro p l e s m args below meth c G C hPG ls H locs hl hw hS
  obtain ⟨hx, hb, -⟩ := id C
  exact lv_lrem hx hb hd hne (k p l e s m args below meth c G C hPG ls H locs hl hw hS)
theorem p_lneg {a : Int64} (hd : gd cc pc .lneg 1 q)  (k : gP PG PQ d RC RS y cc nL ret cells slots q lv (.long (-a) :: st) h) : gP PG PQ d RC RS y cc nL ret cells slots pc lv (.long a :: st) h := by
  obtain ⟨hd, rfl⟩ := hd
  intro p l e s m args below meth c G C hPG ls H locs hl hw hS
  obtain ⟨hx, hb, -⟩ := id C
  exact lv_lneg hx hb hd  (k p l e s m args below meth c G C hPG ls H locs hl hw hS)
theorem p_ineg {a : Int32} (hd : gd cc pc .ineg 1 q)  (k : gP PG PQ d RC RS y cc nL ret cells slots q lv (.int (-a) :: st) h) : gP PG PQ d RC RS y cc nL ret cells slots pc lv (.int a :: st) h := by
  obtain ⟨hd, rfl⟩ := hd
  intro p l e s m args below meth c G C hPG ls H locs hl hw hS
  obtain ⟨hx, hb, -⟩ := id C
  exact lv_ineg hx hb hd  (k p l e s m args below meth c G C hPG ls H locs hl hw hS)
theorem p_lshl {a : Int64} {b : Int32} (hd : gd cc pc .lshl 1 q)  (k : gP PG PQ d RC RS y cc nL ret cells slots q lv (.long (a <<< (b.toInt64 &&& 63)) :: st) h) : gP PG PQ d RC RS y cc nL ret cells slots pc lv (.int b :: .long a :: st) h := by
  obtain ⟨hd, rfl⟩ := hd
  intro p l e s m args below meth c G C hPG ls H locs hl hw hS
  obtain ⟨hx, hb, -⟩ := id C
  exact lv_lshl hx hb hd rfl (k p l e s m args below meth c G C hPG ls H locs hl hw hS)
theorem p_i2l {a : Int32} (hd : gd cc pc .i2l 1 q)  (k : gP PG PQ d RC RS y cc nL ret cells slots q lv (.long a.toInt64 :: st) h) : gP PG PQ d RC RS y cc nL ret cells slots pc lv (.int a :: st) h := by
  obtain ⟨hd, rfl⟩ := hd
  intro p l e s m args below meth c G C hPG ls H locs hl hw hS
  obtain ⟨hx, hb, -⟩ := id C
  exact lv_i2l hx hb hd rfl (k p l e s m args below meth c G C hPG ls H locs hl hw hS)
theorem p_l2i {a : Int64} (hd : gd cc pc .l2i 1 q)  (k : gP PG PQ d RC RS y cc nL ret cells slots q lv (.int a.toInt32 :: st) h) : gP PG PQ d RC RS y cc nL ret cells slots pc lv (.long a :: st) h := by
  obtain ⟨hd, rfl⟩ := hd
  intro p l e s m args below meth c G C hPG ls H locs hl hw hS
  obtain ⟨hx, hb, -⟩ := id C
  exact lv_l2i hx hb hd rfl (k p l e s m args below meth c G C hPG ls H locs hl hw hS)
theorem p_i2b {a : Int32} (hd : gd cc pc .i2b 1 q)  (k : gP PG PQ d RC RS y cc nL ret cells slots q lv (.int a.toInt8.toInt32 :: st) h) : gP PG PQ d RC RS y cc nL ret cells slots pc lv (.int a :: st) h := by
  obtain ⟨hd, rfl⟩ := hd
  intro p l e s m args below meth c G C hPG ls H locs hl hw hS
  obtain ⟨hx, hb, -⟩ := id C
  exact lv_i2b hx hb hd rfl (k p l e s m args below meth c G C hPG ls H locs hl hw hS)
theorem p_i2c {a : Int32} (hd : gd cc pc .i2c 1 q)  (k : gP PG PQ d RC RS y cc nL ret cells slots q lv (.int (a.toUInt32 % 65536).toInt32 :: st) h) : gP PG PQ d RC RS y cc nL ret cells slots pc lv (.int a :: st) h := by
  obtain ⟨hd, rfl⟩ := hd
  intro p l e s m args below meth c G C hPG ls H locs hl hw hS
  obtain ⟨hx, hb, -⟩ := id C
  exact lv_i2c hx hb hd rfl (k p l e s m args below meth c G C hPG ls H locs hl hw hS)
theorem p_lcmp {a b : Int64} (hd : gd cc pc .lcmp 1 q)  (k : gP PG PQ d RC RS y cc nL ret cells slots q lv (.int (lg_cmp a b) :: st) h) : gP PG PQ d RC RS y cc nL ret cells slots pc lv (.long b :: .long a :: st) h := by
  obtain ⟨hd, rfl⟩ := hd
  intro p l e s m args below meth c G C hPG ls H locs hl hw hS
  obtain ⟨hx, hb, -⟩ := id C
  exact W.lcmp hx hb hd  (k p l e s m args below meth c G C hPG ls H locs hl hw hS)
theorem p_dup {v : Value} (hd : gd cc pc .dup 1 q) (hv : v.category = 1) (k : gP PG PQ d RC RS y cc nL ret cells slots q lv (v :: v :: st) h) : gP PG PQ d RC RS y cc nL ret cells slots pc lv (v :: st) h := by
  obtain ⟨hd, rfl⟩ := hd
  intro p l e s m args below meth c G C hPG ls H locs hl hw hS
  obtain ⟨hx, hb, -⟩ := id C
  exact lv_dup hx hb hd ((gtr_cat G _).trans hv) (k p l e s m args below meth c G C hPG ls H locs hl hw hS)
theorem p_dup2 {v u : Value} (hd : gd cc pc .dup2 1 q) (hv : v.category = 1) (hu : u.category = 1) (k : gP PG PQ d RC RS y cc nL ret cells slots q lv (v :: u :: v :: u :: st) h) : gP PG PQ d RC RS y cc nL ret cells slots pc lv (v :: u :: st) h := by
  obtain ⟨hd, rfl⟩ := hd
  intro p l e s m args below meth c G C hPG ls H locs hl hw hS
  obtain ⟨hx, hb, -⟩ := id C
  exact lv_dup2_11 hx hb hd ((gtr_cat G _).trans hv) ((gtr_cat G _).trans hu) (k p l e s m args below meth c G C hPG ls H locs hl hw hS)
theorem p_pop {v : Value} (hd : gd cc pc .pop 1 q) (hv : v.category = 1) (k : gP PG PQ d RC RS y cc nL ret cells slots q lv (st) h) : gP PG PQ d RC RS y cc nL ret cells slots pc lv (v :: st) h := by
  obtain ⟨hd, rfl⟩ := hd
  intro p l e s m args below meth c G C hPG ls H locs hl hw hS
  obtain ⟨hx, hb, -⟩ := id C
  exact lv_pop hx hb hd ((gtr_cat G _).trans hv) (k p l e s m args below meth c G C hPG ls H locs hl hw hS)
theorem p_iconst {n : Int} {v : Int32} (hd : decode cc pc = .ok ((.iconst n), 1) ∧ pc + 1 = q ∧ Int32.ofInt n = v) (k : gP PG PQ d RC RS y cc nL ret cells slots q lv (.int v :: st) h) : gP PG PQ d RC RS y cc nL ret cells slots pc lv st h := by
  obtain ⟨hd, rfl, hv⟩ := hd
  intro p l e s m args below meth c G C hPG ls H locs hl hw hS
  obtain ⟨hx, hb, -⟩ := id C
  exact lv_iconst hx hb hd hv (k p l e s m args below meth c G C hPG ls H locs hl hw hS)
theorem p_bipush {n : Int} {v : Int32} (hd : decode cc pc = .ok ((.bipush n), 2) ∧ pc + 2 = q ∧ (Int8.ofInt n).toInt32 = v) (k : gP PG PQ d RC RS y cc nL ret cells slots q lv (.int v :: st) h) : gP PG PQ d RC RS y cc nL ret cells slots pc lv st h := by
  obtain ⟨hd, rfl, hv⟩ := hd
  intro p l e s m args below meth c G C hPG ls H locs hl hw hS
  obtain ⟨hx, hb, -⟩ := id C
  exact lv_bipush hx hb hd hv (k p l e s m args below meth c G C hPG ls H locs hl hw hS)
theorem p_sipush {n : Int} {v : Int32} (hd : decode cc pc = .ok ((.sipush n), 3) ∧ pc + 3 = q ∧ (Int16.ofInt n).toInt32 = v) (k : gP PG PQ d RC RS y cc nL ret cells slots q lv (.int v :: st) h) : gP PG PQ d RC RS y cc nL ret cells slots pc lv st h := by
  obtain ⟨hd, rfl, hv⟩ := hd
  intro p l e s m args below meth c G C hPG ls H locs hl hw hS
  obtain ⟨hx, hb, -⟩ := id C
  exact lv_sipush hx hb hd hv (k p l e s m args below meth c G C hPG ls H locs hl hw hS)
theorem p_lconst {n : Fin 2} {v : Int64} (hd : decode cc pc = .ok (.lconst n, 1) ∧ pc + 1 = q ∧ Int64.ofNat (n : Nat) = v) (k : gP PG PQ d RC RS y cc nL ret cells slots q lv (.long v :: st) h) : gP PG PQ d RC RS y cc nL ret cells slots pc lv st h := by
  obtain ⟨hd, rfl, hv⟩ := hd
  intro p l e s m args below meth c G C hPG ls H locs hl hw hS
  obtain ⟨hx, hb, -⟩ := id C
  exact lv_lconst hx hb hd hv (k p l e s m args below meth c G C hPG ls H locs hl hw hS)
theorem p_ldc {i : Nat} {v : Int32} (hd : gd cc pc (.ldc i) 2 q) (hc : Cond.constant y.cls i v ∈ gtb) (k : gP PG PQ d RC RS y cc nL ret cells slots q lv (.int v :: st) h) : gP PG PQ d RC RS y cc nL ret cells slots pc lv st h := by
  obtain ⟨hd, rfl⟩ := hd
  intro p l e s m args below meth c G C hPG ls H locs hl hw hS
  obtain ⟨hx, hb, hml, hown, hts, -⟩ := id C
  exact lv_ldc hx hb hown (hts _ hc) hd (k p l e s m args below meth c G C hPG ls H locs hl hw hS)
theorem p_ldc_w {i : Nat} {v : Int32} (hd : gd cc pc (.ldc_w i) 3 q) (hc : Cond.constant y.cls i v ∈ gtb) (k : gP PG PQ d RC RS y cc nL ret cells slots q lv (.int v :: st) h) : gP PG PQ d RC RS y cc nL ret cells slots pc lv st h := by
  obtain ⟨hd, rfl⟩ := hd
  intro p l e s m args below meth c G C hPG ls H locs hl hw hS
  obtain ⟨hx, hb, hml, hown, hts, -⟩ := id C
  exact lv_ldcw hx hb hown (hts _ hc) hd (k p l e s m args below meth c G C hPG ls H locs hl hw hS)
theorem p_ldc2 {i : Nat} {v : Int64} (hd : gd cc pc (.ldc2_w i) 3 q) (hc : Cond.constantLong y.cls i v ∈ gtb) (k : gP PG PQ d RC RS y cc nL ret cells slots q lv (.long v :: st) h) : gP PG PQ d RC RS y cc nL ret cells slots pc lv st h := by
  obtain ⟨hd, rfl⟩ := hd
  intro p l e s m args below meth c G C hPG ls H locs hl hw hS
  obtain ⟨hx, hb, hml, hown, hts, -⟩ := id C
  exact lv_ldc2 hx hb hown (hts _ hc) hd (k p l e s m args below meth c G C hPG ls H locs hl hw hS)
theorem p_ifeq {x : Int32} {off : Int} (hd : gb cc pc (.ifCond .eq off) off q t) (kt : x = 0 → gP PG PQ d RC RS y cc nL ret cells slots t lv st h) (kf : ¬ x = 0 → gP PG PQ d RC RS y cc nL ret cells slots q lv st h) : gP PG PQ d RC RS y cc nL ret cells slots pc lv (.int x :: st) h := by
  obtain ⟨hd, rfl, ht⟩ := hd
  intro p l e s m args below meth c G C hPG ls H locs hl hw hS
  obtain ⟨hx, hb, -⟩ := id C
  exact lv_if_eq hx hb hd ht (fun z => kt z p l e s m args below meth c G C hPG ls H locs hl hw hS) (fun z => kf z p l e s m args below meth c G C hPG ls H locs hl hw hS)
theorem p_ifne {x : Int32} {off : Int} (hd : gb cc pc (.ifCond .ne off) off q t) (kt : ¬ x = 0 → gP PG PQ d RC RS y cc nL ret cells slots t lv st h) (kf : x = 0 → gP PG PQ d RC RS y cc nL ret cells slots q lv st h) : gP PG PQ d RC RS y cc nL ret cells slots pc lv (.int x :: st) h := by
  obtain ⟨hd, rfl, ht⟩ := hd
  intro p l e s m args below meth c G C hPG ls H locs hl hw hS
  obtain ⟨hx, hb, -⟩ := id C
  exact lv_if_ne hx hb hd ht (fun z => kt z p l e s m args below meth c G C hPG ls H locs hl hw hS) (fun z => kf z p l e s m args below meth c G C hPG ls H locs hl hw hS)
theorem p_iflt {x : Int32} {off : Int} (hd : gb cc pc (.ifCond .lt off) off q t) (kt : x < 0 → gP PG PQ d RC RS y cc nL ret cells slots t lv st h) (kf : ¬ x < 0 → gP PG PQ d RC RS y cc nL ret cells slots q lv st h) : gP PG PQ d RC RS y cc nL ret cells slots pc lv (.int x :: st) h := by
  obtain ⟨hd, rfl, ht⟩ := hd
  intro p l e s m args below meth c G C hPG ls H locs hl hw hS
  obtain ⟨hx, hb, -⟩ := id C
  exact lv_if_lt hx hb hd ht (fun z => kt z p l e s m args below meth c G C hPG ls H locs hl hw hS) (fun z => kf z p l e s m args below meth c G C hPG ls H locs hl hw hS)
theorem p_ifge {x : Int32} {off : Int} (hd : gb cc pc (.ifCond .ge off) off q t) (kt : 0 ≤ x → gP PG PQ d RC RS y cc nL ret cells slots t lv st h) (kf : ¬ 0 ≤ x → gP PG PQ d RC RS y cc nL ret cells slots q lv st h) : gP PG PQ d RC RS y cc nL ret cells slots pc lv (.int x :: st) h := by
  obtain ⟨hd, rfl, ht⟩ := hd
  intro p l e s m args below meth c G C hPG ls H locs hl hw hS
  obtain ⟨hx, hb, -⟩ := id C
  exact lv_if_ge hx hb hd ht (fun z => kt z p l e s m args below meth c G C hPG ls H locs hl hw hS) (fun z => kf z p l e s m args below meth c G C hPG ls H locs hl hw hS)
theorem p_ifgt {x : Int32} {off : Int} (hd : gb cc pc (.ifCond .gt off) off q t) (kt : 0 < x → gP PG PQ d RC RS y cc nL ret cells slots t lv st h) (kf : ¬ 0 < x → gP PG PQ d RC RS y cc nL ret cells slots q lv st h) : gP PG PQ d RC RS y cc nL ret cells slots pc lv (.int x :: st) h := by
  obtain ⟨hd, rfl, ht⟩ := hd
  intro p l e s m args below meth c G C hPG ls H locs hl hw hS
  obtain ⟨hx, hb, -⟩ := id C
  exact lv_if_gt hx hb hd ht (fun z => kt z p l e s m args below meth c G C hPG ls H locs hl hw hS) (fun z => kf z p l e s m args below meth c G C hPG ls H locs hl hw hS)
theorem p_ifle {x : Int32} {off : Int} (hd : gb cc pc (.ifCond .le off) off q t) (kt : x ≤ 0 → gP PG PQ d RC RS y cc nL ret cells slots t lv st h) (kf : ¬ x ≤ 0 → gP PG PQ d RC RS y cc nL ret cells slots q lv st h) : gP PG PQ d RC RS y cc nL ret cells slots pc lv (.int x :: st) h := by
  obtain ⟨hd, rfl, ht⟩ := hd
  intro p l e s m args below meth c G C hPG ls H locs hl hw hS
  obtain ⟨hx, hb, -⟩ := id C
  exact lv_if_le hx hb hd ht (fun z => kt z p l e s m args below meth c G C hPG ls H locs hl hw hS) (fun z => kf z p l e s m args below meth c G C hPG ls H locs hl hw hS)
theorem p_iceq {x z : Int32} {off : Int} (hd : gb cc pc (.if_icmp .eq off) off q t) (kt : x = z → gP PG PQ d RC RS y cc nL ret cells slots t lv st h) (kf : ¬ x = z → gP PG PQ d RC RS y cc nL ret cells slots q lv st h) : gP PG PQ d RC RS y cc nL ret cells slots pc lv (.int z :: .int x :: st) h := by
  obtain ⟨hd, rfl, ht⟩ := hd
  intro p l e s m args below meth c G C hPG ls H locs hl hw hS
  obtain ⟨hx, hb, -⟩ := id C
  exact lv_icmp_eq hx hb hd ht (fun z => kt z p l e s m args below meth c G C hPG ls H locs hl hw hS) (fun z => kf z p l e s m args below meth c G C hPG ls H locs hl hw hS)
theorem p_icne {x z : Int32} {off : Int} (hd : gb cc pc (.if_icmp .ne off) off q t) (kt : ¬ x = z → gP PG PQ d RC RS y cc nL ret cells slots t lv st h) (kf : x = z → gP PG PQ d RC RS y cc nL ret cells slots q lv st h) : gP PG PQ d RC RS y cc nL ret cells slots pc lv (.int z :: .int x :: st) h := by
  obtain ⟨hd, rfl, ht⟩ := hd
  intro p l e s m args below meth c G C hPG ls H locs hl hw hS
  obtain ⟨hx, hb, -⟩ := id C
  exact lv_icmp_ne hx hb hd ht (fun z => kt z p l e s m args below meth c G C hPG ls H locs hl hw hS) (fun z => kf z p l e s m args below meth c G C hPG ls H locs hl hw hS)
theorem p_iclt {x z : Int32} {off : Int} (hd : gb cc pc (.if_icmp .lt off) off q t) (kt : x < z → gP PG PQ d RC RS y cc nL ret cells slots t lv st h) (kf : ¬ x < z → gP PG PQ d RC RS y cc nL ret cells slots q lv st h) : gP PG PQ d RC RS y cc nL ret cells slots pc lv (.int z :: .int x :: st) h := by
  obtain ⟨hd, rfl, ht⟩ := hd
  intro p l e s m args below meth c G C hPG ls H locs hl hw hS
  obtain ⟨hx, hb, -⟩ := id C
  exact lv_icmp_lt hx hb hd ht (fun z => kt z p l e s m args below meth c G C hPG ls H locs hl hw hS) (fun z => kf z p l e s m args below meth c G C hPG ls H locs hl hw hS)
theorem p_icge {x z : Int32} {off : Int} (hd : gb cc pc (.if_icmp .ge off) off q t) (kt : z ≤ x → gP PG PQ d RC RS y cc nL ret cells slots t lv st h) (kf : ¬ z ≤ x → gP PG PQ d RC RS y cc nL ret cells slots q lv st h) : gP PG PQ d RC RS y cc nL ret cells slots pc lv (.int z :: .int x :: st) h := by
  obtain ⟨hd, rfl, ht⟩ := hd
  intro p l e s m args below meth c G C hPG ls H locs hl hw hS
  obtain ⟨hx, hb, -⟩ := id C
  exact lv_icmp_ge hx hb hd ht (fun z => kt z p l e s m args below meth c G C hPG ls H locs hl hw hS) (fun z => kf z p l e s m args below meth c G C hPG ls H locs hl hw hS)
theorem p_icgt {x z : Int32} {off : Int} (hd : gb cc pc (.if_icmp .gt off) off q t) (kt : z < x → gP PG PQ d RC RS y cc nL ret cells slots t lv st h) (kf : ¬ z < x → gP PG PQ d RC RS y cc nL ret cells slots q lv st h) : gP PG PQ d RC RS y cc nL ret cells slots pc lv (.int z :: .int x :: st) h := by
  obtain ⟨hd, rfl, ht⟩ := hd
  intro p l e s m args below meth c G C hPG ls H locs hl hw hS
  obtain ⟨hx, hb, -⟩ := id C
  exact lv_icmp_gt hx hb hd ht (fun z => kt z p l e s m args below meth c G C hPG ls H locs hl hw hS) (fun z => kf z p l e s m args below meth c G C hPG ls H locs hl hw hS)
theorem p_icle {x z : Int32} {off : Int} (hd : gb cc pc (.if_icmp .le off) off q t) (kt : x ≤ z → gP PG PQ d RC RS y cc nL ret cells slots t lv st h) (kf : ¬ x ≤ z → gP PG PQ d RC RS y cc nL ret cells slots q lv st h) : gP PG PQ d RC RS y cc nL ret cells slots pc lv (.int z :: .int x :: st) h := by
  obtain ⟨hd, rfl, ht⟩ := hd
  intro p l e s m args below meth c G C hPG ls H locs hl hw hS
  obtain ⟨hx, hb, -⟩ := id C
  exact lv_icmp_le hx hb hd ht (fun z => kt z p l e s m args below meth c G C hPG ls H locs hl hw hS) (fun z => kf z p l e s m args below meth c G C hPG ls H locs hl hw hS)
theorem p_goto {off : Int} (hd : gb cc pc (.goto off) off q t) (k : gP PG PQ d RC RS y cc nL ret cells slots t lv st h) : gP PG PQ d RC RS y cc nL ret cells slots pc lv st h := by
  obtain ⟨hd, rfl, ht⟩ := hd
  intro p l e s m args below meth c G C hPG ls H locs hl hw hS
  obtain ⟨hx, hb, -⟩ := id C
  exact lv_goto hx hb hd ht (k p l e s m args below meth c G C hPG ls H locs hl hw hS)
theorem p_ifnull {r : Option Nat} {off : Int} (hd : gb cc pc (.ifnull off) off q t) (kn : r = none → gP PG PQ d RC RS y cc nL ret cells slots t lv st h) (ks : ∀ a, r = some a → gP PG PQ d RC RS y cc nL ret cells slots q lv st h) : gP PG PQ d RC RS y cc nL ret cells slots pc lv (va_rf r :: st) h := by
  obtain ⟨hd, rfl, ht⟩ := hd
  intro p l e s m args below meth c G C hPG ls H locs hl hw hS
  obtain ⟨hx, hb, -⟩ := id C
  cases r with
  | none => exact lv_ifnullN hx hb hd ht (kn rfl p l e s m args below meth c G C hPG ls H locs hl hw hS)
  | some a => exact lv_ifnull hx hb hd (ks a rfl p l e s m args below meth c G C hPG ls H locs hl hw hS)
theorem p_ifnonnull {r : Option Nat} {off : Int} (hd : gb cc pc (.ifnonnull off) off q t) (kn : r = none → gP PG PQ d RC RS y cc nL ret cells slots q lv st h) (ks : ∀ a, r = some a → gP PG PQ d RC RS y cc nL ret cells slots t lv st h) : gP PG PQ d RC RS y cc nL ret cells slots pc lv (va_rf r :: st) h := by
  obtain ⟨hd, rfl, ht⟩ := hd
  intro p l e s m args below meth c G C hPG ls H locs hl hw hS
  obtain ⟨hx, hb, -⟩ := id C
  cases r with
  | none => exact lv_ifnonnullN hx hb hd (kn rfl p l e s m args below meth c G C hPG ls H locs hl hw hS)
  | some a => exact lv_ifnonnull hx hb hd ht (ks a rfl p l e s m args below meth c G C hPG ls H locs hl hw hS)
theorem p_swOut {x : Int32} {dflt lo hi : Int} {offs : Array Int} {len : Nat} {ts : List Nat} (hd : gsw cc pc dflt lo hi offs len ts t) (hx0 : x.toInt < lo ∨ lo + ts.length ≤ x.toInt) (k : gP PG PQ d RC RS y cc nL ret cells slots t lv st h) : gP PG PQ d RC RS y cc nL ret cells slots pc lv (.int x :: st) h := by
  obtain ⟨hd, ht, h3, h4⟩ := hd
  intro p l e s m args below meth c G C hPG ls H locs hl hw hS
  obtain ⟨hx, hb, -⟩ := id C
  exact lv_tableOut hx hb hd (by omega) ht (k p l e s m args below meth c G C hPG ls H locs hl hw hS)
theorem p_swIn {x : Int32} (i : Nat) {dflt lo hi : Int} {offs : Array Int} {len : Nat} {ts : List Nat} {t0 : Nat} (hd : gsw cc pc dflt lo hi offs len ts t0) (hx0 : x.toInt = lo + i) (hi0 : ts[i]? = some t) (k : gP PG PQ d RC RS y cc nL ret cells slots t lv st h) : gP PG PQ d RC RS y cc nL ret cells slots pc lv (.int x :: st) h := by
  obtain ⟨hd, ht, h3, h4⟩ := hd
  intro p l e s m args below meth c G C hPG ls H locs hl hw hS
  obtain ⟨hx, hb, -⟩ := id C
  have hlt : i < ts.length := (List.getElem?_eq_some_iff.mp hi0).1
  have e1 : (offs.toList.map (fun o => (pc : Int) + o))[i]? = some (t : Int) := by rw [h3, List.getElem?_map, hi0]; rfl
  rw [List.getElem?_map] at e1
  cases ho : offs.toList[i]? with
  | none => rw [ho] at e1; cases e1
  | some off =>
    rw [ho] at e1
    have e2 : (pc : Int) + off = (t : Int) := Option.some.inj e1
    exact lv_tableIn (off := off) hx hb hd (by omega) (by omega) (by rw [show (x.toInt - lo).toNat = i by omega, ← Array.getElem?_toList]; exact ho) e2 (k p l e s m args below meth c G C hPG ls H locs hl hw hS)
theorem p_kill (lv' : List Value) (hk : ∀ (i : Nat) (v : Value), lv'[i]? = some v → (∀ n, v ≠ .retAddr n) → lv[i]? = some v) (k : gP PG PQ d RC RS y cc nL ret cells slots pc lv' st h) : gP PG PQ d RC RS y cc nL ret cells slots pc lv st h := by
  intro p l e s m args below meth c G C hPG ls H locs hl hw hS
  refine k p l e s m args below meth c G C hPG ls H locs (lv_less hl (fun x hx => ?_)) hw hS
  obtain ⟨i, v, e1, e2, e3⟩ := gls_of hx
  rw [e1]
  exact gls_mem (hk i v e2 e3) e3
theorem p_iload_n {k0 : Fin 4} {x : Int32} (hd : gd cc pc (.iload_n k0) 1 q) (hi : lv[(k0 : Nat)]? = some (.int x)) (k : gP PG PQ d RC RS y cc nL ret cells slots q lv (.int x :: st) h) : gP PG PQ d RC RS y cc nL ret cells slots pc lv st h := by
  obtain ⟨hd, rfl⟩ := hd
  intro p l e s m args below meth c G C hPG ls H locs hl hw hS
  obtain ⟨hx, hb, -⟩ := id C
  exact lv_iload_n hx hb hd rfl (gls_at hl hi (fun n z => by cases z)) (k p l e s m args below meth c G C hPG ls H locs hl hw hS)
theorem p_iload {i : Nat} {x : Int32} (hd : gd cc pc (.iload i) 2 q) (hi : lv[i]? = some (.int x)) (k : gP PG PQ d RC RS y cc nL ret cells slots q lv (.int x :: st) h) : gP PG PQ d RC RS y cc nL ret cells slots pc lv st h := by
  obtain ⟨hd, rfl⟩ := hd
  intro p l e s m args below meth c G C hPG ls H locs hl hw hS
  obtain ⟨hx, hb, -⟩ := id C
  exact lv_iload hx hb hd (gls_at hl hi (fun n z => by cases z)) (k p l e s m args below meth c G C hPG ls H locs hl hw hS)
theorem p_lload_n {k0 : Fin 4} {x : Int64} (hd : gd cc pc (.lload_n k0) 1 q) (hi : lv[(k0 : Nat)]? = some (.long x)) (k : gP PG PQ d RC RS y cc nL ret cells slots q lv (.long x :: st) h) : gP PG PQ d RC RS y cc nL ret cells slots pc lv st h := by
  obtain ⟨hd, rfl⟩ := hd
  intro p l e s m args below meth c G C hPG ls H locs hl hw hS
  obtain ⟨hx, hb, -⟩ := id C
  exact lv_lload_n hx hb hd rfl (gls_at hl hi (fun n z => by cases z)) (k p l e s m args below meth c G C hPG ls H locs hl hw hS)
theorem p_lload {i : Nat} {x : Int64} (hd : gd cc pc (.lload i) 2 q) (hi : lv[i]? = some (.long x)) (k : gP PG PQ d RC RS y cc nL ret cells slots q lv (.long x :: st) h) : gP PG PQ d RC RS y cc nL ret cells slots pc lv st h := by
  obtain ⟨hd, rfl⟩ := hd
  intro p l e s m args below meth c G C hPG ls H locs hl hw hS
  obtain ⟨hx, hb, -⟩ := id C
  exact lv_lload hx hb hd (gls_at hl hi (fun n z => by cases z)) (k p l e s m args below meth c G C hPG ls H locs hl hw hS)
theorem p_aload_n {k0 : Fin 4} {x : Nat} (hd : gd cc pc (.aload_n k0) 1 q) (hi : lv[(k0 : Nat)]? = some (.ref x)) (k : gP PG PQ d RC RS y cc nL ret cells slots q lv (.ref x :: st) h) : gP PG PQ d RC RS y cc nL ret cells slots pc lv st h := by
  obtain ⟨hd, rfl⟩ := hd
  intro p l e s m args below meth c G C hPG ls H locs hl hw hS
  obtain ⟨hx, hb, -⟩ := id C
  exact lv_aload_n hx hb hd rfl (gls_at hl hi (fun n z => by cases z)) (k p l e s m args below meth c G C hPG ls H locs hl hw hS)
theorem p_aload {i : Nat} {x : Nat} (hd : gd cc pc (.aload i) 2 q) (hi : lv[i]? = some (.ref x)) (k : gP PG PQ d RC RS y cc nL ret cells slots q lv (.ref x :: st) h) : gP PG PQ d RC RS y cc nL ret cells slots pc lv st h := by
  obtain ⟨hd, rfl⟩ := hd
  intro p l e s m args below meth c G C hPG ls H locs hl hw hS
  obtain ⟨hx, hb, -⟩ := id C
  exact lv_aload hx hb hd (gls_at hl hi (fun n z => by cases z)) (k p l e s m args below meth c G C hPG ls H locs hl hw hS)
theorem p_sload_n {k0 : Fin 4} {x : UInt32} (hd : gd cc pc (.aload_n k0) 1 q) (hi : lv[(k0 : Nat)]? = some (.float x)) (k : gP PG PQ d RC RS y cc nL ret cells slots q lv (.float x :: st) h) : gP PG PQ d RC RS y cc nL ret cells slots pc lv st h := by
  obtain ⟨hd, rfl⟩ := hd
  intro p l e s m args below meth c G C hPG ls H locs hl hw hS
  obtain ⟨hx, hb, -⟩ := id C
  exact lv_aload_n hx hb hd rfl (gls_at hl hi (fun n z => by cases z)) (k p l e s m args below meth c G C hPG ls H locs hl hw hS)
theorem p_istore_n {k0 : Fin 4} {x : Int32} (hd : gd cc pc (.istore_n k0) 1 q) (hn : (k0 : Nat) < nL) (hi : (k0 : Nat) < lv.length) (hp : ∀ u, lv[(k0 : Nat) - 1]? = some u → 0 < (k0 : Nat) → u.category = 1) (k : gP PG PQ d RC RS y cc nL ret cells slots q (lv.set (k0 : Nat) (.int x)) st h) : gP PG PQ d RC RS y cc nL ret cells slots pc lv (.int x :: st) h := by
  obtain ⟨hd, rfl⟩ := hd
  intro p l e s m args below meth c G C hPG ls H locs hl hw hS
  obtain ⟨hx, hb, -⟩ := id C
  exact lv_istore_n hx hb hd rfl hl hn rfl (fun ls' hl' => k p l e s m args below meth c G C hPG ls' H locs (lv_less hl' (gls_set1 hp rfl hi)) hw hS)
theorem p_istore {i : Nat} {x : Int32} (hd : gd cc pc (.istore i) 2 q) (hn : i < nL) (hi : i < lv.length) (hp : ∀ u, lv[i - 1]? = some u → 0 < i → u.category = 1) (k : gP PG PQ d RC RS y cc nL ret cells slots q (lv.set i (.int x)) st h) : gP PG PQ d RC RS y cc nL ret cells slots pc lv (.int x :: st) h := by
  obtain ⟨hd, rfl⟩ := hd
  intro p l e s m args below meth c G C hPG ls H locs hl hw hS
  obtain ⟨hx, hb, -⟩ := id C
  exact lv_istore hx hb hd hl hn rfl (fun ls' hl' => k p l e s m args below meth c G C hPG ls' H locs (lv_less hl' (gls_set1 hp rfl hi)) hw hS)
theorem p_astore_n {k0 : Fin 4} {x : Nat} (hd : gd cc pc (.astore_n k0) 1 q) (hn : (k0 : Nat) < nL) (hi : (k0 : Nat) < lv.length) (hp : ∀ u, lv[(k0 : Nat) - 1]? = some u → 0 < (k0 : Nat) → u.category = 1) (k : gP PG PQ d RC RS y cc nL ret cells slots q (lv.set (k0 : Nat) (.ref x)) st h) : gP PG PQ d RC RS y cc nL ret cells slots pc lv (.ref x :: st) h := by
  obtain ⟨hd, rfl⟩ := hd
  intro p l e s m args below meth c G C hPG ls H locs hl hw hS
  obtain ⟨hx, hb, -⟩ := id C
  exact lv_astore_n hx hb hd rfl hl hn rfl (fun ls' hl' => k p l e s m args below meth c G C hPG ls' H locs (lv_less hl' (gls_set1 hp rfl hi)) hw hS)
theorem p_astore {i : Nat} {x : Nat} (hd : gd cc pc (.astore i) 2 q) (hn : i < nL) (hi : i < lv.length) (hp : ∀ u, lv[i - 1]? = some u → 0 < i → u.category = 1) (k : gP PG PQ d RC RS y cc nL ret cells slots q (lv.set i (.ref x)) st h) : gP PG PQ d RC RS y cc nL ret cells slots pc lv (.ref x :: st) h := by
  obtain ⟨hd, rfl⟩ := hd
  intro p l e s m args below meth c G C hPG ls H locs hl hw hS
  obtain ⟨hx, hb, -⟩ := id C
  exact lv_astore hx hb hd hl hn rfl (fun ls' hl' => k p l e s m args below meth c G C hPG ls' H locs (lv_less hl' (gls_set1 hp rfl hi)) hw hS)
theorem p_lstore_n {k0 : Fin 4} {x : Int64} (hd : gd cc pc (.lstore_n k0) 1 q) (hn : (k0 : Nat) + 1 < nL) (hi : (k0 : Nat) + 1 < lv.length) (hp : ∀ u, lv[(k0 : Nat) - 1]? = some u → 0 < (k0 : Nat) → u.category = 1) (k : gP PG PQ d RC RS y cc nL ret cells slots q ((lv.set (k0 : Nat) (.long x)).set ((k0 : Nat) + 1) (.retAddr 0)) st h) : gP PG PQ d RC RS y cc nL ret cells slots pc lv (.long x :: st) h := by
  obtain ⟨hd, rfl⟩ := hd
  intro p l e s m args below meth c G C hPG ls H locs hl hw hS
  obtain ⟨hx, hb, -⟩ := id C
  exact lv_lstore_n hx hb hd rfl hl hn rfl (fun ls' hl' => k p l e s m args below meth c G C hPG ls' H locs (lv_less hl' (gls_set2 hp hi)) hw hS)
theorem p_lstore {i : Nat} {x : Int64} (hd : gd cc pc (.lstore i) 2 q) (hn : i + 1 < nL) (hi : i + 1 < lv.length) (hp : ∀ u, lv[i - 1]? = some u → 0 < i → u.category = 1) (k : gP PG PQ d RC RS y cc nL ret cells slots q ((lv.set i (.long x)).set (i + 1) (.retAddr 0)) st h) : gP PG PQ d RC RS y cc nL ret cells slots pc lv (.long x :: st) h := by
  obtain ⟨hd, rfl⟩ := hd
  intro p l e s m args below meth c G C hPG ls H locs hl hw hS
  obtain ⟨hx, hb, -⟩ := id C
  exact lv_lstore hx hb hd hl hn rfl (fun ls' hl' => k p l e s m args below meth c G C hPG ls' H locs (lv_less hl' (gls_set2 hp hi)) hw hS)
theorem p_iinc {i : Nat} {n : Int} {x v : Int32} (hd : decode cc pc = .ok (.iinc i n, 3) ∧ pc + 3 = q ∧ Int32.ofInt n = v) (hn : i < nL) (hi : lv[i]? = some (.int x)) (hp : ∀ u, lv[i - 1]? = some u → 0 < i → u.category = 1) (k : gP PG PQ d RC RS y cc nL ret cells slots q (lv.set i (.int (x + v))) st h) : gP PG PQ d RC RS y cc nL ret cells slots pc lv st h := by
  obtain ⟨hd, rfl, hv⟩ := hd
  intro p l e s m args below meth c G C hPG ls H locs hl hw hS
  obtain ⟨hx, hb, -⟩ := id C
  obtain ⟨k9, hk9⟩ := List.getElem?_of_mem (gls_mem (G := G) (j := 0) hi (fun n z => by cases z))
  rw [Nat.zero_add] at hk9
  exact lv_iinc (v := x + v) hx hb hd hl hk9 (by rw [hv]) hn rfl (fun ls' hl' => k p l e s m args below meth c G C hPG ls' H locs (lv_less hl' (gls_set1 hp rfl (List.getElem?_eq_some_iff.mp hi).1)) hw hS)
theorem p_iL0  {x : Int32} (hd : gd cc pc (.iload_n 0) 1 q) (k : gP PG PQ d RC RS y cc nL ret cells slots q (.int x :: lv) (.int x :: st) h) : gP PG PQ d RC RS y cc nL ret cells slots pc (.int x :: lv) st h := p_iload_n (k0 := 0) hd rfl k
theorem p_iL1 {v0 : Value} {x : Int32} (hd : gd cc pc (.iload_n 1) 1 q) (k : gP PG PQ d RC RS y cc nL ret cells slots q (v0 :: .int x :: lv) (.int x :: st) h) : gP PG PQ d RC RS y cc nL ret cells slots pc (v0 :: .int x :: lv) st h := p_iload_n (k0 := 1) hd rfl k
theorem p_iL2 {v0 v1 : Value} {x : Int32} (hd : gd cc pc (.iload_n 2) 1 q) (k : gP PG PQ d RC RS y cc nL ret cells slots q (v0 :: v1 :: .int x :: lv) (.int x :: st) h) : gP PG PQ d RC RS y cc nL ret cells slots pc (v0 :: v1 :: .int x :: lv) st h := p_iload_n (k0 := 2) hd rfl k
theorem p_iL3 {v0 v1 v2 : Value} {x : Int32} (hd : gd cc pc (.iload_n 3) 1 q) (k : gP PG PQ d RC RS y cc nL ret cells slots q (v0 :: v1 :: v2 :: .int x :: lv) (.int x :: st) h) : gP PG PQ d RC RS y cc nL ret cells slots pc (v0 :: v1 :: v2 :: .int x :: lv) st h := p_iload_n (k0 := 3) hd rfl k
theorem p_iL4 {v0 v1 v2 v3 : Value} {x : Int32} (hd : gd cc pc (.iload 4) 2 q) (k : gP PG PQ d RC RS y cc nL ret cells slots q (v0 :: v1 :: v2 :: v3 :: .int x :: lv) (.int x :: st) h) : gP PG PQ d RC RS y cc nL ret cells slots pc (v0 :: v1 :: v2 :: v3 :: .int x :: lv) st h := p_iload hd rfl k
theorem p_iL5 {v0 v1 v2 v3 v4 : Value} {x : Int32} (hd : gd cc pc (.iload 5) 2 q) (k : gP PG PQ d RC RS y cc nL ret cells slots q (v0 :: v1 :: v2 :: v3 :: v4 :: .int x :: lv) (.int x :: st) h) : gP PG PQ d RC RS y cc nL ret cells slots pc (v0 :: v1 :: v2 :: v3 :: v4 :: .int x :: lv) st h := p_iload hd rfl k
theorem p_iL6 {v0 v1 v2 v3 v4 v5 : Value} {x : Int32} (hd : gd cc pc (.iload 6) 2 q) (k : gP PG PQ d RC RS y cc nL ret cells slots q (v0 :: v1 :: v2 :: v3 :: v4 :: v5 :: .int x :: lv) (.int x :: st) h) : gP PG PQ d RC RS y cc nL ret cells slots pc (v0 :: v1 :: v2 :: v3 :: v4 :: v5 :: .int x :: lv) st h := p_iload hd rfl k
theorem p_iL7 {v0 v1 v2 v3 v4 v5 v6 : Value} {x : Int32} (hd : gd cc pc (.iload 7) 2 q) (k : gP PG PQ d RC RS y cc nL ret cells slots q (v0 :: v1 :: v2 :: v3 :: v4 :: v5 :: v6 :: .int x :: lv) (.int x :: st) h) : gP PG PQ d RC RS y cc nL ret cells slots pc (v0 :: v1 :: v2 :: v3 :: v4 :: v5 :: v6 :: .int x :: lv) st h := p_iload hd rfl k
theorem p_iL8 {v0 v1 v2 v3 v4 v5 v6 v7 : Value} {x : Int32} (hd : gd cc pc (.iload 8) 2 q) (k : gP PG PQ d RC RS y cc nL ret cells slots q (v0 :: v1 :: v2 :: v3 :: v4 :: v5 :: v6 :: v7 :: .int x :: lv) (.int x :: st) h) : gP PG PQ d RC RS y cc nL ret cells slots pc (v0 :: v1 :: v2 :: v3 :: v4 :: v5 :: v6 :: v7 :: .int x :: lv) st h := p_iload hd rfl k
theorem p_iL9 {v0 v1 v2 v3 v4 v5 v6 v7 v8 : Value} {x : Int32} (hd : gd cc pc (.iload 9) 2 q) (k : gP PG PQ d RC RS y cc nL ret cells slots q (v0 :: v1 :: v2 :: v3 :: v4 :: v5 :: v6 :: v7 :: v8 :: .int x :: lv) (.int x :: st) h) : gP PG PQ d RC RS y cc nL ret cells slots pc (v0 :: v1 :: v2 :: v3 :: v4 :: v5 :: v6 :: v7 :: v8 :: .int x :: lv) st h := p_iload hd rfl k
theorem p_iL10 {v0 v1 v2 v3 v4 v5 v6 v7 v8 v9 : Value} {x : Int32} (hd : gd cc pc (.iload 10) 2 q) (k : gP PG PQ d RC RS y cc nL ret cells slots q (v0 :: v1 :: v2 :: v3 :: v4 :: v5 :: v6 :: v7 :: v8 :: v9 :: .int x :: lv) (.int x :: st) h) : gP PG PQ d RC RS y cc nL ret cells slots pc (v0 :: v1 :: v2 :: v3 :: v4 :: v5 :: v6 :: v7 :: v8 :: v9 :: .int x :: lv) st h := p_iload hd rfl k
theorem p_iL11 {v0 v1 v2 v3 v4 v5 v6 v7 v8 v9 v10 : Value} {x : Int32} (hd : gd cc pc (.iload 11) 2 q) (k : gP PG PQ d RC RS y cc nL ret cells slots q (v0 :: v1 :: v2 :: v3 :: v4 :: v5 :: v6 :: v7 :: v8 :: v9 :: v10 :: .int x :: lv) (.int x :: st) h) : gP PG PQ d RC RS y cc nL ret cells slots pc (v0 :: v1 :: v2 :: v3 :: v4 :: v5 :: v6 :: v7 :: v8 :: v9 :: v10 :: .int x :: lv) st h := p_iload hd rfl k
theorem p_iL12 {v0 v1 v2 v3 v4 v5 v6 v7 v8 v9 v10 v11 : Value} {x : Int32} (hd : gd cc pc (.iload 12) 2 q) (k : gP PG PQ d RC RS y cc nL ret cells slots q (v0 :: v1 :: v2 :: v3 :: v4 :: v5 :: v6 :: v7 :: v8 :: v9 :: v10 :: v11 :: .int x :: lv) (.int x :: st) h) : gP PG PQ d RC RS y cc nL ret cells slots pc (v0 :: v1 :: v2 :: v3 :: v4 :: v5 :: v6 :: v7 :: v8 :: v9 :: v10 :: v11 :: .int x :: lv) st h := p_iload hd rfl k
theorem p_iL13 {v0 v1 v2 v3 v4 v5 v6 v7 v8 v9 v10 v11 v12 : Value} {x : Int32} (hd : gd cc pc (.iload 13) 2 q) (k : gP PG PQ d RC RS y cc nL ret cells slots q (v0 :: v1 :: v2 :: v3 :: v4 :: v5 :: v6 :: v7 :: v8 :: v9 :: v10 :: v11 :: v12 :: .int x :: lv) (.int x :: st) h) : gP PG PQ d RC RS y cc nL ret cells slots pc (v0 :: v1 :: v2 :: v3 :: v4 :: v5 :: v6 :: v7 :: v8 :: v9 :: v10 :: v11 :: v12 :: .int x :: lv) st h := p_iload hd rfl k
theorem p_lL0  {x : Int64} (hd : gd cc pc (.lload_n 0) 1 q) (k : gP PG PQ d RC RS y cc nL ret cells slots q (.long x :: lv) (.long x :: st) h) : gP PG PQ d RC RS y cc nL ret cells slots pc (.long x :: lv) st h := p_lload_n (k0 := 0) hd rfl k
theorem p_lL1 {v0 : Value} {x : Int64} (hd : gd cc pc (.lload_n 1) 1 q) (k : gP PG PQ d RC RS y cc nL ret cells slots q (v0 :: .long x :: lv) (.long x :: st) h) : gP PG PQ d RC RS y cc nL ret cells slots pc (v0 :: .long x :: lv) st h := p_lload_n (k0 := 1) hd rfl k
theorem p_lL2 {v0 v1 : Value} {x : Int64} (hd : gd cc pc (.lload_n 2) 1 q) (k : gP PG PQ d RC RS y cc nL ret cells slots q (v0 :: v1 :: .long x :: lv) (.long x :: st) h) : gP PG PQ d RC RS y cc nL ret cells slots pc (v0 :: v1 :: .long x :: lv) st h := p_lload_n (k0 := 2) hd rfl k
theorem p_lL3 {v0 v1 v2 : Value} {x : Int64} (hd : gd cc pc (.lload_n 3) 1 q) (k : gP PG PQ d RC RS y cc nL ret cells slots q (v0 :: v1 :: v2 :: .long x :: lv) (.long x :: st) h) : gP PG PQ d RC RS y cc nL ret cells slots pc (v0 :: v1 :: v2 :: .long x :: lv) st h := p_lload_n (k0 := 3) hd rfl k
theorem p_lL4 {v0 v1 v2 v3 : Value} {x : Int64} (hd : gd cc pc (.lload 4) 2 q) (k : gP PG PQ d RC RS y cc nL ret cells slots q (v0 :: v1 :: v2 :: v3 :: .long x :: lv) (.long x :: st) h) : gP PG PQ d RC RS y cc nL ret cells slots pc (v0 :: v1 :: v2 :: v3 :: .long x :: lv) st h := p_lload hd rfl k
theorem p_lL5 {v0 v1 v2 v3 v4 : Value} {x : Int64} (hd : gd cc pc (.lload 5) 2 q) (k : gP PG PQ d RC RS y cc nL ret cells slots q (v0 :: v1 :: v2 :: v3 :: v4 :: .long x :: lv) (.long x :: st) h) : gP PG PQ d RC RS y cc nL ret cells slots pc (v0 :: v1 :: v2 :: v3 :: v4 :: .long x :: lv) st h := p_lload hd rfl k
theorem p_lL6 {v0 v1 v2 v3 v4 v5 : Value} {x : Int64} (hd : gd cc pc (.lload 6) 2 q) (k : gP PG PQ d RC RS y cc nL ret cells slots q (v0 :: v1 :: v2 :: v3 :: v4 :: v5 :: .long x :: lv) (.long x :: st) h) : gP PG PQ d RC RS y cc nL ret cells slots pc (v0 :: v1 :: v2 :: v3 :: v4 :: v5 :: .long x :: lv) st h := p_lload hd rfl k
theorem p_lL7 {v0 v1 v2 v3 v4 v5 v6 : Value} {x : Int64} (hd : gd cc pc (.lload 7) 2 q) (k : gP PG PQ d RC RS y cc nL ret cells slots q (v0 :: v1 :: v2 :: v3 :: v4 :: v5 :: v6 :: .long x :: lv) (.long x :: st) h) : gP PG PQ d RC RS y cc nL ret cells slots pc (v0 :: v1 :: v2 :: v3 :: v4 :: v5 :: v6 :: .long x :: lv) st h := p_lload hd rfl k
theorem p_lL8 {v0 v1 v2 v3 v4 v5 v6 v7 : Value} {x : Int64} (hd : gd cc pc (.lload 8) 2 q) (k : gP PG PQ d RC RS y cc nL ret cells slots q (v0 :: v1 :: v2 :: v3 :: v4 :: v5 :: v6 :: v7 :: .long x :: lv) (.long x :: st) h) : gP PG PQ d RC RS y cc nL ret cells slots pc (v0 :: v1 :: v2 :: v3 :: v4 :: v5 :: v6 :: v7 :: .long x :: lv) st h := p_lload hd rfl k
theorem p_lL9 {v0 v1 v2 v3 v4 v5 v6 v7 v8 : Value} {x : Int64} (hd : gd cc pc (.lload 9) 2 q) (k : gP PG PQ d RC RS y cc nL ret cells slots q (v0 :: v1 :: v2 :: v3 :: v4 :: v5 :: v6 :: v7 :: v8 :: .long x :: lv) (.long x :: st) h) : gP PG PQ d RC RS y cc nL ret cells slots pc (v0 :: v1 :: v2 :: v3 :: v4 :: v5 :: v6 :: v7 :: v8 :: .long x :: lv) st h := p_lload hd rfl k
theorem p_lL10 {v0 v1 v2 v3 v4 v5 v6 v7 v8 v9 : Value} {x : Int64} (hd : gd cc pc (.lload 10) 2 q) (k : gP PG PQ d RC RS y cc nL ret cells slots q (v0 :: v1 :: v2 :: v3 :: v4 :: v5 :: v6 :: v7 :: v8 :: v9 :: .long x :: lv) (.long x :: st) h) : gP PG PQ d RC RS y cc nL ret cells slots pc (v0 :: v1 :: v2 :: v3 :: v4 :: v5 :: v6 :: v7 :: v8 :: v9 :: .long x :: lv) st h := p_lload hd rfl k
theorem p_lL11 {v0 v1 v2 v3 v4 v5 v6 v7 v8 v9 v10 : Value} {x : Int64} (hd : gd cc pc (.lload 11) 2 q) (k : gP PG PQ d RC RS y cc nL ret cells slots q (v0 :: v1 :: v2 :: v3 :: v4 :: v5 :: v6 :: v7 :: v8 :: v9 :: v10 :: .long x :: lv) (.long x :: st) h) : gP PG PQ d RC RS y cc nL ret cells slots pc (v0 :: v1 :: v2 :: v3 :: v4 :: v5 :: v6 :: v7 :: v8 :: v9 :: v10 :: .long x :: lv) st h := p_lload hd rfl k
theorem p_lL12 {v0 v1 v2 v3 v4 v5 v6 v7 v8 v9 v10 v11 : Value} {x : Int64} (hd : gd cc pc (.lload 12) 2 q) (k : gP PG PQ d RC RS y cc nL ret cells slots q (v0 :: v1 :: v2 :: v3 :: v4 :: v5 :: v6 :: v7 :: v8 :: v9 :: v10 :: v11 :: .long x :: lv) (.long x :: st) h) : gP PG PQ d RC RS y cc nL ret cells slots pc (v0 :: v1 :: v2 :: v3 :: v4 :: v5 :: v6 :: v7 :: v8 :: v9 :: v10 :: v11 :: .long x :: lv) st h := p_lload hd rfl k
theorem p_lL13 {v0 v1 v2 v3 v4 v5 v6 v7 v8 v9 v10 v11 v12 : Value} {x : Int64} (hd : gd cc pc (.lload 13) 2 q) (k : gP PG PQ d RC RS y cc nL ret cells slots q (v0 :: v1 :: v2 :: v3 :: v4 :: v5 :: v6 :: v7 :: v8 :: v9 :: v10 :: v11 :: v12 :: .long x :: lv) (.long x :: st) h) : gP PG PQ d RC RS y cc nL ret cells slots pc (v0 :: v1 :: v2 :: v3 :: v4 :: v5 :: v6 :: v7 :: v8 :: v9 :: v10 :: v11 :: v12 :: .long x :: lv) st h := p_lload hd rfl k
theorem p_aL0  {x : Nat} (hd : gd cc pc (.aload_n 0) 1 q) (k : gP PG PQ d RC RS y cc nL ret cells slots q (.ref x :: lv) (.ref x :: st) h) : gP PG PQ d RC RS y cc nL ret cells slots pc (.ref x :: lv) st h := p_aload_n (k0 := 0) hd rfl k
theorem p_aL1 {v0 : Value} {x : Nat} (hd : gd cc pc (.aload_n 1) 1 q) (k : gP PG PQ d RC RS y cc nL ret cells slots q (v0 :: .ref x :: lv) (.ref x :: st) h) : gP PG PQ d RC RS y cc nL ret cells slots pc (v0 :: .ref x :: lv) st h := p_aload_n (k0 := 1) hd rfl k
theorem p_aL2 {v0 v1 : Value} {x : Nat} (hd : gd cc pc (.aload_n 2) 1 q) (k : gP PG PQ d RC RS y cc nL ret cells slots q (v0 :: v1 :: .ref x :: lv) (.ref x :: st) h) : gP PG PQ d RC RS y cc nL ret cells slots pc (v0 :: v1 :: .ref x :: lv) st h := p_aload_n (k0 := 2) hd rfl k
theorem p_aL3 {v0 v1 v2 : Value} {x : Nat} (hd : gd cc pc (.aload_n 3) 1 q) (k : gP PG PQ d RC RS y cc nL ret cells slots q (v0 :: v1 :: v2 :: .ref x :: lv) (.ref x :: st) h) : gP PG PQ d RC RS y cc nL ret cells slots pc (v0 :: v1 :: v2 :: .ref x :: lv) st h := p_aload_n (k0 := 3) hd rfl k
theorem p_aL4 {v0 v1 v2 v3 : Value} {x : Nat} (hd : gd cc pc (.aload 4) 2 q) (k : gP PG PQ d RC RS y cc nL ret cells slots q (v0 :: v1 :: v2 :: v3 :: .ref x :: lv) (.ref x :: st) h) : gP PG PQ d RC RS y cc nL ret cells slots pc (v0 :: v1 :: v2 :: v3 :: .ref x :: lv) st h := p_aload hd rfl k
theorem p_aL5 {v0 v1 v2 v3 v4 : Value} {x : Nat} (hd : gd cc pc (.aload 5) 2 q) (k : gP PG PQ d RC RS y cc nL ret cells slots q (v0 :: v1 :: v2 :: v3 :: v4 :: .ref x :: lv) (.ref x :: st) h) : gP PG PQ d RC RS y cc nL ret cells slots pc (v0 :: v1 :: v2 :: v3 :: v4 :: .ref x :: lv) st h := p_aload hd rfl k
theorem p_aL6 {v0 v1 v2 v3 v4 v5 : Value} {x : Nat} (hd : gd cc pc (.aload 6) 2 q) (k : gP PG PQ d RC RS y cc nL ret cells slots q (v0 :: v1 :: v2 :: v3 :: v4 :: v5 :: .ref x :: lv) (.ref x :: st) h) : gP PG PQ d RC RS y cc nL ret cells slots pc (v0 :: v1 :: v2 :: v3 :: v4 :: v5 :: .ref x :: lv) st h := p_aload hd rfl k
theorem p_aL7 {v0 v1 v2 v3 v4 v5 v6 : Value} {x : Nat} (hd : gd cc pc (.aload 7) 2 q) (k : gP PG PQ d RC RS y cc nL ret cells slots q (v0 :: v1 :: v2 :: v3 :: v4 :: v5 :: v6 :: .ref x :: lv) (.ref x :: st) h) : gP PG PQ d RC RS y cc nL ret cells slots pc (v0 :: v1 :: v2 :: v3 :: v4 :: v5 :: v6 :: .ref x :: lv) st h := p_aload hd rfl k
theorem p_aL8 {v0 v1 v2 v3 v4 v5 v6 v7 : Value} {x : Nat} (hd : gd cc pc (.aload 8) 2 q) (k : gP PG PQ d RC RS y cc nL ret cells slots q (v0 :: v1 :: v2 :: v3 :: v4 :: v5 :: v6 :: v7 :: .ref x :: lv) (.ref x :: st) h) : gP PG PQ d RC RS y cc nL ret cells slots pc (v0 :: v1 :: v2 :: v3 :: v4 :: v5 :: v6 :: v7 :: .ref x :: lv) st h := p_aload hd rfl k
theorem p_aL9 {v0 v1 v2 v3 v4 v5 v6 v7 v8 : Value} {x : Nat} (hd : gd cc pc (.aload 9) 2 q) (k : gP PG PQ d RC RS y cc nL ret cells slots q (v0 :: v1 :: v2 :: v3 :: v4 :: v5 :: v6 :: v7 :: v8 :: .ref x :: lv) (.ref x :: st) h) : gP PG PQ d RC RS y cc nL ret cells slots pc (v0 :: v1 :: v2 :: v3 :: v4 :: v5 :: v6 :: v7 :: v8 :: .ref x :: lv) st h := p_aload hd rfl k
theorem p_aL10 {v0 v1 v2 v3 v4 v5 v6 v7 v8 v9 : Value} {x : Nat} (hd : gd cc pc (.aload 10) 2 q) (k : gP PG PQ d RC RS y cc nL ret cells slots q (v0 :: v1 :: v2 :: v3 :: v4 :: v5 :: v6 :: v7 :: v8 :: v9 :: .ref x :: lv) (.ref x :: st) h) : gP PG PQ d RC RS y cc nL ret cells slots pc (v0 :: v1 :: v2 :: v3 :: v4 :: v5 :: v6 :: v7 :: v8 :: v9 :: .ref x :: lv) st h := p_aload hd rfl k
theorem p_aL11 {v0 v1 v2 v3 v4 v5 v6 v7 v8 v9 v10 : Value} {x : Nat} (hd : gd cc pc (.aload 11) 2 q) (k : gP PG PQ d RC RS y cc nL ret cells slots q (v0 :: v1 :: v2 :: v3 :: v4 :: v5 :: v6 :: v7 :: v8 :: v9 :: v10 :: .ref x :: lv) (.ref x :: st) h) : gP PG PQ d RC RS y cc nL ret cells slots pc (v0 :: v1 :: v2 :: v3 :: v4 :: v5 :: v6 :: v7 :: v8 :: v9 :: v10 :: .ref x :: lv) st h := p_aload hd rfl k
theorem p_aL12 {v0 v1 v2 v3 v4 v5 v6 v7 v8 v9 v10 v11 : Value} {x : Nat} (hd : gd cc pc (.aload 12) 2 q) (k : gP PG PQ d RC RS y cc nL ret cells slots q (v0 :: v1 :: v2 :: v3 :: v4 :: v5 :: v6 :: v7 :: v8 :: v9 :: v10 :: v11 :: .ref x :: lv) (.ref x :: st) h) : gP PG PQ d RC RS y cc nL ret cells slots pc (v0 :: v1 :: v2 :: v3 :: v4 :: v5 :: v6 :: v7 :: v8 :: v9 :: v10 :: v11 :: .ref x :: lv) st h := p_aload hd rfl k
theorem p_aL13 {v0 v1 v2 v3 v4 v5 v6 v7 v8 v9 v10 v11 v12 : Value} {x : Nat} (hd : gd cc pc (.aload 13) 2 q) (k : gP PG PQ d RC RS y cc nL ret cells slots q (v0 :: v1 :: v2 :: v3 :: v4 :: v5 :: v6 :: v7 :: v8 :: v9 :: v10 :: v11 :: v12 :: .ref x :: lv) (.ref x :: st) h) : gP PG PQ d RC RS y cc nL ret cells slots pc (v0 :: v1 :: v2 :: v3 :: v4 :: v5 :: v6 :: v7 :: v8 :: v9 :: v10 :: v11 :: v12 :: .ref x :: lv) st h := p_aload hd rfl k
theorem p_sL0  {x : UInt32} (hd : gd cc pc (.aload_n 0) 1 q) (k : gP PG PQ d RC RS y cc nL ret cells slots q (.float x :: lv) (.float x :: st) h) : gP PG PQ d RC RS y cc nL ret cells slots pc (.float x :: lv) st h := p_sload_n (k0 := 0) hd rfl k
theorem p_sL1 {v0 : Value} {x : UInt32} (hd : gd cc pc (.aload_n 1) 1 q) (k : gP PG PQ d RC RS y cc nL ret cells slots q (v0 :: .float x :: lv) (.float x :: st) h) : gP PG PQ d RC RS y cc nL ret cells slots pc (v0 :: .float x :: lv) st h := p_sload_n (k0 := 1) hd rfl k
theorem p_sL2 {v0 v1 : Value} {x : UInt32} (hd : gd cc pc (.aload_n 2) 1 q) (k : gP PG PQ d RC RS y cc nL ret cells slots q (v0 :: v1 :: .float x :: lv) (.float x :: st) h) : gP PG PQ d RC RS y cc nL ret cells slots pc (v0 :: v1 :: .float x :: lv) st h := p_sload_n (k0 := 2) hd rfl k
theorem p_sL3 {v0 v1 v2 : Value} {x : UInt32} (hd : gd cc pc (.aload_n 3) 1 q) (k : gP PG PQ d RC RS y cc nL ret cells slots q (v0 :: v1 :: v2 :: .float x :: lv) (.float x :: st) h) : gP PG PQ d RC RS y cc nL ret cells slots pc (v0 :: v1 :: v2 :: .float x :: lv) st h := p_sload_n (k0 := 3) hd rfl k
theorem p_iS0 {v0 : Value} {x : Int32} (hd : gd cc pc (.istore_n 0) 1 q) (hn : Nat.ble 1 nL = true)  (k : gP PG PQ d RC RS y cc nL ret cells slots q (.int x :: lv) st h) : gP PG PQ d RC RS y cc nL ret cells slots pc (v0 :: lv) (.int x :: st) h := p_istore_n (k0 := 0) hd (Nat.le_of_ble_eq_true hn) (by show 0 < _; simp) (fun u e z => absurd z (Nat.lt_irrefl 0)) k
theorem p_iS1 {v0 v1 : Value} {x : Int32} (hd : gd cc pc (.istore_n 1) 1 q) (hn : Nat.ble 2 nL = true) (hc : v0.category = 1) (k : gP PG PQ d RC RS y cc nL ret cells slots q (v0 :: .int x :: lv) st h) : gP PG PQ d RC RS y cc nL ret cells slots pc (v0 :: v1 :: lv) (.int x :: st) h := p_istore_n (k0 := 1) hd (Nat.le_of_ble_eq_true hn) (by show 1 < _; simp) (fun u e z => by first | (cases e; exact hc) | exact absurd z (Nat.lt_irrefl 0)) k
theorem p_iS2 {v0 v1 v2 : Value} {x : Int32} (hd : gd cc pc (.istore_n 2) 1 q) (hn : Nat.ble 3 nL = true) (hc : v1.category = 1) (k : gP PG PQ d RC RS y cc nL ret cells slots q (v0 :: v1 :: .int x :: lv) st h) : gP PG PQ d RC RS y cc nL ret cells slots pc (v0 :: v1 :: v2 :: lv) (.int x :: st) h := p_istore_n (k0 := 2) hd (Nat.le_of_ble_eq_true hn) (by show 2 < _; simp) (fun u e z => by first | (cases e; exact hc) | exact absurd z (Nat.lt_irrefl 0)) k
theorem p_iS3 {v0 v1 v2 v3 : Value} {x : Int32} (hd : gd cc pc (.istore_n 3) 1 q) (hn : Nat.ble 4 nL = true) (hc : v2.category = 1) (k : gP PG PQ d RC RS y cc nL ret cells slots q (v0 :: v1 :: v2 :: .int x :: lv) st h) : gP PG PQ d RC RS y cc nL ret cells slots pc (v0 :: v1 :: v2 :: v3 :: lv) (.int x :: st) h := p_istore_n (k0 := 3) hd (Nat.le_of_ble_eq_true hn) (by show 3 < _; simp) (fun u e z => by first | (cases e; exact hc) | exact absurd z (Nat.lt_irrefl 0)) k
theorem p_iS4 {v0 v1 v2 v3 v4 : Value} {x : Int32} (hd : gd cc pc (.istore 4) 2 q) (hn : Nat.ble 5 nL = true) (hc : v3.category = 1) (k : gP PG PQ d RC RS y cc nL ret cells slots q (v0 :: v1 :: v2 :: v3 :: .int x :: lv) st h) : gP PG PQ d RC RS y cc nL ret cells slots pc (v0 :: v1 :: v2 :: v3 :: v4 :: lv) (.int x :: st) h := p_istore hd (Nat.le_of_ble_eq_true hn) (by show 4 < _; simp) (fun u e z => by first | (cases e; exact hc) | exact absurd z (Nat.lt_irrefl 0)) k
theorem p_iS5 {v0 v1 v2 v3 v4 v5 : Value} {x : Int32} (hd : gd cc pc (.istore 5) 2 q) (hn : Nat.ble 6 nL = true) (hc : v4.category = 1) (k : gP PG PQ d RC RS y cc nL ret cells slots q (v0 :: v1 :: v2 :: v3 :: v4 :: .int x :: lv) st h) : gP PG PQ d RC RS y cc nL ret cells slots pc (v0 :: v1 :: v2 :: v3 :: v4 :: v5 :: lv) (.int x :: st) h := p_istore hd (Nat.le_of_ble_eq_true hn) (by show 5 < _; simp) (fun u e z => by first | (cases e; exact hc) | exact absurd z (Nat.lt_irrefl 0)) k
theorem p_iS6 {v0 v1 v2 v3 v4 v5 v6 : Value} {x : Int32} (hd : gd cc pc (.istore 6) 2 q) (hn : Nat.ble 7 nL = true) (hc : v5.category = 1) (k : gP PG PQ d RC RS y cc nL ret cells slots q (v0 :: v1 :: v2 :: v3 :: v4 :: v5 :: .int x :: lv) st h) : gP PG PQ d RC RS y cc nL ret cells slots pc (v0 :: v1 :: v2 :: v3 :: v4 :: v5 :: v6 :: lv) (.int x :: st) h := p_istore hd (Nat.le_of_ble_eq_true hn) (by show 6 < _; simp) (fun u e z => by first | (cases e; exact hc) | exact absurd z (Nat.lt_irrefl 0)) k
theorem p_iS7 {v0 v1 v2 v3 v4 v5 v6 v7 : Value} {x : Int32} (hd : gd cc pc (.istore 7) 2 q) (hn : Nat.ble 8 nL = true) (hc : v6.category = 1) (k : gP PG PQ d RC RS y cc nL ret cells slots q (v0 :: v1 :: v2 :: v3 :: v4 :: v5 :: v6 :: .int x :: lv) st h) : gP PG PQ d RC RS y cc nL ret cells slots pc (v0 :: v1 :: v2 :: v3 :: v4 :: v5 :: v6 :: v7 :: lv) (.int x :: st) h := p_istore hd (Nat.le_of_ble_eq_true hn) (by show 7 < _; simp) (fun u e z => by first | (cases e; exact hc) | exact absurd z (Nat.lt_irrefl 0)) k
theorem p_iS8 {v0 v1 v2 v3 v4 v5 v6 v7 v8 : Value} {x : Int32} (hd : gd cc pc (.istore 8) 2 q) (hn : Nat.ble 9 nL = true) (hc : v7.category = 1) (k : gP PG PQ d RC RS y cc nL ret cells slots q (v0 :: v1 :: v2 :: v3 :: v4 :: v5 :: v6 :: v7 :: .int x :: lv) st h) : gP PG PQ d RC RS y cc nL ret cells slots pc (v0 :: v1 :: v2 :: v3 :: v4 :: v5 :: v6 :: v7 :: v8 :: lv) (.int x :: st) h := p_istore hd (Nat.le_of_ble_eq_true hn) (by show 8 < _; simp) (fun u e z => by first | (cases e; exact hc) | exact absurd z (Nat.lt_irrefl 0)) k
theorem p_iS9 {v0 v1 v2 v3 v4 v5 v6 v7 v8 v9 : Value} {x : Int32} (hd : gd cc pc (.istore 9) 2 q) (hn : Nat.ble 10 nL = true) (hc : v8.category = 1) (k : gP PG PQ d RC RS y cc nL ret cells slots q (v0 :: v1 :: v2 :: v3 :: v4 :: v5 :: v6 :: v7 :: v8 :: .int x :: lv) st h) : gP PG PQ d RC RS y cc nL ret cells slots pc (v0 :: v1 :: v2 :: v3 :: v4 :: v5 :: v6 :: v7 :: v8 :: v9 :: lv) (.int x :: st) h := p_istore hd (Nat.le_of_ble_eq_true hn) (by show 9 < _; simp) (fun u e z => by first | (cases e; exact hc) | exact absurd z (Nat.lt_irrefl 0)) k
theorem p_iS10 {v0 v1 v2 v3 v4 v5 v6 v7 v8 v9 v10 : Value} {x : Int32} (hd : gd cc pc (.istore 10) 2 q) (hn : Nat.ble 11 nL = true) (hc : v9.category = 1) (k : gP PG PQ d RC RS y cc nL ret cells slots q (v0 :: v1 :: v2 :: v3 :: v4 :: v5 :: v6 :: v7 :: v8 :: v9 :: .int x :: lv) st h) : gP PG PQ d RC RS y cc nL ret cells slots pc (v0 :: v1 :: v2 :: v3 :: v4 :: v5 :: v6 :: v7 :: v8 :: v9 :: v10 :: lv) (.int x :: st) h := p_istore hd (Nat.le_of_ble_eq_true hn) (by show 10 < _; simp) (fun u e z => by first | (cases e; exact hc) | exact absurd z (Nat.lt_irrefl 0)) k
theorem p_iS11 {v0 v1 v2 v3 v4 v5 v6 v7 v8 v9 v10 v11 : Value} {x : Int32} (hd : gd cc pc (.istore 11) 2 q) (hn : Nat.ble 12 nL = true) (hc : v10.category = 1) (k : gP PG PQ d RC RS y cc nL ret cells slots q (v0 :: v1 :: v2 :: v3 :: v4 :: v5 :: v6 :: v7 :: v8 :: v9 :: v10 :: .int x :: lv) st h) : gP PG PQ d RC RS y cc nL ret cells slots pc (v0 :: v1 :: v2 :: v3 :: v4 :: v5 :: v6 :: v7 :: v8 :: v9 :: v10 :: v11 :: lv) (.int x :: st) h := p_istore hd (Nat.le_of_ble_eq_true hn) (by show 11 < _; simp) (fun u e z => by first | (cases e; exact hc) | exact absurd z (Nat.lt_irrefl 0)) k
theorem p_iS12 {v0 v1 v2 v3 v4 v5 v6 v7 v8 v9 v10 v11 v12 : Value} {x : Int32} (hd : gd cc pc (.istore 12) 2 q) (hn : Nat.ble 13 nL = true) (hc : v11.category = 1) (k : gP PG PQ d RC RS y cc nL ret cells slots q (v0 :: v1 :: v2 :: v3 :: v4 :: v5 :: v6 :: v7 :: v8 :: v9 :: v10 :: v11 :: .int x :: lv) st h) : gP PG PQ d RC RS y cc nL ret cells slots pc (v0 :: v1 :: v2 :: v3 :: v4 :: v5 :: v6 :: v7 :: v8 :: v9 :: v10 :: v11 :: v12 :: lv) (.int x :: st) h := p_istore hd (Nat.le_of_ble_eq_true hn) (by show 12 < _; simp) (fun u e z => by first | (cases e; exact hc) | exact absurd z (Nat.lt_irrefl 0)) k
theorem p_iS13 {v0 v1 v2 v3 v4 v5 v6 v7 v8 v9 v10 v11 v12 v13 : Value} {x : Int32} (hd : gd cc pc (.istore 13) 2 q) (hn : Nat.ble 14 nL = true) (hc : v12.category = 1) (k : gP PG PQ d RC RS y cc nL ret cells slots q (v0 :: v1 :: v2 :: v3 :: v4 :: v5 :: v6 :: v7 :: v8 :: v9 :: v10 :: v11 :: v12 :: .int x :: lv) st h) : gP PG PQ d RC RS y cc nL ret cells slots pc (v0 :: v1 :: v2 :: v3 :: v4 :: v5 :: v6 :: v7 :: v8 :: v9 :: v10 :: v11 :: v12 :: v13 :: lv) (.int x :: st) h := p_istore hd (Nat.le_of_ble_eq_true hn) (by show 13 < _; simp) (fun u e z => by first | (cases e; exact hc) | exact absurd z (Nat.lt_irrefl 0)) k
theorem p_aS0 {v0 : Value} {x : Nat} (hd : gd cc pc (.astore_n 0) 1 q) (hn : Nat.ble 1 nL = true)  (k : gP PG PQ d RC RS y cc nL ret cells slots q (.ref x :: lv) st h) : gP PG PQ d RC RS y cc nL ret cells slots pc (v0 :: lv) (.ref x :: st) h := p_astore_n (k0 := 0) hd (Nat.le_of_ble_eq_true hn) (by show 0 < _; simp) (fun u e z => absurd z (Nat.lt_irrefl 0)) k
theorem p_aS1 {v0 v1 : Value} {x : Nat} (hd : gd cc pc (.astore_n 1) 1 q) (hn : Nat.ble 2 nL = true) (hc : v0.category = 1) (k : gP PG PQ d RC RS y cc nL ret cells slots q (v0 :: .ref x :: lv) st h) : gP PG PQ d RC RS y cc nL ret cells slots pc (v0 :: v1 :: lv) (.ref x :: st) h := p_astore_n (k0 := 1) hd (Nat.le_of_ble_eq_true hn) (by show 1 < _; simp) (fun u e z => by first | (cases e; exact hc) | exact absurd z (Nat.lt_irrefl 0)) k
theorem p_aS2 {v0 v1 v2 : Value} {x : Nat} (hd : gd cc pc (.astore_n 2) 1 q) (hn : Nat.ble 3 nL = true) (hc : v1.category = 1) (k : gP PG PQ d RC RS y cc nL ret cells slots q (v0 :: v1 :: .ref x :: lv) st h) : gP PG PQ d RC RS y cc nL ret cells slots pc (v0 :: v1 :: v2 :: lv) (.ref x :: st) h := p_astore_n (k0 := 2) hd (Nat.le_of_ble_eq_true hn) (by show 2 < _; simp) (fun u e z => by first | (cases e; exact hc) | exact absurd z (Nat.lt_irrefl 0)) k
theorem p_aS3 {v0 v1 v2 v3 : Value} {x : Nat} (hd : gd cc pc (.astore_n 3) 1 q) (hn : Nat.ble 4 nL = true) (hc : v2.category = 1) (k : gP PG PQ d RC RS y cc nL ret cells slots q (v0 :: v1 :: v2 :: .ref x :: lv) st h) : gP PG PQ d RC RS y cc nL ret cells slots pc (v0 :: v1 :: v2 :: v3 :: lv) (.ref x :: st) h := p_astore_n (k0 := 3) hd (Nat.le_of_ble_eq_true hn) (by show 3 < _; simp) (fun u e z => by first | (cases e; exact hc) | exact absurd z (Nat.lt_irrefl 0)) k
theorem p_aS4 {v0 v1 v2 v3 v4 : Value} {x : Nat} (hd : gd cc pc (.astore 4) 2 q) (hn : Nat.ble 5 nL = true) (hc : v3.category = 1) (k : gP PG PQ d RC RS y cc nL ret cells slots q (v0 :: v1 :: v2 :: v3 :: .ref x :: lv) st h) : gP PG PQ d RC RS y cc nL ret cells slots pc (v0 :: v1 :: v2 :: v3 :: v4 :: lv) (.ref x :: st) h := p_astore hd (Nat.le_of_ble_eq_true hn) (by show 4 < _; simp) (fun u e z => by first | (cases e; exact hc) | exact absurd z (Nat.lt_irrefl 0)) k
theorem p_aS5 {v0 v1 v2 v3 v4 v5 : Value} {x : Nat} (hd : gd cc pc (.astore 5) 2 q) (hn : Nat.ble 6 nL = true) (hc : v4.category = 1) (k : gP PG PQ d RC RS y cc nL ret cells slots q (v0 :: v1 :: v2 :: v3 :: v4 :: .ref x :: lv) st h) : gP PG PQ d RC RS y cc nL ret cells slots pc (v0 :: v1 :: v2 :: v3 :: v4 :: v5 :: lv) (.ref x :: st) h := p_astore hd (Nat.le_of_ble_eq_true hn) (by show 5 < _; simp) (fun u e z => by first | (cases e; exact hc) | exact absurd z (Nat.lt_irrefl 0)) k
theorem p_aS6 {v0 v1 v2 v3 v4 v5 v6 : Value} {x : Nat} (hd : gd cc pc (.astore 6) 2 q) (hn : Nat.ble 7 nL = true) (hc : v5.category = 1) (k : gP PG PQ d RC RS y cc nL ret cells slots q (v0 :: v1 :: v2 :: v3 :: v4 :: v5 :: .ref x :: lv) st h) : gP PG PQ d RC RS y cc nL ret cells slots pc (v0 :: v1 :: v2 :: v3 :: v4 :: v5 :: v6 :: lv) (.ref x :: st) h := p_astore hd (Nat.le_of_ble_eq_true hn) (by show 6 < _; simp) (fun u e z => by first | (cases e; exact hc) | exact absurd z (Nat.lt_irrefl 0)) k
theorem p_aS7 {v0 v1 v2 v3 v4 v5 v6 v7 : Value} {x : Nat} (hd : gd cc pc (.astore 7) 2 q) (hn : Nat.ble 8 nL = true) (hc : v6.category = 1) (k : gP PG PQ d RC RS y cc nL ret cells slots q (v0 :: v1 :: v2 :: v3 :: v4 :: v5 :: v6 :: .ref x :: lv) st h) : gP PG PQ d RC RS y cc nL ret cells slots pc (v0 :: v1 :: v2 :: v3 :: v4 :: v5 :: v6 :: v7 :: lv) (.ref x :: st) h := p_astore hd (Nat.le_of_ble_eq_true hn) (by show 7 < _; simp) (fun u e z => by first | (cases e; exact hc) | exact absurd z (Nat.lt_irrefl 0)) k
theorem p_aS8 {v0 v1 v2 v3 v4 v5 v6 v7 v8 : Value} {x : Nat} (hd : gd cc pc (.astore 8) 2 q) (hn : Nat.ble 9 nL = true) (hc : v7.category = 1) (k : gP PG PQ d RC RS y cc nL ret cells slots q (v0 :: v1 :: v2 :: v3 :: v4 :: v5 :: v6 :: v7 :: .ref x :: lv) st h) : gP PG PQ d RC RS y cc nL ret cells slots pc (v0 :: v1 :: v2 :: v3 :: v4 :: v5 :: v6 :: v7 :: v8 :: lv) (.ref x :: st) h := p_astore hd (Nat.le_of_ble_eq_true hn) (by show 8 < _; simp) (fun u e z => by first | (cases e; exact hc) | exact absurd z (Nat.lt_irrefl 0)) k
theorem p_aS9 {v0 v1 v2 v3 v4 v5 v6 v7 v8 v9 : Value} {x : Nat} (hd : gd cc pc (.astore 9) 2 q) (hn : Nat.ble 10 nL = true) (hc : v8.category = 1) (k : gP PG PQ d RC RS y cc nL ret cells slots q (v0 :: v1 :: v2 :: v3 :: v4 :: v5 :: v6 :: v7 :: v8 :: .ref x :: lv) st h) : gP PG PQ d RC RS y cc nL ret cells slots pc (v0 :: v1 :: v2 :: v3 :: v4 :: v5 :: v6 :: v7 :: v8 :: v9 :: lv) (.ref x :: st) h := p_astore hd (Nat.le_of_ble_eq_true hn) (by show 9 < _; simp) (fun u e z => by first | (cases e; exact hc) | exact absurd z (Nat.lt_irrefl 0)) k
theorem p_aS10 {v0 v1 v2 v3 v4 v5 v6 v7 v8 v9 v10 : Value} {x : Nat} (hd : gd cc pc (.astore 10) 2 q) (hn : Nat.ble 11 nL = true) (hc : v9.category = 1) (k : gP PG PQ d RC RS y cc nL ret cells slots q (v0 :: v1 :: v2 :: v3 :: v4 :: v5 :: v6 :: v7 :: v8 :: v9 :: .ref x :: lv) st h) : gP PG PQ d RC RS y cc nL ret cells slots pc (v0 :: v1 :: v2 :: v3 :: v4 :: v5 :: v6 :: v7 :: v8 :: v9 :: v10 :: lv) (.ref x :: st) h := p_astore hd (Nat.le_of_ble_eq_true hn) (by show 10 < _; simp) (fun u e z => by first | (cases e; exact hc) | exact absurd z (Nat.lt_irrefl 0)) k
theorem p_aS11 {v0 v1 v2 v3 v4 v5 v6 v7 v8 v9 v10 v11 : Value} {x : Nat} (hd : gd cc pc (.astore 11) 2 q) (hn : Nat.ble 12 nL = true) (hc : v10.category = 1) (k : gP PG PQ d RC RS y cc nL ret cells slots q (v0 :: v1 :: v2 :: v3 :: v4 :: v5 :: v6 :: v7 :: v8 :: v9 :: v10 :: .ref x :: lv) st h) : gP PG PQ d RC RS y cc nL ret cells slots pc (v0 :: v1 :: v2 :: v3 :: v4 :: v5 :: v6 :: v7 :: v8 :: v9 :: v10 :: v11 :: lv) (.ref x :: st) h := p_astore hd (Nat.le_of_ble_eq_true hn) (by show 11 < _; simp) (fun u e z => by first | (cases e; exact hc) | exact absurd z (Nat.lt_irrefl 0)) k
theorem p_aS12 {v0 v1 v2 v3 v4 v5 v6 v7 v8 v9 v10 v11 v12 : Value} {x : Nat} (hd : gd cc pc (.astore 12) 2 q) (hn : Nat.ble 13 nL = true) (hc : v11.category = 1) (k : gP PG PQ d RC RS y cc nL ret cells slots q (v0 :: v1 :: v2 :: v3 :: v4 :: v5 :: v6 :: v7 :: v8 :: v9 :: v10 :: v11 :: .ref x :: lv) st h) : gP PG PQ d RC RS y cc nL ret cells slots pc (v0 :: v1 :: v2 :: v3 :: v4 :: v5 :: v6 :: v7 :: v8 :: v9 :: v10 :: v11 :: v12 :: lv) (.ref x :: st) h := p_astore hd (Nat.le_of_ble_eq_true hn) (by show 12 < _; simp) (fun u e z => by first | (cases e; exact hc) | exact absurd z (Nat.lt_irrefl 0)) k
theorem p_aS13 {v0 v1 v2 v3 v4 v5 v6 v7 v8 v9 v10 v11 v12 v13 : Value} {x : Nat} (hd : gd cc pc (.astore 13) 2 q) (hn : Nat.ble 14 nL = true) (hc : v12.category = 1) (k : gP PG PQ d RC RS y cc nL ret cells slots q (v0 :: v1 :: v2 :: v3 :: v4 :: v5 :: v6 :: v7 :: v8 :: v9 :: v10 :: v11 :: v12 :: .ref x :: lv) st h) : gP PG PQ d RC RS y cc nL ret cells slots pc (v0 :: v1 :: v2 :: v3 :: v4 :: v5 :: v6 :: v7 :: v8 :: v9 :: v10 :: v11 :: v12 :: v13 :: lv) (.ref x :: st) h := p_astore hd (Nat.le_of_ble_eq_true hn) (by show 13 < _; simp) (fun u e z => by first | (cases e; exact hc) | exact absurd z (Nat.lt_irrefl 0)) k
theorem p_lS0 {v0 v1 : Value} {x : Int64} (hd : gd cc pc (.lstore_n 0) 1 q) (hn : Nat.ble 2 nL = true)  (k : gP PG PQ d RC RS y cc nL ret cells slots q (.long x :: .retAddr 0 :: lv) st h) : gP PG PQ d RC RS y cc nL ret cells slots pc (v0 :: v1 :: lv) (.long x :: st) h := p_lstore_n (k0 := 0) hd (Nat.le_of_ble_eq_true hn) (by show 0 + 1 < _; simp) (fun u e z => absurd z (Nat.lt_irrefl 0)) k
theorem p_lS1 {v0 v1 v2 : Value} {x : Int64} (hd : gd cc pc (.lstore_n 1) 1 q) (hn : Nat.ble 3 nL = true) (hc : v0.category = 1) (k : gP PG PQ d RC RS y cc nL ret cells slots q (v0 :: .long x :: .retAddr 0 :: lv) st h) : gP PG PQ d RC RS y cc nL ret cells slots pc (v0 :: v1 :: v2 :: lv) (.long x :: st) h := p_lstore_n (k0 := 1) hd (Nat.le_of_ble_eq_true hn) (by show 1 + 1 < _; simp) (fun u e z => by first | (cases e; exact hc) | exact absurd z (Nat.lt_irrefl 0)) k
theorem p_lS2 {v0 v1 v2 v3 : Value} {x : Int64} (hd : gd cc pc (.lstore_n 2) 1 q) (hn : Nat.ble 4 nL = true) (hc : v1.category = 1) (k : gP PG PQ d RC RS y cc nL ret cells slots q (v0 :: v1 :: .long x :: .retAddr 0 :: lv) st h) : gP PG PQ d RC RS y cc nL ret cells slots pc (v0 :: v1 :: v2 :: v3 :: lv) (.long x :: st) h := p_lstore_n (k0 := 2) hd (Nat.le_of_ble_eq_true hn) (by show 2 + 1 < _; simp) (fun u e z => by first | (cases e; exact hc) | exact absurd z (Nat.lt_irrefl 0)) k
theorem p_lS3 {v0 v1 v2 v3 v4 : Value} {x : Int64} (hd : gd cc pc (.lstore_n 3) 1 q) (hn : Nat.ble 5 nL = true) (hc : v2.category = 1) (k : gP PG PQ d RC RS y cc nL ret cells slots q (v0 :: v1 :: v2 :: .long x :: .retAddr 0 :: lv) st h) : gP PG PQ d RC RS y cc nL ret cells slots pc (v0 :: v1 :: v2 :: v3 :: v4 :: lv) (.long x :: st) h := p_lstore_n (k0 := 3) hd (Nat.le_of_ble_eq_true hn) (by show 3 + 1 < _; simp) (fun u e z => by first | (cases e; exact hc) | exact absurd z (Nat.lt_irrefl 0)) k
theorem p_lS4 {v0 v1 v2 v3 v4 v5 : Value} {x : Int64} (hd : gd cc pc (.lstore 4) 2 q) (hn : Nat.ble 6 nL = true) (hc : v3.category = 1) (k : gP PG PQ d RC RS y cc nL ret cells slots q (v0 :: v1 :: v2 :: v3 :: .long x :: .retAddr 0 :: lv) st h) : gP PG PQ d RC RS y cc nL ret cells slots pc (v0 :: v1 :: v2 :: v3 :: v4 :: v5 :: lv) (.long x :: st) h := p_lstore hd (Nat.le_of_ble_eq_true hn) (by show 4 + 1 < _; simp) (fun u e z => by first | (cases e; exact hc) | exact absurd z (Nat.lt_irrefl 0)) k
theorem p_lS5 {v0 v1 v2 v3 v4 v5 v6 : Value} {x : Int64} (hd : gd cc pc (.lstore 5) 2 q) (hn : Nat.ble 7 nL = true) (hc : v4.category = 1) (k : gP PG PQ d RC RS y cc nL ret cells slots q (v0 :: v1 :: v2 :: v3 :: v4 :: .long x :: .retAddr 0 :: lv) st h) : gP PG PQ d RC RS y cc nL ret cells slots pc (v0 :: v1 :: v2 :: v3 :: v4 :: v5 :: v6 :: lv) (.long x :: st) h := p_lstore hd (Nat.le_of_ble_eq_true hn) (by show 5 + 1 < _; simp) (fun u e z => by first | (cases e; exact hc) | exact absurd z (Nat.lt_irrefl 0)) k
theorem p_lS6 {v0 v1 v2 v3 v4 v5 v6 v7 : Value} {x : Int64} (hd : gd cc pc (.lstore 6) 2 q) (hn : Nat.ble 8 nL = true) (hc : v5.category = 1) (k : gP PG PQ d RC RS y cc nL ret cells slots q (v0 :: v1 :: v2 :: v3 :: v4 :: v5 :: .long x :: .retAddr 0 :: lv) st h) : gP PG PQ d RC RS y cc nL ret cells slots pc (v0 :: v1 :: v2 :: v3 :: v4 :: v5 :: v6 :: v7 :: lv) (.long x :: st) h := p_lstore hd (Nat.le_of_ble_eq_true hn) (by show 6 + 1 < _; simp) (fun u e z => by first | (cases e; exact hc) | exact absurd z (Nat.lt_irrefl 0)) k
theorem p_lS7 {v0 v1 v2 v3 v4 v5 v6 v7 v8 : Value} {x : Int64} (hd : gd cc pc (.lstore 7) 2 q) (hn : Nat.ble 9 nL = true) (hc : v6.category = 1) (k : gP PG PQ d RC RS y cc nL ret cells slots q (v0 :: v1 :: v2 :: v3 :: v4 :: v5 :: v6 :: .long x :: .retAddr 0 :: lv) st h) : gP PG PQ d RC RS y cc nL ret cells slots pc (v0 :: v1 :: v2 :: v3 :: v4 :: v5 :: v6 :: v7 :: v8 :: lv) (.long x :: st) h := p_lstore hd (Nat.le_of_ble_eq_true hn) (by show 7 + 1 < _; simp) (fun u e z => by first | (cases e; exact hc) | exact absurd z (Nat.lt_irrefl 0)) k
theorem p_lS8 {v0 v1 v2 v3 v4 v5 v6 v7 v8 v9 : Value} {x : Int64} (hd : gd cc pc (.lstore 8) 2 q) (hn : Nat.ble 10 nL = true) (hc : v7.category = 1) (k : gP PG PQ d RC RS y cc nL ret cells slots q (v0 :: v1 :: v2 :: v3 :: v4 :: v5 :: v6 :: v7 :: .long x :: .retAddr 0 :: lv) st h) : gP PG PQ d RC RS y cc nL ret cells slots pc (v0 :: v1 :: v2 :: v3 :: v4 :: v5 :: v6 :: v7 :: v8 :: v9 :: lv) (.long x :: st) h := p_lstore hd (Nat.le_of_ble_eq_true hn) (by show 8 + 1 < _; simp) (fun u e z => by first | (cases e; exact hc) | exact absurd z (Nat.lt_irrefl 0)) k
theorem p_lS9 {v0 v1 v2 v3 v4 v5 v6 v7 v8 v9 v10 : Value} {x : Int64} (hd : gd cc pc (.lstore 9) 2 q) (hn : Nat.ble 11 nL = true) (hc : v8.category = 1) (k : gP PG PQ d RC RS y cc nL ret cells slots q (v0 :: v1 :: v2 :: v3 :: v4 :: v5 :: v6 :: v7 :: v8 :: .long x :: .retAddr 0 :: lv) st h) : gP PG PQ d RC RS y cc nL ret cells slots pc (v0 :: v1 :: v2 :: v3 :: v4 :: v5 :: v6 :: v7 :: v8 :: v9 :: v10 :: lv) (.long x :: st) h := p_lstore hd (Nat.le_of_ble_eq_true hn) (by show 9 + 1 < _; simp) (fun u e z => by first | (cases e; exact hc) | exact absurd z (Nat.lt_irrefl 0)) k
theorem p_lS10 {v0 v1 v2 v3 v4 v5 v6 v7 v8 v9 v10 v11 : Value} {x : Int64} (hd : gd cc pc (.lstore 10) 2 q) (hn : Nat.ble 12 nL = true) (hc : v9.category = 1) (k : gP PG PQ d RC RS y cc nL ret cells slots q (v0 :: v1 :: v2 :: v3 :: v4 :: v5 :: v6 :: v7 :: v8 :: v9 :: .long x :: .retAddr 0 :: lv) st h) : gP PG PQ d RC RS y cc nL ret cells slots pc (v0 :: v1 :: v2 :: v3 :: v4 :: v5 :: v6 :: v7 :: v8 :: v9 :: v10 :: v11 :: lv) (.long x :: st) h := p_lstore hd (Nat.le_of_ble_eq_true hn) (by show 10 + 1 < _; simp) (fun u e z => by first | (cases e; exact hc) | exact absurd z (Nat.lt_irrefl 0)) k
theorem p_lS11 {v0 v1 v2 v3 v4 v5 v6 v7 v8 v9 v10 v11 v12 : Value} {x : Int64} (hd : gd cc pc (.lstore 11) 2 q) (hn : Nat.ble 13 nL = true) (hc : v10.category = 1) (k : gP PG PQ d RC RS y cc nL ret cells slots q (v0 :: v1 :: v2 :: v3 :: v4 :: v5 :: v6 :: v7 :: v8 :: v9 :: v10 :: .long x :: .retAddr 0 :: lv) st h) : gP PG PQ d RC RS y cc nL ret cells slots pc (v0 :: v1 :: v2 :: v3 :: v4 :: v5 :: v6 :: v7 :: v8 :: v9 :: v10 :: v11 :: v12 :: lv) (.long x :: st) h := p_lstore hd (Nat.le_of_ble_eq_true hn) (by show 11 + 1 < _; simp) (fun u e z => by first | (cases e; exact hc) | exact absurd z (Nat.lt_irrefl 0)) k
theorem p_lS12 {v0 v1 v2 v3 v4 v5 v6 v7 v8 v9 v10 v11 v12 v13 : Value} {x : Int64} (hd : gd cc pc (.lstore 12) 2 q) (hn : Nat.ble 14 nL = true) (hc : v11.category = 1) (k : gP PG PQ d RC RS y cc nL ret cells slots q (v0 :: v1 :: v2 :: v3 :: v4 :: v5 :: v6 :: v7 :: v8 :: v9 :: v10 :: v11 :: .long x :: .retAddr 0 :: lv) st h) : gP PG PQ d RC RS y cc nL ret cells slots pc (v0 :: v1 :: v2 :: v3 :: v4 :: v5 :: v6 :: v7 :: v8 :: v9 :: v10 :: v11 :: v12 :: v13 :: lv) (.long x :: st) h := p_lstore hd (Nat.le_of_ble_eq_true hn) (by show 12 + 1 < _; simp) (fun u e z => by first | (cases e; exact hc) | exact absurd z (Nat.lt_irrefl 0)) k
theorem p_lS13 {v0 v1 v2 v3 v4 v5 v6 v7 v8 v9 v10 v11 v12 v13 v14 : Value} {x : Int64} (hd : gd cc pc (.lstore 13) 2 q) (hn : Nat.ble 15 nL = true) (hc : v12.category = 1) (k : gP PG PQ d RC RS y cc nL ret cells slots q (v0 :: v1 :: v2 :: v3 :: v4 :: v5 :: v6 :: v7 :: v8 :: v9 :: v10 :: v11 :: v12 :: .long x :: .retAddr 0 :: lv) st h) : gP PG PQ d RC RS y cc nL ret cells slots pc (v0 :: v1 :: v2 :: v3 :: v4 :: v5 :: v6 :: v7 :: v8 :: v9 :: v10 :: v11 :: v12 :: v13 :: v14 :: lv) (.long x :: st) h := p_lstore hd (Nat.le_of_ble_eq_true hn) (by show 13 + 1 < _; simp) (fun u e z => by first | (cases e; exact hc) | exact absurd z (Nat.lt_irrefl 0)) k
theorem p_ii0  {x v : Int32} {n : Int} (hd : decode cc pc = .ok (.iinc 0 n, 3) ∧ pc + 3 = q ∧ Int32.ofInt n = v) (hn : Nat.ble 1 nL = true)  (k : gP PG PQ d RC RS y cc nL ret cells slots q (.int (x + v) :: lv) st h) : gP PG PQ d RC RS y cc nL ret cells slots pc (.int x :: lv) st h := p_iinc hd (Nat.le_of_ble_eq_true hn) rfl (fun u e z => absurd z (Nat.lt_irrefl 0)) k
theorem p_ii1 {v0 : Value} {x v : Int32} {n : Int} (hd : decode cc pc = .ok (.iinc 1 n, 3) ∧ pc + 3 = q ∧ Int32.ofInt n = v) (hn : Nat.ble 2 nL = true) (hc : v0.category = 1) (k : gP PG PQ d RC RS y cc nL ret cells slots q (v0 :: .int (x + v) :: lv) st h) : gP PG PQ d RC RS y cc nL ret cells slots pc (v0 :: .int x :: lv) st h := p_iinc hd (Nat.le_of_ble_eq_true hn) rfl (fun u e z => by first | (cases e; exact hc) | exact absurd z (Nat.lt_irrefl 0)) k
theorem p_ii2 {v0 v1 : Value} {x v : Int32} {n : Int} (hd : decode cc pc = .ok (.iinc 2 n, 3) ∧ pc + 3 = q ∧ Int32.ofInt n = v) (hn : Nat.ble 3 nL = true) (hc : v1.category = 1) (k : gP PG PQ d RC RS y cc nL ret cells slots q (v0 :: v1 :: .int (x + v) :: lv) st h) : gP PG PQ d RC RS y cc nL ret cells slots pc (v0 :: v1 :: .int x :: lv) st h := p_iinc hd (Nat.le_of_ble_eq_true hn) rfl (fun u e z => by first | (cases e; exact hc) | exact absurd z (Nat.lt_irrefl 0)) k
theorem p_ii3 {v0 v1 v2 : Value} {x v : Int32} {n : Int} (hd : decode cc pc = .ok (.iinc 3 n, 3) ∧ pc + 3 = q ∧ Int32.ofInt n = v) (hn : Nat.ble 4 nL = true) (hc : v2.category = 1) (k : gP PG PQ d RC RS y cc nL ret cells slots q (v0 :: v1 :: v2 :: .int (x + v) :: lv) st h) : gP PG PQ d RC RS y cc nL ret cells slots pc (v0 :: v1 :: v2 :: .int x :: lv) st h := p_iinc hd (Nat.le_of_ble_eq_true hn) rfl (fun u e z => by first | (cases e; exact hc) | exact absurd z (Nat.lt_irrefl 0)) k
theorem p_ii4 {v0 v1 v2 v3 : Value} {x v : Int32} {n : Int} (hd : decode cc pc = .ok (.iinc 4 n, 3) ∧ pc + 3 = q ∧ Int32.ofInt n = v) (hn : Nat.ble 5 nL = true) (hc : v3.category = 1) (k : gP PG PQ d RC RS y cc nL ret cells slots q (v0 :: v1 :: v2 :: v3 :: .int (x + v) :: lv) st h) : gP PG PQ d RC RS y cc nL ret cells slots pc (v0 :: v1 :: v2 :: v3 :: .int x :: lv) st h := p_iinc hd (Nat.le_of_ble_eq_true hn) rfl (fun u e z => by first | (cases e; exact hc) | exact absurd z (Nat.lt_irrefl 0)) k
theorem p_ii5 {v0 v1 v2 v3 v4 : Value} {x v : Int32} {n : Int} (hd : decode cc pc = .ok (.iinc 5 n, 3) ∧ pc + 3 = q ∧ Int32.ofInt n = v) (hn : Nat.ble 6 nL = true) (hc : v4.category = 1) (k : gP PG PQ d RC RS y cc nL ret cells slots q (v0 :: v1 :: v2 :: v3 :: v4 :: .int (x + v) :: lv) st h) : gP PG PQ d RC RS y cc nL ret cells slots pc (v0 :: v1 :: v2 :: v3 :: v4 :: .int x :: lv) st h := p_iinc hd (Nat.le_of_ble_eq_true hn) rfl (fun u e z => by first | (cases e; exact hc) | exact absurd z (Nat.lt_irrefl 0)) k
theorem p_ii6 {v0 v1 v2 v3 v4 v5 : Value} {x v : Int32} {n : Int} (hd : decode cc pc = .ok (.iinc 6 n, 3) ∧ pc + 3 = q ∧ Int32.ofInt n = v) (hn : Nat.ble 7 nL = true) (hc : v5.category = 1) (k : gP PG PQ d RC RS y cc nL ret cells slots q (v0 :: v1 :: v2 :: v3 :: v4 :: v5 :: .int (x + v) :: lv) st h) : gP PG PQ d RC RS y cc nL ret cells slots pc (v0 :: v1 :: v2 :: v3 :: v4 :: v5 :: .int x :: lv) st h := p_iinc hd (Nat.le_of_ble_eq_true hn) rfl (fun u e z => by first | (cases e; exact hc) | exact absurd z (Nat.lt_irrefl 0)) k
theorem p_ii7 {v0 v1 v2 v3 v4 v5 v6 : Value} {x v : Int32} {n : Int} (hd : decode cc pc = .ok (.iinc 7 n, 3) ∧ pc + 3 = q ∧ Int32.ofInt n = v) (hn : Nat.ble 8 nL = true) (hc : v6.category = 1) (k : gP PG PQ d RC RS y cc nL ret cells slots q (v0 :: v1 :: v2 :: v3 :: v4 :: v5 :: v6 :: .int (x + v) :: lv) st h) : gP PG PQ d RC RS y cc nL ret cells slots pc (v0 :: v1 :: v2 :: v3 :: v4 :: v5 :: v6 :: .int x :: lv) st h := p_iinc hd (Nat.le_of_ble_eq_true hn) rfl (fun u e z => by first | (cases e; exact hc) | exact absurd z (Nat.lt_irrefl 0)) k
theorem p_ii8 {v0 v1 v2 v3 v4 v5 v6 v7 : Value} {x v : Int32} {n : Int} (hd : decode cc pc = .ok (.iinc 8 n, 3) ∧ pc + 3 = q ∧ Int32.ofInt n = v) (hn : Nat.ble 9 nL = true) (hc : v7.category = 1) (k : gP PG PQ d RC RS y cc nL ret cells slots q (v0 :: v1 :: v2 :: v3 :: v4 :: v5 :: v6 :: v7 :: .int (x + v) :: lv) st h) : gP PG PQ d RC RS y cc nL ret cells slots pc (v0 :: v1 :: v2 :: v3 :: v4 :: v5 :: v6 :: v7 :: .int x :: lv) st h := p_iinc hd (Nat.le_of_ble_eq_true hn) rfl (fun u e z => by first | (cases e; exact hc) | exact absurd z (Nat.lt_irrefl 0)) k
theorem p_ii9 {v0 v1 v2 v3 v4 v5 v6 v7 v8 : Value} {x v : Int32} {n : Int} (hd : decode cc pc = .ok (.iinc 9 n, 3) ∧ pc + 3 = q ∧ Int32.ofInt n = v) (hn : Nat.ble 10 nL = true) (hc : v8.category = 1) (k : gP PG PQ d RC RS y cc nL ret cells slots q (v0 :: v1 :: v2 :: v3 :: v4 :: v5 :: v6 :: v7 :: v8 :: .int (x + v) :: lv) st h) : gP PG PQ d RC RS y cc nL ret cells slots pc (v0 :: v1 :: v2 :: v3 :: v4 :: v5 :: v6 :: v7 :: v8 :: .int x :: lv) st h := p_iinc hd (Nat.le_of_ble_eq_true hn) rfl (fun u e z => by first | (cases e; exact hc) | exact absurd z (Nat.lt_irrefl 0)) k
theorem p_ii10 {v0 v1 v2 v3 v4 v5 v6 v7 v8 v9 : Value} {x v : Int32} {n : Int} (hd : decode cc pc = .ok (.iinc 10 n, 3) ∧ pc + 3 = q ∧ Int32.ofInt n = v) (hn : Nat.ble 11 nL = true) (hc : v9.category = 1) (k : gP PG PQ d RC RS y cc nL ret cells slots q (v0 :: v1 :: v2 :: v3 :: v4 :: v5 :: v6 :: v7 :: v8 :: v9 :: .int (x + v) :: lv) st h) : gP PG PQ d RC RS y cc nL ret cells slots pc (v0 :: v1 :: v2 :: v3 :: v4 :: v5 :: v6 :: v7 :: v8 :: v9 :: .int x :: lv) st h := p_iinc hd (Nat.le_of_ble_eq_true hn) rfl (fun u e z => by first | (cases e; exact hc) | exact absurd z (Nat.lt_irrefl 0)) k
theorem p_ii11 {v0 v1 v2 v3 v4 v5 v6 v7 v8 v9 v10 : Value} {x v : Int32} {n : Int} (hd : decode cc pc = .ok (.iinc 11 n, 3) ∧ pc + 3 = q ∧ Int32.ofInt n = v) (hn : Nat.ble 12 nL = true) (hc : v10.category = 1) (k : gP PG PQ d RC RS y cc nL ret cells slots q (v0 :: v1 :: v2 :: v3 :: v4 :: v5 :: v6 :: v7 :: v8 :: v9 :: v10 :: .int (x + v) :: lv) st h) : gP PG PQ d RC RS y cc nL ret cells slots pc (v0 :: v1 :: v2 :: v3 :: v4 :: v5 :: v6 :: v7 :: v8 :: v9 :: v10 :: .int x :: lv) st h := p_iinc hd (Nat.le_of_ble_eq_true hn) rfl (fun u e z => by first | (cases e; exact hc) | exact absurd z (Nat.lt_irrefl 0)) k
theorem p_ii12 {v0 v1 v2 v3 v4 v5 v6 v7 v8 v9 v10 v11 : Value} {x v : Int32} {n : Int} (hd : decode cc pc = .ok (.iinc 12 n, 3) ∧ pc + 3 = q ∧ Int32.ofInt n = v) (hn : Nat.ble 13 nL = true) (hc : v11.category = 1) (k : gP PG PQ d RC RS y cc nL ret cells slots q (v0 :: v1 :: v2 :: v3 :: v4 :: v5 :: v6 :: v7 :: v8 :: v9 :: v10 :: v11 :: .int (x + v) :: lv) st h) : gP PG PQ d RC RS y cc nL ret cells slots pc (v0 :: v1 :: v2 :: v3 :: v4 :: v5 :: v6 :: v7 :: v8 :: v9 :: v10 :: v11 :: .int x :: lv) st h := p_iinc hd (Nat.le_of_ble_eq_true hn) rfl (fun u e z => by first | (cases e; exact hc) | exact absurd z (Nat.lt_irrefl 0)) k
theorem p_ii13 {v0 v1 v2 v3 v4 v5 v6 v7 v8 v9 v10 v11 v12 : Value} {x v : Int32} {n : Int} (hd : decode cc pc = .ok (.iinc 13 n, 3) ∧ pc + 3 = q ∧ Int32.ofInt n = v) (hn : Nat.ble 14 nL = true) (hc : v12.category = 1) (k : gP PG PQ d RC RS y cc nL ret cells slots q (v0 :: v1 :: v2 :: v3 :: v4 :: v5 :: v6 :: v7 :: v8 :: v9 :: v10 :: v11 :: v12 :: .int (x + v) :: lv) st h) : gP PG PQ d RC RS y cc nL ret cells slots pc (v0 :: v1 :: v2 :: v3 :: v4 :: v5 :: v6 :: v7 :: v8 :: v9 :: v10 :: v11 :: v12 :: .int x :: lv) st h := p_iinc hd (Nat.le_of_ble_eq_true hn) rfl (fun u e z => by first | (cases e; exact hc) | exact absurd z (Nat.lt_irrefl 0)) k
theorem p_get {a idx ci fi fk mo : Nat} (hf : gF y.cls idx ci fi fk mo) (ha : a ∈ gL h) (hk : gK h a = ci) (hd : gd cc pc (.getfield idx) 3 q) (k : gP PG PQ d RC RS y cc nL ret cells slots q lv (gfp h a fi fk :: st) h) : gP PG PQ d RC RS y cc nL ret cells slots pc lv (.ref a :: st) h := by
  obtain ⟨hd, rfl⟩ := hd
  obtain ⟨C0, T, N, ty0, ⟨hcl, hty, hnm, hin, hlen, h11⟩, hkN, hco, hc, hlink⟩ := hf
  intro p l e s m args below meth c G C hPG ls H locs hl hw hS
  obtain ⟨hx, hb, hml, hown, hts, -, -, -, hKo⟩ := id C
  obtain ⟨hsz, hlt, hP, hD⟩ := id hw
  obtain ⟨q0, hq0⟩ := gwl_get (G := G) ha
  rw [gen_obj hk h11] at hq0
  have hv : (gfs G h a (gty ci) 0)[fi]? = some (gtr G (gfp h a fi fk)) := by rw [gfs_get G h a (gty ci) 0 fi fk hc, Nat.zero_add]
  rcases hlink with ⟨-, hl1, -⟩ | ⟨-, host, hl1, -⟩ | ⟨-, hl1, -⟩
  · exact va_get hx hb hts hin hown hKo.2.1 hP q0 hq0 hcl fi hkN (hts _ hl1) (fun _ z => z) hv hd (k p l e s m args below meth c G C hPG ls H locs hl hw hS)
  · exact va_getN hx hb hts hin hown hKo.2.1 hP q0 hq0 hcl fi hkN (va_Nw.use rfl (hKo.2.2.1 _ hl1)) (fun _ z => z) hv hd (k p l e s m args below meth c G C hPG ls H locs hl hw hS)
  · exact va_get hx hb hts hin hown hKo.2.1 hP q0 hq0 hcl fi hkN (hts _ hl1) (fun _ z => z) hv hd (k p l e s m args below meth c G C hPG ls H locs hl hw hS)
theorem p_put {a idx ci fi fk mo : Nat} {v : Value} {h' : Hp} (hf : gF y.cls idx ci fi fk mo) (ha : a ∈ gL h) (hk : gK h a = ci) (h1 : h'.1 = h.1) (hkk : gK h' a = gK h a) (hv : gfp h' a fi fk = v) (hoo : ∀ k' c', (gty ci)[k']? = some c' → k' ≠ fi → gfp h' a k' c' = gfp h a k' c') (ho : ∀ (G : Gp) b, b ≠ a → gen G h' b = gen G h b)
    (hfit : ∀ (G : Gp) (ty : FieldType), gco ty = fk → narrow ty (gtr G v) = gtr G v ∧ fits ty (gtr G v) = true) (hfin : mo = 2 → y.name = "<init>" ∧ gcl[ci]?.map (fun r => (r.2.1 fi).1) = some y.cls) (hd : gd cc pc (.putfield idx) 3 q) (k : gP PG PQ d RC RS y cc nL ret cells slots q lv st h') : gP PG PQ d RC RS y cc nL ret cells slots pc lv (v :: .ref a :: st) h := by
  obtain ⟨hd, rfl⟩ := hd
  obtain ⟨C0, T, N, ty0, ⟨hcl, hty, hnm, hin, hlen, h11⟩, hkN, hco, hc, hlink⟩ := hf
  intro p l e s m args below meth c G C hPG ls H locs hl hw hS
  obtain ⟨hx, hb, hml, hown, hts, -, -, hname, hKo⟩ := id C
  obtain ⟨hsz, hlt, hP, hD⟩ := id hw
  obtain ⟨q0, hq0⟩ := gwl_get (G := G) ha
  have hq1 := hq0
  rw [gen_obj hk h11] at hq1
  obtain ⟨f1, f2⟩ := hfit G (ty0 fi) hco
  have hgo : ∀ (H1 : Heap) (locs1 : List Loc), H1.size = H.size → va_P (gD G) gcl ((gwl G h).set q0 (gB G + a, .inr (ci, (gfs G h a (gty ci) 0).set fi (gtr G v)))) H1 → va_D (gA G) ((gwl G h).set q0 (gB G + a, .inr (ci, (gfs G h a (gty ci) 0).set fi (gtr G v)))) → va_S (gA G) s.heap H1 locs1 → W p l e (grm d RC RS) s m args below meth c H1 locs1 cells slots (PQ G below args s) (F0 m (pc + 3) ls (st.map (gtr G))) := by
    intro H1 locs1 hz hP1 hD1 hS1
    refine k p l e s m args below meth c G C hPG ls H1 locs1 hl (gWh_set hw hq0 h1 ?_ (ho G) hz hP1 hD1) hS1
    rw [gen_obj (hkk.trans hk) h11, gfs_set G (gty ci) hc hv hoo]
  rcases hlink with ⟨hm, hl1, hl2⟩ | ⟨hm, host, hl1, hl2⟩ | ⟨hm, hl1, hl2⟩
  · exact gw_put (host := "") 0 hx hb hts hin ty0 hty hnm hown hKo.2.1 hP hD hS q0 hq1 hcl fi hkN (Or.inl ⟨rfl, hts _ hl1, hl2⟩) f1 f2 (by rw [gfs_len, hlen]; exact hkN) hd hgo
  · exact gw_put (host := host) 1 hx hb hts hin ty0 hty hnm hown hKo.2.1 hP hD hS q0 hq1 hcl fi hkN (Or.inr (Or.inl ⟨rfl, va_Nw.use rfl (hKo.2.2.1 _ hl1), hl2⟩)) f1 f2 (by rw [gfs_len, hlen]; exact hkN) hd hgo
  · obtain ⟨i1, i2⟩ := hfin hm
    rw [hcl] at i2
    exact gw_put (host := "") 2 hx hb hts hin ty0 hty hnm hown hKo.2.1 hP hD hS q0 hq1 hcl fi hkN (Or.inr (Or.inr ⟨rfl, hts _ hl1, hl2, hname.trans i1, Option.some.inj i2⟩)) f1 f2 (by rw [gfs_len, hlen]; exact hkN) hd hgo
theorem p_getI {a idx ci fi fk mo : Nat} (hf : gF y.cls idx ci fi fk mo) (hk0 : fk ≠ 1 ∧ fk ≠ 2) (ha : a ∈ gL h) (hk : gK h a = ci) (hd : gd cc pc (.getfield idx) 3 q) (k : gP PG PQ d RC RS y cc nL ret cells slots q lv (.int (gI h a fi) :: st) h) : gP PG PQ d RC RS y cc nL ret cells slots pc lv (.ref a :: st) h := by
  refine p_get hf ha hk hd ?_
  rw [show gfp h a fi fk = .int (gI h a fi) by unfold gfp; rw [if_neg hk0.1, if_neg hk0.2]]
  exact k
theorem p_getJ {a idx ci fi mo : Nat} (hf : gF y.cls idx ci fi 1 mo) (ha : a ∈ gL h) (hk : gK h a = ci) (hd : gd cc pc (.getfield idx) 3 q) (k : gP PG PQ d RC RS y cc nL ret cells slots q lv (.long (gJ h a fi) :: st) h) : gP PG PQ d RC RS y cc nL ret cells slots pc lv (.ref a :: st) h := p_get hf ha hk hd k
theorem p_getO {a idx ci fi mo : Nat} (hf : gF y.cls idx ci fi 2 mo) (ha : a ∈ gL h) (hk : gK h a = ci) (hd : gd cc pc (.getfield idx) 3 q) (k : gP PG PQ d RC RS y cc nL ret cells slots q lv (va_rf (gR h a fi) :: st) h) : gP PG PQ d RC RS y cc nL ret cells slots pc lv (.ref a :: st) h := p_get hf ha hk hd k
theorem p_getR {a b idx ci fi mo : Nat} (hf : gF y.cls idx ci fi 2 mo) (ha : a ∈ gL h) (hk : gK h a = ci) (hr : gR h a fi = some b) (hd : gd cc pc (.getfield idx) 3 q) (k : gP PG PQ d RC RS y cc nL ret cells slots q lv (.ref b :: st) h) : gP PG PQ d RC RS y cc nL ret cells slots pc lv (.ref a :: st) h := by
  refine p_getO hf ha hk hd ?_
  rw [hr]
  exact k
theorem p_putI {a idx ci fi mo : Nat} {v : Int32} (hf : gF y.cls idx ci fi 0 mo) (hfin : mo = 2 → y.name = "<init>" ∧ gcl[ci]?.map (fun r => (r.2.1 fi).1) = some y.cls) (ha : a ∈ gL h) (hk : gK h a = ci) (hd : gd cc pc (.putfield idx) 3 q) (k : gP PG PQ d RC RS y cc nL ret cells slots q lv st (pI h a fi v)) : gP PG PQ d RC RS y cc nL ret cells slots pc lv (.int v :: .ref a :: st) h := by
  refine p_put (h' := pI h a fi v) hf ha hk rfl rfl (by show Value.int (u2 _ _ _ _ _ _) = _; rw [u2_s]) (fun k' c' hc' hn => ?_) (fun G b hb => gen_pI hb) (fun G ty hty => ?_) hfin hd k
  · show (if c' = 1 then _ else if c' = 2 then _ else Value.int (u2 (gI h) a fi v a k')) = (if c' = 1 then _ else if c' = 2 then _ else Value.int (gI h a k'))
    rw [u2_n _ _ (fun z => hn z.2)]
    rfl
  · cases ty <;> first | exact ⟨rfl, rfl⟩ | (simp [gco] at hty)
theorem p_putZ {a idx ci fi mo : Nat} {v : Int32} (hf : gF y.cls idx ci fi 3 mo) (hv01 : v = 0 ∨ v = 1) (hfin : mo = 2 → y.name = "<init>" ∧ gcl[ci]?.map (fun r => (r.2.1 fi).1) = some y.cls) (ha : a ∈ gL h) (hk : gK h a = ci) (hd : gd cc pc (.putfield idx) 3 q) (k : gP PG PQ d RC RS y cc nL ret cells slots q lv st (pI h a fi v)) : gP PG PQ d RC RS y cc nL ret cells slots pc lv (.int v :: .ref a :: st) h := by
  refine p_put (h' := pI h a fi v) hf ha hk rfl rfl (by show Value.int (u2 _ _ _ _ _ _) = _; rw [u2_s]) (fun k' c' hc' hn => ?_) (fun G b hb => gen_pI hb) (fun G ty hty => ?_) hfin hd k
  · show (if c' = 1 then _ else if c' = 2 then _ else Value.int (u2 (gI h) a fi v a k')) = (if c' = 1 then _ else if c' = 2 then _ else Value.int (gI h a k'))
    rw [u2_n _ _ (fun z => hn z.2)]
    rfl
  · cases ty <;> first | (rcases hv01 with rfl | rfl <;> exact ⟨rfl, rfl⟩) | (simp [gco] at hty)
theorem p_putJ {a idx ci fi mo : Nat} {v : Int64} (hf : gF y.cls idx ci fi 1 mo) (hfin : mo = 2 → y.name = "<init>" ∧ gcl[ci]?.map (fun r => (r.2.1 fi).1) = some y.cls) (ha : a ∈ gL h) (hk : gK h a = ci) (hd : gd cc pc (.putfield idx) 3 q) (k : gP PG PQ d RC RS y cc nL ret cells slots q lv st (pJ h a fi v)) : gP PG PQ d RC RS y cc nL ret cells slots pc lv (.long v :: .ref a :: st) h := by
  refine p_put (h' := pJ h a fi v) hf ha hk rfl rfl (by show Value.long (u2 _ _ _ _ _ _) = _; rw [u2_s]) (fun k' c' hc' hn => ?_) (fun G b hb => gen_pJ hb) (fun G ty hty => ?_) hfin hd k
  · show (if c' = 1 then Value.long (u2 (gJ h) a fi v a k') else if c' = 2 then _ else _) = (if c' = 1 then Value.long (gJ h a k') else if c' = 2 then _ else _)
    rw [u2_n _ _ (fun z => hn z.2)]
    rfl
  · cases ty <;> first | exact ⟨rfl, rfl⟩ | (simp [gco] at hty)
theorem p_putR {a b idx ci fi mo : Nat} (hf : gF y.cls idx ci fi 2 mo) (hfin : mo = 2 → y.name = "<init>" ∧ gcl[ci]?.map (fun r => (r.2.1 fi).1) = some y.cls) (ha : a ∈ gL h) (hk : gK h a = ci) (hd : gd cc pc (.putfield idx) 3 q) (k : gP PG PQ d RC RS y cc nL ret cells slots q lv st (pR h a fi (some b))) : gP PG PQ d RC RS y cc nL ret cells slots pc lv (.ref b :: .ref a :: st) h := by
  refine p_put (h' := pR h a fi (some b)) hf ha hk rfl rfl (by show va_rf (u2 _ _ _ _ _ _) = _; rw [u2_s]; rfl) (fun k' c' hc' hn => ?_) (fun G b hb => gen_pR hb) (fun G ty hty => ?_) hfin hd k
  · show (if c' = 1 then _ else if c' = 2 then va_rf (u2 (gR h) a fi (some b) a k') else _) = (if c' = 1 then _ else if c' = 2 then va_rf (gR h a k') else _)
    rw [u2_n _ _ (fun z => hn z.2)]
    rfl
  · cases ty <;> first | exact ⟨rfl, rfl⟩ | (simp [gco] at hty)
theorem p_iaload {a : Nat} {i : Int32} (ha : a ∈ gL h) (hk : gK h a = 12) (hi : vp_in i (gN h a)) (hd : gd cc pc .iaload 1 q) (k : gP PG PQ d RC RS y cc nL ret cells slots q lv (.int (gI h a i.toNatClampNeg) :: st) h) : gP PG PQ d RC RS y cc nL ret cells slots pc lv (.int i :: .ref a :: st) h := by
  obtain ⟨hd, rfl⟩ := hd
  intro p l e s m args below meth c G C hPG ls H locs hl hw hS
  obtain ⟨hx, hb, hml, hown, hts, -, -, -, hKo⟩ := id C
  obtain ⟨hsz, hlt, hP, hD⟩ := id hw
  obtain ⟨q0, hq0⟩ := gwl_get (G := G) ha
  rw [show gen G h a = .inl (gcI G, gN h a, .inl (gI h a)) by unfold gen; rw [hk]; rfl] at hq0
  exact va_iald hx hb hKo.2.1 hP q0 1 hq0 rfl hi hd (k p l e s m args below meth c G C hPG ls H locs hl hw hS)
theorem p_baload {a : Nat} {i : Int32} (ha : a ∈ gL h) (hk : gK h a = 11) (hi : vp_in i (gN h a)) (hd : gd cc pc .baload 1 q) (k : gP PG PQ d RC RS y cc nL ret cells slots q lv (.int (gI h a i.toNatClampNeg) :: st) h) : gP PG PQ d RC RS y cc nL ret cells slots pc lv (.int i :: .ref a :: st) h := by
  obtain ⟨hd, rfl⟩ := hd
  intro p l e s m args below meth c G C hPG ls H locs hl hw hS
  obtain ⟨hx, hb, hml, hown, hts, -, -, -, hKo⟩ := id C
  obtain ⟨hsz, hlt, hP, hD⟩ := id hw
  obtain ⟨q0, hq0⟩ := gwl_get (G := G) ha
  rw [show gen G h a = .inl (gcB G, gN h a, .inl (gI h a)) by unfold gen; rw [hk]; rfl] at hq0
  exact va_bald hx hb hKo.2.1 hP q0 0 hq0 rfl hi hd (k p l e s m args below meth c G C hPG ls H locs hl hw hS)
theorem p_laload {a : Nat} {i : Int32} (ha : a ∈ gL h) (hk : gK h a = 13) (hi : vp_in i (gN h a)) (hd : gd cc pc .laload 1 q) (k : gP PG PQ d RC RS y cc nL ret cells slots q lv (.long (gJ h a i.toNatClampNeg) :: st) h) : gP PG PQ d RC RS y cc nL ret cells slots pc lv (.int i :: .ref a :: st) h := by
  obtain ⟨hd, rfl⟩ := hd
  intro p l e s m args below meth c G C hPG ls H locs hl hw hS
  obtain ⟨hx, hb, hml, hown, hts, -, -, -, hKo⟩ := id C
  obtain ⟨hsz, hlt, hP, hD⟩ := id hw
  obtain ⟨q0, hq0⟩ := gwl_get (G := G) ha
  rw [show gen G h a = .inl (gcJ G, gN h a, .inr (.inl (gJ h a))) by unfold gen; rw [hk]; rfl] at hq0
  exact va_lald hx hb hKo.2.1 hP q0 2 hq0 rfl hi hd (k p l e s m args below meth c G C hPG ls H locs hl hw hS)
theorem p_alen {a : Nat} (ha : a ∈ gL h) (hk : gK h a = 11 ∨ gK h a = 12) (hd : gd cc pc .arraylength 1 q) (k : gP PG PQ d RC RS y cc nL ret cells slots q lv (.int (nI (gN h a)) :: st) h) : gP PG PQ d RC RS y cc nL ret cells slots pc lv (.ref a :: st) h := by
  obtain ⟨hd, rfl⟩ := hd
  intro p l e s m args below meth c G C hPG ls H locs hl hw hS
  obtain ⟨hx, hb, hml, hown, hts, -, -, -, hKo⟩ := id C
  obtain ⟨hsz, hlt, hP, hD⟩ := id hw
  obtain ⟨q0, hq0⟩ := gwl_get (G := G) ha
  rcases hk with hk | hk
  · rw [show gen G h a = .inl (gcB G, gN h a, .inl (gI h a)) by unfold gen; rw [hk]; rfl] at hq0
    exact va_alen hx hb hKo.2.1 hP q0 0 hq0 (ty := .byte) rfl rfl hd (k p l e s m args below meth c G C hPG ls H locs hl hw hS)
  · rw [show gen G h a = .inl (gcI G, gN h a, .inl (gI h a)) by unfold gen; rw [hk]; rfl] at hq0
    exact va_alen hx hb hKo.2.1 hP q0 1 hq0 (ty := .int) rfl rfl hd (k p l e s m args below meth c G C hPG ls H locs hl hw hS)
theorem p_iastore {a : Nat} {i x : Int32} (ha : a ∈ gL h) (hk : gK h a = 12) (hi : vp_in i (gN h a)) (hd : gd cc pc .iastore 1 q) (k : gP PG PQ d RC RS y cc nL ret cells slots q lv st (pI h a i.toNatClampNeg x)) : gP PG PQ d RC RS y cc nL ret cells slots pc lv (.int x :: .int i :: .ref a :: st) h := by
  obtain ⟨hd, rfl⟩ := hd
  intro p l e s m args below meth c G C hPG ls H locs hl hw hS
  obtain ⟨hx, hb, hml, hown, hts, -, -, -, hKo⟩ := id C
  obtain ⟨hsz, hlt, hP, hD⟩ := id hw
  obtain ⟨q0, hq0⟩ := gwl_get (G := G) ha
  have hq1 := hq0
  rw [show gen G h a = .inl (gcI G, gN h a, .inl (gI h a)) by unfold gen; rw [hk]; rfl] at hq1
  refine gw_iast hx hb hKo.2.1 hP hD hS q0 1 hq1 rfl hi hd (fun H1 locs1 hz hP1 hD1 hS1 => k p l e s m args below meth c G C hPG ls H1 locs1 hl (gWh_set hw hq0 rfl ?_ (fun b hb => gen_pI hb) hz hP1 hD1) hS1)
  have e : gI (pI h a i.toNatClampNeg x) a = upd (gI h a) i.toNatClampNeg x := by
    show u2 (gI h) a i.toNatClampNeg x a = _
    rw [u2_row]
    funext j
    simp [upd]
  unfold gen
  rw [show gK (pI h a i.toNatClampNeg x) a = 12 from hk, e]
  rfl
theorem p_bastore {a : Nat} {i x : Int32} (ha : a ∈ gL h) (hk : gK h a = 11) (hi : vp_in i (gN h a)) (hd : gd cc pc .bastore 1 q) (k : gP PG PQ d RC RS y cc nL ret cells slots q lv st (pI h a i.toNatClampNeg x.toInt8.toInt32)) : gP PG PQ d RC RS y cc nL ret cells slots pc lv (.int x :: .int i :: .ref a :: st) h := by
  obtain ⟨hd, rfl⟩ := hd
  intro p l e s m args below meth c G C hPG ls H locs hl hw hS
  obtain ⟨hx, hb, hml, hown, hts, -, -, -, hKo⟩ := id C
  obtain ⟨hsz, hlt, hP, hD⟩ := id hw
  obtain ⟨q0, hq0⟩ := gwl_get (G := G) ha
  have hq1 := hq0
  rw [show gen G h a = .inl (gcB G, gN h a, .inl (gI h a)) by unfold gen; rw [hk]; rfl] at hq1
  refine gw_bast hx hb hKo.2.1 hP hD hS q0 0 hq1 rfl hi hd (fun H1 locs1 hz hP1 hD1 hS1 => k p l e s m args below meth c G C hPG ls H1 locs1 hl (gWh_set hw hq0 rfl ?_ (fun b hb => gen_pI hb) hz hP1 hD1) hS1)
  have e : gI (pI h a i.toNatClampNeg x.toInt8.toInt32) a = upd (gI h a) i.toNatClampNeg (vp_nar .byte x) := by
    show u2 (gI h) a i.toNatClampNeg x.toInt8.toInt32 a = _
    rw [u2_row, vp_nar_byte]
    funext j
    simp [upd]
  unfold gen
  rw [show gK (pI h a i.toNatClampNeg x.toInt8.toInt32) a = 11 from hk, e]
  rfl
theorem p_lastore {a : Nat} {i : Int32} {x : Int64} (ha : a ∈ gL h) (hk : gK h a = 13) (hi : vp_in i (gN h a)) (hd : gd cc pc .lastore 1 q) (k : gP PG PQ d RC RS y cc nL ret cells slots q lv st (pJ h a i.toNatClampNeg x)) : gP PG PQ d RC RS y cc nL ret cells slots pc lv (.long x :: .int i :: .ref a :: st) h := by
  obtain ⟨hd, rfl⟩ := hd
  intro p l e s m args below meth c G C hPG ls H locs hl hw hS
  obtain ⟨hx, hb, hml, hown, hts, -, -, -, hKo⟩ := id C
  obtain ⟨hsz, hlt, hP, hD⟩ := id hw
  obtain ⟨q0, hq0⟩ := gwl_get (G := G) ha
  have hq1 := hq0
  rw [show gen G h a = .inl (gcJ G, gN h a, .inr (.inl (gJ h a))) by unfold gen; rw [hk]; rfl] at hq1
  refine gw_last hx hb hKo.2.1 hP hD hS q0 2 hq1 rfl hi hd (fun H1 locs1 hz hP1 hD1 hS1 => k p l e s m args below meth c G C hPG ls H1 locs1 hl (gWh_set hw hq0 rfl ?_ (fun b hb => gen_pJ hb) hz hP1 hD1) hS1)
  have e : gJ (pJ h a i.toNatClampNeg x) a = vp_updL (gJ h a) i.toNatClampNeg x := by
    show u2 (gJ h) a i.toNatClampNeg x a = _
    rw [u2_row]
    funext j
    simp [vp_updL]
  unfold gen
  rw [show gK (pJ h a i.toNatClampNeg x) a = 13 from hk, e]
  rfl
theorem p_newarr {kd : Nat} {at0 : ArrayType} {ty : FieldType} {n : Int32} {N' : Nat} (hty : newarray.typeOf at0 = ty) (hkd : (kd = 11 ∧ ty = .byte) ∨ (kd = 12 ∧ ty = .int) ∨ (kd = 13 ∧ ty = .long)) (hin : Cond.arrayClass ty ∈ gtb) (hn : ¬ n < 0) (hN : n.toNatClampNeg = N') (hby : N' * componentBytes ty ≤ 536870912) (hc : cells + 1 ≤ RC) (hs : slots + N' ≤ RS) (hd : gd cc pc (.newarray at0) 2 q) (k : gP PG PQ d RC RS y cc nL ret (cells + 1) (slots + N') q lv (.ref (gn h) :: st) (pN h kd N')) : gP PG PQ d RC RS y cc nL ret cells slots pc lv (.int n :: st) h := by
  obtain ⟨hd, rfl⟩ := hd
  subst hty
  intro p l e s m args below meth c G C hPG ls H locs hl hw hS
  obtain ⟨hx, hb, hml, hown, hts, -, -, -, hKo⟩ := id C
  obtain ⟨hsz, hlt, hP, hD⟩ := id hw
  refine va_newaK hx hb (hts _ hin) rfl hd rfl hn hN hby hc hs hsz (fun H1 cA e1 z1 o1 hAr hNm => ?_)
  have hkp : ∀ (k : Nat) (x : Nat × va_E), (gwl G h)[k]? = some x → H1[x.1]? = H[x.1]? := fun k x hx9 => o1 x.1 (by rw [← hsz]; exact (hP k x hx9).lt)
  have hcA : (kd = 11 → cA = gcB G) ∧ (kd = 12 → cA = gcI G) ∧ (kd = 13 → cA = gcJ G) := by
    refine ⟨fun z => ?_, fun z => ?_, fun z => ?_⟩
    · have e9 : newarray.typeOf at0 = .byte := by rcases hkd with ⟨a, b⟩ | ⟨a, b⟩ | ⟨a, b⟩ <;> first | exact b | omega
      rw [e9] at hNm
      have h2 : s.vm.findClass ("[" ++ FieldType.byte.toString) = some (gcB G) := (hKo.2.1.2 0 _ rfl).2
      exact Option.some.inj (hNm.symm.trans h2)
    · have e9 : newarray.typeOf at0 = .int := by rcases hkd with ⟨a, b⟩ | ⟨a, b⟩ | ⟨a, b⟩ <;> first | exact b | omega
      rw [e9] at hNm
      have h2 : s.vm.findClass ("[" ++ FieldType.int.toString) = some (gcI G) := (hKo.2.1.2 1 _ rfl).2
      exact Option.some.inj (hNm.symm.trans h2)
    · have e9 : newarray.typeOf at0 = .long := by rcases hkd with ⟨a, b⟩ | ⟨a, b⟩ | ⟨a, b⟩ <;> first | exact b | omega
      rw [e9] at hNm
      have h2 : s.vm.findClass ("[" ++ FieldType.long.toString) = some (gcJ G) := (hKo.2.1.2 2 _ rfl).2
      exact Option.some.inj (hNm.symm.trans h2)
  have hK0 : gK (pN h kd N') (gn h) = kd := u1_s _ _ _
  have hN0 : gN (pN h kd N') (gn h) = N' := u1_s _ _ _
  have hI0 : gI (pN h kd N') (gn h) = fun _ => 0 := u1_s _ _ _
  have hJ0 : gJ (pN h kd N') (gn h) = fun _ => 0 := u1_s _ _ _
  have he : ∃ a0 : vp_A, gen G (pN h kd N') (gn h) = .inl (cA, a0) ∧ vp_cell cA a0 = arrV cA N' (fun _ => defaultValue (newarray.typeOf at0)) := by
    rcases hkd with ⟨a, b⟩ | ⟨a, b⟩ | ⟨a, b⟩
    · refine ⟨(N', .inl (fun _ => 0)), ?_, by rw [b]; rfl⟩
      unfold gen
      rw [hK0, hN0, hI0, hcA.1 a, a]; rfl
    · refine ⟨(N', .inl (fun _ => 0)), ?_, by rw [b]; rfl⟩
      unfold gen
      rw [hK0, hN0, hI0, hcA.2.1 a, a]; rfl
    · refine ⟨(N', .inr (.inl (fun _ => 0))), ?_, by rw [b]; rfl⟩
      unfold gen
      rw [hK0, hN0, hJ0, hcA.2.2 a, a]; rfl
  obtain ⟨a0, he1, he2⟩ := he
  refine k p l e s m args below meth c G C hPG ls H1 locs hl (gWh_push hw he1 (by rw [z1, hsz]) ((hP.kept hkp).app (fun k x hx9 => ?_)) (hD.push hP (by rw [hsz]) (Nat.le_add_right _ _))) ⟨Nat.le_trans hS.1 (by omega), fun x h1 h2 => (o1 x (by rw [← hsz]; exact Nat.lt_of_lt_of_le h1 hS.1)).trans (hS.2.1 x h1 h2), hS.2.2⟩
  have hz : k < 1 := (List.getElem?_eq_some_iff.mp hx9).1
  rw [show k = 0 by omega] at hx9
  cases hx9
  show H1[gB G + gn h]? = some (vp_cell _ _)
  rw [he2]
  exact e1
theorem p_new {ci N idx : Nat} {C0 : String} {T : u_T} {ty0 : Nat → FieldType} (hcls : gCls ci C0 T N ty0) (hty0 : ∀ j, j < N → gco (ty0 j) = (gty ci).getD j 9 ∧ gco (ty0 j) ≠ 9) (hcl : Cond.classLink y.cls idx C0 ∈ gtb) (hins : Cond.instantiable C0 N ∈ gtb) (hini : Cond.initialized C0 ∈ gtb) (hc : cells + 1 ≤ RC) (hs : slots + N ≤ RS) (hd : gd cc pc (.new idx) 3 q) (k : gP PG PQ d RC RS y cc nL ret (cells + 1) (slots + N) q lv (.ref (gn h) :: st) (pN h ci 0)) : gP PG PQ d RC RS y cc nL ret cells slots pc lv st h := by
  obtain ⟨hd, rfl⟩ := hd
  obtain ⟨hcl0, hty, hnm, hin, hlen, h11⟩ := hcls
  intro p l e s m args below meth c G C hPG ls H locs hl hw hS
  obtain ⟨hx, hb, hml, hown, hts, -, -, -, hKo⟩ := id C
  obtain ⟨hsz, hlt, hP, hD⟩ := id hw
  have hKn := hKo.2.1.1 ci _ hcl0
  refine W.newcK hx hb hown (hts _ hcl) (hts _ hins) (hts _ hini) rfl hd hc hs hKn.2.1 hsz (fun H1 kC hkC e1 z1 o1 => ?_)
  have hkp : ∀ (k : Nat) (x : Nat × va_E), (gwl G h)[k]? = some x → H1[x.1]? = H[x.1]? := fun k x hx9 => o1 x.1 (by rw [← hsz]; exact (hP k x hx9).lt)
  have hK0 : gK (pN h ci 0) (gn h) = ci := u1_s _ _ _
  have he : gen G (pN h ci 0) (gn h) = .inr (ci, gfs G (pN h ci 0) (gn h) (gty ci) 0) := gen_obj hK0 h11
  refine k p l e s m args below meth c G C hPG ls H1 locs hl (gWh_push hw he (by rw [z1, hsz]) ((hP.kept hkp).app (fun k x hx9 => ?_)) (hD.push hP (by rw [hsz]) (Nat.le_add_right _ _))) ⟨Nat.le_trans hS.1 (by omega), fun x h1 h2 => (o1 x (by rw [← hsz]; exact Nat.lt_of_lt_of_le h1 hS.1)).trans (hS.2.1 x h1 h2), hS.2.2⟩
  have hz : k < 1 := (List.getElem?_eq_some_iff.mp hx9).1
  rw [show k = 0 by omega] at hx9
  cases hx9
  refine ⟨_, hcl0, (u_born ty0 hts hin hKn hkC e1 hty).to (fun j hj => ?_)⟩
  obtain ⟨g1, g2⟩ := hty0 j hj
  have hcj : (gty ci)[j]? = some (gco (ty0 j)) := by
    rw [g1, List.getD_eq_getElem?_getD]
    have : j < (gty ci).length := by rw [hlen]; exact hj
    simp [this]
  show defaultValue (ty0 j) = (gfs G (pN h ci 0) (gn h) (gty ci) 0).getD j .null
  rw [List.getD_eq_getElem?_getD, gfs_get G _ _ _ 0 j _ hcj, Nat.zero_add]
  have hI0 : gI (pN h ci 0) (gn h) j = 0 := congrFun (u1_s (gI h) (gn h) (fun _ => (0 : Int32))) j
  have hJ0 : gJ (pN h ci 0) (gn h) j = 0 := congrFun (u1_s (gJ h) (gn h) (fun _ => (0 : Int64))) j
  have hR0 : gR (pN h ci 0) (gn h) j = none := congrFun (u1_s (gR h) (gn h) (fun _ => (none : Option Nat))) j
  unfold gfp
  rw [hI0, hJ0, hR0]
  revert g2
  cases ty0 j <;> intro g2 <;> first | rfl | exact absurd rfl g2
theorem pRun {mc ms : Nat} {Qk : Option Value → Hp → Prop} {rest st0 : List Value} {av : Array Value} {p : Program} {l : gLn} {e : Env} {s : State} {m : MethodId} {args : Array Value} {below : List Frame} {meth : Method} {c : Code} {G : Gp} {ls : Array Slot} {H : Heap} {locs : List Loc} (C : gCx y cc nL ret p s m args meth c G) (hPG : PG G c) (hl : lv_has ls nL (gls G 0 lv)) (hS : va_S (gA G) s.heap H locs)
    (hr : va_Run p l.1 e (grm d RC RS) s m args below meth c H locs cells slots mc ms (F0 m pc ls st0) (rest.map (gtr G)) (gQc G Qk av) (gA G)) (k : ∀ v h', Qk v h' → gP PG PQ d RC RS y cc nL ret (cells + mc) (slots + ms) (pc + 3) lv (v.toList ++ rest) h') : W p l.1 e (grm d RC RS) s m args below meth c H locs cells slots (PQ G below args s) (F0 m pc ls st0) := by
  intro T hT X
  obtain ⟨v, st₀, t, T', L, h0, X', hL, e1, e2, ⟨v', h', hv, hQ, hw', hz, hk⟩, st⟩ := hr T hT X
  have hv' : v = v'.map (gtr G) := by injection hv
  rw [h0] at hz hk
  obtain ⟨t2, a1, b1⟩ := k v' h' hQ p l e s m args below meth c G C hPG ls T'.heap (locs ++ L) hl (by rw [e1]; exact hw') ⟨Nat.le_trans hS.1 (by rw [e1]; exact hz), fun q h1 h2 => by rw [e1, hk q (Nat.lt_of_lt_of_le h1 hS.1) h2]; exact hS.2.1 q h1 h2, fun q hq => by
      rcases List.mem_append.mp hq with h | h
      · exact hS.2.2 q h
      · exact hL q h⟩ T' rfl X'
  refine ⟨t2, st t2 ?_, b1⟩
  have e9 : v.toList ++ rest.map (gtr G) = (v'.toList ++ rest).map (gtr G) := by
    rw [hv', List.map_append]
    cases v' <;> rfl
  show Steps p.tables e below (T'.setTop { F0 m pc ls st0 with pc := pc + 3, stack := v.toList ++ rest.map (gtr G) }) t2
  rw [e9]
  exact a1
theorem p_callV {a idx ci n mL dc mc ms : Nat} {yc : MethodName} {bc : ByteArray} {rc : Option FieldType} (As rest : List Value) {Qk : Option Value → Hp → Prop} (hM : gC dc mc ms yc bc mL rc (.ref a :: As) h Qk) (hl0 : gV y.cls idx yc bc mL rc ci n) (ha : a ∈ gL h) (hk : gK h a = ci) (hn : As.length = n) (hst : st = As.reverse ++ .ref a :: rest) (hdep : Nat.ble (dc + 1) d = true) (hcat : Nat.ble (rest.map fun v => v.category).sum 8 = true) (hc : Nat.ble (cells + mc) RC = true) (hs : Nat.ble (slots + ms) RS = true) (hd : gd cc pc (.invokevirtual idx) 3 q) (k : ∀ v h', Qk v h' → gP PG PQ d RC RS y cc nL ret (cells + mc) (slots + ms) q lv (v.toList ++ rest) h') : gP PG PQ d RC RS y cc nL ret cells slots pc lv st h := by
  obtain ⟨hd, rfl⟩ := hd
  subst hst
  intro p l e s m args below meth c G C hPG ls H locs hl hw hS
  obtain ⟨hx, hb, hml, hown, hts, hlocks, hr, hname, hKo⟩ := id C
  obtain ⟨hsz, hlt, hP, hD⟩ := id hw
  obtain ⟨q0, hq0⟩ := gwl_get (G := G) ha
  have hgood := gMi_good hl0
  obtain ⟨l1, l2, l3, l4, l5, l6, l7, l8, l9⟩ := hl0
  rw [gen_obj hk l5] at hq0
  cases hcl : gcl[ci]? with
  | none => rw [hcl] at l4; cases l4
  | some r =>
    rw [hcl] at l4
    have hrc : r.1 = yc.cls := Option.some.inj l4
    obtain ⟨cell, g1, g2, g3⟩ := va_recv hKo.2.1 hP hcl hq0
    rw [hrc] at g3
    have est : (As.reverse ++ .ref a :: rest).map (gtr G) = (As.map (gtr G)).reverse ++ .ref (gB G + a) :: rest.map (gtr G) := by rw [List.map_append, List.map_reverse]; rfl
    rw [est]
    exact pRun C hPG hl hS (va_runV (As := As.map (gtr G)) (rest := rest.map (gtr G)) ⟨hx, hb, hml, hown, hts⟩ (hM l G) (cwV n hts hgood rfl rfl rfl ⟨rfl, l8⟩ (gRoom hdep l9)) ⟨gPc_blind, ⟨cell, g1, g2, g3⟩, gPc_at hKo hw hS⟩ rfl (by rw [List.length_map]; exact hn) hl.1 rfl (lv_room (gQ_sum hcat)) hd ⟨Nat.le_of_ble_eq_true hc, Nat.le_of_ble_eq_true hs⟩) k
theorem p_callS {idx n mL dc mc ms : Nat} {yc : MethodName} {bc : ByteArray} {rc : Option FieldType} (As rest : List Value) {Qk : Option Value → Hp → Prop} (hM : gC dc mc ms yc bc mL rc As h Qk) (hl0 : gSt y.cls idx yc bc mL rc n) (hn : As.length = n) (hst : st = As.reverse ++ rest) (hdep : Nat.ble (dc + 1) d = true) (hcat : Nat.ble (rest.map fun v => v.category).sum 8 = true) (hc : Nat.ble (cells + mc) RC = true) (hs : Nat.ble (slots + ms) RS = true) (hd : gd cc pc (.invokestatic idx) 3 q) (k : ∀ v h', Qk v h' → gP PG PQ d RC RS y cc nL ret (cells + mc) (slots + ms) q lv (v.toList ++ rest) h') : gP PG PQ d RC RS y cc nL ret cells slots pc lv st h := by
  obtain ⟨hd, rfl⟩ := hd
  subst hst
  intro p l e s m args below meth c G C hPG ls H locs hl hw hS
  obtain ⟨hx, hb, hml, hown, hts, hlocks, hr, hname, hKo⟩ := id C
  obtain ⟨l1, l2, l6, l7, l8, l9⟩ := hl0
  have est : (As.reverse ++ rest).map (gtr G) = (As.map (gtr G)).reverse ++ rest.map (gtr G) := by rw [List.map_append, List.map_reverse]
  rw [est]
  exact pRun C hPG hl hS (va_runS (As := As.map (gtr G)) (rest := rest.map (gtr G)) ⟨hx, hb, hml, hown, hts⟩ (hM l G) ⟨callB_of n hts (g_goodC l7) rfl rfl rfl (hts _ l6) (hts _ l1) l8 (gRoom hdep l9), hts _ l2⟩ ⟨gPc_blind, gPc_at hKo hw hS⟩ rfl (by rw [List.length_map]; exact hn) hl.1 rfl (lv_room (gQ_sum hcat)) hd ⟨Nat.le_of_ble_eq_true hc, Nat.le_of_ble_eq_true hs⟩) k
theorem p_callI {a idx n mL dc mc ms : Nat} {yc : MethodName} {bc : ByteArray} (As rest : List Value) {Qk : Option Value → Hp → Prop} (hM : gC dc mc ms yc bc mL none (.ref a :: As) h Qk) (hl0 : gIn y.cls idx yc bc mL n) (hn : As.length = n) (hst : st = As.reverse ++ .ref a :: rest) (hdep : Nat.ble (dc + 1) d = true) (hcat : Nat.ble (rest.map fun v => v.category).sum 8 = true) (hc : Nat.ble (cells + mc) RC = true) (hs : Nat.ble (slots + ms) RS = true) (hd : gd cc pc (.invokespecial idx) 3 q) (k : ∀ v h', Qk v h' → gP PG PQ d RC RS y cc nL ret (cells + mc) (slots + ms) q lv (v.toList ++ rest) h') : gP PG PQ d RC RS y cc nL ret cells slots pc lv st h := by
  obtain ⟨hd, rfl⟩ := hd
  subst hst
  intro p l e s m args below meth c G C hPG ls H locs hl hw hS
  obtain ⟨hx, hb, hml, hown, hts, hlocks, hr, hname, hKo⟩ := id C
  obtain ⟨l1, l2, ⟨l6, l7, l8, l9⟩, l10⟩ := hl0
  have est : (As.reverse ++ .ref a :: rest).map (gtr G) = (As.map (gtr G)).reverse ++ .ref (gB G + a) :: rest.map (gtr G) := by rw [List.map_append, List.map_reverse]; rfl
  rw [est]
  rcases l10 with l10 | ⟨host, l10⟩
  · exact pRun C hPG hl hS (va_runI (As := As.map (gtr G)) (rest := rest.map (gtr G)) ⟨hx, hb, hml, hown, hts⟩ (hM l G) (cwI n hts (g_goodC l7) rfl rfl rfl (hts _ l6) (hts _ l10) (hts _ l2) l1 l8 (gRoom hdep l9)) ⟨gPc_blind, gPc_at (As := .ref a :: As) hKo hw hS⟩ rfl (by rw [List.length_map]; exact hn) hl.1 rfl (lv_room (gQ_sum hcat)) hd ⟨Nat.le_of_ble_eq_true hc, Nat.le_of_ble_eq_true hs⟩) k
  · exact pRun C hPG hl hS (va_runIN (As := As.map (gtr G)) (rest := rest.map (gtr G)) ⟨hx, hb, hml, hown, hts⟩ (hM l G) ⟨va_cnB n hts (g_goodC l7) rfl rfl rfl (hKo.2.2.1 _ l10) (hts _ l6) l8 (gRoom hdep l9), l1, hts _ l2⟩ ⟨gPc_blind, gPc_at (As := .ref a :: As) hKo hw hS⟩ rfl (by rw [List.length_map]; exact hn) hl.1 rfl (lv_room (gQ_sum hcat)) hd ⟨Nat.le_of_ble_eq_true hc, Nat.le_of_ble_eq_true hs⟩) k
theorem p_objInit {a idx : Nat} (hl1 : Cond.methodLink y.cls idx Lib.objectInit ∈ gtb) (hl2 : Cond.instanceMethod Lib.objectInit ∈ gtb) (hl3 : Cond.code Lib.objectInit ⟨#[0xb1]⟩ 1 none ∈ gtb) (hdep : Nat.ble 1 d = true) (hcat : Nat.ble (st.map fun v => v.category).sum 8 = true) (hd : gd cc pc (.invokespecial idx) 3 q) (k : gP PG PQ d RC RS y cc nL ret cells slots q lv st h) : gP PG PQ d RC RS y cc nL ret cells slots pc lv (.ref a :: st) h := by
  obtain ⟨hd, rfl⟩ := hd
  intro p l e s m args below meth c G C hPG ls H locs hl hw hS
  obtain ⟨hx, hb, hml, hown, hts, -⟩ := id C
  have hd1 := Nat.le_of_ble_eq_true hdep
  refine W.objInit hx hb hown (hts _ hl1) (hts _ hl2) (hts _ hl3) rfl (hl.1.trans hml.symm) rfl hd hd1 ?_ (k p l e s m args below meth c G C hPG ls H locs hl hw hS)
  have h1 := lv_room (m := m) (pc := pc) (ls := ls) (rest := (.ref a :: st).map (gtr G)) (gQ_sum (G := G) hcat)
  show _ ≤ 60 * d
  omega
theorem p_ldcS {idx : Nat} {tx : String} {n : Nat} {x : UInt32} (hin : (y.cls, idx, tx, n) ∈ gsr) (hx0 : ¬ x = 0 ∧ x.toNat - 1 = n) (hd : gd cc pc (.ldc idx) 2 q) (k : gP PG PQ d RC RS y cc nL ret cells slots q lv (.float x :: st) h) : gP PG PQ d RC RS y cc nL ret cells slots pc lv st h := by
  obtain ⟨hd, rfl⟩ := hd
  intro p l e s m args below meth c G C hPG ls H locs hl hw hS
  obtain ⟨hx, hb, hml, hown, hts, -, -, -, hKo⟩ := id C
  refine va_ldcS hx hb hown (hKo.2.2.2.1 _ hin) hd ?_
  have e9 : Value.ref (gAK G n) = gtr G (.float x) := by
    show _ = Value.ref (if x = 0 then _ else _)
    rw [if_neg hx0.1, hx0.2]
  show W _ _ _ _ _ _ _ _ _ _ _ _ _ _ _ (F0 m (pc + 2) ls (Value.ref (gAK G n) :: st.map (gtr G)))
  rw [e9]
  exact k p l e s m args below meth c G C hPG ls H locs hl hw hS
theorem p_v0  {a idx ci mL dc mc ms : Nat} {yc : MethodName} {bc : ByteArray} {rc : Option FieldType} {Qk : Option Value → Hp → Prop} (hM : gC dc mc ms yc bc mL rc (.ref a :: []) h Qk) (hl0 : gV y.cls idx yc bc mL rc ci 0) (hd : gd cc pc (.invokevirtual idx) 3 q) (ha : a ∈ gL h) (hk : gK h a = ci) (hdep : Nat.ble (dc + 1) d = true) (hcat : Nat.ble (st.map fun v => v.category).sum 8 = true) (hc : Nat.ble (cells + mc) RC = true) (hs : Nat.ble (slots + ms) RS = true) (k : ∀ v h', Qk v h' → gP PG PQ d RC RS y cc nL ret (cells + mc) (slots + ms) q lv (v.toList ++ st) h') : gP PG PQ d RC RS y cc nL ret cells slots pc lv (.ref a :: st) h := p_callV [] st hM hl0 ha hk rfl rfl hdep hcat hc hs hd k
theorem p_s0  {idx mL dc mc ms : Nat} {yc : MethodName} {bc : ByteArray} {rc : Option FieldType} {Qk : Option Value → Hp → Prop} (hM : gC dc mc ms yc bc mL rc [] h Qk) (hl0 : gSt y.cls idx yc bc mL rc 0) (hd : gd cc pc (.invokestatic idx) 3 q) (hdep : Nat.ble (dc + 1) d = true) (hcat : Nat.ble (st.map fun v => v.category).sum 8 = true) (hc : Nat.ble (cells + mc) RC = true) (hs : Nat.ble (slots + ms) RS = true) (k : ∀ v h', Qk v h' → gP PG PQ d RC RS y cc nL ret (cells + mc) (slots + ms) q lv (v.toList ++ st) h') : gP PG PQ d RC RS y cc nL ret cells slots pc lv (st) h := p_callS [] st hM hl0 rfl rfl hdep hcat hc hs hd k
theorem p_n0  {a idx mL dc mc ms : Nat} {yc : MethodName} {bc : ByteArray} {Qk : Option Value → Hp → Prop} (hM : gC dc mc ms yc bc mL none (.ref a :: []) h Qk) (hl0 : gIn y.cls idx yc bc mL 0) (hd : gd cc pc (.invokespecial idx) 3 q) (hdep : Nat.ble (dc + 1) d = true) (hcat : Nat.ble (st.map fun v => v.category).sum 8 = true) (hc : Nat.ble (cells + mc) RC = true) (hs : Nat.ble (slots + ms) RS = true) (k : ∀ v h', Qk v h' → gP PG PQ d RC RS y cc nL ret (cells + mc) (slots + ms) q lv (v.toList ++ st) h') : gP PG PQ d RC RS y cc nL ret cells slots pc lv (.ref a :: st) h := p_callI [] st hM hl0 rfl rfl hdep hcat hc hs hd k
theorem p_v1 {x1 : Value} {a idx ci mL dc mc ms : Nat} {yc : MethodName} {bc : ByteArray} {rc : Option FieldType} {Qk : Option Value → Hp → Prop} (hM : gC dc mc ms yc bc mL rc (.ref a :: [x1]) h Qk) (hl0 : gV y.cls idx yc bc mL rc ci 1) (hd : gd cc pc (.invokevirtual idx) 3 q) (ha : a ∈ gL h) (hk : gK h a = ci) (hdep : Nat.ble (dc + 1) d = true) (hcat : Nat.ble (st.map fun v => v.category).sum 8 = true) (hc : Nat.ble (cells + mc) RC = true) (hs : Nat.ble (slots + ms) RS = true) (k : ∀ v h', Qk v h' → gP PG PQ d RC RS y cc nL ret (cells + mc) (slots + ms) q lv (v.toList ++ st) h') : gP PG PQ d RC RS y cc nL ret cells slots pc lv (x1 :: .ref a :: st) h := p_callV [x1] st hM hl0 ha hk rfl rfl hdep hcat hc hs hd k
theorem p_s1 {x1 : Value} {idx mL dc mc ms : Nat} {yc : MethodName} {bc : ByteArray} {rc : Option FieldType} {Qk : Option Value → Hp → Prop} (hM : gC dc mc ms yc bc mL rc [x1] h Qk) (hl0 : gSt y.cls idx yc bc mL rc 1) (hd : gd cc pc (.invokestatic idx) 3 q) (hdep : Nat.ble (dc + 1) d = true) (hcat : Nat.ble (st.map fun v => v.category).sum 8 = true) (hc : Nat.ble (cells + mc) RC = true) (hs : Nat.ble (slots + ms) RS = true) (k : ∀ v h', Qk v h' → gP PG PQ d RC RS y cc nL ret (cells + mc) (slots + ms) q lv (v.toList ++ st) h') : gP PG PQ d RC RS y cc nL ret cells slots pc lv (x1 :: st) h := p_callS [x1] st hM hl0 rfl rfl hdep hcat hc hs hd k
theorem p_n1 {x1 : Value} {a idx mL dc mc ms : Nat} {yc : MethodName} {bc : ByteArray} {Qk : Option Value → Hp → Prop} (hM : gC dc mc ms yc bc mL none (.ref a :: [x1]) h Qk) (hl0 : gIn y.cls idx yc bc mL 1) (hd : gd cc pc (.invokespecial idx) 3 q) (hdep : Nat.ble (dc + 1) d = true) (hcat : Nat.ble (st.map fun v => v.category).sum 8 = true) (hc : Nat.ble (cells + mc) RC = true) (hs : Nat.ble (slots + ms) RS = true) (k : ∀ v h', Qk v h' → gP PG PQ d RC RS y cc nL ret (cells + mc) (slots + ms) q lv (v.toList ++ st) h') : gP PG PQ d RC RS y cc nL ret cells slots pc lv (x1 :: .ref a :: st) h := p_callI [x1] st hM hl0 rfl rfl hdep hcat hc hs hd k
theorem p_v2 {x1 x2 : Value} {a idx ci mL dc mc ms : Nat} {yc : MethodName} {bc : ByteArray} {rc : Option FieldType} {Qk : Option Value → Hp → Prop} (hM : gC dc mc ms yc bc mL rc (.ref a :: [x1, x2]) h Qk) (hl0 : gV y.cls idx yc bc mL rc ci 2) (hd : gd cc pc (.invokevirtual idx) 3 q) (ha : a ∈ gL h) (hk : gK h a = ci) (hdep : Nat.ble (dc + 1) d = true) (hcat : Nat.ble (st.map fun v => v.category).sum 8 = true) (hc : Nat.ble (cells + mc) RC = true) (hs : Nat.ble (slots + ms) RS = true) (k : ∀ v h', Qk v h' → gP PG PQ d RC RS y cc nL ret (cells + mc) (slots + ms) q lv (v.toList ++ st) h') : gP PG PQ d RC RS y cc nL ret cells slots pc lv (x2 :: x1 :: .ref a :: st) h := p_callV [x1, x2] st hM hl0 ha hk rfl rfl hdep hcat hc hs hd k
theorem p_s2 {x1 x2 : Value} {idx mL dc mc ms : Nat} {yc : MethodName} {bc : ByteArray} {rc : Option FieldType} {Qk : Option Value → Hp → Prop} (hM : gC dc mc ms yc bc mL rc [x1, x2] h Qk) (hl0 : gSt y.cls idx yc bc mL rc 2) (hd : gd cc pc (.invokestatic idx) 3 q) (hdep : Nat.ble (dc + 1) d = true) (hcat : Nat.ble (st.map fun v => v.category).sum 8 = true) (hc : Nat.ble (cells + mc) RC = true) (hs : Nat.ble (slots + ms) RS = true) (k : ∀ v h', Qk v h' → gP PG PQ d RC RS y cc nL ret (cells + mc) (slots + ms) q lv (v.toList ++ st) h') : gP PG PQ d RC RS y cc nL ret cells slots pc lv (x2 :: x1 :: st) h := p_callS [x1, x2] st hM hl0 rfl rfl hdep hcat hc hs hd k
theorem p_n2 {x1 x2 : Value} {a idx mL dc mc ms : Nat} {yc : MethodName} {bc : ByteArray} {Qk : Option Value → Hp → Prop} (hM : gC dc mc ms yc bc mL none (.ref a :: [x1, x2]) h Qk) (hl0 : gIn y.cls idx yc bc mL 2) (hd : gd cc pc (.invokespecial idx) 3 q) (hdep : Nat.ble (dc + 1) d = true) (hcat : Nat.ble (st.map fun v => v.category).sum 8 = true) (hc : Nat.ble (cells + mc) RC = true) (hs : Nat.ble (slots + ms) RS = true) (k : ∀ v h', Qk v h' → gP PG PQ d RC RS y cc nL ret (cells + mc) (slots + ms) q lv (v.toList ++ st) h') : gP PG PQ d RC RS y cc nL ret cells slots pc lv (x2 :: x1 :: .ref a :: st) h := p_callI [x1, x2] st hM hl0 rfl rfl hdep hcat hc hs hd k
theorem p_v3 {x1 x2 x3 : Value} {a idx ci mL dc mc ms : Nat} {yc : MethodName} {bc : ByteArray} {rc : Option FieldType} {Qk : Option Value → Hp → Prop} (hM : gC dc mc ms yc bc mL rc (.ref a :: [x1, x2, x3]) h Qk) (hl0 : gV y.cls idx yc bc mL rc ci 3) (hd : gd cc pc (.invokevirtual idx) 3 q) (ha : a ∈ gL h) (hk : gK h a = ci) (hdep : Nat.ble (dc + 1) d = true) (hcat : Nat.ble (st.map fun v => v.category).sum 8 = true) (hc : Nat.ble (cells + mc) RC = true) (hs : Nat.ble (slots + ms) RS = true) (k : ∀ v h', Qk v h' → gP PG PQ d RC RS y cc nL ret (cells + mc) (slots + ms) q lv (v.toList ++ st) h') : gP PG PQ d RC RS y cc nL ret cells slots pc lv (x3 :: x2 :: x1 :: .ref a :: st) h := p_callV [x1, x2, x3] st hM hl0 ha hk rfl rfl hdep hcat hc hs hd k
theorem p_s3 {x1 x2 x3 : Value} {idx mL dc mc ms : Nat} {yc : MethodName} {bc : ByteArray} {rc : Option FieldType} {Qk : Option Value → Hp → Prop} (hM : gC dc mc ms yc bc mL rc [x1, x2, x3] h Qk) (hl0 : gSt y.cls idx yc bc mL rc 3) (hd : gd cc pc (.invokestatic idx) 3 q) (hdep : Nat.ble (dc + 1) d = true) (hcat : Nat.ble (st.map fun v => v.category).sum 8 = true) (hc : Nat.ble (cells + mc) RC = true) (hs : Nat.ble (slots + ms) RS = true) (k : ∀ v h', Qk v h' → gP PG PQ d RC RS y cc nL ret (cells + mc) (slots + ms) q lv (v.toList ++ st) h') : gP PG PQ d RC RS y cc nL ret cells slots pc lv (x3 :: x2 :: x1 :: st) h := p_callS [x1, x2, x3] st hM hl0 rfl rfl hdep hcat hc hs hd k
theorem p_v4 {x1 x2 x3 x4 : Value} {a idx ci mL dc mc ms : Nat} {yc : MethodName} {bc : ByteArray} {rc : Option FieldType} {Qk : Option Value → Hp → Prop} (hM : gC dc mc ms yc bc mL rc (.ref a :: [x1, x2, x3, x4]) h Qk) (hl0 : gV y.cls idx yc bc mL rc ci 4) (hd : gd cc pc (.invokevirtual idx) 3 q) (ha : a ∈ gL h) (hk : gK h a = ci) (hdep : Nat.ble (dc + 1) d = true) (hcat : Nat.ble (st.map fun v => v.category).sum 8 = true) (hc : Nat.ble (cells + mc) RC = true) (hs : Nat.ble (slots + ms) RS = true) (k : ∀ v h', Qk v h' → gP PG PQ d RC RS y cc nL ret (cells + mc) (slots + ms) q lv (v.toList ++ st) h') : gP PG PQ d RC RS y cc nL ret cells slots pc lv (x4 :: x3 :: x2 :: x1 :: .ref a :: st) h := p_callV [x1, x2, x3, x4] st hM hl0 ha hk rfl rfl hdep hcat hc hs hd k
theorem p_s4 {x1 x2 x3 x4 : Value} {idx mL dc mc ms : Nat} {yc : MethodName} {bc : ByteArray} {rc : Option FieldType} {Qk : Option Value → Hp → Prop} (hM : gC dc mc ms yc bc mL rc [x1, x2, x3, x4] h Qk) (hl0 : gSt y.cls idx yc bc mL rc 4) (hd : gd cc pc (.invokestatic idx) 3 q) (hdep : Nat.ble (dc + 1) d = true) (hcat : Nat.ble (st.map fun v => v.category).sum 8 = true) (hc : Nat.ble (cells + mc) RC = true) (hs : Nat.ble (slots + ms) RS = true) (k : ∀ v h', Qk v h' → gP PG PQ d RC RS y cc nL ret (cells + mc) (slots + ms) q lv (v.toList ++ st) h') : gP PG PQ d RC RS y cc nL ret cells slots pc lv (x4 :: x3 :: x2 :: x1 :: st) h := p_callS [x1, x2, x3, x4] st hM hl0 rfl rfl hdep hcat hc hs hd k
theorem p_v5 {x1 x2 x3 x4 x5 : Value} {a idx ci mL dc mc ms : Nat} {yc : MethodName} {bc : ByteArray} {rc : Option FieldType} {Qk : Option Value → Hp → Prop} (hM : gC dc mc ms yc bc mL rc (.ref a :: [x1, x2, x3, x4, x5]) h Qk) (hl0 : gV y.cls idx yc bc mL rc ci 5) (hd : gd cc pc (.invokevirtual idx) 3 q) (ha : a ∈ gL h) (hk : gK h a = ci) (hdep : Nat.ble (dc + 1) d = true) (hcat : Nat.ble (st.map fun v => v.category).sum 8 = true) (hc : Nat.ble (cells + mc) RC = true) (hs : Nat.ble (slots + ms) RS = true) (k : ∀ v h', Qk v h' → gP PG PQ d RC RS y cc nL ret (cells + mc) (slots + ms) q lv (v.toList ++ st) h') : gP PG PQ d RC RS y cc nL ret cells slots pc lv (x5 :: x4 :: x3 :: x2 :: x1 :: .ref a :: st) h := p_callV [x1, x2, x3, x4, x5] st hM hl0 ha hk rfl rfl hdep hcat hc hs hd k
theorem p_s5 {x1 x2 x3 x4 x5 : Value} {idx mL dc mc ms : Nat} {yc : MethodName} {bc : ByteArray} {rc : Option FieldType} {Qk : Option Value → Hp → Prop} (hM : gC dc mc ms yc bc mL rc [x1, x2, x3, x4, x5] h Qk) (hl0 : gSt y.cls idx yc bc mL rc 5) (hd : gd cc pc (.invokestatic idx) 3 q) (hdep : Nat.ble (dc + 1) d = true) (hcat : Nat.ble (st.map fun v => v.category).sum 8 = true) (hc : Nat.ble (cells + mc) RC = true) (hs : Nat.ble (slots + ms) RS = true) (k : ∀ v h', Qk v h' → gP PG PQ d RC RS y cc nL ret (cells + mc) (slots + ms) q lv (v.toList ++ st) h') : gP PG PQ d RC RS y cc nL ret cells slots pc lv (x5 :: x4 :: x3 :: x2 :: x1 :: st) h := p_callS [x1, x2, x3, x4, x5] st hM hl0 rfl rfl hdep hcat hc hs hd k
theorem p_v6 {x1 x2 x3 x4 x5 x6 : Value} {a idx ci mL dc mc ms : Nat} {yc : MethodName} {bc : ByteArray} {rc : Option FieldType} {Qk : Option Value → Hp → Prop} (hM : gC dc mc ms yc bc mL rc (.ref a :: [x1, x2, x3, x4, x5, x6]) h Qk) (hl0 : gV y.cls idx yc bc mL rc ci 6) (hd : gd cc pc (.invokevirtual idx) 3 q) (ha : a ∈ gL h) (hk : gK h a = ci) (hdep : Nat.ble (dc + 1) d = true) (hcat : Nat.ble (st.map fun v => v.category).sum 8 = true) (hc : Nat.ble (cells + mc) RC = true) (hs : Nat.ble (slots + ms) RS = true) (k : ∀ v h', Qk v h' → gP PG PQ d RC RS y cc nL ret (cells + mc) (slots + ms) q lv (v.toList ++ st) h') : gP PG PQ d RC RS y cc nL ret cells slots pc lv (x6 :: x5 :: x4 :: x3 :: x2 :: x1 :: .ref a :: st) h := p_callV [x1, x2, x3, x4, x5, x6] st hM hl0 ha hk rfl rfl hdep hcat hc hs hd k
theorem p_s6 {x1 x2 x3 x4 x5 x6 : Value} {idx mL dc mc ms : Nat} {yc : MethodName} {bc : ByteArray} {rc : Option FieldType} {Qk : Option Value → Hp → Prop} (hM : gC dc mc ms yc bc mL rc [x1, x2, x3, x4, x5, x6] h Qk) (hl0 : gSt y.cls idx yc bc mL rc 6) (hd : gd cc pc (.invokestatic idx) 3 q) (hdep : Nat.ble (dc + 1) d = true) (hcat : Nat.ble (st.map fun v => v.category).sum 8 = true) (hc : Nat.ble (cells + mc) RC = true) (hs : Nat.ble (slots + ms) RS = true) (k : ∀ v h', Qk v h' → gP PG PQ d RC RS y cc nL ret (cells + mc) (slots + ms) q lv (v.toList ++ st) h') : gP PG PQ d RC RS y cc nL ret cells slots pc lv (x6 :: x5 :: x4 :: x3 :: x2 :: x1 :: st) h := p_callS [x1, x2, x3, x4, x5, x6] st hM hl0 rfl rfl hdep hcat hc hs hd k
theorem p_getRn {a b idx ci fi : Nat} (hf : gFn y.cls idx ci fi 2) (ha : a ∈ gL h) (hk : gK h a = ci) (hr : gR h a fi = some b) (hd : gd cc pc (.getfield idx) 3 q) (k : gP PG PQ d RC RS y cc nL ret cells slots q lv (.ref b :: st) h) : gP PG PQ d RC RS y cc nL ret cells slots pc lv (.ref a :: st) h := by
  obtain ⟨hd, rfl⟩ := hd
  obtain ⟨C0, T, N, ty0, ⟨hcl, hty, hnm, hin, hlen, h11⟩, hkN, hco, hc, host, hl1⟩ := hf
  intro p l e s m args below meth c G C hPG ls H locs hl hw hS
  obtain ⟨hx, hb, hml, hown, hts, -, -, -, hKo⟩ := id C
  obtain ⟨hsz, hlt, hP, hD⟩ := id hw
  obtain ⟨q0, hq0⟩ := gwl_get (G := G) ha
  rw [gen_obj hk h11] at hq0
  have hv : (gfs G h a (gty ci) 0)[fi]? = some (.ref (gB G + b)) := by
    rw [gfs_get G h a (gty ci) 0 fi 2 hc, Nat.zero_add]
    show some (gtr G (va_rf (gR h a fi))) = _
    rw [hr]; rfl
  exact va_getN hx hb hts hin hown hKo.2.1 hP q0 hq0 hcl fi hkN (va_Nw.use rfl (hKo.2.2.1 _ hl1)) (fun _ z => z) hv hd (k p l e s m args below meth c G C hPG ls H locs hl hw hS)
theorem p_gI {a idx ci fi mo : Nat} (hf : gF y.cls idx ci fi 0 mo) (ha : a ∈ gL h) (hk : gK h a = ci) (hd : gd cc pc (.getfield idx) 3 q) (k : gP PG PQ d RC RS y cc nL ret cells slots q lv (.int (gI h a fi) :: st) h) : gP PG PQ d RC RS y cc nL ret cells slots pc lv (.ref a :: st) h := p_get hf ha hk hd k
theorem p_gZ {a idx ci fi mo : Nat} (hf : gF y.cls idx ci fi 3 mo) (ha : a ∈ gL h) (hk : gK h a = ci) (hd : gd cc pc (.getfield idx) 3 q) (k : gP PG PQ d RC RS y cc nL ret cells slots q lv (.int (gI h a fi) :: st) h) : gP PG PQ d RC RS y cc nL ret cells slots pc lv (.ref a :: st) h := p_get hf ha hk hd k
theorem p_pI0 {a idx ci fi : Nat} {v : Int32} (hf : gF y.cls idx ci fi 0 0) (ha : a ∈ gL h) (hk : gK h a = ci) (hd : gd cc pc (.putfield idx) 3 q) (k : gP PG PQ d RC RS y cc nL ret cells slots q lv st (pI h a fi v)) : gP PG PQ d RC RS y cc nL ret cells slots pc lv (.int v :: .ref a :: st) h := p_putI hf (fun z => absurd z (by decide)) ha hk hd k
theorem p_pI1 {a idx ci fi : Nat} {v : Int32} (hf : gF y.cls idx ci fi 0 1) (ha : a ∈ gL h) (hk : gK h a = ci) (hd : gd cc pc (.putfield idx) 3 q) (k : gP PG PQ d RC RS y cc nL ret cells slots q lv st (pI h a fi v)) : gP PG PQ d RC RS y cc nL ret cells slots pc lv (.int v :: .ref a :: st) h := p_putI hf (fun z => absurd z (by decide)) ha hk hd k
theorem p_pZ0 {a idx ci fi : Nat} {v : Int32} (hf : gF y.cls idx ci fi 3 0) (hv : v = 0 ∨ v = 1) (ha : a ∈ gL h) (hk : gK h a = ci) (hd : gd cc pc (.putfield idx) 3 q) (k : gP PG PQ d RC RS y cc nL ret cells slots q lv st (pI h a fi v)) : gP PG PQ d RC RS y cc nL ret cells slots pc lv (.int v :: .ref a :: st) h := p_putZ hf hv (fun z => absurd z (by decide)) ha hk hd k
theorem p_pJ0 {a idx ci fi : Nat} {v : Int64} (hf : gF y.cls idx ci fi 1 0) (ha : a ∈ gL h) (hk : gK h a = ci) (hd : gd cc pc (.putfield idx) 3 q) (k : gP PG PQ d RC RS y cc nL ret cells slots q lv st (pJ h a fi v)) : gP PG PQ d RC RS y cc nL ret cells slots pc lv (.long v :: .ref a :: st) h := p_putJ hf (fun z => absurd z (by decide)) ha hk hd k
theorem p_pR0 {a b idx ci fi : Nat} (hf : gF y.cls idx ci fi 2 0) (ha : a ∈ gL h) (hk : gK h a = ci) (hd : gd cc pc (.putfield idx) 3 q) (k : gP PG PQ d RC RS y cc nL ret cells slots q lv st (pR h a fi (some b))) : gP PG PQ d RC RS y cc nL ret cells slots pc lv (.ref b :: .ref a :: st) h := p_putR hf (fun z => absurd z (by decide)) ha hk hd k
theorem p_pR2 {a b idx ci fi : Nat} (hf : gF y.cls idx ci fi 2 2) (hi : y.name = "<init>") (ho : gcl[ci]?.map (fun r => (r.2.1 fi).1) = some y.cls) (ha : a ∈ gL h) (hk : gK h a = ci) (hd : gd cc pc (.putfield idx) 3 q) (k : gP PG PQ d RC RS y cc nL ret cells slots q lv st (pR h a fi (some b))) : gP PG PQ d RC RS y cc nL ret cells slots pc lv (.ref b :: .ref a :: st) h := p_putR hf (fun _ => ⟨hi, ho⟩) ha hk hd k
theorem pe_v0i  {a idx ci mL dc : Nat} {yc : MethodName} {bc : ByteArray} {rc : Option FieldType} {r : Int32} {h2 : Hp} (hM : gCi dc 0 0 yc bc mL rc (.ref a :: []) h (some (.int r)) h2) (hl0 : gV y.cls idx yc bc mL rc ci 0) (hd : gd cc pc (.invokevirtual idx) 3 q) (ha : a ∈ gL h) (hk : gK h a = ci) (hdep : Nat.ble (dc + 1) d = true) (hcat : Nat.ble (st.map fun v => v.category).sum 8 = true) (hc : Nat.ble cells RC = true) (hs : Nat.ble slots RS = true) (k : gP PG PQ d RC RS y cc nL ret cells slots q lv (.int r :: st) h2) : gP PG PQ d RC RS y cc nL ret cells slots pc lv (.ref a :: st) h := p_v0 hM hl0 hd ha hk hdep hcat hc hs (fun v h' e => by obtain ⟨rfl, rfl⟩ := e; exact k)
theorem pe_s0i  {idx mL dc : Nat} {yc : MethodName} {bc : ByteArray} {rc : Option FieldType} {r : Int32} {h2 : Hp} (hM : gCi dc 0 0 yc bc mL rc [] h (some (.int r)) h2) (hl0 : gSt y.cls idx yc bc mL rc 0) (hd : gd cc pc (.invokestatic idx) 3 q) (hdep : Nat.ble (dc + 1) d = true) (hcat : Nat.ble (st.map fun v => v.category).sum 8 = true) (hc : Nat.ble cells RC = true) (hs : Nat.ble slots RS = true) (k : gP PG PQ d RC RS y cc nL ret cells slots q lv (.int r :: st) h2) : gP PG PQ d RC RS y cc nL ret cells slots pc lv (st) h := p_s0 hM hl0 hd hdep hcat hc hs (fun v h' e => by obtain ⟨rfl, rfl⟩ := e; exact k)
theorem pe_v0l  {a idx ci mL dc : Nat} {yc : MethodName} {bc : ByteArray} {rc : Option FieldType} {r : Int64} {h2 : Hp} (hM : gCi dc 0 0 yc bc mL rc (.ref a :: []) h (some (.long r)) h2) (hl0 : gV y.cls idx yc bc mL rc ci 0) (hd : gd cc pc (.invokevirtual idx) 3 q) (ha : a ∈ gL h) (hk : gK h a = ci) (hdep : Nat.ble (dc + 1) d = true) (hcat : Nat.ble (st.map fun v => v.category).sum 8 = true) (hc : Nat.ble cells RC = true) (hs : Nat.ble slots RS = true) (k : gP PG PQ d RC RS y cc nL ret cells slots q lv (.long r :: st) h2) : gP PG PQ d RC RS y cc nL ret cells slots pc lv (.ref a :: st) h := p_v0 hM hl0 hd ha hk hdep hcat hc hs (fun v h' e => by obtain ⟨rfl, rfl⟩ := e; exact k)
theorem pe_s0l  {idx mL dc : Nat} {yc : MethodName} {bc : ByteArray} {rc : Option FieldType} {r : Int64} {h2 : Hp} (hM : gCi dc 0 0 yc bc mL rc [] h (some (.long r)) h2) (hl0 : gSt y.cls idx yc bc mL rc 0) (hd : gd cc pc (.invokestatic idx) 3 q) (hdep : Nat.ble (dc + 1) d = true) (hcat : Nat.ble (st.map fun v => v.category).sum 8 = true) (hc : Nat.ble cells RC = true) (hs : Nat.ble slots RS = true) (k : gP PG PQ d RC RS y cc nL ret cells slots q lv (.long r :: st) h2) : gP PG PQ d RC RS y cc nL ret cells slots pc lv (st) h := p_s0 hM hl0 hd hdep hcat hc hs (fun v h' e => by obtain ⟨rfl, rfl⟩ := e; exact k)
theorem pe_v0u  {a idx ci mL dc : Nat} {yc : MethodName} {bc : ByteArray} {rc : Option FieldType}  {h2 : Hp} (hM : gCi dc 0 0 yc bc mL rc (.ref a :: []) h none h2) (hl0 : gV y.cls idx yc bc mL rc ci 0) (hd : gd cc pc (.invokevirtual idx) 3 q) (ha : a ∈ gL h) (hk : gK h a = ci) (hdep : Nat.ble (dc + 1) d = true) (hcat : Nat.ble (st.map fun v => v.category).sum 8 = true) (hc : Nat.ble cells RC = true) (hs : Nat.ble slots RS = true) (k : gP PG PQ d RC RS y cc nL ret cells slots q lv (st) h2) : gP PG PQ d RC RS y cc nL ret cells slots pc lv (.ref a :: st) h := p_v0 hM hl0 hd ha hk hdep hcat hc hs (fun v h' e => by obtain ⟨rfl, rfl⟩ := e; exact k)
theorem pe_s0u  {idx mL dc : Nat} {yc : MethodName} {bc : ByteArray} {rc : Option FieldType}  {h2 : Hp} (hM : gCi dc 0 0 yc bc mL rc [] h none h2) (hl0 : gSt y.cls idx yc bc mL rc 0) (hd : gd cc pc (.invokestatic idx) 3 q) (hdep : Nat.ble (dc + 1) d = true) (hcat : Nat.ble (st.map fun v => v.category).sum 8 = true) (hc : Nat.ble cells RC = true) (hs : Nat.ble slots RS = true) (k : gP PG PQ d RC RS y cc nL ret cells slots q lv (st) h2) : gP PG PQ d RC RS y cc nL ret cells slots pc lv (st) h := p_s0 hM hl0 hd hdep hcat hc hs (fun v h' e => by obtain ⟨rfl, rfl⟩ := e; exact k)
theorem pe_n0  {a idx mL dc mc ms : Nat} {yc : MethodName} {bc : ByteArray} {h2 : Hp} (hM : gCi dc mc ms yc bc mL none (.ref a :: []) h none h2) (hl0 : gIn y.cls idx yc bc mL 0) (hd : gd cc pc (.invokespecial idx) 3 q) (hdep : Nat.ble (dc + 1) d = true) (hcat : Nat.ble (st.map fun v => v.category).sum 8 = true) (hc : Nat.ble (cells + mc) RC = true) (hs : Nat.ble (slots + ms) RS = true) (k : gP PG PQ d RC RS y cc nL ret (cells + mc) (slots + ms) q lv st h2) : gP PG PQ d RC RS y cc nL ret cells slots pc lv (.ref a :: st) h := p_n0 hM hl0 hd hdep hcat hc hs (fun v h' e => by obtain ⟨rfl, rfl⟩ := e; exact k)
theorem pe_v1i {x1 : Value} {a idx ci mL dc : Nat} {yc : MethodName} {bc : ByteArray} {rc : Option FieldType} {r : Int32} {h2 : Hp} (hM : gCi dc 0 0 yc bc mL rc (.ref a :: [x1]) h (some (.int r)) h2) (hl0 : gV y.cls idx yc bc mL rc ci 1) (hd : gd cc pc (.invokevirtual idx) 3 q) (ha : a ∈ gL h) (hk : gK h a = ci) (hdep : Nat.ble (dc + 1) d = true) (hcat : Nat.ble (st.map fun v => v.category).sum 8 = true) (hc : Nat.ble cells RC = true) (hs : Nat.ble slots RS = true) (k : gP PG PQ d RC RS y cc nL ret cells slots q lv (.int r :: st) h2) : gP PG PQ d RC RS y cc nL ret cells slots pc lv (x1 :: .ref a :: st) h := p_v1 hM hl0 hd ha hk hdep hcat hc hs (fun v h' e => by obtain ⟨rfl, rfl⟩ := e; exact k)
theorem pe_s1i {x1 : Value} {idx mL dc : Nat} {yc : MethodName} {bc : ByteArray} {rc : Option FieldType} {r : Int32} {h2 : Hp} (hM : gCi dc 0 0 yc bc mL rc [x1] h (some (.int r)) h2) (hl0 : gSt y.cls idx yc bc mL rc 1) (hd : gd cc pc (.invokestatic idx) 3 q) (hdep : Nat.ble (dc + 1) d = true) (hcat : Nat.ble (st.map fun v => v.category).sum 8 = true) (hc : Nat.ble cells RC = true) (hs : Nat.ble slots RS = true) (k : gP PG PQ d RC RS y cc nL ret cells slots q lv (.int r :: st) h2) : gP PG PQ d RC RS y cc nL ret cells slots pc lv (x1 :: st) h := p_s1 hM hl0 hd hdep hcat hc hs (fun v h' e => by obtain ⟨rfl, rfl⟩ := e; exact k)
theorem pe_v1l {x1 : Value} {a idx ci mL dc : Nat} {yc : MethodName} {bc : ByteArray} {rc : Option FieldType} {r : Int64} {h2 : Hp} (hM : gCi dc 0 0 yc bc mL rc (.ref a :: [x1]) h (some (.long r)) h2) (hl0 : gV y.cls idx yc bc mL rc ci 1) (hd : gd cc pc (.invokevirtual idx) 3 q) (ha : a ∈ gL h) (hk : gK h a = ci) (hdep : Nat.ble (dc + 1) d = true) (hcat : Nat.ble (st.map fun v => v.category).sum 8 = true) (hc : Nat.ble cells RC = true) (hs : Nat.ble slots RS = true) (k : gP PG PQ d RC RS y cc nL ret cells slots q lv (.long r :: st) h2) : gP PG PQ d RC RS y cc nL ret cells slots pc lv (x1 :: .ref a :: st) h := p_v1 hM hl0 hd ha hk hdep hcat hc hs (fun v h' e => by obtain ⟨rfl, rfl⟩ := e; exact k)
theorem pe_s1l {x1 : Value} {idx mL dc : Nat} {yc : MethodName} {bc : ByteArray} {rc : Option FieldType} {r : Int64} {h2 : Hp} (hM : gCi dc 0 0 yc bc mL rc [x1] h (some (.long r)) h2) (hl0 : gSt y.cls idx yc bc mL rc 1) (hd : gd cc pc (.invokestatic idx) 3 q) (hdep : Nat.ble (dc + 1) d = true) (hcat : Nat.ble (st.map fun v => v.category).sum 8 = true) (hc : Nat.ble cells RC = true) (hs : Nat.ble slots RS = true) (k : gP PG PQ d RC RS y cc nL ret cells slots q lv (.long r :: st) h2) : gP PG PQ d RC RS y cc nL ret cells slots pc lv (x1 :: st) h := p_s1 hM hl0 hd hdep hcat hc hs (fun v h' e => by obtain ⟨rfl, rfl⟩ := e; exact k)
theorem pe_v1u {x1 : Value} {a idx ci mL dc : Nat} {yc : MethodName} {bc : ByteArray} {rc : Option FieldType}  {h2 : Hp} (hM : gCi dc 0 0 yc bc mL rc (.ref a :: [x1]) h none h2) (hl0 : gV y.cls idx yc bc mL rc ci 1) (hd : gd cc pc (.invokevirtual idx) 3 q) (ha : a ∈ gL h) (hk : gK h a = ci) (hdep : Nat.ble (dc + 1) d = true) (hcat : Nat.ble (st.map fun v => v.category).sum 8 = true) (hc : Nat.ble cells RC = true) (hs : Nat.ble slots RS = true) (k : gP PG PQ d RC RS y cc nL ret cells slots q lv (st) h2) : gP PG PQ d RC RS y cc nL ret cells slots pc lv (x1 :: .ref a :: st) h := p_v1 hM hl0 hd ha hk hdep hcat hc hs (fun v h' e => by obtain ⟨rfl, rfl⟩ := e; exact k)
theorem pe_s1u {x1 : Value} {idx mL dc : Nat} {yc : MethodName} {bc : ByteArray} {rc : Option FieldType}  {h2 : Hp} (hM : gCi dc 0 0 yc bc mL rc [x1] h none h2) (hl0 : gSt y.cls idx yc bc mL rc 1) (hd : gd cc pc (.invokestatic idx) 3 q) (hdep : Nat.ble (dc + 1) d = true) (hcat : Nat.ble (st.map fun v => v.category).sum 8 = true) (hc : Nat.ble cells RC = true) (hs : Nat.ble slots RS = true) (k : gP PG PQ d RC RS y cc nL ret cells slots q lv (st) h2) : gP PG PQ d RC RS y cc nL ret cells slots pc lv (x1 :: st) h := p_s1 hM hl0 hd hdep hcat hc hs (fun v h' e => by obtain ⟨rfl, rfl⟩ := e; exact k)
theorem pe_n1 {x1 : Value} {a idx mL dc mc ms : Nat} {yc : MethodName} {bc : ByteArray} {h2 : Hp} (hM : gCi dc mc ms yc bc mL none (.ref a :: [x1]) h none h2) (hl0 : gIn y.cls idx yc bc mL 1) (hd : gd cc pc (.invokespecial idx) 3 q) (hdep : Nat.ble (dc + 1) d = true) (hcat : Nat.ble (st.map fun v => v.category).sum 8 = true) (hc : Nat.ble (cells + mc) RC = true) (hs : Nat.ble (slots + ms) RS = true) (k : gP PG PQ d RC RS y cc nL ret (cells + mc) (slots + ms) q lv st h2) : gP PG PQ d RC RS y cc nL ret cells slots pc lv (x1 :: .ref a :: st) h := p_n1 hM hl0 hd hdep hcat hc hs (fun v h' e => by obtain ⟨rfl, rfl⟩ := e; exact k)
theorem pe_v2i {x1 x2 : Value} {a idx ci mL dc : Nat} {yc : MethodName} {bc : ByteArray} {rc : Option FieldType} {r : Int32} {h2 : Hp} (hM : gCi dc 0 0 yc bc mL rc (.ref a :: [x1, x2]) h (some (.int r)) h2) (hl0 : gV y.cls idx yc bc mL rc ci 2) (hd : gd cc pc (.invokevirtual idx) 3 q) (ha : a ∈ gL h) (hk : gK h a = ci) (hdep : Nat.ble (dc + 1) d = true) (hcat : Nat.ble (st.map fun v => v.category).sum 8 = true) (hc : Nat.ble cells RC = true) (hs : Nat.ble slots RS = true) (k : gP PG PQ d RC RS y cc nL ret cells slots q lv (.int r :: st) h2) : gP PG PQ d RC RS y cc nL ret cells slots pc lv (x2 :: x1 :: .ref a :: st) h := p_v2 hM hl0 hd ha hk hdep hcat hc hs (fun v h' e => by obtain ⟨rfl, rfl⟩ := e; exact k)
theorem pe_s2i {x1 x2 : Value} {idx mL dc : Nat} {yc : MethodName} {bc : ByteArray} {rc : Option FieldType} {r : Int32} {h2 : Hp} (hM : gCi dc 0 0 yc bc mL rc [x1, x2] h (some (.int r)) h2) (hl0 : gSt y.cls idx yc bc mL rc 2) (hd : gd cc pc (.invokestatic idx) 3 q) (hdep : Nat.ble (dc + 1) d = true) (hcat : Nat.ble (st.map fun v => v.category).sum 8 = true) (hc : Nat.ble cells RC = true) (hs : Nat.ble slots RS = true) (k : gP PG PQ d RC RS y cc nL ret cells slots q lv (.int r :: st) h2) : gP PG PQ d RC RS y cc nL ret cells slots pc lv (x2 :: x1 :: st) h := p_s2 hM hl0 hd hdep hcat hc hs (fun v h' e => by obtain ⟨rfl, rfl⟩ := e; exact k)
theorem pe_v2l {x1 x2 : Value} {a idx ci mL dc : Nat} {yc : MethodName} {bc : ByteArray} {rc : Option FieldType} {r : Int64} {h2 : Hp} (hM : gCi dc 0 0 yc bc mL rc (.ref a :: [x1, x2]) h (some (.long r)) h2) (hl0 : gV y.cls idx yc bc mL rc ci 2) (hd : gd cc pc (.invokevirtual idx) 3 q) (ha : a ∈ gL h) (hk : gK h a = ci) (hdep : Nat.ble (dc + 1) d = true) (hcat : Nat.ble (st.map fun v => v.category).sum 8 = true) (hc : Nat.ble cells RC = true) (hs : Nat.ble slots RS = true) (k : gP PG PQ d RC RS y cc nL ret cells slots q lv (.long r :: st) h2) : gP PG PQ d RC RS y cc nL ret cells slots pc lv (x2 :: x1 :: .ref a :: st) h := p_v2 hM hl0 hd ha hk hdep hcat hc hs (fun v h' e => by obtain ⟨rfl, rfl⟩ := e; exact k)
theorem pe_s2l {x1 x2 : Value} {idx mL dc : Nat} {yc : MethodName} {bc : ByteArray} {rc : Option FieldType} {r : Int64} {h2 : Hp} (hM : gCi dc 0 0 yc bc mL rc [x1, x2] h (some (.long r)) h2) (hl0 : gSt y.cls idx yc bc mL rc 2) (hd : gd cc pc (.invokestatic idx) 3 q) (hdep : Nat.ble (dc + 1) d = true) (hcat : Nat.ble (st.map fun v => v.category).sum 8 = true) (hc : Nat.ble cells RC = true) (hs : Nat.ble slots RS = true) (k : gP PG PQ d RC RS y cc nL ret cells slots q lv (.long r :: st) h2) : gP PG PQ d RC RS y cc nL ret cells slots pc lv (x2 :: x1 :: st) h := p_s2 hM hl0 hd hdep hcat hc hs (fun v h' e => by obtain ⟨rfl, rfl⟩ := e; exact k)
theorem pe_v2u {x1 x2 : Value} {a idx ci mL dc : Nat} {yc : MethodName} {bc : ByteArray} {rc : Option FieldType}  {h2 : Hp} (hM : gCi dc 0 0 yc bc mL rc (.ref a :: [x1, x2]) h none h2) (hl0 : gV y.cls idx yc bc mL rc ci 2) (hd : gd cc pc (.invokevirtual idx) 3 q) (ha : a ∈ gL h) (hk : gK h a = ci) (hdep : Nat.ble (dc + 1) d = true) (hcat : Nat.ble (st.map fun v => v.category).sum 8 = true) (hc : Nat.ble cells RC = true) (hs : Nat.ble slots RS = true) (k : gP PG PQ d RC RS y cc nL ret cells slots q lv (st) h2) : gP PG PQ d RC RS y cc nL ret cells slots pc lv (x2 :: x1 :: .ref a :: st) h := p_v2 hM hl0 hd ha hk hdep hcat hc hs (fun v h' e => by obtain ⟨rfl, rfl⟩ := e; exact k)
theorem pe_s2u {x1 x2 : Value} {idx mL dc : Nat} {yc : MethodName} {bc : ByteArray} {rc : Option FieldType}  {h2 : Hp} (hM : gCi dc 0 0 yc bc mL rc [x1, x2] h none h2) (hl0 : gSt y.cls idx yc bc mL rc 2) (hd : gd cc pc (.invokestatic idx) 3 q) (hdep : Nat.ble (dc + 1) d = true) (hcat : Nat.ble (st.map fun v => v.category).sum 8 = true) (hc : Nat.ble cells RC = true) (hs : Nat.ble slots RS = true) (k : gP PG PQ d RC RS y cc nL ret cells slots q lv (st) h2) : gP PG PQ d RC RS y cc nL ret cells slots pc lv (x2 :: x1 :: st) h := p_s2 hM hl0 hd hdep hcat hc hs (fun v h' e => by obtain ⟨rfl, rfl⟩ := e; exact k)
theorem pe_n2 {x1 x2 : Value} {a idx mL dc mc ms : Nat} {yc : MethodName} {bc : ByteArray} {h2 : Hp} (hM : gCi dc mc ms yc bc mL none (.ref a :: [x1, x2]) h none h2) (hl0 : gIn y.cls idx yc bc mL 2) (hd : gd cc pc (.invokespecial idx) 3 q) (hdep : Nat.ble (dc + 1) d = true) (hcat : Nat.ble (st.map fun v => v.category).sum 8 = true) (hc : Nat.ble (cells + mc) RC = true) (hs : Nat.ble (slots + ms) RS = true) (k : gP PG PQ d RC RS y cc nL ret (cells + mc) (slots + ms) q lv st h2) : gP PG PQ d RC RS y cc nL ret cells slots pc lv (x2 :: x1 :: .ref a :: st) h := p_n2 hM hl0 hd hdep hcat hc hs (fun v h' e => by obtain ⟨rfl, rfl⟩ := e; exact k)
theorem pe_v3i {x1 x2 x3 : Value} {a idx ci mL dc : Nat} {yc : MethodName} {bc : ByteArray} {rc : Option FieldType} {r : Int32} {h2 : Hp} (hM : gCi dc 0 0 yc bc mL rc (.ref a :: [x1, x2, x3]) h (some (.int r)) h2) (hl0 : gV y.cls idx yc bc mL rc ci 3) (hd : gd cc pc (.invokevirtual idx) 3 q) (ha : a ∈ gL h) (hk : gK h a = ci) (hdep : Nat.ble (dc + 1) d = true) (hcat : Nat.ble (st.map fun v => v.category).sum 8 = true) (hc : Nat.ble cells RC = true) (hs : Nat.ble slots RS = true) (k : gP PG PQ d RC RS y cc nL ret cells slots q lv (.int r :: st) h2) : gP PG PQ d RC RS y cc nL ret cells slots pc lv (x3 :: x2 :: x1 :: .ref a :: st) h := p_v3 hM hl0 hd ha hk hdep hcat hc hs (fun v h' e => by obtain ⟨rfl, rfl⟩ := e; exact k)
theorem pe_s3i {x1 x2 x3 : Value} {idx mL dc : Nat} {yc : MethodName} {bc : ByteArray} {rc : Option FieldType} {r : Int32} {h2 : Hp} (hM : gCi dc 0 0 yc bc mL rc [x1, x2, x3] h (some (.int r)) h2) (hl0 : gSt y.cls idx yc bc mL rc 3) (hd : gd cc pc (.invokestatic idx) 3 q) (hdep : Nat.ble (dc + 1) d = true) (hcat : Nat.ble (st.map fun v => v.category).sum 8 = true) (hc : Nat.ble cells RC = true) (hs : Nat.ble slots RS = true) (k : gP PG PQ d RC RS y cc nL ret cells slots q lv (.int r :: st) h2) : gP PG PQ d RC RS y cc nL ret cells slots pc lv (x3 :: x2 :: x1 :: st) h := p_s3 hM hl0 hd hdep hcat hc hs (fun v h' e => by obtain ⟨rfl, rfl⟩ := e; exact k)
theorem pe_v3l {x1 x2 x3 : Value} {a idx ci mL dc : Nat} {yc : MethodName} {bc : ByteArray} {rc : Option FieldType} {r : Int64} {h2 : Hp} (hM : gCi dc 0 0 yc bc mL rc (.ref a :: [x1, x2, x3]) h (some (.long r)) h2) (hl0 : gV y.cls idx yc bc mL rc ci 3) (hd : gd cc pc (.invokevirtual idx) 3 q) (ha : a ∈ gL h) (hk : gK h a = ci) (hdep : Nat.ble (dc + 1) d = true) (hcat : Nat.ble (st.map fun v => v.category).sum 8 = true) (hc : Nat.ble cells RC = true) (hs : Nat.ble slots RS = true) (k : gP PG PQ d RC RS y cc nL ret cells slots q lv (.long r :: st) h2) : gP PG PQ d RC RS y cc nL ret cells slots pc lv (x3 :: x2 :: x1 :: .ref a :: st) h := p_v3 hM hl0 hd ha hk hdep hcat hc hs (fun v h' e => by obtain ⟨rfl, rfl⟩ := e; exact k)
theorem pe_s3l {x1 x2 x3 : Value} {idx mL dc : Nat} {yc : MethodName} {bc : ByteArray} {rc : Option FieldType} {r : Int64} {h2 : Hp} (hM : gCi dc 0 0 yc bc mL rc [x1, x2, x3] h (some (.long r)) h2) (hl0 : gSt y.cls idx yc bc mL rc 3) (hd : gd cc pc (.invokestatic idx) 3 q) (hdep : Nat.ble (dc + 1) d = true) (hcat : Nat.ble (st.map fun v => v.category).sum 8 = true) (hc : Nat.ble cells RC = true) (hs : Nat.ble slots RS = true) (k : gP PG PQ d RC RS y cc nL ret cells slots q lv (.long r :: st) h2) : gP PG PQ d RC RS y cc nL ret cells slots pc lv (x3 :: x2 :: x1 :: st) h := p_s3 hM hl0 hd hdep hcat hc hs (fun v h' e => by obtain ⟨rfl, rfl⟩ := e; exact k)
theorem pe_v3u {x1 x2 x3 : Value} {a idx ci mL dc : Nat} {yc : MethodName} {bc : ByteArray} {rc : Option FieldType}  {h2 : Hp} (hM : gCi dc 0 0 yc bc mL rc (.ref a :: [x1, x2, x3]) h none h2) (hl0 : gV y.cls idx yc bc mL rc ci 3) (hd : gd cc pc (.invokevirtual idx) 3 q) (ha : a ∈ gL h) (hk : gK h a = ci) (hdep : Nat.ble (dc + 1) d = true) (hcat : Nat.ble (st.map fun v => v.category).sum 8 = true) (hc : Nat.ble cells RC = true) (hs : Nat.ble slots RS = true) (k : gP PG PQ d RC RS y cc nL ret cells slots q lv (st) h2) : gP PG PQ d RC RS y cc nL ret cells slots pc lv (x3 :: x2 :: x1 :: .ref a :: st) h := p_v3 hM hl0 hd ha hk hdep hcat hc hs (fun v h' e => by obtain ⟨rfl, rfl⟩ := e; exact k)
theorem pe_s3u {x1 x2 x3 : Value} {idx mL dc : Nat} {yc : MethodName} {bc : ByteArray} {rc : Option FieldType}  {h2 : Hp} (hM : gCi dc 0 0 yc bc mL rc [x1, x2, x3] h none h2) (hl0 : gSt y.cls idx yc bc mL rc 3) (hd : gd cc pc (.invokestatic idx) 3 q) (hdep : Nat.ble (dc + 1) d = true) (hcat : Nat.ble (st.map fun v => v.category).sum 8 = true) (hc : Nat.ble cells RC = true) (hs : Nat.ble slots RS = true) (k : gP PG PQ d RC RS y cc nL ret cells slots q lv (st) h2) : gP PG PQ d RC RS y cc nL ret cells slots pc lv (x3 :: x2 :: x1 :: st) h := p_s3 hM hl0 hd hdep hcat hc hs (fun v h' e => by obtain ⟨rfl, rfl⟩ := e; exact k)
theorem pe_v4i {x1 x2 x3 x4 : Value} {a idx ci mL dc : Nat} {yc : MethodName} {bc : ByteArray} {rc : Option FieldType} {r : Int32} {h2 : Hp} (hM : gCi dc 0 0 yc bc mL rc (.ref a :: [x1, x2, x3, x4]) h (some (.int r)) h2) (hl0 : gV y.cls idx yc bc mL rc ci 4) (hd : gd cc pc (.invokevirtual idx) 3 q) (ha : a ∈ gL h) (hk : gK h a = ci) (hdep : Nat.ble (dc + 1) d = true) (hcat : Nat.ble (st.map fun v => v.category).sum 8 = true) (hc : Nat.ble cells RC = true) (hs : Nat.ble slots RS = true) (k : gP PG PQ d RC RS y cc nL ret cells slots q lv (.int r :: st) h2) : gP PG PQ d RC RS y cc nL ret cells slots pc lv (x4 :: x3 :: x2 :: x1 :: .ref a :: st) h := p_v4 hM hl0 hd ha hk hdep hcat hc hs (fun v h' e => by obtain ⟨rfl, rfl⟩ := e; exact k)
theorem pe_s4i {x1 x2 x3 x4 : Value} {idx mL dc : Nat} {yc : MethodName} {bc : ByteArray} {rc : Option FieldType} {r : Int32} {h2 : Hp} (hM : gCi dc 0 0 yc bc mL rc [x1, x2, x3, x4] h (some (.int r)) h2) (hl0 : gSt y.cls idx yc bc mL rc 4) (hd : gd cc pc (.invokestatic idx) 3 q) (hdep : Nat.ble (dc + 1) d = true) (hcat : Nat.ble (st.map fun v => v.category).sum 8 = true) (hc : Nat.ble cells RC = true) (hs : Nat.ble slots RS = true) (k : gP PG PQ d RC RS y cc nL ret cells slots q lv (.int r :: st) h2) : gP PG PQ d RC RS y cc nL ret cells slots pc lv (x4 :: x3 :: x2 :: x1 :: st) h := p_s4 hM hl0 hd hdep hcat hc hs (fun v h' e => by obtain ⟨rfl, rfl⟩ := e; exact k)
theorem pe_v4l {x1 x2 x3 x4 : Value} {a idx ci mL dc : Nat} {yc : MethodName} {bc : ByteArray} {rc : Option FieldType} {r : Int64} {h2 : Hp} (hM : gCi dc 0 0 yc bc mL rc (.ref a :: [x1, x2, x3, x4]) h (some (.long r)) h2) (hl0 : gV y.cls idx yc bc mL rc ci 4) (hd : gd cc pc (.invokevirtual idx) 3 q) (ha : a ∈ gL h) (hk : gK h a = ci) (hdep : Nat.ble (dc + 1) d = true) (hcat : Nat.ble (st.map fun v => v.category).sum 8 = true) (hc : Nat.ble cells RC = true) (hs : Nat.ble slots RS = true) (k : gP PG PQ d RC RS y cc nL ret cells slots q lv (.long r :: st) h2) : gP PG PQ d RC RS y cc nL ret cells slots pc lv (x4 :: x3 :: x2 :: x1 :: .ref a :: st) h := p_v4 hM hl0 hd ha hk hdep hcat hc hs (fun v h' e => by obtain ⟨rfl, rfl⟩ := e; exact k)
theorem pe_s4l {x1 x2 x3 x4 : Value} {idx mL dc : Nat} {yc : MethodName} {bc : ByteArray} {rc : Option FieldType} {r : Int64} {h2 : Hp} (hM : gCi dc 0 0 yc bc mL rc [x1, x2, x3, x4] h (some (.long r)) h2) (hl0 : gSt y.cls idx yc bc mL rc 4) (hd : gd cc pc (.invokestatic idx) 3 q) (hdep : Nat.ble (dc + 1) d = true) (hcat : Nat.ble (st.map fun v => v.category).sum 8 = true) (hc : Nat.ble cells RC = true) (hs : Nat.ble slots RS = true) (k : gP PG PQ d RC RS y cc nL ret cells slots q lv (.long r :: st) h2) : gP PG PQ d RC RS y cc nL ret cells slots pc lv (x4 :: x3 :: x2 :: x1 :: st) h := p_s4 hM hl0 hd hdep hcat hc hs (fun v h' e => by obtain ⟨rfl, rfl⟩ := e; exact k)
theorem pe_v4u {x1 x2 x3 x4 : Value} {a idx ci mL dc : Nat} {yc : MethodName} {bc : ByteArray} {rc : Option FieldType}  {h2 : Hp} (hM : gCi dc 0 0 yc bc mL rc (.ref a :: [x1, x2, x3, x4]) h none h2) (hl0 : gV y.cls idx yc bc mL rc ci 4) (hd : gd cc pc (.invokevirtual idx) 3 q) (ha : a ∈ gL h) (hk : gK h a = ci) (hdep : Nat.ble (dc + 1) d = true) (hcat : Nat.ble (st.map fun v => v.category).sum 8 = true) (hc : Nat.ble cells RC = true) (hs : Nat.ble slots RS = true) (k : gP PG PQ d RC RS y cc nL ret cells slots q lv (st) h2) : gP PG PQ d RC RS y cc nL ret cells slots pc lv (x4 :: x3 :: x2 :: x1 :: .ref a :: st) h := p_v4 hM hl0 hd ha hk hdep hcat hc hs (fun v h' e => by obtain ⟨rfl, rfl⟩ := e; exact k)
theorem pe_s4u {x1 x2 x3 x4 : Value} {idx mL dc : Nat} {yc : MethodName} {bc : ByteArray} {rc : Option FieldType}  {h2 : Hp} (hM : gCi dc 0 0 yc bc mL rc [x1, x2, x3, x4] h none h2) (hl0 : gSt y.cls idx yc bc mL rc 4) (hd : gd cc pc (.invokestatic idx) 3 q) (hdep : Nat.ble (dc + 1) d = true) (hcat : Nat.ble (st.map fun v => v.category).sum 8 = true) (hc : Nat.ble cells RC = true) (hs : Nat.ble slots RS = true) (k : gP PG PQ d RC RS y cc nL ret cells slots q lv (st) h2) : gP PG PQ d RC RS y cc nL ret cells slots pc lv (x4 :: x3 :: x2 :: x1 :: st) h := p_s4 hM hl0 hd hdep hcat hc hs (fun v h' e => by obtain ⟨rfl, rfl⟩ := e; exact k)
theorem pe_v5i {x1 x2 x3 x4 x5 : Value} {a idx ci mL dc : Nat} {yc : MethodName} {bc : ByteArray} {rc : Option FieldType} {r : Int32} {h2 : Hp} (hM : gCi dc 0 0 yc bc mL rc (.ref a :: [x1, x2, x3, x4, x5]) h (some (.int r)) h2) (hl0 : gV y.cls idx yc bc mL rc ci 5) (hd : gd cc pc (.invokevirtual idx) 3 q) (ha : a ∈ gL h) (hk : gK h a = ci) (hdep : Nat.ble (dc + 1) d = true) (hcat : Nat.ble (st.map fun v => v.category).sum 8 = true) (hc : Nat.ble cells RC = true) (hs : Nat.ble slots RS = true) (k : gP PG PQ d RC RS y cc nL ret cells slots q lv (.int r :: st) h2) : gP PG PQ d RC RS y cc nL ret cells slots pc lv (x5 :: x4 :: x3 :: x2 :: x1 :: .ref a :: st) h := p_v5 hM hl0 hd ha hk hdep hcat hc hs (fun v h' e => by obtain ⟨rfl, rfl⟩ := e; exact k)
theorem pe_s5i {x1 x2 x3 x4 x5 : Value} {idx mL dc : Nat} {yc : MethodName} {bc : ByteArray} {rc : Option FieldType} {r : Int32} {h2 : Hp} (hM : gCi dc 0 0 yc bc mL rc [x1, x2, x3, x4, x5] h (some (.int r)) h2) (hl0 : gSt y.cls idx yc bc mL rc 5) (hd : gd cc pc (.invokestatic idx) 3 q) (hdep : Nat.ble (dc + 1) d = true) (hcat : Nat.ble (st.map fun v => v.category).sum 8 = true) (hc : Nat.ble cells RC = true) (hs : Nat.ble slots RS = true) (k : gP PG PQ d RC RS y cc nL ret cells slots q lv (.int r :: st) h2) : gP PG PQ d RC RS y cc nL ret cells slots pc lv (x5 :: x4 :: x3 :: x2 :: x1 :: st) h := p_s5 hM hl0 hd hdep hcat hc hs (fun v h' e => by obtain ⟨rfl, rfl⟩ := e; exact k)
theorem pe_v5l {x1 x2 x3 x4 x5 : Value} {a idx ci mL dc : Nat} {yc : MethodName} {bc : ByteArray} {rc : Option FieldType} {r : Int64} {h2 : Hp} (hM : gCi dc 0 0 yc bc mL rc (.ref a :: [x1, x2, x3, x4, x5]) h (some (.long r)) h2) (hl0 : gV y.cls idx yc bc mL rc ci 5) (hd : gd cc pc (.invokevirtual idx) 3 q) (ha : a ∈ gL h) (hk : gK h a = ci) (hdep : Nat.ble (dc + 1) d = true) (hcat : Nat.ble (st.map fun v => v.category).sum 8 = true) (hc : Nat.ble cells RC = true) (hs : Nat.ble slots RS = true) (k : gP PG PQ d RC RS y cc nL ret cells slots q lv (.long r :: st) h2) : gP PG PQ d RC RS y cc nL ret cells slots pc lv (x5 :: x4 :: x3 :: x2 :: x1 :: .ref a :: st) h := p_v5 hM hl0 hd ha hk hdep hcat hc hs (fun v h' e => by obtain ⟨rfl, rfl⟩ := e; exact k)
theorem pe_s5l {x1 x2 x3 x4 x5 : Value} {idx mL dc : Nat} {yc : MethodName} {bc : ByteArray} {rc : Option FieldType} {r : Int64} {h2 : Hp} (hM : gCi dc 0 0 yc bc mL rc [x1, x2, x3, x4, x5] h (some (.long r)) h2) (hl0 : gSt y.cls idx yc bc mL rc 5) (hd : gd cc pc (.invokestatic idx) 3 q) (hdep : Nat.ble (dc + 1) d = true) (hcat : Nat.ble (st.map fun v => v.category).sum 8 = true) (hc : Nat.ble cells RC = true) (hs : Nat.ble slots RS = true) (k : gP PG PQ d RC RS y cc nL ret cells slots q lv (.long r :: st) h2) : gP PG PQ d RC RS y cc nL ret cells slots pc lv (x5 :: x4 :: x3 :: x2 :: x1 :: st) h := p_s5 hM hl0 hd hdep hcat hc hs (fun v h' e => by obtain ⟨rfl, rfl⟩ := e; exact k)
theorem pe_v5u {x1 x2 x3 x4 x5 : Value} {a idx ci mL dc : Nat} {yc : MethodName} {bc : ByteArray} {rc : Option FieldType}  {h2 : Hp} (hM : gCi dc 0 0 yc bc mL rc (.ref a :: [x1, x2, x3, x4, x5]) h none h2) (hl0 : gV y.cls idx yc bc mL rc ci 5) (hd : gd cc pc (.invokevirtual idx) 3 q) (ha : a ∈ gL h) (hk : gK h a = ci) (hdep : Nat.ble (dc + 1) d = true) (hcat : Nat.ble (st.map fun v => v.category).sum 8 = true) (hc : Nat.ble cells RC = true) (hs : Nat.ble slots RS = true) (k : gP PG PQ d RC RS y cc nL ret cells slots q lv (st) h2) : gP PG PQ d RC RS y cc nL ret cells slots pc lv (x5 :: x4 :: x3 :: x2 :: x1 :: .ref a :: st) h := p_v5 hM hl0 hd ha hk hdep hcat hc hs (fun v h' e => by obtain ⟨rfl, rfl⟩ := e; exact k)
theorem pe_s5u {x1 x2 x3 x4 x5 : Value} {idx mL dc : Nat} {yc : MethodName} {bc : ByteArray} {rc : Option FieldType}  {h2 : Hp} (hM : gCi dc 0 0 yc bc mL rc [x1, x2, x3, x4, x5] h none h2) (hl0 : gSt y.cls idx yc bc mL rc 5) (hd : gd cc pc (.invokestatic idx) 3 q) (hdep : Nat.ble (dc + 1) d = true) (hcat : Nat.ble (st.map fun v => v.category).sum 8 = true) (hc : Nat.ble cells RC = true) (hs : Nat.ble slots RS = true) (k : gP PG PQ d RC RS y cc nL ret cells slots q lv (st) h2) : gP PG PQ d RC RS y cc nL ret cells slots pc lv (x5 :: x4 :: x3 :: x2 :: x1 :: st) h := p_s5 hM hl0 hd hdep hcat hc hs (fun v h' e => by obtain ⟨rfl, rfl⟩ := e; exact k)
theorem pe_v6i {x1 x2 x3 x4 x5 x6 : Value} {a idx ci mL dc : Nat} {yc : MethodName} {bc : ByteArray} {rc : Option FieldType} {r : Int32} {h2 : Hp} (hM : gCi dc 0 0 yc bc mL rc (.ref a :: [x1, x2, x3, x4, x5, x6]) h (some (.int r)) h2) (hl0 : gV y.cls idx yc bc mL rc ci 6) (hd : gd cc pc (.invokevirtual idx) 3 q) (ha : a ∈ gL h) (hk : gK h a = ci) (hdep : Nat.ble (dc + 1) d = true) (hcat : Nat.ble (st.map fun v => v.category).sum 8 = true) (hc : Nat.ble cells RC = true) (hs : Nat.ble slots RS = true) (k : gP PG PQ d RC RS y cc nL ret cells slots q lv (.int r :: st) h2) : gP PG PQ d RC RS y cc nL ret cells slots pc lv (x6 :: x5 :: x4 :: x3 :: x2 :: x1 :: .ref a :: st) h := p_v6 hM hl0 hd ha hk hdep hcat hc hs (fun v h' e => by obtain ⟨rfl, rfl⟩ := e; exact k)
theorem pe_s6i {x1 x2 x3 x4 x5 x6 : Value} {idx mL dc : Nat} {yc : MethodName} {bc : ByteArray} {rc : Option FieldType} {r : Int32} {h2 : Hp} (hM : gCi dc 0 0 yc bc mL rc [x1, x2, x3, x4, x5, x6] h (some (.int r)) h2) (hl0 : gSt y.cls idx yc bc mL rc 6) (hd : gd cc pc (.invokestatic idx) 3 q) (hdep : Nat.ble (dc + 1) d = true) (hcat : Nat.ble (st.map fun v => v.category).sum 8 = true) (hc : Nat.ble cells RC = true) (hs : Nat.ble slots RS = true) (k : gP PG PQ d RC RS y cc nL ret cells slots q lv (.int r :: st) h2) : gP PG PQ d RC RS y cc nL ret cells slots pc lv (x6 :: x5 :: x4 :: x3 :: x2 :: x1 :: st) h := p_s6 hM hl0 hd hdep hcat hc hs (fun v h' e => by obtain ⟨rfl, rfl⟩ := e; exact k)
theorem pe_v6l {x1 x2 x3 x4 x5 x6 : Value} {a idx ci mL dc : Nat} {yc : MethodName} {bc : ByteArray} {rc : Option FieldType} {r : Int64} {h2 : Hp} (hM : gCi dc 0 0 yc bc mL rc (.ref a :: [x1, x2, x3, x4, x5, x6]) h (some (.long r)) h2) (hl0 : gV y.cls idx yc bc mL rc ci 6) (hd : gd cc pc (.invokevirtual idx) 3 q) (ha : a ∈ gL h) (hk : gK h a = ci) (hdep : Nat.ble (dc + 1) d = true) (hcat : Nat.ble (st.map fun v => v.category).sum 8 = true) (hc : Nat.ble cells RC = true) (hs : Nat.ble slots RS = true) (k : gP PG PQ d RC RS y cc nL ret cells slots q lv (.long r :: st) h2) : gP PG PQ d RC RS y cc nL ret cells slots pc lv (x6 :: x5 :: x4 :: x3 :: x2 :: x1 :: .ref a :: st) h := p_v6 hM hl0 hd ha hk hdep hcat hc hs (fun v h' e => by obtain ⟨rfl, rfl⟩ := e; exact k)
theorem pe_s6l {x1 x2 x3 x4 x5 x6 : Value} {idx mL dc : Nat} {yc : MethodName} {bc : ByteArray} {rc : Option FieldType} {r : Int64} {h2 : Hp} (hM : gCi dc 0 0 yc bc mL rc [x1, x2, x3, x4, x5, x6] h (some (.long r)) h2) (hl0 : gSt y.cls idx yc bc mL rc 6) (hd : gd cc pc (.invokestatic idx) 3 q) (hdep : Nat.ble (dc + 1) d = true) (hcat : Nat.ble (st.map fun v => v.category).sum 8 = true) (hc : Nat.ble cells RC = true) (hs : Nat.ble slots RS = true) (k : gP PG PQ d RC RS y cc nL ret cells slots q lv (.long r :: st) h2) : gP PG PQ d RC RS y cc nL ret cells slots pc lv (x6 :: x5 :: x4 :: x3 :: x2 :: x1 :: st) h := p_s6 hM hl0 hd hdep hcat hc hs (fun v h' e => by obtain ⟨rfl, rfl⟩ := e; exact k)
theorem pe_v6u {x1 x2 x3 x4 x5 x6 : Value} {a idx ci mL dc : Nat} {yc : MethodName} {bc : ByteArray} {rc : Option FieldType}  {h2 : Hp} (hM : gCi dc 0 0 yc bc mL rc (.ref a :: [x1, x2, x3, x4, x5, x6]) h none h2) (hl0 : gV y.cls idx yc bc mL rc ci 6) (hd : gd cc pc (.invokevirtual idx) 3 q) (ha : a ∈ gL h) (hk : gK h a = ci) (hdep : Nat.ble (dc + 1) d = true) (hcat : Nat.ble (st.map fun v => v.category).sum 8 = true) (hc : Nat.ble cells RC = true) (hs : Nat.ble slots RS = true) (k : gP PG PQ d RC RS y cc nL ret cells slots q lv (st) h2) : gP PG PQ d RC RS y cc nL ret cells slots pc lv (x6 :: x5 :: x4 :: x3 :: x2 :: x1 :: .ref a :: st) h := p_v6 hM hl0 hd ha hk hdep hcat hc hs (fun v h' e => by obtain ⟨rfl, rfl⟩ := e; exact k)
theorem pe_s6u {x1 x2 x3 x4 x5 x6 : Value} {idx mL dc : Nat} {yc : MethodName} {bc : ByteArray} {rc : Option FieldType}  {h2 : Hp} (hM : gCi dc 0 0 yc bc mL rc [x1, x2, x3, x4, x5, x6] h none h2) (hl0 : gSt y.cls idx yc bc mL rc 6) (hd : gd cc pc (.invokestatic idx) 3 q) (hdep : Nat.ble (dc + 1) d = true) (hcat : Nat.ble (st.map fun v => v.category).sum 8 = true) (hc : Nat.ble cells RC = true) (hs : Nat.ble slots RS = true) (k : gP PG PQ d RC RS y cc nL ret cells slots q lv (st) h2) : gP PG PQ d RC RS y cc nL ret cells slots pc lv (x6 :: x5 :: x4 :: x3 :: x2 :: x1 :: st) h := p_s6 hM hl0 hd hdep hcat hc hs (fun v h' e => by obtain ⟨rfl, rfl⟩ := e; exact k)
theorem p_getN0 {a idx ci fi mo : Nat} (hf : gF y.cls idx ci fi 2 mo) (ha : a ∈ gL h) (hk : gK h a = ci) (hr : gR h a fi = none) (hd : gd cc pc (.getfield idx) 3 q) (k : gP PG PQ d RC RS y cc nL ret cells slots q lv (.null :: st) h) : gP PG PQ d RC RS y cc nL ret cells slots pc lv (.ref a :: st) h := by
  refine p_getO hf ha hk hd ?_
  rw [hr]
  exact k
theorem p_ifnullS {a : Nat} {off : Int} (hd : gb cc pc (.ifnull off) off q t) (k : gP PG PQ d RC RS y cc nL ret cells slots q lv st h) : gP PG PQ d RC RS y cc nL ret cells slots pc lv (.ref a :: st) h := p_ifnull (r := some a) hd (fun z => by cases z) (fun _ _ => k)
theorem p_ifnonnullS {a : Nat} {off : Int} (hd : gb cc pc (.ifnonnull off) off q t) (k : gP PG PQ d RC RS y cc nL ret cells slots t lv st h) : gP PG PQ d RC RS y cc nL ret cells slots pc lv (.ref a :: st) h := p_ifnonnull (r := some a) hd (fun z => by cases z) (fun _ _ => k)
theorem p_ifnullZ {off : Int} (hd : gb cc pc (.ifnull off) off q t) (k : gP PG PQ d RC RS y cc nL ret cells slots t lv st h) : gP PG PQ d RC RS y cc nL ret cells slots pc lv (.null :: st) h := p_ifnull (r := none) hd (fun _ => k) (fun _ z => by cases z)
theorem p_ifnonnullZ {off : Int} (hd : gb cc pc (.ifnonnull off) off q t) (k : gP PG PQ d RC RS y cc nL ret cells slots q lv st h) : gP PG PQ d RC RS y cc nL ret cells slots pc lv (.null :: st) h := p_ifnonnull (r := none) hd (fun _ => k) (fun _ z => by cases z)
theorem p_ialoadK {a n j : Nat} {i : Int32} (ha : a ∈ gL h) (hk : gK h a = 12) (hn : gN h a = n) (hb : gib i n = true) (hj : i.toNatClampNeg = j) (hd : gd cc pc .iaload 1 q) (k : gP PG PQ d RC RS y cc nL ret cells slots q lv (.int (gI h a j) :: st) h) : gP PG PQ d RC RS y cc nL ret cells slots pc lv (.int i :: .ref a :: st) h := by
  subst hj
  exact p_iaload ha hk (vI hn hb) hd k
theorem p_ialoadN {a n j : Nat} (ha : a ∈ gL h) (hk : gK h a = 12) (hn : gN h a = n) (hj : j < n) (h2 : n < 2 ^ 31) (hd : gd cc pc .iaload 1 q) (k : gP PG PQ d RC RS y cc nL ret cells slots q lv (.int (gI h a j) :: st) h) : gP PG PQ d RC RS y cc nL ret cells slots pc lv (.int (nI j) :: .ref a :: st) h := by
  refine p_iaload ha hk (vJ hn hj h2) hd ?_
  rw [nI_clamp (by omega)]
  exact k
theorem p_baloadK {a n j : Nat} {i : Int32} (ha : a ∈ gL h) (hk : gK h a = 11) (hn : gN h a = n) (hb : gib i n = true) (hj : i.toNatClampNeg = j) (hd : gd cc pc .baload 1 q) (k : gP PG PQ d RC RS y cc nL ret cells slots q lv (.int (gI h a j) :: st) h) : gP PG PQ d RC RS y cc nL ret cells slots pc lv (.int i :: .ref a :: st) h := by
  subst hj
  exact p_baload ha hk (vI hn hb) hd k
theorem p_baloadN {a n j : Nat} (ha : a ∈ gL h) (hk : gK h a = 11) (hn : gN h a = n) (hj : j < n) (h2 : n < 2 ^ 31) (hd : gd cc pc .baload 1 q) (k : gP PG PQ d RC RS y cc nL ret cells slots q lv (.int (gI h a j) :: st) h) : gP PG PQ d RC RS y cc nL ret cells slots pc lv (.int (nI j) :: .ref a :: st) h := by
  refine p_baload ha hk (vJ hn hj h2) hd ?_
  rw [nI_clamp (by omega)]
  exact k
theorem p_laloadK {a n j : Nat} {i : Int32} (ha : a ∈ gL h) (hk : gK h a = 13) (hn : gN h a = n) (hb : gib i n = true) (hj : i.toNatClampNeg = j) (hd : gd cc pc .laload 1 q) (k : gP PG PQ d RC RS y cc nL ret cells slots q lv (.long (gJ h a j) :: st) h) : gP PG PQ d RC RS y cc nL ret cells slots pc lv (.int i :: .ref a :: st) h := by
  subst hj
  exact p_laload ha hk (vI hn hb) hd k
theorem p_laloadN {a n j : Nat} (ha : a ∈ gL h) (hk : gK h a = 13) (hn : gN h a = n) (hj : j < n) (h2 : n < 2 ^ 31) (hd : gd cc pc .laload 1 q) (k : gP PG PQ d RC RS y cc nL ret cells slots q lv (.long (gJ h a j) :: st) h) : gP PG PQ d RC RS y cc nL ret cells slots pc lv (.int (nI j) :: .ref a :: st) h := by
  refine p_laload ha hk (vJ hn hj h2) hd ?_
  rw [nI_clamp (by omega)]
  exact k
theorem p_iastoreK {a n j : Nat} {i : Int32} {x : Int32} (ha : a ∈ gL h) (hk : gK h a = 12) (hn : gN h a = n) (hb : gib i n = true) (hj : i.toNatClampNeg = j) (hd : gd cc pc .iastore 1 q) (k : gP PG PQ d RC RS y cc nL ret cells slots q lv st (pI h a j x)) : gP PG PQ d RC RS y cc nL ret cells slots pc lv (.int x :: .int i :: .ref a :: st) h := by
  subst hj
  exact p_iastore ha hk (vI hn hb) hd k
theorem p_iastoreN {a n j : Nat} {x : Int32} (ha : a ∈ gL h) (hk : gK h a = 12) (hn : gN h a = n) (hj : j < n) (h2 : n < 2 ^ 31) (hd : gd cc pc .iastore 1 q) (k : gP PG PQ d RC RS y cc nL ret cells slots q lv st (pI h a j x)) : gP PG PQ d RC RS y cc nL ret cells slots pc lv (.int x :: .int (nI j) :: .ref a :: st) h := by
  refine p_iastore ha hk (vJ hn hj h2) hd ?_
  rw [nI_clamp (by omega)]
  exact k
theorem p_bastoreK {a n j : Nat} {i : Int32} {x : Int32} (ha : a ∈ gL h) (hk : gK h a = 11) (hn : gN h a = n) (hb : gib i n = true) (hj : i.toNatClampNeg = j) (hd : gd cc pc .bastore 1 q) (k : gP PG PQ d RC RS y cc nL ret cells slots q lv st (pI h a j x.toInt8.toInt32)) : gP PG PQ d RC RS y cc nL ret cells slots pc lv (.int x :: .int i :: .ref a :: st) h := by
  subst hj
  exact p_bastore ha hk (vI hn hb) hd k
theorem p_bastoreN {a n j : Nat} {x : Int32} (ha : a ∈ gL h) (hk : gK h a = 11) (hn : gN h a = n) (hj : j < n) (h2 : n < 2 ^ 31) (hd : gd cc pc .bastore 1 q) (k : gP PG PQ d RC RS y cc nL ret cells slots q lv st (pI h a j x.toInt8.toInt32)) : gP PG PQ d RC RS y cc nL ret cells slots pc lv (.int x :: .int (nI j) :: .ref a :: st) h := by
  refine p_bastore ha hk (vJ hn hj h2) hd ?_
  rw [nI_clamp (by omega)]
  exact k
theorem p_lastoreK {a n j : Nat} {i : Int32} {x : Int64} (ha : a ∈ gL h) (hk : gK h a = 13) (hn : gN h a = n) (hb : gib i n = true) (hj : i.toNatClampNeg = j) (hd : gd cc pc .lastore 1 q) (k : gP PG PQ d RC RS y cc nL ret cells slots q lv st (pJ h a j x)) : gP PG PQ d RC RS y cc nL ret cells slots pc lv (.long x :: .int i :: .ref a :: st) h := by
  subst hj
  exact p_lastore ha hk (vI hn hb) hd k
theorem p_lastoreN {a n j : Nat} {x : Int64} (ha : a ∈ gL h) (hk : gK h a = 13) (hn : gN h a = n) (hj : j < n) (h2 : n < 2 ^ 31) (hd : gd cc pc .lastore 1 q) (k : gP PG PQ d RC RS y cc nL ret cells slots q lv st (pJ h a j x)) : gP PG PQ d RC RS y cc nL ret cells slots pc lv (.long x :: .int (nI j) :: .ref a :: st) h := by
  refine p_lastore ha hk (vJ hn hj h2) hd ?_
  rw [nI_clamp (by omega)]
  exact k
theorem pr_v0i {a idx ci mL dc : Nat} {yc : MethodName} {bc : ByteArray} {rc : Option FieldType} {Qk : Option Value → Hp → Prop} (hM : gC dc 0 0 yc bc mL rc (.ref a :: []) h Qk) (hl0 : gV y.cls idx yc bc mL rc ci 0) (hd : gd cc pc (.invokevirtual idx) 3 q) (ha : a ∈ gL h) (hk : gK h a = ci) (hdep : Nat.ble (dc + 1) d = true) (hcat : Nat.ble (st.map fun v => v.category).sum 8 = true) (hc : Nat.ble cells RC = true) (hs : Nat.ble slots RS = true) (hQ : ∀ v h', Qk v h' → ∃ r : Int32, v = some (.int r)) (k : ∀ (r : Int32) h', Qk (some (.int r)) h' → gP PG PQ d RC RS y cc nL ret cells slots q lv (.int r :: st) h') : gP PG PQ d RC RS y cc nL ret cells slots pc lv (.ref a :: st) h := p_v0 hM hl0 hd ha hk hdep hcat hc hs (fun v h' e => by obtain ⟨r, rfl⟩ := hQ v h' e; exact k r h' e)
theorem pr_v0u {a idx ci mL dc : Nat} {yc : MethodName} {bc : ByteArray} {rc : Option FieldType} {Qk : Option Value → Hp → Prop} (hM : gC dc 0 0 yc bc mL rc (.ref a :: []) h Qk) (hl0 : gV y.cls idx yc bc mL rc ci 0) (hd : gd cc pc (.invokevirtual idx) 3 q) (ha : a ∈ gL h) (hk : gK h a = ci) (hdep : Nat.ble (dc + 1) d = true) (hcat : Nat.ble (st.map fun v => v.category).sum 8 = true) (hc : Nat.ble cells RC = true) (hs : Nat.ble slots RS = true) (hQ : ∀ v h', Qk v h' → v = none) (k : ∀ h', Qk none h' → gP PG PQ d RC RS y cc nL ret cells slots q lv st h') : gP PG PQ d RC RS y cc nL ret cells slots pc lv (.ref a :: st) h := p_v0 hM hl0 hd ha hk hdep hcat hc hs (fun v h' e => by obtain rfl := hQ v h' e; exact k h' e)
theorem pr_v1i {x1 : Value} {a idx ci mL dc : Nat} {yc : MethodName} {bc : ByteArray} {rc : Option FieldType} {Qk : Option Value → Hp → Prop} (hM : gC dc 0 0 yc bc mL rc (.ref a :: [x1]) h Qk) (hl0 : gV y.cls idx yc bc mL rc ci 1) (hd : gd cc pc (.invokevirtual idx) 3 q) (ha : a ∈ gL h) (hk : gK h a = ci) (hdep : Nat.ble (dc + 1) d = true) (hcat : Nat.ble (st.map fun v => v.category).sum 8 = true) (hc : Nat.ble cells RC = true) (hs : Nat.ble slots RS = true) (hQ : ∀ v h', Qk v h' → ∃ r : Int32, v = some (.int r)) (k : ∀ (r : Int32) h', Qk (some (.int r)) h' → gP PG PQ d RC RS y cc nL ret cells slots q lv (.int r :: st) h') : gP PG PQ d RC RS y cc nL ret cells slots pc lv (x1 :: .ref a :: st) h := p_v1 hM hl0 hd ha hk hdep hcat hc hs (fun v h' e => by obtain ⟨r, rfl⟩ := hQ v h' e; exact k r h' e)
theorem pr_v1u {x1 : Value} {a idx ci mL dc : Nat} {yc : MethodName} {bc : ByteArray} {rc : Option FieldType} {Qk : Option Value → Hp → Prop} (hM : gC dc 0 0 yc bc mL rc (.ref a :: [x1]) h Qk) (hl0 : gV y.cls idx yc bc mL rc ci 1) (hd : gd cc pc (.invokevirtual idx) 3 q) (ha : a ∈ gL h) (hk : gK h a = ci) (hdep : Nat.ble (dc + 1) d = true) (hcat : Nat.ble (st.map fun v => v.category).sum 8 = true) (hc : Nat.ble cells RC = true) (hs : Nat.ble slots RS = true) (hQ : ∀ v h', Qk v h' → v = none) (k : ∀ h', Qk none h' → gP PG PQ d RC RS y cc nL ret cells slots q lv st h') : gP PG PQ d RC RS y cc nL ret cells slots pc lv (x1 :: .ref a :: st) h := p_v1 hM hl0 hd ha hk hdep hcat hc hs (fun v h' e => by obtain rfl := hQ v h' e; exact k h' e)
theorem pr_v2i {x1 x2 : Value} {a idx ci mL dc : Nat} {yc : MethodName} {bc : ByteArray} {rc : Option FieldType} {Qk : Option Value → Hp → Prop} (hM : gC dc 0 0 yc bc mL rc (.ref a :: [x1, x2]) h Qk) (hl0 : gV y.cls idx yc bc mL rc ci 2) (hd : gd cc pc (.invokevirtual idx) 3 q) (ha : a ∈ gL h) (hk : gK h a = ci) (hdep : Nat.ble (dc + 1) d = true) (hcat : Nat.ble (st.map fun v => v.category).sum 8 = true) (hc : Nat.ble cells RC = true) (hs : Nat.ble slots RS = true) (hQ : ∀ v h', Qk v h' → ∃ r : Int32, v = some (.int r)) (k : ∀ (r : Int32) h', Qk (some (.int r)) h' → gP PG PQ d RC RS y cc nL ret cells slots q lv (.int r :: st) h') : gP PG PQ d RC RS y cc nL ret cells slots pc lv (x2 :: x1 :: .ref a :: st) h := p_v2 hM hl0 hd ha hk hdep hcat hc hs (fun v h' e => by obtain ⟨r, rfl⟩ := hQ v h' e; exact k r h' e)
theorem pr_v2u {x1 x2 : Value} {a idx ci mL dc : Nat} {yc : MethodName} {bc : ByteArray} {rc : Option FieldType} {Qk : Option Value → Hp → Prop} (hM : gC dc 0 0 yc bc mL rc (.ref a :: [x1, x2]) h Qk) (hl0 : gV y.cls idx yc bc mL rc ci 2) (hd : gd cc pc (.invokevirtual idx) 3 q) (ha : a ∈ gL h) (hk : gK h a = ci) (hdep : Nat.ble (dc + 1) d = true) (hcat : Nat.ble (st.map fun v => v.category).sum 8 = true) (hc : Nat.ble cells RC = true) (hs : Nat.ble slots RS = true) (hQ : ∀ v h', Qk v h' → v = none) (k : ∀ h', Qk none h' → gP PG PQ d RC RS y cc nL ret cells slots q lv st h') : gP PG PQ d RC RS y cc nL ret cells slots pc lv (x2 :: x1 :: .ref a :: st) h := p_v2 hM hl0 hd ha hk hdep hcat hc hs (fun v h' e => by obtain rfl := hQ v h' e; exact k h' e)
theorem pr_v4i {x1 x2 x3 x4 : Value} {a idx ci mL dc : Nat} {yc : MethodName} {bc : ByteArray} {rc : Option FieldType} {Qk : Option Value → Hp → Prop} (hM : gC dc 0 0 yc bc mL rc (.ref a :: [x1, x2, x3, x4]) h Qk) (hl0 : gV y.cls idx yc bc mL rc ci 4) (hd : gd cc pc (.invokevirtual idx) 3 q) (ha : a ∈ gL h) (hk : gK h a = ci) (hdep : Nat.ble (dc + 1) d = true) (hcat : Nat.ble (st.map fun v => v.category).sum 8 = true) (hc : Nat.ble cells RC = true) (hs : Nat.ble slots RS = true) (hQ : ∀ v h', Qk v h' → ∃ r : Int32, v = some (.int r)) (k : ∀ (r : Int32) h', Qk (some (.int r)) h' → gP PG PQ d RC RS y cc nL ret cells slots q lv (.int r :: st) h') : gP PG PQ d RC RS y cc nL ret cells slots pc lv (x4 :: x3 :: x2 :: x1 :: .ref a :: st) h := p_v4 hM hl0 hd ha hk hdep hcat hc hs (fun v h' e => by obtain ⟨r, rfl⟩ := hQ v h' e; exact k r h' e)
theorem pr_v4u {x1 x2 x3 x4 : Value} {a idx ci mL dc : Nat} {yc : MethodName} {bc : ByteArray} {rc : Option FieldType} {Qk : Option Value → Hp → Prop} (hM : gC dc 0 0 yc bc mL rc (.ref a :: [x1, x2, x3, x4]) h Qk) (hl0 : gV y.cls idx yc bc mL rc ci 4) (hd : gd cc pc (.invokevirtual idx) 3 q) (ha : a ∈ gL h) (hk : gK h a = ci) (hdep : Nat.ble (dc + 1) d = true) (hcat : Nat.ble (st.map fun v => v.category).sum 8 = true) (hc : Nat.ble cells RC = true) (hs : Nat.ble slots RS = true) (hQ : ∀ v h', Qk v h' → v = none) (k : ∀ h', Qk none h' → gP PG PQ d RC RS y cc nL ret cells slots q lv st h') : gP PG PQ d RC RS y cc nL ret cells slots pc lv (x4 :: x3 :: x2 :: x1 :: .ref a :: st) h := p_v4 hM hl0 hd ha hk hdep hcat hc hs (fun v h' e => by obtain rfl := hQ v h' e; exact k h' e)
theorem pr_v3i {x1 x2 x3 : Value} {a idx ci mL dc : Nat} {yc : MethodName} {bc : ByteArray} {rc : Option FieldType} {Qk : Option Value → Hp → Prop} (hM : gC dc 0 0 yc bc mL rc (.ref a :: [x1, x2, x3]) h Qk) (hl0 : gV y.cls idx yc bc mL rc ci 3) (hd : gd cc pc (.invokevirtual idx) 3 q) (ha : a ∈ gL h) (hk : gK h a = ci) (hdep : Nat.ble (dc + 1) d = true) (hcat : Nat.ble (st.map fun v => v.category).sum 8 = true) (hc : Nat.ble cells RC = true) (hs : Nat.ble slots RS = true) (hQ : ∀ v h', Qk v h' → ∃ r : Int32, v = some (.int r)) (k : ∀ (r : Int32) h', Qk (some (.int r)) h' → gP PG PQ d RC RS y cc nL ret cells slots q lv (.int r :: st) h') : gP PG PQ d RC RS y cc nL ret cells slots pc lv (x3 :: x2 :: x1 :: .ref a :: st) h := p_v3 hM hl0 hd ha hk hdep hcat hc hs (fun v h' e => by obtain ⟨r, rfl⟩ := hQ v h' e; exact k r h' e)
theorem pr_v0l {a idx ci mL dc : Nat} {yc : MethodName} {bc : ByteArray} {rc : Option FieldType} {Qk : Option Value → Hp → Prop} (hM : gC dc 0 0 yc bc mL rc (.ref a :: []) h Qk) (hl0 : gV y.cls idx yc bc mL rc ci 0) (hd : gd cc pc (.invokevirtual idx) 3 q) (ha : a ∈ gL h) (hk : gK h a = ci) (hdep : Nat.ble (dc + 1) d = true) (hcat : Nat.ble (st.map fun v => v.category).sum 8 = true) (hc : Nat.ble cells RC = true) (hs : Nat.ble slots RS = true) (hQ : ∀ v h', Qk v h' → ∃ r : Int64, v = some (.long r)) (k : ∀ (r : Int64) h', Qk (some (.long r)) h' → gP PG PQ d RC RS y cc nL ret cells slots q lv (.long r :: st) h') : gP PG PQ d RC RS y cc nL ret cells slots pc lv (.ref a :: st) h := p_v0 hM hl0 hd ha hk hdep hcat hc hs (fun v h' e => by obtain ⟨r, rfl⟩ := hQ v h' e; exact k r h' e)
theorem pr_v3u {x1 x2 x3 : Value} {a idx ci mL dc : Nat} {yc : MethodName} {bc : ByteArray} {rc : Option FieldType} {Qk : Option Value → Hp → Prop} (hM : gC dc 0 0 yc bc mL rc (.ref a :: [x1, x2, x3]) h Qk) (hl0 : gV y.cls idx yc bc mL rc ci 3) (hd : gd cc pc (.invokevirtual idx) 3 q) (ha : a ∈ gL h) (hk : gK h a = ci) (hdep : Nat.ble (dc + 1) d = true) (hcat : Nat.ble (st.map fun v => v.category).sum 8 = true) (hc : Nat.ble cells RC = true) (hs : Nat.ble slots RS = true) (hQ : ∀ v h', Qk v h' → v = none) (k : ∀ h', Qk none h' → gP PG PQ d RC RS y cc nL ret cells slots q lv st h') : gP PG PQ d RC RS y cc nL ret cells slots pc lv (x3 :: x2 :: x1 :: .ref a :: st) h := p_v3 hM hl0 hd ha hk hdep hcat hc hs (fun v h' e => by obtain rfl := hQ v h' e; exact k h' e)
theorem p_sld {L j : Nat} {f : Nat → Int32} (hG : ∀ G c, PG G c → gsn G = L ∧ gsx G = f) (hj : j < L) (hL : L < 2147483648) (hd : gd cc pc .iaload 1 q) (k : gP PG PQ d RC RS y cc nL ret cells slots q lv (.int (f j) :: st) h) : gP PG PQ d RC RS y cc nL ret cells slots pc lv (.int (nI j) :: .float 0 :: st) h := by
  obtain ⟨hd, rfl⟩ := hd
  intro p l e s m args below meth c G C hPG ls H locs hl hw hS
  obtain ⟨hx, hb, hml, hown, hts, hlocks, hr, hname, hKo⟩ := id C
  obtain ⟨g1, g2⟩ := hG G c hPG
  have key := k p l e s m args below meth c G C hPG ls H locs hl hw hS
  have e1 : (nI j).toNatClampNeg = j := nI_clamp (by omega)
  refine va_sld (i := nI j) (rest := st.map (gtr G)) hx hb hKo.2.2.2.2.2.1 (Nat.lt_of_lt_of_le hKo.2.2.2.2.2.2 hKo.1) (Nat.not_le.mpr hKo.2.2.2.2.2.2) hS (by
    rw [g1]
    rintro (z | z)
    · exact nI_nn (by omega) z
    · rw [e1] at z; omega) hd ?_
  rw [e1, g2]
  exact key
theorem p_slen {L : Nat} {f : Nat → Int32} (hG : ∀ G c, PG G c → gsn G = L ∧ gsx G = f) (hd : gd cc pc .arraylength 1 q) (k : gP PG PQ d RC RS y cc nL ret cells slots q lv (.int (nI L) :: st) h) : gP PG PQ d RC RS y cc nL ret cells slots pc lv (.float 0 :: st) h := by
  obtain ⟨hd, rfl⟩ := hd
  intro p l e s m args below meth c G C hPG ls H locs hl hw hS
  obtain ⟨hx, hb, hml, hown, hts, hlocks, hr, hname, hKo⟩ := id C
  obtain ⟨g1, g2⟩ := hG G c hPG
  have key := k p l e s m args below meth c G C hPG ls H locs hl hw hS
  refine va_slen (rest := st.map (gtr G)) hx hb hKo.2.2.2.2.2.1 (Nat.lt_of_lt_of_le hKo.2.2.2.2.2.2 hKo.1) (Nat.not_le.mpr hKo.2.2.2.2.2.2) hS hd ?_
  rw [g1]
  exact key
end PR

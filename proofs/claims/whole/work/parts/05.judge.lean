/-! WHAT STAYS TRUE OF THE REST, AND THE JUDGEMENT OVER PICTURES -/
/-- the String constants: class, entry, text, number; and their bytes -/
def gsr : List (String × Nat × String × Nat) := [("GlassPost$Parser", 79, "city", 0), ("GlassPost$Parser", 84, "pane", 1), ("GlassPost$Parser", 86, "word", 2), ("GlassPost$Parser", 88, "view", 3), ("GlassPost$Parser", 90, "corner", 4), ("GlassPost$Parser", 92, "street", 5), ("GlassPost$Parser", 94, "thief", 6), ("GlassPost$Parser", 96, "sent", 7), ("GlassPost$Parser", 98, "person", 8), ("GlassPost$Parser", 100, "shard", 9), ("GlassPost$Parser", 102, "shelf", 10), ("GlassPost$Parser", 108, "wide", 11), ("GlassPost$Parser", 122, "high", 12), ("GlassPost$Parser", 126, "hail", 13), ("GlassPost$Parser", 130, "ice", 14), ("GlassPost$Parser", 184, "thick", 15), ("GlassPost$Parser", 186, "plain", 16), ("GlassPost$Parser", 208, "breaks", 17), ("GlassPostModel", 146, "city", 18), ("GlassPostModel", 251, "wide", 19), ("GlassPostModel", 256, "high", 20), ("GlassPostModel", 257, "hail", 21), ("GlassPostModel", 259, "ice", 22), ("GlassPostModel", 148, "pane", 23), ("GlassPostModel", 150, "word", 24), ("GlassPostModel", 151, "view", 25), ("GlassPostModel", 153, "corner", 26), ("GlassPostModel", 155, "street", 27), ("GlassPostModel", 157, "thief", 28), ("GlassPostModel", 159, "sent", 29), ("GlassPostModel", 161, "person", 30), ("GlassPostModel", 163, "shard", 31), ("GlassPostModel", 165, "shelf", 32), ("GlassPostModel", 272, "plain", 33), ("GlassPostModel", 274, "thick", 34), ("GlassPostModel", 315, "breaks", 35)]
def gbt : List (List Int32) := [[99, 105, 116, 121], [112, 97, 110, 101], [119, 111, 114, 100], [118, 105, 101, 119], [99, 111, 114, 110, 101, 114], [115, 116, 114, 101, 101, 116], [116, 104, 105, 101, 102], [115, 101, 110, 116], [112, 101, 114, 115, 111, 110], [115, 104, 97, 114, 100], [115, 104, 101, 108, 102], [119, 105, 100, 101], [104, 105, 103, 104], [104, 97, 105, 108], [105, 99, 101], [116, 104, 105, 99, 107], [112, 108, 97, 105, 110], [98, 114, 101, 97, 107, 115], [99, 105, 116, 121], [119, 105, 100, 101], [104, 105, 103, 104], [104, 97, 105, 108], [105, 99, 101], [112, 97, 110, 101], [119, 111, 114, 100], [118, 105, 101, 119], [99, 111, 114, 110, 101, 114], [115, 116, 114, 101, 101, 116], [116, 104, 105, 101, 102], [115, 101, 110, 116], [112, 101, 114, 115, 111, 110], [115, 104, 97, 114, 100], [115, 104, 101, 108, 102], [112, 108, 97, 105, 110], [116, 104, 105, 99, 107], [98, 114, 101, 97, 107, 115]]
abbrev gbl (i : Nat) : Nat := (gbt.getD i []).length
abbrev gby (i j : Nat) : Int32 := (gbt.getD i []).getD j 0
def gStr (G : Gp) (U : State) (H : Heap) : Prop :=
  (∀ i : Nat, i < 36 → va_O "java/lang/String" (gAK G i) (gA G) U H ∧ va_OF "java/lang/String" "coder" "B" (.int 0) (gAK G i) (gA G) U H ∧ va_OF "java/lang/String" "value" "[B" (.ref (gAV G i)) (gAK G i) (gA G) U H ∧ va_T .byte (gAV G i) (gbl i) (fun j => .int (gby i j)) (gA G) U H) ∧ va_Z "java/lang/String" "COMPACT_STRINGS" "Z" (.int 1) (gA G) U H ∧ va_Zq "jdk/internal/util/Preconditions" "SIOOBE_FORMATTER" "Ljava/util/function/BiFunction;" (gA G) U H ∧ vx_Zq Bundle.tN "UNASSIGNED_STACK" Bundle.steD (gA G) U H ∧ vx_Zq Bundle.tN "SUPPRESSED_SENTINEL" Bundle.listD (gA G) U H
def gKo (G : Gp) (U : State) (H : Heap) : Prop :=
  gB G ≤ H.size ∧ va_K (gD G) gcl [(gcB G, .byte), (gcI G, .int), (gcJ G, .long)] U ∧ (∀ w ∈ gnw, va_Nw w U) ∧ (∀ q ∈ gsr, vk_R q.1 q.2.1 q.2.2.1 (gAK G q.2.2.2) U) ∧ gStr G U H ∧ va_X (gsb G) (gsn G) (gsx G) U H ∧ gsb G < gB G
theorem gStr.moved {G : Gp} {u U : State} {H : Heap} (hvm : u.vm.Alike U.vm) (h : gStr G u H) : gStr G U H :=
  ⟨fun i hi => ⟨va_O.moved hvm (h.1 i hi).1, va_OF.moved hvm (h.1 i hi).2.1, va_OF.moved hvm (h.1 i hi).2.2.1, va_T.moved hvm (h.1 i hi).2.2.2⟩, va_Z.moved hvm h.2.1, va_Zq.moved hvm h.2.2.1, vx_Zq.moved hvm h.2.2.2.1, vx_Zq.moved hvm h.2.2.2.2⟩
theorem gStr.kept {G : Gp} {U : State} {H H1 : Heap} (h : gStr G U H) (hq : ∀ a : Nat, a < H.size → ¬ gA G a → H1[a]? = H[a]?) : gStr G U H1 :=
  ⟨fun i hi => ⟨(h.1 i hi).1.kept hq, (h.1 i hi).2.1.kept hq, (h.1 i hi).2.2.1.kept hq, (h.1 i hi).2.2.2.kept hq⟩, h.2.1.kept hq, va_Zq.kept h.2.2.1 hq, vx_Zq.kept h.2.2.2.1 hq, vx_Zq.kept h.2.2.2.2 hq⟩
theorem gnw_warm {w : Cond} (hw : w ∈ gnw) {s U : State} (hW : s.WarmedH U.vm) (h : va_Nw w s) : va_Nw w U := by
  have h1 := (List.mem_filter.mp hw).2
  cases w <;> first | exact va_Nw.warmF hW h | exact va_Nw.warmM hW h | exact va_Nw.warmD hW h | exact va_Nw.warmC hW h | (simp [gisN] at h1)
theorem gnw_same {w : Cond} (hw : w ∈ gnw) {s U : State} (hv : s.vm = U.vm) (h : va_Nw w s) : va_Nw w U := by
  have h1 := (List.mem_filter.mp hw).2
  cases w <;> first | exact va_Nw.same rfl hv h | (simp [gisN] at h1)
/-- in a state with a warmer table and a heap that has kept what is below the base -/
theorem gKo.warm {G : Gp} {s U : State} {H H1 : Heap} (hW : s.WarmedH U.vm) (h : gKo G s H) (hs : H.size ≤ H1.size) (hq : ∀ a : Nat, a < H.size → ¬ gA G a → H1[a]? = H[a]?) : gKo G U H1 :=
  ⟨Nat.le_trans h.1 hs, va_K.moved hW.alike h.2.1, fun w hw => gnw_warm hw hW (h.2.2.1 w hw), fun q hq => (h.2.2.2.1 q hq).warm hW, (gStr.moved hW.alike h.2.2.2.2.1).kept hq, (va_X.moved hW.alike h.2.2.2.2.2.1).kept (hq _ (Nat.lt_of_lt_of_le h.2.2.2.2.2.2 h.1) (Nat.not_le.mpr h.2.2.2.2.2.2)), h.2.2.2.2.2.2⟩
theorem gKo.same {G : Gp} {s U : State} {H : Heap} (hv : s.vm = U.vm) (h : gKo G s H) : gKo G U H := by
  have ha : s.vm.Alike U.vm := by rw [hv]; exact Vm.Alike.refl U.vm
  exact ⟨h.1, va_K.moved ha h.2.1, fun w hw => gnw_same hw hv (h.2.2.1 w hw), fun q hq => (h.2.2.2.1 q hq).same hv.symm, gStr.moved ha h.2.2.2.2.1, va_X.moved ha h.2.2.2.2.2.1, h.2.2.2.2.2.2⟩
def gPc (G : Gp) (args : List Value) (h : Hp) : Array Value → State → Prop := fun av U => av = (args.map (gtr G)).toArray ∧ gWh G h U.heap ∧ gKo G U U.heap
def gQc (G : Gp) (Q : Option Value → Hp → Prop) : Array Value → State → Outcome → State → Prop := fun _ st o t => ∃ (v : Option Value) (h' : Hp), o = .returned (v.map (gtr G)) ∧ Q v h' ∧ gWh G h' t.heap ∧ st.heap.size ≤ t.heap.size ∧ ∀ q : Nat, q < st.heap.size → ¬ gA G q → t.heap[q]? = st.heap[q]?
def grm (d RC RS : Nat) : Room := { frames := d, cells := RC, slots := RS, locals := 60 * d }
/-- launches without stack traces -/
abbrev gLn : Type := { l : Launch // l.stackTraces = false }
/-- A METHOD'S CONTRACT over pictures: at depth d, with RC cells and RS slots to make, from arguments and a picture it returns an answer and a picture with Q -/
def gC (d RC RS : Nat) (y : MethodName) (cc : ByteArray) (nL : Nat) (ret : Option FieldType) (args : List Value) (h : Hp) (Q : Option Value → Hp → Prop) : Prop :=
  ∀ (l : gLn) (G : Gp), Met l.1 y (.code y cc nL ret :: gtb) (grm d RC RS) (gPc G args h) (gQc G Q) RC RS (gA G)
/-- the locals as the machine has them; .retAddr stands where nothing is known -/
def gls (G : Gp) : Nat → List Value → List (Nat × Value)
  | _, [] => []
  | i, .retAddr _ :: vs => gls G (i + 1) vs
  | i, v :: vs => (i, gtr G v) :: gls G (i + 1) vs
def gCx (y : MethodName) (cc : ByteArray) (nL : Nat) (ret : Option FieldType) (p : Program) (s : State) (m : MethodId) (args : Array Value) (meth : Method) (c : Code) (G : Gp) : Prop :=
  p.tables.exec = Jvm.exec ∧ c.code = cc ∧ c.maxLocals = nL ∧ s.vm.findClass y.cls = some m.cls ∧ (∀ w ∈ gtb, w.before args s = true) ∧ meth.locks = false ∧ meth.sig.returnType = ret ∧ meth.name = y.name ∧ gKo G s s.heap
/-- THE JUDGEMENT: in method y, at pc, with these locals, this operand stack and this picture, it comes to its end with Q -/
def gY (d RC RS : Nat) (y : MethodName) (cc : ByteArray) (nL : Nat) (ret : Option FieldType) (cells slots : Nat) (Q : Option Value → Hp → Prop) (pc : Nat) (lv st : List Value) (h : Hp) : Prop :=
  ∀ (p : Program) (l : gLn) (e : Env) (s : State) (m : MethodId) (args : Array Value) (below : List Frame) (meth : Method) (c : Code) (G : Gp), gCx y cc nL ret p s m args meth c G → ∀ (ls : Array Slot) (H : Heap) (locs : List Loc), lv_has ls nL (gls G 0 lv) → gWh G h H → va_S (gA G) s.heap H locs → W p l.1 e (grm d RC RS) s m args below meth c H locs cells slots (MQ below (gQc G Q) args s RC RS (gA G)) (F0 m pc ls (st.map (gtr G)))
/-- an instruction at pc, n bytes, the next at q -/
abbrev gd (cc : ByteArray) (pc : Nat) (i : Instr) (n q : Nat) : Prop := decode cc pc = .ok (i, n) ∧ pc + n = q
/-- a branch at pc, the next at q, its target t -/
abbrev gb (cc : ByteArray) (pc : Nat) (i : Instr) (off : Int) (q t : Nat) : Prop := decode cc pc = .ok (i, 3) ∧ pc + 3 = q ∧ (pc : Int) + off = (t : Int)
/-- the first locals out of the arguments -/
def gla : List Value → List Value
  | [] => []
  | .long x :: vs => .long x :: .retAddr 0 :: gla vs
  | v :: vs => v :: gla vs

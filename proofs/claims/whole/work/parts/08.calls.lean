/-! ROWS OF THE JUDGEMENT: entry, calls, ends -/
section GCL
variable {d RC RS nL cells slots pc q t : Nat} {y : MethodName} {cc : ByteArray} {ret : Option FieldType} {Q : Option Value → Hp → Prop} {lv st : List Value} {h : Hp}
def gok : List Value → Bool
  | [] => true
  | .double _ :: _ => false
  | .retAddr _ :: _ => false
  | _ :: vs => gok vs
theorem gls_pad {G : Gp} : ∀ (n i : Nat), gls G i (List.replicate n (.retAddr 0)) = []
  | 0, _ => rfl
  | n + 1, i => gls_pad n (i + 1)
theorem gls_args {G : Gp} (n : Nat) : ∀ (args : List Value) (i : Nat), gok args = true → gls G i (gla args ++ List.replicate n (.retAddr 0)) = lv_args i (args.map (gtr G))
  | [], i, _ => gls_pad n i
  | v :: vs, i, hk => by
    cases v with
    | double x => simp [gok] at hk
    | retAddr x => simp [gok] at hk
    | long x =>
      show (i, gtr G (.long x)) :: gls G (i + 1 + 1) (gla vs ++ _) = (i, Value.long x) :: lv_args (i + 2) _
      rw [gls_args n vs (i + 2) hk]; rfl
    | int x =>
      show (i, gtr G (.int x)) :: gls G (i + 1) (gla vs ++ _) = (i, Value.int x) :: lv_args (i + 1) _
      rw [gls_args n vs (i + 1) hk]; rfl
    | float x =>
      show (i, gtr G (.float x)) :: gls G (i + 1) (gla vs ++ _) = (i, gtr G (.float x)) :: lv_args (i + 1) _
      rw [gls_args n vs (i + 1) hk]
    | null =>
      show (i, gtr G .null) :: gls G (i + 1) (gla vs ++ _) = (i, Value.null) :: lv_args (i + 1) _
      rw [gls_args n vs (i + 1) hk]; rfl
    | ref x =>
      show (i, gtr G (.ref x)) :: gls G (i + 1) (gla vs ++ _) = (i, gtr G (.ref x)) :: lv_args (i + 1) _
      rw [gls_args n vs (i + 1) hk]
theorem lg_len {G : Gp} : ∀ (args : List Value), (lg_sl (args.map (gtr G))).length = (lg_sl args).length
  | [] => rfl
  | v :: vs => by
    have ih := lg_len (G := G) vs
    simp only [lg_sl, List.map_cons, List.flatMap_cons, List.length_append] at ih ⊢
    rw [ih, gtr_cat]
    split <;> rfl
/-- a contract out of a walk from the entry -/
theorem g_entry {args : List Value} (n : Nat) (hy : plainName y.cls = true) (hk : gok args = true) (hn : Nat.ble (lg_sl args).length nL = true) (hlv : gla args ++ List.replicate n (.retAddr 0) = lv) (k : gY d RC RS y cc nL ret 0 0 Q 0 lv [] h) : gC d RC RS y cc nL ret args h Q := by
  intro l G
  subst hlv
  refine Met.ofW (cc := cc) (maxL := nL) (ret := ret) hy rfl ?_
  intro p e s m av below meth c s₁ B hml hv
  obtain ⟨rfl, hw, hKo⟩ := hv
  have hts := atoms_spec (ws := .code y cc nL ret :: gtb) B.pre
  have hl := lv_entry (args.map (gtr G)) (n := nL) (by rw [lg_len]; exact Nat.le_of_ble_eq_true hn)
  rw [lg_entry_eq]
  rw [← gls_args n args 0 hk] at hl
  exact k p l e s m _ below meth c G ⟨B.exec, B.bytes, hml, findClass_of_methodNamed B.named, fun w hw => hts w (List.mem_cons_of_mem _ hw), B.notSynchronized, B.returns, (name_of_methodNamed B.named B.method).1, hKo⟩ _ s.heap [] hl hw va_S.rf
/-- ends -/
theorem gQc_of {G : Gp} {s t : State} {H : Heap} {locs : List Loc} {av : Array Value} {v : Option Value} {o : Outcome} (ho : o = .returned (v.map (gtr G))) (hQ : Q v h) (hw : gWh G h H) (hS : va_S (gA G) s.heap H locs) (ht : t.heap = H) : gQc G Q av s o t :=
  ⟨v, h, ho, hQ, by rw [ht]; exact hw, by rw [ht]; exact hS.1, fun q h1 h2 => by rw [ht]; exact hS.2.1 q h1 h2⟩
theorem g_iret {v : Int32} (hr0 : ret = some .int) (hd : gd cc pc .ireturn 1 q) (hc : Nat.ble cells RC = true) (hs : Nat.ble slots RS = true) (hQ : Q (some (.int v)) h) : gY d RC RS y cc nL ret cells slots Q pc lv [.int v] h := by
  obtain ⟨hd, rfl⟩ := hd
  intro p l e s m args below meth c G C ls H locs hl hw hS
  obtain ⟨hx, hb, hml, hown, hts, hlocks, hr, -⟩ := id C
  refine W.widen (k := RC) (n := RS) (Nat.le_of_ble_eq_true hc) (Nat.le_of_ble_eq_true hs) ?_
  exact W.iret hx hb (hr.trans hr0) (fun t ht hW => gQc_of rfl hQ hw hS ht) hS.2.2 hd (hlocks := hlocks)
theorem g_zret {v : Int32} {ty : FieldType} (hr0 : ret = some ty) (hn : narrow ty (.int v) = .int v) (hd : gd cc pc .ireturn 1 q) (hc : Nat.ble cells RC = true) (hs : Nat.ble slots RS = true) (hQ : Q (some (.int v)) h) : gY d RC RS y cc nL ret cells slots Q pc lv [.int v] h := by
  obtain ⟨hd, rfl⟩ := hd
  intro p l e s m args below meth c G C ls H locs hl hw hS
  obtain ⟨hx, hb, hml, hown, hts, hlocks, hr, -⟩ := id C
  refine W.widen (k := RC) (n := RS) (Nat.le_of_ble_eq_true hc) (Nat.le_of_ble_eq_true hs) ?_
  exact W.zret hx hb (hr.trans hr0) hn (fun t ht hW => gQc_of rfl hQ hw hS ht) hS.2.2 hd (hlocks := hlocks)
theorem g_lret {v : Int64} (hr0 : ret = some .long) (hd : gd cc pc .lreturn 1 q) (hc : Nat.ble cells RC = true) (hs : Nat.ble slots RS = true) (hQ : Q (some (.long v)) h) : gY d RC RS y cc nL ret cells slots Q pc lv [.long v] h := by
  obtain ⟨hd, rfl⟩ := hd
  intro p l e s m args below meth c G C ls H locs hl hw hS
  obtain ⟨hx, hb, hml, hown, hts, hlocks, hr, -⟩ := id C
  refine W.widen (k := RC) (n := RS) (Nat.le_of_ble_eq_true hc) (Nat.le_of_ble_eq_true hs) ?_
  exact W.lret hx hb (hr.trans hr0) (fun t ht hW => gQc_of rfl hQ hw hS ht) hS.2.2 hd (hlocks := hlocks)
theorem g_vret (hr0 : ret = none) (hd : gd cc pc .return_ 1 q) (hc : Nat.ble cells RC = true) (hs : Nat.ble slots RS = true) (hQ : Q none h) : gY d RC RS y cc nL ret cells slots Q pc lv [] h := by
  obtain ⟨hd, rfl⟩ := hd
  intro p l e s m args below meth c G C ls H locs hl hw hS
  obtain ⟨hx, hb, hml, hown, hts, hlocks, hr, -⟩ := id C
  refine W.widen (k := RC) (n := RS) (Nat.le_of_ble_eq_true hc) (Nat.le_of_ble_eq_true hs) ?_
  exact W.vret hx hb (hr.trans hr0) (fun t ht hW => gQc_of rfl hQ hw hS ht) hS.2.2 hd (hlocks := hlocks)
/-- calls: what an entry of the constant pool links to -/
def gMi (yc : MethodName) (bc : ByteArray) (mL : Nat) (rc : Option FieldType) (n : Nat) : Prop := Cond.initialized yc.cls ∈ gtb ∧ Cond.code yc bc mL rc ∈ gtb ∧ (yc.cls ≠ "java/lang/invoke/MethodHandle" ∧ yc.cls ≠ "java/lang/invoke/VarHandle" ∧ (parseMethodDescriptor yc.desc).map (fun d => d.parameters.length) = some n) ∧ mL ≤ 41
def gV (own : String) (idx : Nat) (yc : MethodName) (bc : ByteArray) (mL : Nat) (rc : Option FieldType) (ci n : Nat) : Prop := Cond.methodLink own idx yc ∈ gtb ∧ Cond.instanceMethod yc ∈ gtb ∧ Cond.selects yc.cls yc yc ∈ gtb ∧ gcl[ci]?.map (fun r => r.1) = some yc.cls ∧ ci < 11 ∧ gMi yc bc mL rc n
def gSt (own : String) (idx : Nat) (yc : MethodName) (bc : ByteArray) (mL : Nat) (rc : Option FieldType) (n : Nat) : Prop := Cond.methodLink own idx yc ∈ gtb ∧ Cond.static yc ∈ gtb ∧ gMi yc bc mL rc n
def gIn (own : String) (idx : Nat) (yc : MethodName) (bc : ByteArray) (mL n : Nat) : Prop := yc.name = "<init>" ∧ Cond.instanceMethod yc ∈ gtb ∧ gMi yc bc mL none n ∧ (Cond.methodLink own idx yc ∈ gtb ∨ ∃ host, Cond.methodLinkNest own idx yc host ∈ gnw)
theorem gPc_blind {G : Gp} {args : List Value} : FrameBlind (gPc G args h) := fun a U g mk hp => ⟨hp.1, hp.2.1, gKo.same (s := U) (U := U.calling g mk a) rfl hp.2.2⟩
theorem gPc_at {G : Gp} {As : List Value} {s : State} {H : Heap} {locs : List Loc} (hKo : gKo G s s.heap) (hw : gWh G h H) (hS : va_S (gA G) s.heap H locs) : ∀ U : State, U.heap = H → s.WarmedH U.vm → gPc G As h (As.map (gtr G)).toArray U := by
  intro U hU hW
  refine ⟨rfl, by rw [hU]; exact hw, ?_⟩
  rw [hU]
  exact gKo.warm hW hKo hS.1 hS.2.1
theorem gRoom {dc mc ms mL : Nat} (hdep : Nat.ble (dc + 1) d = true) (hm : mL ≤ 41) : (grm dc mc ms).frames + 1 ≤ (grm d RC RS).frames ∧ 8 + (mL + 11) + (grm dc mc ms).locals ≤ (grm d RC RS).locals := by
  have h1 := Nat.le_of_ble_eq_true hdep
  refine ⟨h1, ?_⟩
  show 8 + (mL + 11) + 60 * dc ≤ 60 * d
  omega
theorem gQ_sum {G : Gp} {rest : List Value} (hcat : Nat.ble (rest.map fun v => v.category).sum 8 = true) : ((rest.map (gtr G)).map fun v => v.category).sum ≤ 8 := by
  have e : (rest.map (gtr G)).map (fun v => v.category) = rest.map fun v => v.category := by
    rw [List.map_map]
    exact List.map_congr_left (fun v _ => gtr_cat G v)
  rw [e]
  exact Nat.le_of_ble_eq_true hcat
/-- behind a call -/
theorem gRun {mc ms : Nat} {Qk : Option Value → Hp → Prop} {rest st0 : List Value} {av : Array Value} {p : Program} {l : gLn} {e : Env} {s : State} {m : MethodId} {args : Array Value} {below : List Frame} {meth : Method} {c : Code} {G : Gp} {ls : Array Slot} {H : Heap} {locs : List Loc} (C : gCx y cc nL ret p s m args meth c G) (hl : lv_has ls nL (gls G 0 lv)) (hS : va_S (gA G) s.heap H locs)
    (hr : va_Run p l.1 e (grm d RC RS) s m args below meth c H locs cells slots mc ms (F0 m pc ls st0) (rest.map (gtr G)) (gQc G Qk av) (gA G)) (k : ∀ v h', Qk v h' → gY d RC RS y cc nL ret (cells + mc) (slots + ms) Q (pc + 3) lv (v.toList ++ rest) h') : W p l.1 e (grm d RC RS) s m args below meth c H locs cells slots (MQ below (gQc G Q) args s RC RS (gA G)) (F0 m pc ls st0) := by
  intro T hT X
  obtain ⟨v, st₀, t, T', L, h0, X', hL, e1, e2, ⟨v', h', hv, hQ, hw', hz, hk⟩, st⟩ := hr T hT X
  have hv' : v = v'.map (gtr G) := by injection hv
  rw [h0] at hz hk
  obtain ⟨t2, a1, b1⟩ := k v' h' hQ p l e s m args below meth c G C ls T'.heap (locs ++ L) hl (by rw [e1]; exact hw') ⟨Nat.le_trans hS.1 (by rw [e1]; exact hz), fun q h1 h2 => by rw [e1, hk q (Nat.lt_of_lt_of_le h1 hS.1) h2]; exact hS.2.1 q h1 h2, fun q hq => by
      rcases List.mem_append.mp hq with h | h
      · exact hS.2.2 q h
      · exact hL q h⟩ T' rfl X'
  refine ⟨t2, st t2 ?_, b1⟩
  have e9 : v.toList ++ rest.map (gtr G) = (v'.toList ++ rest).map (gtr G) := by
    rw [hv', List.map_append]
    cases v' <;> rfl
  show Steps p.tables e below (T'.setTop { F0 m pc ls st0 with pc := pc + 3, stack := v.toList ++ rest.map (gtr G) }) t2
  rw [e9]
  exact a1
theorem gMi_good {own : String} {idx : Nat} {yc : MethodName} {bc : ByteArray} {mL : Nat} {rc : Option FieldType} {ci n : Nat} (hl : gV own idx yc bc mL rc ci n) : GoodIn gtb (wsV own idx yc.cls yc (Cond.code yc bc mL rc :: gtb)) := by
  obtain ⟨h1, h2, h3, -, -, h4, h5, -⟩ := hl
  intro w hw
  unfold wsV at hw
  rcases List.mem_append.mp hw with hw | hw
  · simp only [List.mem_cons, List.not_mem_nil, or_false] at hw
    rcases hw with rfl | rfl | rfl | rfl
    · exact g_good _ h1
    · exact g_good _ h2
    · exact g_good _ h3
    · exact g_good _ h4
  · exact g_goodC h5 w hw
theorem g_callV {a idx ci n mL dc mc ms : Nat} {yc : MethodName} {bc : ByteArray} {rc : Option FieldType} (As rest : List Value) {Qk : Option Value → Hp → Prop} (hM : gC dc mc ms yc bc mL rc (.ref a :: As) h Qk) (hl0 : gV y.cls idx yc bc mL rc ci n) (ha : a ∈ gL h) (hk : gK h a = ci) (hn : As.length = n) (hst : st = As.reverse ++ .ref a :: rest) (hdep : Nat.ble (dc + 1) d = true) (hcat : Nat.ble (rest.map fun v => v.category).sum 8 = true) (hc : Nat.ble (cells + mc) RC = true) (hs : Nat.ble (slots + ms) RS = true) (hd : gd cc pc (.invokevirtual idx) 3 q) (k : ∀ v h', Qk v h' → gY d RC RS y cc nL ret (cells + mc) (slots + ms) Q q lv (v.toList ++ rest) h') : gY d RC RS y cc nL ret cells slots Q pc lv st h := by
  obtain ⟨hd, rfl⟩ := hd
  subst hst
  intro p l e s m args below meth c G C ls H locs hl hw hS
  obtain ⟨hx, hb, hml, hown, hts, hlocks, hr, hname, hKo⟩ := id C
  obtain ⟨hsz, hlt, hP, hD⟩ := id hw
  obtain ⟨q0, hq0⟩ := gwl_get (G := G) ha
  have hgood := gMi_good hl0
  obtain ⟨l1, l2, l3, l4, l5, l6, l7, l8, l9⟩ := hl0
  rw [gen_obj hk l5] at hq0
  cases hcl : gcl[ci]? with
  | none => rw [hcl] at l4; cases l4
  | some r =>
    rw [hcl] at l4
    have hrc : r.1 = yc.cls := Option.some.inj l4
    obtain ⟨cell, g1, g2, g3⟩ := va_recv hKo.2.1 hP hcl hq0
    rw [hrc] at g3
    have est : (As.reverse ++ .ref a :: rest).map (gtr G) = (As.map (gtr G)).reverse ++ .ref (gB G + a) :: rest.map (gtr G) := by rw [List.map_append, List.map_reverse]; rfl
    rw [est]
    exact gRun C hl hS (va_runV (As := As.map (gtr G)) (rest := rest.map (gtr G)) ⟨hx, hb, hml, hown, hts⟩ (hM l G) (cwV n hts hgood rfl rfl rfl ⟨rfl, l8⟩ (gRoom hdep l9)) ⟨gPc_blind, ⟨cell, g1, g2, g3⟩, gPc_at hKo hw hS⟩ rfl (by rw [List.length_map]; exact hn) hl.1 rfl (lv_room (gQ_sum hcat)) hd ⟨Nat.le_of_ble_eq_true hc, Nat.le_of_ble_eq_true hs⟩) k
theorem g_callS {idx n mL dc mc ms : Nat} {yc : MethodName} {bc : ByteArray} {rc : Option FieldType} (As rest : List Value) {Qk : Option Value → Hp → Prop} (hM : gC dc mc ms yc bc mL rc As h Qk) (hl0 : gSt y.cls idx yc bc mL rc n) (hn : As.length = n) (hst : st = As.reverse ++ rest) (hdep : Nat.ble (dc + 1) d = true) (hcat : Nat.ble (rest.map fun v => v.category).sum 8 = true) (hc : Nat.ble (cells + mc) RC = true) (hs : Nat.ble (slots + ms) RS = true) (hd : gd cc pc (.invokestatic idx) 3 q) (k : ∀ v h', Qk v h' → gY d RC RS y cc nL ret (cells + mc) (slots + ms) Q q lv (v.toList ++ rest) h') : gY d RC RS y cc nL ret cells slots Q pc lv st h := by
  obtain ⟨hd, rfl⟩ := hd
  subst hst
  intro p l e s m args below meth c G C ls H locs hl hw hS
  obtain ⟨hx, hb, hml, hown, hts, hlocks, hr, hname, hKo⟩ := id C
  obtain ⟨l1, l2, l6, l7, l8, l9⟩ := hl0
  have est : (As.reverse ++ rest).map (gtr G) = (As.map (gtr G)).reverse ++ rest.map (gtr G) := by rw [List.map_append, List.map_reverse]
  rw [est]
  exact gRun C hl hS (va_runS (As := As.map (gtr G)) (rest := rest.map (gtr G)) ⟨hx, hb, hml, hown, hts⟩ (hM l G) ⟨callB_of n hts (g_goodC l7) rfl rfl rfl (hts _ l6) (hts _ l1) l8 (gRoom hdep l9), hts _ l2⟩ ⟨gPc_blind, gPc_at hKo hw hS⟩ rfl (by rw [List.length_map]; exact hn) hl.1 rfl (lv_room (gQ_sum hcat)) hd ⟨Nat.le_of_ble_eq_true hc, Nat.le_of_ble_eq_true hs⟩) k
theorem g_callI {a idx n mL dc mc ms : Nat} {yc : MethodName} {bc : ByteArray} (As rest : List Value) {Qk : Option Value → Hp → Prop} (hM : gC dc mc ms yc bc mL none (.ref a :: As) h Qk) (hl0 : gIn y.cls idx yc bc mL n) (hn : As.length = n) (hst : st = As.reverse ++ .ref a :: rest) (hdep : Nat.ble (dc + 1) d = true) (hcat : Nat.ble (rest.map fun v => v.category).sum 8 = true) (hc : Nat.ble (cells + mc) RC = true) (hs : Nat.ble (slots + ms) RS = true) (hd : gd cc pc (.invokespecial idx) 3 q) (k : ∀ v h', Qk v h' → gY d RC RS y cc nL ret (cells + mc) (slots + ms) Q q lv (v.toList ++ rest) h') : gY d RC RS y cc nL ret cells slots Q pc lv st h := by
  obtain ⟨hd, rfl⟩ := hd
  subst hst
  intro p l e s m args below meth c G C ls H locs hl hw hS
  obtain ⟨hx, hb, hml, hown, hts, hlocks, hr, hname, hKo⟩ := id C
  obtain ⟨l1, l2, ⟨l6, l7, l8, l9⟩, l10⟩ := hl0
  have est : (As.reverse ++ .ref a :: rest).map (gtr G) = (As.map (gtr G)).reverse ++ .ref (gB G + a) :: rest.map (gtr G) := by rw [List.map_append, List.map_reverse]; rfl
  rw [est]
  rcases l10 with l10 | ⟨host, l10⟩
  · exact gRun C hl hS (va_runI (As := As.map (gtr G)) (rest := rest.map (gtr G)) ⟨hx, hb, hml, hown, hts⟩ (hM l G) (cwI n hts (g_goodC l7) rfl rfl rfl (hts _ l6) (hts _ l10) (hts _ l2) l1 l8 (gRoom hdep l9)) ⟨gPc_blind, gPc_at (As := .ref a :: As) hKo hw hS⟩ rfl (by rw [List.length_map]; exact hn) hl.1 rfl (lv_room (gQ_sum hcat)) hd ⟨Nat.le_of_ble_eq_true hc, Nat.le_of_ble_eq_true hs⟩) k
  · exact gRun C hl hS (va_runIN (As := As.map (gtr G)) (rest := rest.map (gtr G)) ⟨hx, hb, hml, hown, hts⟩ (hM l G) ⟨va_cnB n hts (g_goodC l7) rfl rfl rfl (hKo.2.2.1 _ l10) (hts _ l6) l8 (gRoom hdep l9), l1, hts _ l2⟩ ⟨gPc_blind, gPc_at (As := .ref a :: As) hKo hw hS⟩ rfl (by rw [List.length_map]; exact hn) hl.1 rfl (lv_room (gQ_sum hcat)) hd ⟨Nat.le_of_ble_eq_true hc, Nat.le_of_ble_eq_true hs⟩) k
/-- Object's constructor -/
theorem g_objInit {a idx : Nat} (hl1 : Cond.methodLink y.cls idx Lib.objectInit ∈ gtb) (hl2 : Cond.instanceMethod Lib.objectInit ∈ gtb) (hl3 : Cond.code Lib.objectInit ⟨#[0xb1]⟩ 1 none ∈ gtb) (hdep : Nat.ble 1 d = true) (hcat : Nat.ble (st.map fun v => v.category).sum 8 = true) (hd : gd cc pc (.invokespecial idx) 3 q) (k : gY d RC RS y cc nL ret cells slots Q q lv st h) : gY d RC RS y cc nL ret cells slots Q pc lv (.ref a :: st) h := by
  obtain ⟨hd, rfl⟩ := hd
  intro p l e s m args below meth c G C ls H locs hl hw hS
  obtain ⟨hx, hb, hml, hown, hts, -⟩ := id C
  have hd1 := Nat.le_of_ble_eq_true hdep
  refine W.objInit hx hb hown (hts _ hl1) (hts _ hl2) (hts _ hl3) rfl (hl.1.trans hml.symm) rfl hd hd1 ?_ (k p l e s m args below meth c G C ls H locs hl hw hS)
  have h1 := lv_room (m := m) (pc := pc) (ls := ls) (rest := (.ref a :: st).map (gtr G)) (gQ_sum (G := G) hcat)
  show _ ≤ 60 * d
  omega
/-- a String constant -/
theorem g_ldcS {idx : Nat} {tx : String} {n : Nat} {x : UInt32} (hin : (y.cls, idx, tx, n) ∈ gsr) (hx0 : ¬ x = 0 ∧ x.toNat - 1 = n) (hd : gd cc pc (.ldc idx) 2 q) (k : gY d RC RS y cc nL ret cells slots Q q lv (.float x :: st) h) : gY d RC RS y cc nL ret cells slots Q pc lv st h := by
  obtain ⟨hd, rfl⟩ := hd
  intro p l e s m args below meth c G C ls H locs hl hw hS
  obtain ⟨hx, hb, hml, hown, hts, -, -, -, hKo⟩ := id C
  refine va_ldcS hx hb hown (hKo.2.2.2.1 _ hin) hd ?_
  have e9 : Value.ref (gAK G n) = gtr G (.float x) := by
    show _ = Value.ref (if x = 0 then _ else _)
    rw [if_neg hx0.1, hx0.2]
  show W _ _ _ _ _ _ _ _ _ _ _ _ _ _ _ (F0 m (pc + 2) ls (Value.ref (gAK G n) :: st.map (gtr G)))
  rw [e9]
  exact k p l e s m args below meth c G C ls H locs hl hw hS
/-- weaker ends, and contracts with more room -/
theorem gC_weak {args : List Value} {Q' : Option Value → Hp → Prop} (hC : gC d RC RS y cc nL ret args h Q) (hQ : ∀ v h', Q v h' → Q' v h') : gC d RC RS y cc nL ret args h Q' := by
  intro l G p e ha hc hk s m a below hf h1 h2 h3
  obtain ⟨k, o, g1, g2, g3, ⟨v, h', q1, q2, q3⟩, q4⟩ := hC l G p e ha hc hk s m a below hf h1 h2 h3
  exact ⟨k, o, g1, g2, g3, ⟨v, h', q1, hQ v h' q2, q3⟩, q4⟩
theorem gY_weak {Q' : Option Value → Hp → Prop} (hY : gY d RC RS y cc nL ret cells slots Q pc lv st h) (hQ : ∀ v h', Q v h' → Q' v h') : gY d RC RS y cc nL ret cells slots Q' pc lv st h := by
  intro p l e s m args below meth c G C ls H locs hl hw hS T hT X
  obtain ⟨t, a1, o, b1, b2, ⟨v, h', q1, q2, q3⟩, b4⟩ := hY p l e s m args below meth c G C ls H locs hl hw hS T hT X
  exact ⟨t, a1, o, b1, b2, ⟨v, h', q1, hQ v h' q2, q3⟩, b4⟩

theorem g_v0  {a idx ci mL dc mc ms : Nat} {yc : MethodName} {bc : ByteArray} {rc : Option FieldType} {Qk : Option Value → Hp → Prop} (hM : gC dc mc ms yc bc mL rc (.ref a :: []) h Qk) (hl0 : gV y.cls idx yc bc mL rc ci 0) (hd : gd cc pc (.invokevirtual idx) 3 q) (ha : a ∈ gL h) (hk : gK h a = ci) (hdep : Nat.ble (dc + 1) d = true) (hcat : Nat.ble (st.map fun v => v.category).sum 8 = true) (hc : Nat.ble (cells + mc) RC = true) (hs : Nat.ble (slots + ms) RS = true) (k : ∀ v h', Qk v h' → gY d RC RS y cc nL ret (cells + mc) (slots + ms) Q q lv (v.toList ++ st) h') : gY d RC RS y cc nL ret cells slots Q pc lv (.ref a :: st) h := g_callV [] st hM hl0 ha hk rfl rfl hdep hcat hc hs hd k
theorem g_s0  {idx mL dc mc ms : Nat} {yc : MethodName} {bc : ByteArray} {rc : Option FieldType} {Qk : Option Value → Hp → Prop} (hM : gC dc mc ms yc bc mL rc [] h Qk) (hl0 : gSt y.cls idx yc bc mL rc 0) (hd : gd cc pc (.invokestatic idx) 3 q) (hdep : Nat.ble (dc + 1) d = true) (hcat : Nat.ble (st.map fun v => v.category).sum 8 = true) (hc : Nat.ble (cells + mc) RC = true) (hs : Nat.ble (slots + ms) RS = true) (k : ∀ v h', Qk v h' → gY d RC RS y cc nL ret (cells + mc) (slots + ms) Q q lv (v.toList ++ st) h') : gY d RC RS y cc nL ret cells slots Q pc lv (st) h := g_callS [] st hM hl0 rfl rfl hdep hcat hc hs hd k
theorem g_n0  {a idx mL dc mc ms : Nat} {yc : MethodName} {bc : ByteArray} {Qk : Option Value → Hp → Prop} (hM : gC dc mc ms yc bc mL none (.ref a :: []) h Qk) (hl0 : gIn y.cls idx yc bc mL 0) (hd : gd cc pc (.invokespecial idx) 3 q) (hdep : Nat.ble (dc + 1) d = true) (hcat : Nat.ble (st.map fun v => v.category).sum 8 = true) (hc : Nat.ble (cells + mc) RC = true) (hs : Nat.ble (slots + ms) RS = true) (k : ∀ v h', Qk v h' → gY d RC RS y cc nL ret (cells + mc) (slots + ms) Q q lv (v.toList ++ st) h') : gY d RC RS y cc nL ret cells slots Q pc lv (.ref a :: st) h := g_callI [] st hM hl0 rfl rfl hdep hcat hc hs hd k
theorem g_v1 {x1 : Value} {a idx ci mL dc mc ms : Nat} {yc : MethodName} {bc : ByteArray} {rc : Option FieldType} {Qk : Option Value → Hp → Prop} (hM : gC dc mc ms yc bc mL rc (.ref a :: [x1]) h Qk) (hl0 : gV y.cls idx yc bc mL rc ci 1) (hd : gd cc pc (.invokevirtual idx) 3 q) (ha : a ∈ gL h) (hk : gK h a = ci) (hdep : Nat.ble (dc + 1) d = true) (hcat : Nat.ble (st.map fun v => v.category).sum 8 = true) (hc : Nat.ble (cells + mc) RC = true) (hs : Nat.ble (slots + ms) RS = true) (k : ∀ v h', Qk v h' → gY d RC RS y cc nL ret (cells + mc) (slots + ms) Q q lv (v.toList ++ st) h') : gY d RC RS y cc nL ret cells slots Q pc lv (x1 :: .ref a :: st) h := g_callV [x1] st hM hl0 ha hk rfl rfl hdep hcat hc hs hd k
theorem g_s1 {x1 : Value} {idx mL dc mc ms : Nat} {yc : MethodName} {bc : ByteArray} {rc : Option FieldType} {Qk : Option Value → Hp → Prop} (hM : gC dc mc ms yc bc mL rc [x1] h Qk) (hl0 : gSt y.cls idx yc bc mL rc 1) (hd : gd cc pc (.invokestatic idx) 3 q) (hdep : Nat.ble (dc + 1) d = true) (hcat : Nat.ble (st.map fun v => v.category).sum 8 = true) (hc : Nat.ble (cells + mc) RC = true) (hs : Nat.ble (slots + ms) RS = true) (k : ∀ v h', Qk v h' → gY d RC RS y cc nL ret (cells + mc) (slots + ms) Q q lv (v.toList ++ st) h') : gY d RC RS y cc nL ret cells slots Q pc lv (x1 :: st) h := g_callS [x1] st hM hl0 rfl rfl hdep hcat hc hs hd k
theorem g_n1 {x1 : Value} {a idx mL dc mc ms : Nat} {yc : MethodName} {bc : ByteArray} {Qk : Option Value → Hp → Prop} (hM : gC dc mc ms yc bc mL none (.ref a :: [x1]) h Qk) (hl0 : gIn y.cls idx yc bc mL 1) (hd : gd cc pc (.invokespecial idx) 3 q) (hdep : Nat.ble (dc + 1) d = true) (hcat : Nat.ble (st.map fun v => v.category).sum 8 = true) (hc : Nat.ble (cells + mc) RC = true) (hs : Nat.ble (slots + ms) RS = true) (k : ∀ v h', Qk v h' → gY d RC RS y cc nL ret (cells + mc) (slots + ms) Q q lv (v.toList ++ st) h') : gY d RC RS y cc nL ret cells slots Q pc lv (x1 :: .ref a :: st) h := g_callI [x1] st hM hl0 rfl rfl hdep hcat hc hs hd k
theorem g_v2 {x1 x2 : Value} {a idx ci mL dc mc ms : Nat} {yc : MethodName} {bc : ByteArray} {rc : Option FieldType} {Qk : Option Value → Hp → Prop} (hM : gC dc mc ms yc bc mL rc (.ref a :: [x1, x2]) h Qk) (hl0 : gV y.cls idx yc bc mL rc ci 2) (hd : gd cc pc (.invokevirtual idx) 3 q) (ha : a ∈ gL h) (hk : gK h a = ci) (hdep : Nat.ble (dc + 1) d = true) (hcat : Nat.ble (st.map fun v => v.category).sum 8 = true) (hc : Nat.ble (cells + mc) RC = true) (hs : Nat.ble (slots + ms) RS = true) (k : ∀ v h', Qk v h' → gY d RC RS y cc nL ret (cells + mc) (slots + ms) Q q lv (v.toList ++ st) h') : gY d RC RS y cc nL ret cells slots Q pc lv (x2 :: x1 :: .ref a :: st) h := g_callV [x1, x2] st hM hl0 ha hk rfl rfl hdep hcat hc hs hd k
theorem g_s2 {x1 x2 : Value} {idx mL dc mc ms : Nat} {yc : MethodName} {bc : ByteArray} {rc : Option FieldType} {Qk : Option Value → Hp → Prop} (hM : gC dc mc ms yc bc mL rc [x1, x2] h Qk) (hl0 : gSt y.cls idx yc bc mL rc 2) (hd : gd cc pc (.invokestatic idx) 3 q) (hdep : Nat.ble (dc + 1) d = true) (hcat : Nat.ble (st.map fun v => v.category).sum 8 = true) (hc : Nat.ble (cells + mc) RC = true) (hs : Nat.ble (slots + ms) RS = true) (k : ∀ v h', Qk v h' → gY d RC RS y cc nL ret (cells + mc) (slots + ms) Q q lv (v.toList ++ st) h') : gY d RC RS y cc nL ret cells slots Q pc lv (x2 :: x1 :: st) h := g_callS [x1, x2] st hM hl0 rfl rfl hdep hcat hc hs hd k
theorem g_n2 {x1 x2 : Value} {a idx mL dc mc ms : Nat} {yc : MethodName} {bc : ByteArray} {Qk : Option Value → Hp → Prop} (hM : gC dc mc ms yc bc mL none (.ref a :: [x1, x2]) h Qk) (hl0 : gIn y.cls idx yc bc mL 2) (hd : gd cc pc (.invokespecial idx) 3 q) (hdep : Nat.ble (dc + 1) d = true) (hcat : Nat.ble (st.map fun v => v.category).sum 8 = true) (hc : Nat.ble (cells + mc) RC = true) (hs : Nat.ble (slots + ms) RS = true) (k : ∀ v h', Qk v h' → gY d RC RS y cc nL ret (cells + mc) (slots + ms) Q q lv (v.toList ++ st) h') : gY d RC RS y cc nL ret cells slots Q pc lv (x2 :: x1 :: .ref a :: st) h := g_callI [x1, x2] st hM hl0 rfl rfl hdep hcat hc hs hd k
theorem g_v3 {x1 x2 x3 : Value} {a idx ci mL dc mc ms : Nat} {yc : MethodName} {bc : ByteArray} {rc : Option FieldType} {Qk : Option Value → Hp → Prop} (hM : gC dc mc ms yc bc mL rc (.ref a :: [x1, x2, x3]) h Qk) (hl0 : gV y.cls idx yc bc mL rc ci 3) (hd : gd cc pc (.invokevirtual idx) 3 q) (ha : a ∈ gL h) (hk : gK h a = ci) (hdep : Nat.ble (dc + 1) d = true) (hcat : Nat.ble (st.map fun v => v.category).sum 8 = true) (hc : Nat.ble (cells + mc) RC = true) (hs : Nat.ble (slots + ms) RS = true) (k : ∀ v h', Qk v h' → gY d RC RS y cc nL ret (cells + mc) (slots + ms) Q q lv (v.toList ++ st) h') : gY d RC RS y cc nL ret cells slots Q pc lv (x3 :: x2 :: x1 :: .ref a :: st) h := g_callV [x1, x2, x3] st hM hl0 ha hk rfl rfl hdep hcat hc hs hd k
theorem g_s3 {x1 x2 x3 : Value} {idx mL dc mc ms : Nat} {yc : MethodName} {bc : ByteArray} {rc : Option FieldType} {Qk : Option Value → Hp → Prop} (hM : gC dc mc ms yc bc mL rc [x1, x2, x3] h Qk) (hl0 : gSt y.cls idx yc bc mL rc 3) (hd : gd cc pc (.invokestatic idx) 3 q) (hdep : Nat.ble (dc + 1) d = true) (hcat : Nat.ble (st.map fun v => v.category).sum 8 = true) (hc : Nat.ble (cells + mc) RC = true) (hs : Nat.ble (slots + ms) RS = true) (k : ∀ v h', Qk v h' → gY d RC RS y cc nL ret (cells + mc) (slots + ms) Q q lv (v.toList ++ st) h') : gY d RC RS y cc nL ret cells slots Q pc lv (x3 :: x2 :: x1 :: st) h := g_callS [x1, x2, x3] st hM hl0 rfl rfl hdep hcat hc hs hd k
theorem g_v4 {x1 x2 x3 x4 : Value} {a idx ci mL dc mc ms : Nat} {yc : MethodName} {bc : ByteArray} {rc : Option FieldType} {Qk : Option Value → Hp → Prop} (hM : gC dc mc ms yc bc mL rc (.ref a :: [x1, x2, x3, x4]) h Qk) (hl0 : gV y.cls idx yc bc mL rc ci 4) (hd : gd cc pc (.invokevirtual idx) 3 q) (ha : a ∈ gL h) (hk : gK h a = ci) (hdep : Nat.ble (dc + 1) d = true) (hcat : Nat.ble (st.map fun v => v.category).sum 8 = true) (hc : Nat.ble (cells + mc) RC = true) (hs : Nat.ble (slots + ms) RS = true) (k : ∀ v h', Qk v h' → gY d RC RS y cc nL ret (cells + mc) (slots + ms) Q q lv (v.toList ++ st) h') : gY d RC RS y cc nL ret cells slots Q pc lv (x4 :: x3 :: x2 :: x1 :: .ref a :: st) h := g_callV [x1, x2, x3, x4] st hM hl0 ha hk rfl rfl hdep hcat hc hs hd k
theorem g_s4 {x1 x2 x3 x4 : Value} {idx mL dc mc ms : Nat} {yc : MethodName} {bc : ByteArray} {rc : Option FieldType} {Qk : Option Value → Hp → Prop} (hM : gC dc mc ms yc bc mL rc [x1, x2, x3, x4] h Qk) (hl0 : gSt y.cls idx yc bc mL rc 4) (hd : gd cc pc (.invokestatic idx) 3 q) (hdep : Nat.ble (dc + 1) d = true) (hcat : Nat.ble (st.map fun v => v.category).sum 8 = true) (hc : Nat.ble (cells + mc) RC = true) (hs : Nat.ble (slots + ms) RS = true) (k : ∀ v h', Qk v h' → gY d RC RS y cc nL ret (cells + mc) (slots + ms) Q q lv (v.toList ++ st) h') : gY d RC RS y cc nL ret cells slots Q pc lv (x4 :: x3 :: x2 :: x1 :: st) h := g_callS [x1, x2, x3, x4] st hM hl0 rfl rfl hdep hcat hc hs hd k
theorem g_v5 {x1 x2 x3 x4 x5 : Value} {a idx ci mL dc mc ms : Nat} {yc : MethodName} {bc : ByteArray} {rc : Option FieldType} {Qk : Option Value → Hp → Prop} (hM : gC dc mc ms yc bc mL rc (.ref a :: [x1, x2, x3, x4, x5]) h Qk) (hl0 : gV y.cls idx yc bc mL rc ci 5) (hd : gd cc pc (.invokevirtual idx) 3 q) (ha : a ∈ gL h) (hk : gK h a = ci) (hdep : Nat.ble (dc + 1) d = true) (hcat : Nat.ble (st.map fun v => v.category).sum 8 = true) (hc : Nat.ble (cells + mc) RC = true) (hs : Nat.ble (slots + ms) RS = true) (k : ∀ v h', Qk v h' → gY d RC RS y cc nL ret (cells + mc) (slots + ms) Q q lv (v.toList ++ st) h') : gY d RC RS y cc nL ret cells slots Q pc lv (x5 :: x4 :: x3 :: x2 :: x1 :: .ref a :: st) h := g_callV [x1, x2, x3, x4, x5] st hM hl0 ha hk rfl rfl hdep hcat hc hs hd k
theorem g_s5 {x1 x2 x3 x4 x5 : Value} {idx mL dc mc ms : Nat} {yc : MethodName} {bc : ByteArray} {rc : Option FieldType} {Qk : Option Value → Hp → Prop} (hM : gC dc mc ms yc bc mL rc [x1, x2, x3, x4, x5] h Qk) (hl0 : gSt y.cls idx yc bc mL rc 5) (hd : gd cc pc (.invokestatic idx) 3 q) (hdep : Nat.ble (dc + 1) d = true) (hcat : Nat.ble (st.map fun v => v.category).sum 8 = true) (hc : Nat.ble (cells + mc) RC = true) (hs : Nat.ble (slots + ms) RS = true) (k : ∀ v h', Qk v h' → gY d RC RS y cc nL ret (cells + mc) (slots + ms) Q q lv (v.toList ++ st) h') : gY d RC RS y cc nL ret cells slots Q pc lv (x5 :: x4 :: x3 :: x2 :: x1 :: st) h := g_callS [x1, x2, x3, x4, x5] st hM hl0 rfl rfl hdep hcat hc hs hd k
theorem g_v6 {x1 x2 x3 x4 x5 x6 : Value} {a idx ci mL dc mc ms : Nat} {yc : MethodName} {bc : ByteArray} {rc : Option FieldType} {Qk : Option Value → Hp → Prop} (hM : gC dc mc ms yc bc mL rc (.ref a :: [x1, x2, x3, x4, x5, x6]) h Qk) (hl0 : gV y.cls idx yc bc mL rc ci 6) (hd : gd cc pc (.invokevirtual idx) 3 q) (ha : a ∈ gL h) (hk : gK h a = ci) (hdep : Nat.ble (dc + 1) d = true) (hcat : Nat.ble (st.map fun v => v.category).sum 8 = true) (hc : Nat.ble (cells + mc) RC = true) (hs : Nat.ble (slots + ms) RS = true) (k : ∀ v h', Qk v h' → gY d RC RS y cc nL ret (cells + mc) (slots + ms) Q q lv (v.toList ++ st) h') : gY d RC RS y cc nL ret cells slots Q pc lv (x6 :: x5 :: x4 :: x3 :: x2 :: x1 :: .ref a :: st) h := g_callV [x1, x2, x3, x4, x5, x6] st hM hl0 ha hk rfl rfl hdep hcat hc hs hd k
theorem g_s6 {x1 x2 x3 x4 x5 x6 : Value} {idx mL dc mc ms : Nat} {yc : MethodName} {bc : ByteArray} {rc : Option FieldType} {Qk : Option Value → Hp → Prop} (hM : gC dc mc ms yc bc mL rc [x1, x2, x3, x4, x5, x6] h Qk) (hl0 : gSt y.cls idx yc bc mL rc 6) (hd : gd cc pc (.invokestatic idx) 3 q) (hdep : Nat.ble (dc + 1) d = true) (hcat : Nat.ble (st.map fun v => v.category).sum 8 = true) (hc : Nat.ble (cells + mc) RC = true) (hs : Nat.ble (slots + ms) RS = true) (k : ∀ v h', Qk v h' → gY d RC RS y cc nL ret (cells + mc) (slots + ms) Q q lv (v.toList ++ st) h') : gY d RC RS y cc nL ret cells slots Q pc lv (x6 :: x5 :: x4 :: x3 :: x2 :: x1 :: st) h := g_callS [x1, x2, x3, x4, x5, x6] st hM hl0 rfl rfl hdep hcat hc hs hd k
end GCL

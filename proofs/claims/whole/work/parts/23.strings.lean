/-! String constants: length() and charAt(i) over the JDK's own code -/
theorem pn_J0 : plainName RJ0 = true := by decide +kernel
theorem pn_J1 : plainName RJ1 = true := by decide +kernel
theorem pn_J3 : plainName RJ3 = true := by decide +kernel
theorem dJ0_coder_7d493_0 : decode cJ0_coder_7d493 0 = .ok (.getstatic 38, 3) := by decide +kernel
theorem dJ0_coder_7d493_3 : decode cJ0_coder_7d493 3 = .ok (.ifCond .eq 10, 3) := by decide +kernel
theorem dJ0_coder_7d493_6 : decode cJ0_coder_7d493 6 = .ok (.aload_n 0, 1) := by decide +kernel
theorem dJ0_coder_7d493_7 : decode cJ0_coder_7d493 7 = .ok (.getfield 15, 3) := by decide +kernel
theorem dJ0_coder_7d493_10 : decode cJ0_coder_7d493 10 = .ok (.goto 4, 3) := by decide +kernel
theorem dJ0_coder_7d493_13 : decode cJ0_coder_7d493 13 = .ok (.iconst 1, 1) := by decide +kernel
theorem dJ0_coder_7d493_14 : decode cJ0_coder_7d493 14 = .ok (.ireturn, 1) := by decide +kernel
theorem dJ0_isLatin1_aae02_0 : decode cJ0_isLatin1_aae02 0 = .ok (.getstatic 38, 3) := by decide +kernel
theorem dJ0_isLatin1_aae02_3 : decode cJ0_isLatin1_aae02 3 = .ok (.ifCond .eq 14, 3) := by decide +kernel
theorem dJ0_isLatin1_aae02_6 : decode cJ0_isLatin1_aae02 6 = .ok (.aload_n 0, 1) := by decide +kernel
theorem dJ0_isLatin1_aae02_7 : decode cJ0_isLatin1_aae02 7 = .ok (.getfield 15, 3) := by decide +kernel
theorem dJ0_isLatin1_aae02_10 : decode cJ0_isLatin1_aae02 10 = .ok (.ifCond .ne 7, 3) := by decide +kernel
theorem dJ0_isLatin1_aae02_13 : decode cJ0_isLatin1_aae02 13 = .ok (.iconst 1, 1) := by decide +kernel
theorem dJ0_isLatin1_aae02_14 : decode cJ0_isLatin1_aae02 14 = .ok (.goto 4, 3) := by decide +kernel
theorem dJ0_isLatin1_aae02_17 : decode cJ0_isLatin1_aae02 17 = .ok (.iconst 0, 1) := by decide +kernel
theorem dJ0_isLatin1_aae02_18 : decode cJ0_isLatin1_aae02 18 = .ok (.ireturn, 1) := by decide +kernel
theorem dJ0_length_8abf5_0 : decode cJ0_length_8abf5 0 = .ok (.aload_n 0, 1) := by decide +kernel
theorem dJ0_length_8abf5_1 : decode cJ0_length_8abf5 1 = .ok (.getfield 9, 3) := by decide +kernel
theorem dJ0_length_8abf5_4 : decode cJ0_length_8abf5 4 = .ok (.arraylength, 1) := by decide +kernel
theorem dJ0_length_8abf5_5 : decode cJ0_length_8abf5 5 = .ok (.aload_n 0, 1) := by decide +kernel
theorem dJ0_length_8abf5_6 : decode cJ0_length_8abf5 6 = .ok (.invokevirtual 335, 3) := by decide +kernel
theorem dJ0_length_8abf5_9 : decode cJ0_length_8abf5 9 = .ok (.ishr, 1) := by decide +kernel
theorem dJ0_length_8abf5_10 : decode cJ0_length_8abf5 10 = .ok (.ireturn, 1) := by decide +kernel
theorem dJ0_charAt_5068e_0 : decode cJ0_charAt_5068e 0 = .ok (.aload_n 0, 1) := by decide +kernel
theorem dJ0_charAt_5068e_1 : decode cJ0_charAt_5068e 1 = .ok (.invokevirtual 492, 3) := by decide +kernel
theorem dJ0_charAt_5068e_4 : decode cJ0_charAt_5068e 4 = .ok (.ifCond .eq 12, 3) := by decide +kernel
theorem dJ0_charAt_5068e_7 : decode cJ0_charAt_5068e 7 = .ok (.aload_n 0, 1) := by decide +kernel
theorem dJ0_charAt_5068e_8 : decode cJ0_charAt_5068e 8 = .ok (.getfield 9, 3) := by decide +kernel
theorem dJ0_charAt_5068e_11 : decode cJ0_charAt_5068e 11 = .ok (.iload_n 1, 1) := by decide +kernel
theorem dJ0_charAt_5068e_12 : decode cJ0_charAt_5068e 12 = .ok (.invokestatic 495, 3) := by decide +kernel
theorem dJ0_charAt_5068e_15 : decode cJ0_charAt_5068e 15 = .ok (.ireturn, 1) := by decide +kernel
theorem dJ0_charAt_5068e_16 : decode cJ0_charAt_5068e 16 = .ok (.aload_n 0, 1) := by decide +kernel
theorem dJ0_charAt_5068e_17 : decode cJ0_charAt_5068e 17 = .ok (.getfield 9, 3) := by decide +kernel
theorem dJ0_charAt_5068e_20 : decode cJ0_charAt_5068e 20 = .ok (.iload_n 1, 1) := by decide +kernel
theorem dJ0_charAt_5068e_21 : decode cJ0_charAt_5068e 21 = .ok (.invokestatic 498, 3) := by decide +kernel
theorem dJ0_charAt_5068e_24 : decode cJ0_charAt_5068e 24 = .ok (.ireturn, 1) := by decide +kernel
theorem dJ0_checkIndex_df160_0 : decode cJ0_checkIndex_df160 0 = .ok (.iload_n 0, 1) := by decide +kernel
theorem dJ0_checkIndex_df160_1 : decode cJ0_checkIndex_df160 1 = .ok (.iload_n 1, 1) := by decide +kernel
theorem dJ0_checkIndex_df160_2 : decode cJ0_checkIndex_df160 2 = .ok (.getstatic 1053, 3) := by decide +kernel
theorem dJ0_checkIndex_df160_5 : decode cJ0_checkIndex_df160 5 = .ok (.invokestatic 1059, 3) := by decide +kernel
theorem dJ0_checkIndex_df160_8 : decode cJ0_checkIndex_df160 8 = .ok (.pop, 1) := by decide +kernel
theorem dJ0_checkIndex_df160_9 : decode cJ0_checkIndex_df160 9 = .ok (.return_, 1) := by decide +kernel
theorem dJ1_charAt_3b067_0 : decode cJ1_charAt_3b067 0 = .ok (.iload_n 1, 1) := by decide +kernel
theorem dJ1_charAt_3b067_1 : decode cJ1_charAt_3b067 1 = .ok (.aload_n 0, 1) := by decide +kernel
theorem dJ1_charAt_3b067_2 : decode cJ1_charAt_3b067 2 = .ok (.arraylength, 1) := by decide +kernel
theorem dJ1_charAt_3b067_3 : decode cJ1_charAt_3b067 3 = .ok (.invokestatic 9, 3) := by decide +kernel
theorem dJ1_charAt_3b067_6 : decode cJ1_charAt_3b067 6 = .ok (.aload_n 0, 1) := by decide +kernel
theorem dJ1_charAt_3b067_7 : decode cJ1_charAt_3b067 7 = .ok (.iload_n 1, 1) := by decide +kernel
theorem dJ1_charAt_3b067_8 : decode cJ1_charAt_3b067 8 = .ok (.baload, 1) := by decide +kernel
theorem dJ1_charAt_3b067_9 : decode cJ1_charAt_3b067 9 = .ok (.sipush 255, 3) := by decide +kernel
theorem dJ1_charAt_3b067_12 : decode cJ1_charAt_3b067 12 = .ok (.iand, 1) := by decide +kernel
theorem dJ1_charAt_3b067_13 : decode cJ1_charAt_3b067 13 = .ok (.i2c, 1) := by decide +kernel
theorem dJ1_charAt_3b067_14 : decode cJ1_charAt_3b067 14 = .ok (.ireturn, 1) := by decide +kernel
theorem dJ3_checkIndex_8e157_0 : decode cJ3_checkIndex_8e157 0 = .ok (.iload_n 0, 1) := by decide +kernel
theorem dJ3_checkIndex_8e157_1 : decode cJ3_checkIndex_8e157 1 = .ok (.ifCond .lt 8, 3) := by decide +kernel
theorem dJ3_checkIndex_8e157_4 : decode cJ3_checkIndex_8e157 4 = .ok (.iload_n 0, 1) := by decide +kernel
theorem dJ3_checkIndex_8e157_5 : decode cJ3_checkIndex_8e157 5 = .ok (.iload_n 1, 1) := by decide +kernel
theorem dJ3_checkIndex_8e157_6 : decode cJ3_checkIndex_8e157 6 = .ok (.if_icmp .lt 10, 3) := by decide +kernel
theorem dJ3_checkIndex_8e157_9 : decode cJ3_checkIndex_8e157 9 = .ok (.aload_n 2, 1) := by decide +kernel
theorem dJ3_checkIndex_8e157_10 : decode cJ3_checkIndex_8e157 10 = .ok (.iload_n 0, 1) := by decide +kernel
theorem dJ3_checkIndex_8e157_11 : decode cJ3_checkIndex_8e157 11 = .ok (.iload_n 1, 1) := by decide +kernel
theorem dJ3_checkIndex_8e157_12 : decode cJ3_checkIndex_8e157 12 = .ok (.invokestatic 95, 3) := by decide +kernel
theorem dJ3_checkIndex_8e157_15 : decode cJ3_checkIndex_8e157 15 = .ok (.athrow, 1) := by decide +kernel
theorem dJ3_checkIndex_8e157_16 : decode cJ3_checkIndex_8e157 16 = .ok (.iload_n 0, 1) := by decide +kernel
theorem dJ3_checkIndex_8e157_17 : decode cJ3_checkIndex_8e157 17 = .ok (.ireturn, 1) := by decide +kernel
/-- a contract of a method that only reads: its arguments by what a run doesn't choose -/
def sPc (G : Gp) (av : List Value) : Array Value → State → Prop := fun a U => a = av.toArray ∧ gKo G U U.heap
def sQc (r : Option Value) : Array Value → State → Outcome → State → Prop := fun _ st o t => o = .returned r ∧ t.heap = st.heap
def sC (d : Nat) (y : MethodName) (cc : ByteArray) (nL : Nat) (ret : Option FieldType) (av : Gp → List Value) (r : Option Value) : Prop := ∀ (l : gLn) (G : Gp), Met l.1 y (.code y cc nL ret :: gtb) (grm d 0 0) (sPc G (av G)) (sQc r) 0 0 (fun _ => False)
section SCs
variable {p : Program} {l : Launch} {e : Env} {R : Room} {s : State} {m : MethodId} {args : Array Value} {below : List Frame} {meth : Method} {c : Code} {H : Heap} {locs : List Loc} {cells slots pc : Nat} {Q : State → Prop} {ls : Array Slot} {G : Gp}
theorem sPc_blind {av : List Value} : FrameBlind (sPc G av) := fun a U g mk hp => ⟨hp.1, gKo.same (s := U) (U := U.calling g mk a) rfl hp.2⟩
theorem sPc_at {av : List Value} (hKo : gKo G s s.heap) (hS : va_S (gA G) s.heap H locs) : ∀ U : State, U.heap = H → s.WarmedH U.vm → sPc G av av.toArray U := by
  intro U hU hW
  refine ⟨rfl, ?_⟩
  rw [hU]
  exact gKo.warm hW hKo hS.1 hS.2.1
theorem sRun {r : Option Value} {rest st0 : List Value} {av : Array Value} (hr : va_Run p l e R s m args below meth c H locs cells slots 0 0 (F0 m pc ls st0) rest (sQc r av) (fun _ => False)) (k : W p l e R s m args below meth c H locs cells slots Q (F0 m (pc + 3) ls (r.toList ++ rest))) : W p l e R s m args below meth c H locs cells slots Q (F0 m pc ls st0) := by
  intro T hT X
  obtain ⟨v, st₀, t, T', L, h0, X', hL, e1, e2, ⟨hv, hh⟩, st⟩ := hr T hT X
  cases hv
  obtain ⟨t2, a1, b1⟩ := k T' (by rw [e1, hh, h0]) (Stand.forget X' (fun q h => (hL q h).elim))
  exact ⟨t2, st t2 a1, b1⟩
theorem sgood {own : String} {idx : Nat} {yc : MethodName} {bc : ByteArray} {mL : Nat} {rc : Option FieldType} (h1 : Cond.methodLink own idx yc ∈ gtb) (h2 : Cond.instanceMethod yc ∈ gtb) (h3 : Cond.selects yc.cls yc yc ∈ gtb) (h4 : Cond.initialized yc.cls ∈ gtb) (h5 : Cond.code yc bc mL rc ∈ gtb) : GoodIn gtb (wsV own idx yc.cls yc (Cond.code yc bc mL rc :: gtb)) := by
  intro w hw
  unfold wsV at hw
  rcases List.mem_append.mp hw with hw | hw
  · simp only [List.mem_cons, List.not_mem_nil, or_false] at hw
    rcases hw with rfl | rfl | rfl | rfl
    · exact g_good _ h1
    · exact g_good _ h2
    · exact g_good _ h3
    · exact g_good _ h4
  · exact g_goodC h5 w hw
theorem s_recv {i : Nat} (hi : i < 36) (hKo : gKo G s s.heap) (hS : va_S (gA G) s.heap H locs) : ∃ cell : Cell, H[gAK G i]? = some cell ∧ cell.vm.isStatics = false ∧ s.vm.findClass "java/lang/String" = some cell.cls := by
  obtain ⟨cell, h1, h2, h3, -⟩ := (hKo.2.2.2.2.1.1 i hi).1.kept hS.2.1
  exact ⟨cell, h1, h2, h3⟩
end SCs
theorem s_coder {i : Nat} (hi : i < 36) : sC 0 yJ0_coder_7d493 cJ0_coder_7d493 1 (some .byte) (fun G => [.ref (gAK G i)]) (some (.int 0)) := by
  intro l G
  refine Met.ofW (cc := cJ0_coder_7d493) (maxL := 1) (ret := (some .byte)) pn_J0 rfl ?_
  intro p e s m av below meth c s₁ B hml hv
  obtain ⟨rfl, hKo⟩ := hv
  have hx := B.exec
  have hb := B.bytes
  have hr := B.returns
  have hts : ∀ w ∈ gtb, w.before _ s = true := fun w hw => atoms_spec (ws := .code yJ0_coder_7d493 cJ0_coder_7d493 1 (some .byte) :: gtb) B.pre w (List.mem_cons_of_mem _ hw)
  have hown : s.vm.findClass RJ0 = some m.cls := findClass_of_methodNamed B.named
  have hlocks := B.notSynchronized
  have hS : va_S (gA G) s.heap s.heap [] := va_S.rf
  have hStr := hKo.2.2.2.2.1
  have hl := lv_entry ([.ref (gAK G i)]) (n := 1) (Nat.le_of_ble_eq_true rfl)
  rw [lg_entry_eq]
  generalize (lg_sl ([.ref (gAK G i)]) ++ List.replicate (1 - (lg_sl ([.ref (gAK G i)])).length) Slot.unset).toArray = ls at hl ⊢
  have hl : lv_has ls 1 [(0, .ref (gAK G i))] := hl
  refine va_gets hx hb hStr.2.1 hS hown (hts _ (gk2 195 rfl rfl)) (fun _ z => z) dJ0_coder_7d493_0 ?_
  refine lv_if_eq (tgt := 13) hx hb dJ0_coder_7d493_3 (by decide) (fun z => absurd z (by decide)) (fun _ => ?_)
  refine lv_aload_n hx hb dJ0_coder_7d493_6 rfl (lv_at hl 0 rfl) ?_
  refine vk_getf hx hb (hStr.1 i hi).2.1 hS hown (hts _ (gk9 33 rfl rfl)) (fun _ z => z) dJ0_coder_7d493_7 ?_
  refine lv_goto (tgt := 14) hx hb dJ0_coder_7d493_10 (by decide) ?_
  exact W.zret hx hb hr rfl (fun t ht hW => ⟨rfl, ht⟩) (fun q h => by cases h) dJ0_coder_7d493_14 (hlocks := hlocks)
theorem s_isLatin1 {i : Nat} (hi : i < 36) : sC 0 yJ0_isLatin1_aae02 cJ0_isLatin1_aae02 1 (some .boolean) (fun G => [.ref (gAK G i)]) (some (.int 1)) := by
  intro l G
  refine Met.ofW (cc := cJ0_isLatin1_aae02) (maxL := 1) (ret := (some .boolean)) pn_J0 rfl ?_
  intro p e s m av below meth c s₁ B hml hv
  obtain ⟨rfl, hKo⟩ := hv
  have hx := B.exec
  have hb := B.bytes
  have hr := B.returns
  have hts : ∀ w ∈ gtb, w.before _ s = true := fun w hw => atoms_spec (ws := .code yJ0_isLatin1_aae02 cJ0_isLatin1_aae02 1 (some .boolean) :: gtb) B.pre w (List.mem_cons_of_mem _ hw)
  have hown : s.vm.findClass RJ0 = some m.cls := findClass_of_methodNamed B.named
  have hlocks := B.notSynchronized
  have hS : va_S (gA G) s.heap s.heap [] := va_S.rf
  have hStr := hKo.2.2.2.2.1
  have hl := lv_entry ([.ref (gAK G i)]) (n := 1) (Nat.le_of_ble_eq_true rfl)
  rw [lg_entry_eq]
  generalize (lg_sl ([.ref (gAK G i)]) ++ List.replicate (1 - (lg_sl ([.ref (gAK G i)])).length) Slot.unset).toArray = ls at hl ⊢
  have hl : lv_has ls 1 [(0, .ref (gAK G i))] := hl
  refine va_gets hx hb hStr.2.1 hS hown (hts _ (gk2 195 rfl rfl)) (fun _ z => z) dJ0_isLatin1_aae02_0 ?_
  refine lv_if_eq (tgt := 17) hx hb dJ0_isLatin1_aae02_3 (by decide) (fun z => absurd z (by decide)) (fun _ => ?_)
  refine lv_aload_n hx hb dJ0_isLatin1_aae02_6 rfl (lv_at hl 0 rfl) ?_
  refine vk_getf hx hb (hStr.1 i hi).2.1 hS hown (hts _ (gk9 33 rfl rfl)) (fun _ z => z) dJ0_isLatin1_aae02_7 ?_
  refine lv_if_ne (tgt := 17) hx hb dJ0_isLatin1_aae02_10 (by decide) (fun z => absurd rfl z) (fun _ => ?_)
  refine lv_iconst (v := 1) hx hb dJ0_isLatin1_aae02_13 (by decide) ?_
  refine lv_goto (tgt := 18) hx hb dJ0_isLatin1_aae02_14 (by decide) ?_
  exact W.zret hx hb hr rfl (fun t ht hW => ⟨rfl, ht⟩) (fun q h => by cases h) dJ0_isLatin1_aae02_18 (hlocks := hlocks)
theorem sh0 {n : Nat} (h : n < 2 ^ 31) : nI n >>> ((0 : Int32) &&& 31) = nI n := (pk_shrN h _ 0 (by decide)).trans (by rw [Nat.pow_zero, Nat.div_one])
theorem gbl_lt : ∀ i, i < 36 → gbl i < 10 := by decide
theorem s_length {i : Nat} (hi : i < 36) : sC 1 yJ0_length_8abf5 cJ0_length_8abf5 1 (some .int) (fun G => [.ref (gAK G i)]) (some (.int (nI (gbl i)))) := by
  intro l G
  refine Met.ofW (cc := cJ0_length_8abf5) (maxL := 1) (ret := (some .int)) pn_J0 rfl ?_
  intro p e s m av below meth c s₁ B hml hv
  obtain ⟨rfl, hKo⟩ := hv
  have hx := B.exec
  have hb := B.bytes
  have hr := B.returns
  have hts : ∀ w ∈ gtb, w.before _ s = true := fun w hw => atoms_spec (ws := .code yJ0_length_8abf5 cJ0_length_8abf5 1 (some .int) :: gtb) B.pre w (List.mem_cons_of_mem _ hw)
  have hown : s.vm.findClass RJ0 = some m.cls := findClass_of_methodNamed B.named
  have hlocks := B.notSynchronized
  have hS : va_S (gA G) s.heap s.heap [] := va_S.rf
  have hStr := hKo.2.2.2.2.1
  have hl := lv_entry ([.ref (gAK G i)]) (n := 1) (Nat.le_of_ble_eq_true rfl)
  rw [lg_entry_eq]
  generalize (lg_sl ([.ref (gAK G i)]) ++ List.replicate (1 - (lg_sl ([.ref (gAK G i)])).length) Slot.unset).toArray = ls at hl ⊢
  have hl : lv_has ls 1 [(0, .ref (gAK G i))] := hl
  refine lv_aload_n hx hb dJ0_length_8abf5_0 rfl (lv_at hl 0 rfl) ?_
  refine vk_getf hx hb (hStr.1 i hi).2.2.1 hS hown (hts _ (gk9 32 rfl rfl)) (fun _ z => z) dJ0_length_8abf5_1 ?_
  refine va_tlen hx hb (hStr.1 i hi).2.2.2 hS (v := nI (gbl i)) rfl dJ0_length_8abf5_4 ?_
  refine lv_aload_n hx hb dJ0_length_8abf5_5 rfl (lv_at hl 0 rfl) ?_
  refine sRun (rest := [.int (nI (gbl i))]) (va_runV (As := []) (rest := [.int (nI (gbl i))]) ⟨hx, hb, hml, hown, hts⟩ (s_coder hi l G) (cwV 0 hts (sgood (gk2 191 rfl rfl) im_J0_coder_7d493 se_J0_coder_7d493 in_J0 mi_J0_coder_7d493.2.1) rfl rfl rfl ⟨rfl, mi_J0_coder_7d493.2.2.1⟩ (gRoom rfl mi_J0_coder_7d493.2.2.2)) ⟨sPc_blind, s_recv hi hKo hS, sPc_at hKo hS⟩ rfl rfl hl.1 rfl (lv_room (Nat.le_of_ble_eq_true rfl)) dJ0_length_8abf5_6 ⟨Nat.le_refl _, Nat.le_refl _⟩) ?_
  refine lv_ishr hx hb dJ0_length_8abf5_9 ?_
  rw [sh0 (by have := gbl_lt i hi; omega)]
  exact W.iret hx hb hr (fun t ht hW => ⟨rfl, ht⟩) (fun q h => by cases h) dJ0_length_8abf5_10 (hlocks := hlocks)
theorem s_checkP {j n : Nat} (hj : j < n) (hn : n < 2 ^ 31) (z : Gp → Value) (hz : ∀ G, (z G).category = 1) : sC 0 yJ3_checkIndex_8e157 cJ3_checkIndex_8e157 3 (some .int) (fun G => [.int (nI j), .int (nI n), z G]) (some (.int (nI j))) := by
  intro l G
  refine Met.ofW (cc := cJ3_checkIndex_8e157) (maxL := 3) (ret := (some .int)) pn_J3 rfl ?_
  intro p e s m av below meth c s₁ B hml hv
  obtain ⟨rfl, hKo⟩ := hv
  have hx := B.exec
  have hb := B.bytes
  have hr := B.returns
  have hts : ∀ w ∈ gtb, w.before _ s = true := fun w hw => atoms_spec (ws := .code yJ3_checkIndex_8e157 cJ3_checkIndex_8e157 3 (some .int) :: gtb) B.pre w (List.mem_cons_of_mem _ hw)
  have hown : s.vm.findClass RJ3 = some m.cls := findClass_of_methodNamed B.named
  have hlocks := B.notSynchronized
  have hS : va_S (gA G) s.heap s.heap [] := va_S.rf
  have hStr := hKo.2.2.2.2.1
  have hl := lv_entry ([.int (nI j), .int (nI n), z G]) (n := 3) (by simp [lg_sl, hz, show (Value.int (nI j)).category = 1 from rfl, show (Value.int (nI n)).category = 1 from rfl])
  rw [lg_entry_eq]
  generalize (lg_sl ([.int (nI j), .int (nI n), z G]) ++ List.replicate (3 - (lg_sl ([.int (nI j), .int (nI n), z G])).length) Slot.unset).toArray = ls at hl ⊢
  have hl : lv_has ls 3 [(0, .int (nI j)), (1, .int (nI n))] := ⟨hl.1, hl.2.1, fun q hq => hl.2.2 q (by rcases List.mem_cons.mp hq with e | hq; rw [e]; exact List.mem_cons_self; rw [List.mem_singleton.mp hq]; exact List.mem_cons_of_mem _ List.mem_cons_self)⟩
  refine lv_iload_n hx hb dJ3_checkIndex_8e157_0 rfl (lv_at hl 0 rfl) ?_
  refine lv_if_lt (tgt := 9) hx hb dJ3_checkIndex_8e157_1 (by decide) (fun z => absurd z (nI_pos (by omega))) (fun _ => ?_)
  refine lv_iload_n hx hb dJ3_checkIndex_8e157_4 rfl (lv_at hl 0 rfl) ?_
  refine lv_iload_n hx hb dJ3_checkIndex_8e157_5 rfl (lv_at hl 1 rfl) ?_
  refine lv_icmp_lt (tgt := 16) hx hb dJ3_checkIndex_8e157_6 (by decide) (fun _ => ?_) (fun z => absurd (nI_lt hj hn) z)
  refine lv_iload_n hx hb dJ3_checkIndex_8e157_16 rfl (lv_at hl 0 rfl) ?_
  exact W.iret hx hb hr (fun t ht hW => ⟨rfl, ht⟩) (fun q h => by cases h) dJ3_checkIndex_8e157_17 (hlocks := hlocks)
theorem s_checkS {j n : Nat} (hj : j < n) (hn : n < 2 ^ 31) : sC 1 yJ0_checkIndex_df160 cJ0_checkIndex_df160 2 none (fun G => [.int (nI j), .int (nI n)]) none := by
  intro l G
  refine Met.ofW (cc := cJ0_checkIndex_df160) (maxL := 2) (ret := none) pn_J0 rfl ?_
  intro p e s m av below meth c s₁ B hml hv
  obtain ⟨rfl, hKo⟩ := hv
  have hx := B.exec
  have hb := B.bytes
  have hr := B.returns
  have hts : ∀ w ∈ gtb, w.before _ s = true := fun w hw => atoms_spec (ws := .code yJ0_checkIndex_df160 cJ0_checkIndex_df160 2 none :: gtb) B.pre w (List.mem_cons_of_mem _ hw)
  have hown : s.vm.findClass RJ0 = some m.cls := findClass_of_methodNamed B.named
  have hlocks := B.notSynchronized
  have hS : va_S (gA G) s.heap s.heap [] := va_S.rf
  have hStr := hKo.2.2.2.2.1
  have hl := lv_entry ([.int (nI j), .int (nI n)]) (n := 2) (Nat.le_of_ble_eq_true rfl)
  rw [lg_entry_eq]
  generalize (lg_sl ([.int (nI j), .int (nI n)]) ++ List.replicate (2 - (lg_sl ([.int (nI j), .int (nI n)])).length) Slot.unset).toArray = ls at hl ⊢
  have hl : lv_has ls 2 [(0, .int (nI j)), (1, .int (nI n))] := hl
  refine lv_iload_n hx hb dJ0_checkIndex_df160_0 rfl (lv_at hl 0 rfl) ?_
  refine lv_iload_n hx hb dJ0_checkIndex_df160_1 rfl (lv_at hl 1 rfl) ?_
  rcases hStr.2.2.1 with hZ | ⟨t9, hZ⟩
  · refine va_gets hx hb hZ hS hown (hts _ (gk2 211 rfl rfl)) (fun _ z => z) dJ0_checkIndex_df160_2 ?_
    refine sRun (rest := []) (va_runS (As := [.int (nI j), .int (nI n), .null]) (rest := []) ⟨hx, hb, hml, hown, hts⟩ ((s_checkP hj hn (fun _ => .null) (fun _ => rfl)) l G) ⟨callB_of 3 hts (g_goodC mi_J3_checkIndex_8e157.2.1) rfl rfl rfl (hts _ mi_J3_checkIndex_8e157.1) (hts _ (gk2 213 rfl rfl)) mi_J3_checkIndex_8e157.2.2.1 (gRoom rfl mi_J3_checkIndex_8e157.2.2.2), hts _ sm_J3_checkIndex_8e157⟩ ⟨sPc_blind, sPc_at hKo hS⟩ rfl rfl hl.1 rfl (lv_room (Nat.le_of_ble_eq_true rfl)) dJ0_checkIndex_df160_5 ⟨Nat.le_refl _, Nat.le_refl _⟩) ?_
    refine lv_pop hx hb dJ0_checkIndex_df160_8 rfl ?_
    exact W.vret hx hb hr (fun t ht hW => ⟨rfl, ht⟩) (fun q h => by cases h) dJ0_checkIndex_df160_9 (hlocks := hlocks)
  · refine va_gets hx hb hZ hS hown (hts _ (gk2 211 rfl rfl)) (fun _ z => z) dJ0_checkIndex_df160_2 ?_
    refine sRun (rest := []) (va_runS (As := [.int (nI j), .int (nI n), .ref t9]) (rest := []) ⟨hx, hb, hml, hown, hts⟩ ((s_checkP hj hn (fun _ => .ref t9) (fun _ => rfl)) l G) ⟨callB_of 3 hts (g_goodC mi_J3_checkIndex_8e157.2.1) rfl rfl rfl (hts _ mi_J3_checkIndex_8e157.1) (hts _ (gk2 213 rfl rfl)) mi_J3_checkIndex_8e157.2.2.1 (gRoom rfl mi_J3_checkIndex_8e157.2.2.2), hts _ sm_J3_checkIndex_8e157⟩ ⟨sPc_blind, sPc_at hKo hS⟩ rfl rfl hl.1 rfl (lv_room (Nat.le_of_ble_eq_true rfl)) dJ0_checkIndex_df160_5 ⟨Nat.le_refl _, Nat.le_refl _⟩) ?_
    refine lv_pop hx hb dJ0_checkIndex_df160_8 rfl ?_
    exact W.vret hx hb hr (fun t ht hW => ⟨rfl, ht⟩) (fun q h => by cases h) dJ0_checkIndex_df160_9 (hlocks := hlocks)
def gch (i j : Nat) : Int32 := ((gby i j &&& 255).toUInt32 % 65536).toInt32
theorem gch_ok : ∀ i, i < 36 → ∀ j, j < 10 → narrow .char (.int (gch i j)) = .int (gch i j) := by
  intro i hi j hj
  exact pk_nc _
theorem s_charL {i : Nat} (hi : i < 36) {j : Nat} (hj : j < gbl i) : sC 2 yJ1_charAt_3b067 cJ1_charAt_3b067 2 (some .char) (fun G => [.ref (gAV G i), .int (nI j)]) (some (.int (gch i j))) := by
  intro l G
  refine Met.ofW (cc := cJ1_charAt_3b067) (maxL := 2) (ret := (some .char)) pn_J1 rfl ?_
  intro p e s m av below meth c s₁ B hml hv
  obtain ⟨rfl, hKo⟩ := hv
  have hx := B.exec
  have hb := B.bytes
  have hr := B.returns
  have hts : ∀ w ∈ gtb, w.before _ s = true := fun w hw => atoms_spec (ws := .code yJ1_charAt_3b067 cJ1_charAt_3b067 2 (some .char) :: gtb) B.pre w (List.mem_cons_of_mem _ hw)
  have hown : s.vm.findClass RJ1 = some m.cls := findClass_of_methodNamed B.named
  have hlocks := B.notSynchronized
  have hS : va_S (gA G) s.heap s.heap [] := va_S.rf
  have hStr := hKo.2.2.2.2.1
  have hl := lv_entry ([.ref (gAV G i), .int (nI j)]) (n := 2) (Nat.le_of_ble_eq_true rfl)
  rw [lg_entry_eq]
  generalize (lg_sl ([.ref (gAV G i), .int (nI j)]) ++ List.replicate (2 - (lg_sl ([.ref (gAV G i), .int (nI j)])).length) Slot.unset).toArray = ls at hl ⊢
  have hl : lv_has ls 2 [(0, .ref (gAV G i)), (1, .int (nI j))] := hl
  have hg := gbl_lt i hi
  refine lv_iload_n hx hb dJ1_charAt_3b067_0 rfl (lv_at hl 1 rfl) ?_
  refine lv_aload_n hx hb dJ1_charAt_3b067_1 rfl (lv_at hl 0 rfl) ?_
  refine va_tlen hx hb (hStr.1 i hi).2.2.2 hS (v := nI (gbl i)) rfl dJ1_charAt_3b067_2 ?_
  refine sRun (rest := []) (va_runS (As := [.int (nI j), .int (nI (gbl i))]) (rest := []) ⟨hx, hb, hml, hown, hts⟩ (s_checkS hj (by omega) l G) ⟨callB_of 2 hts (g_goodC mi_J0_checkIndex_df160.2.1) rfl rfl rfl (hts _ mi_J0_checkIndex_df160.1) (hts _ (gk2 208 rfl rfl)) mi_J0_checkIndex_df160.2.2.1 (gRoom rfl mi_J0_checkIndex_df160.2.2.2), hts _ sm_J0_checkIndex_df160⟩ ⟨sPc_blind, sPc_at hKo hS⟩ rfl rfl hl.1 rfl (lv_room (Nat.le_of_ble_eq_true rfl)) dJ1_charAt_3b067_3 ⟨Nat.le_refl _, Nat.le_refl _⟩) ?_
  refine lv_aload_n hx hb dJ1_charAt_3b067_6 rfl (lv_at hl 0 rfl) ?_
  refine lv_iload_n hx hb dJ1_charAt_3b067_7 rfl (lv_at hl 1 rfl) ?_
  refine va_tb hx hb (hStr.1 i hi).2.2.2 hS (vp_in_nI hj (by omega)) (v := .int (gby i j)) (by rw [nI_clamp (by omega)]) dJ1_charAt_3b067_8 ?_
  refine lv_sipush (v := 255) hx hb dJ1_charAt_3b067_9 (by decide) ?_
  refine lv_iand hx hb dJ1_charAt_3b067_12 ?_
  refine lv_i2c (v := gch i j) hx hb dJ1_charAt_3b067_13 rfl ?_
  exact W.zret hx hb hr (gch_ok i hi j (by omega)) (fun t ht hW => ⟨rfl, ht⟩) (fun q h => by cases h) dJ1_charAt_3b067_14 (hlocks := hlocks)
theorem s_charAt {i : Nat} (hi : i < 36) {j : Nat} (hj : j < gbl i) : sC 3 yJ0_charAt_5068e cJ0_charAt_5068e 2 (some .char) (fun G => [.ref (gAK G i), .int (nI j)]) (some (.int (gch i j))) := by
  intro l G
  refine Met.ofW (cc := cJ0_charAt_5068e) (maxL := 2) (ret := (some .char)) pn_J0 rfl ?_
  intro p e s m av below meth c s₁ B hml hv
  obtain ⟨rfl, hKo⟩ := hv
  have hx := B.exec
  have hb := B.bytes
  have hr := B.returns
  have hts : ∀ w ∈ gtb, w.before _ s = true := fun w hw => atoms_spec (ws := .code yJ0_charAt_5068e cJ0_charAt_5068e 2 (some .char) :: gtb) B.pre w (List.mem_cons_of_mem _ hw)
  have hown : s.vm.findClass RJ0 = some m.cls := findClass_of_methodNamed B.named
  have hlocks := B.notSynchronized
  have hS : va_S (gA G) s.heap s.heap [] := va_S.rf
  have hStr := hKo.2.2.2.2.1
  have hl := lv_entry ([.ref (gAK G i), .int (nI j)]) (n := 2) (Nat.le_of_ble_eq_true rfl)
  rw [lg_entry_eq]
  generalize (lg_sl ([.ref (gAK G i), .int (nI j)]) ++ List.replicate (2 - (lg_sl ([.ref (gAK G i), .int (nI j)])).length) Slot.unset).toArray = ls at hl ⊢
  have hl : lv_has ls 2 [(0, .ref (gAK G i)), (1, .int (nI j))] := hl
  have hg := gbl_lt i hi
  refine lv_aload_n hx hb dJ0_charAt_5068e_0 rfl (lv_at hl 0 rfl) ?_
  refine sRun (rest := []) (va_runV (As := []) (rest := []) ⟨hx, hb, hml, hown, hts⟩ (s_isLatin1 hi l G) (cwV 0 hts (sgood (gk2 201 rfl rfl) im_J0_isLatin1_aae02 se_J0_isLatin1_aae02 in_J0 mi_J0_isLatin1_aae02.2.1) rfl rfl rfl ⟨rfl, mi_J0_isLatin1_aae02.2.2.1⟩ (gRoom rfl mi_J0_isLatin1_aae02.2.2.2)) ⟨sPc_blind, s_recv hi hKo hS, sPc_at hKo hS⟩ rfl rfl hl.1 rfl (lv_room (Nat.le_of_ble_eq_true rfl)) dJ0_charAt_5068e_1 ⟨Nat.le_refl _, Nat.le_refl _⟩) ?_
  refine lv_if_eq (tgt := 16) hx hb dJ0_charAt_5068e_4 (by decide) (fun z => absurd z (by decide)) (fun _ => ?_)
  refine lv_aload_n hx hb dJ0_charAt_5068e_7 rfl (lv_at hl 0 rfl) ?_
  refine vk_getf hx hb (hStr.1 i hi).2.2.1 hS hown (hts _ (gk9 32 rfl rfl)) (fun _ z => z) dJ0_charAt_5068e_8 ?_
  refine lv_iload_n hx hb dJ0_charAt_5068e_11 rfl (lv_at hl 1 rfl) ?_
  refine sRun (rest := []) (va_runS (As := [.ref (gAV G i), .int (nI j)]) (rest := []) ⟨hx, hb, hml, hown, hts⟩ (s_charL hi hj l G) ⟨callB_of 2 hts (g_goodC mi_J1_charAt_3b067.2.1) rfl rfl rfl (hts _ mi_J1_charAt_3b067.1) (hts _ (gk2 205 rfl rfl)) mi_J1_charAt_3b067.2.2.1 (gRoom rfl mi_J1_charAt_3b067.2.2.2), hts _ sm_J1_charAt_3b067⟩ ⟨sPc_blind, sPc_at hKo hS⟩ rfl rfl hl.1 rfl (lv_room (Nat.le_of_ble_eq_true rfl)) dJ0_charAt_5068e_12 ⟨Nat.le_refl _, Nat.le_refl _⟩) ?_
  exact W.zret hx hb hr (gch_ok i hi j (by omega)) (fun t ht hW => ⟨rfl, ht⟩) (fun q h => by cases h) dJ0_charAt_5068e_15 (hlocks := hlocks)
section GST
variable {d RC RS nL cells slots pc q t : Nat} {y : MethodName} {cc : ByteArray} {ret : Option FieldType} {Q : Option Value → Hp → Prop} {lv st : List Value} {h : Hp}
theorem gtr_str {G : Gp} {x : UInt32} {i : Nat} (hx0 : ¬ x = 0 ∧ x.toNat - 1 = i) : gtr G (.float x) = .ref (gAK G i) := by
  show Value.ref (if x = 0 then _ else _) = _
  rw [if_neg hx0.1, hx0.2]
/-- s.length() of a String constant -/
theorem g_slen {idx i : Nat} {x : UInt32} (hi : i < 36) (hx0 : ¬ x = 0 ∧ x.toNat - 1 = i) (hlk : Cond.methodLink y.cls idx yJ0_length_8abf5 ∈ gtb) (hdep : Nat.ble 2 d = true) (hcat : Nat.ble (st.map fun v => v.category).sum 8 = true) (hc : Nat.ble cells RC = true) (hs : Nat.ble slots RS = true) (hd : gd cc pc (.invokevirtual idx) 3 q) (k : gY d RC RS y cc nL ret cells slots Q q lv (.int (nI (gbl i)) :: st) h) : gY d RC RS y cc nL ret cells slots Q pc lv (.float x :: st) h := by
  obtain ⟨hd, rfl⟩ := hd
  intro p l e s m args below meth c G C ls H locs hl hw hS
  obtain ⟨hx, hb, hml, hown, hts, hlocks, hr, hname, hKo⟩ := id C
  rw [List.map_cons, gtr_str hx0]
  refine sRun (rest := st.map (gtr G)) (va_runV (As := []) (rest := st.map (gtr G)) ⟨hx, hb, hml, hown, hts⟩ (s_length hi l G) (cwV 0 hts (sgood hlk im_J0_length_8abf5 se_J0_length_8abf5 in_J0 mi_J0_length_8abf5.2.1) rfl rfl rfl ⟨rfl, mi_J0_length_8abf5.2.2.1⟩ (gRoom hdep mi_J0_length_8abf5.2.2.2)) ⟨sPc_blind, s_recv hi hKo hS, sPc_at hKo hS⟩ rfl rfl hl.1 rfl (lv_room (gQ_sum hcat)) hd ⟨Nat.le_of_ble_eq_true hc, Nat.le_of_ble_eq_true hs⟩) ?_
  exact k p l e s m args below meth c G C ls H locs hl hw hS
theorem g_schar {idx i j : Nat} {x : UInt32} (hi : i < 36) (hx0 : ¬ x = 0 ∧ x.toNat - 1 = i) (hj : j < gbl i) (hlk : Cond.methodLink y.cls idx yJ0_charAt_5068e ∈ gtb) (hdep : Nat.ble 4 d = true) (hcat : Nat.ble (st.map fun v => v.category).sum 8 = true) (hc : Nat.ble cells RC = true) (hs : Nat.ble slots RS = true) (hd : gd cc pc (.invokevirtual idx) 3 q) (k : gY d RC RS y cc nL ret cells slots Q q lv (.int (gch i j) :: st) h) : gY d RC RS y cc nL ret cells slots Q pc lv (.int (nI j) :: .float x :: st) h := by
  obtain ⟨hd, rfl⟩ := hd
  intro p l e s m args below meth c G C ls H locs hl hw hS
  obtain ⟨hx, hb, hml, hown, hts, hlocks, hr, hname, hKo⟩ := id C
  rw [List.map_cons, List.map_cons, gtr_str hx0]
  refine sRun (rest := st.map (gtr G)) (va_runV (As := [.int (nI j)]) (rest := st.map (gtr G)) ⟨hx, hb, hml, hown, hts⟩ (s_charAt hi hj l G) (cwV 1 hts (sgood hlk im_J0_charAt_5068e se_J0_charAt_5068e in_J0 mi_J0_charAt_5068e.2.1) rfl rfl rfl ⟨rfl, mi_J0_charAt_5068e.2.2.1⟩ (gRoom hdep mi_J0_charAt_5068e.2.2.2)) ⟨sPc_blind, s_recv hi hKo hS, sPc_at hKo hS⟩ rfl rfl hl.1 rfl (lv_room (gQ_sum hcat)) hd ⟨Nat.le_of_ble_eq_true hc, Nat.le_of_ble_eq_true hs⟩) ?_
  exact k p l e s m args below meth c G C ls H locs hl hw hS
/-- Math.min -/
theorem g_mmin {idx : Nat} {a b : Int32} (h1 : Cond.methodLink y.cls idx Lib.Math.min.name ∈ gtb) (h2 : Cond.static Lib.Math.min.name ∈ gtb) (h3 : Cond.initialized "java/lang/Math" ∈ gtb) (h4 : Cond.code Lib.Math.min.name Lib.Math.min.code 2 (some .int) ∈ gtb) (hdep : Nat.ble 1 d = true) (hcat : Nat.ble (st.map fun v => v.category).sum 8 = true) (hc : Nat.ble cells RC = true) (hs : Nat.ble slots RS = true) (hd : gd cc pc (.invokestatic idx) 3 q) (k : gY d RC RS y cc nL ret cells slots Q q lv (.int (if b < a then b else a) :: st) h) : gY d RC RS y cc nL ret cells slots Q pc lv (.int b :: .int a :: st) h := by
  obtain ⟨hd, rfl⟩ := hd
  intro p l e s m args below meth c G C ls H locs hl hw hS
  obtain ⟨hx, hb, hml, hown, hts, hlocks, hr, hname, hKo⟩ := id C
  have hd1 := Nat.le_of_ble_eq_true hdep
  refine va_mmin hx hb (hml.trans hl.1.symm) hown (hts _ h1) (hts _ h2) (hts _ h3) (hts _ h4) hd1 ?_ (Nat.le_of_ble_eq_true hc) (Nat.le_of_ble_eq_true hs) hd (k p l e s m args below meth c G C ls H locs hl hw hS)
  have := gQ_sum (G := G) hcat
  show _ ≤ 60 * d
  omega
end GST
theorem ll_X5_42 : Cond.methodLink RX5 42 yJ0_length_8abf5 ∈ gtb := gk2 187 rfl rfl
theorem ll_X10_59 : Cond.methodLink RX10 59 yJ0_length_8abf5 ∈ gtb := gk6 221 rfl rfl
theorem ll_X5_47 : Cond.methodLink RX5 47 yJ0_charAt_5068e ∈ gtb := gk2 197 rfl rfl
theorem ll_X10_67 : Cond.methodLink RX10 67 yJ0_charAt_5068e ∈ gtb := gk6 222 rfl rfl
theorem lmin : Cond.methodLink RX5 29 Lib.Math.min.name ∈ gtb := gk2 163 rfl rfl
theorem lmin_s : Cond.static Lib.Math.min.name ∈ gtb := gk2 164 rfl rfl
theorem lmin_c : Cond.code Lib.Math.min.name Lib.Math.min.code 2 (some .int) ∈ gtb := gk2 165 rfl rfl

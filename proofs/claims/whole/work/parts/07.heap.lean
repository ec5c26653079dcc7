/-! ROWS OF THE JUDGEMENT: the heap -/
section GHs
variable {p : Program} {l : Launch} {e : Env} {R : Room} {s : State} {m : MethodId} {args : Array Value} {below : List Frame} {meth : Method} {c : Code} {H : Heap} {locs : List Loc} {cells slots : Nat} {Q : State → Prop}
variable {cc : ByteArray} {pc : Nat} {ls : Array Slot} {rest : List Value} {D : va_G} {cl : List vw_C} {A : Nat → Prop} {a : Nat} {tys : List (ClassId × FieldType)} {ws : va_W} {H0 : Heap}
/-- a store into a field, with the heap's size: by the kit's own proofs of va_put, va_putN, va_putF -/
theorem gw_put (mode : Nat) (hexec : p.tables.exec = Jvm.exec) (hb : c.code = cc) {own C host : String} {T : u_T} {N ci index : Nat} {Ts : List Cond} (hts : ∀ w ∈ Ts, w.before args s = true) (hin : ∀ w ∈ u_ws C T N, w ∈ Ts) (ty0 : Nat → FieldType) (hty : ∀ k, k < N → parseFieldDescriptor (T k).2.2.1 = some (ty0 k)) (hnm : ∀ a, a < N → ∀ b, b < N → a ≠ b → (T a).2.1 ≠ (T b).2.1) (hown : s.vm.findClass own = some m.cls) (hK : va_K D cl tys s) (hP : va_P D cl ws H) (hD : va_D A ws) (hS0 : va_S A H0 H locs) (q0 : Nat) {fs : List Value} (he : ws[q0]? = some (a, .inr (ci, fs))) (hc : cl[ci]? = some (C, T, N)) (k : Nat) (hk : k < N)
    (hlink : (mode = 0 ∧ (Cond.fieldLink own index (T k).1 (T k).2.1 (T k).2.2.1).before args s = true ∧ (T k).2.2.2 = false) ∨ (mode = 1 ∧ (Cond.fieldLinkNest own index (T k).1 (T k).2.1 (T k).2.2.1 host).before args s = true ∧ (T k).2.2.2 = false) ∨ (mode = 2 ∧ (Cond.fieldLink own index (T k).1 (T k).2.1 (T k).2.2.1).before args s = true ∧ (T k).2.2.2 = true ∧ meth.name = "<init>" ∧ (T k).1 = own)) {v : Value} (hn : narrow (ty0 k) v = v) (hfit : fits (ty0 k) v = true) (hl : k < fs.length)
    (hdg : decode cc pc = .ok (.putfield index, 3)) (kk : ∀ (H1 : Heap) (locs1 : List Loc), H1.size = H.size → va_P D cl (ws.set q0 (a, .inr (ci, fs.set k v))) H1 → va_D A (ws.set q0 (a, .inr (ci, fs.set k v))) → va_S A H0 H1 locs1 → W p l e R s m args below meth c H1 locs1 cells slots Q (F0 m (pc + 3) ls rest)) : W p l e R s m args below meth c H locs cells slots Q (F0 m pc ls (v :: .ref a :: rest)) := by
  have hap := va_apart (own := own) hts hin ty0 hty hnm hK hc
  obtain ⟨r, h1, cell, q1, q2, q3, q4⟩ := hP q0 _ he
  have hr : r = (C, T, N) := Option.some.inj (h1.symm.trans hc)
  subst hr
  obtain ⟨hS, hfc, kC, hkC, hkind⟩ := hK.1 ci _ hc
  obtain ⟨cf, kf, fi, f, hi, hsl⟩ := hS k hk
  have hlay := hts _ (hin _ (u_in_lay hk))
  unfold u_lay at hlay
  have hst := (u_facts hfc hkC (u_lays hts hin hk) hi).1
  rcases hlink with ⟨-, hlink, hfin⟩ | ⟨-, hlink, hfin⟩ | ⟨-, hlink, hfin, hin2, hdecl⟩
  · rw [if_neg (by rw [hfin]; decide)] at hlay
    have h6 := u_store hfc hkC hkind hlay hi (hty k hk) hn hfit
    refine W.putK hexec hb (f := f) ⟨hown, hlink, ⟨_, _, _, hi⟩, hst⟩ (by rw [q2]; exact h6) q1 q3 (by rw [hsl]; exact k2_hasslot (q4 k hk)) rfl rfl hdg fun H' e1 e2 e3 => ?_
    rw [hsl] at e1 ⊢
    exact kk H' _ e2 (hP.set hD he ⟨_, hc, t_OB.to (V := updV (vp_V fs) k v) ⟨_, e1, q2, q3, t_set q4 hap hk v⟩ (fun j _ => vp_updV_set hl v j)⟩ e3) (hD.set he) (hS0.put e2 e3 (hD.2 q0 _ he))
  · rw [if_neg (by rw [hfin]; decide)] at hlay
    have h6 := u_store hfc hkC hkind hlay hi (hty k hk) hn hfit
    refine va_WputK hexec hb (f := f) hown hlink hi hst (by rw [q2]; exact h6) q1 q3 (by rw [hsl]; exact k2_hasslot (q4 k hk)) rfl rfl hdg fun H' e1 e2 e3 => ?_
    rw [hsl] at e1 ⊢
    exact kk H' _ e2 (hP.set hD he ⟨_, hc, t_OB.to (V := updV (vp_V fs) k v) ⟨_, e1, q2, q3, t_set q4 hap hk v⟩ (fun j _ => vp_updV_set hl v j)⟩ e3) (hD.set he) (hS0.put e2 e3 (hD.2 q0 _ he))
  · rw [if_pos hfin] at hlay
    have hcf : m.cls = cf := by
      obtain ⟨_, _, c', _, _, _, -, -, hf', -, -, -, hown2, -⟩ := Cond.laysFinal_spec hlay
      have e1 : c' = cf := by have := hi.symm.trans hf'; simp at this; exact this.1.symm
      rw [hdecl] at hown2
      rw [← e1]; exact Option.some.inj (hown.symm.trans hown2)
    have h6 := u_fits hfc hkC hkind (Or.inr hlay) hi (hty k hk) hn hfit
    refine W.putFinK hexec hb hown hlink hi hst hcf hin2 (by rw [q2]; exact h6) q1 q3 (by rw [hsl]; exact k2_hasslot (q4 k hk)) rfl rfl hdg fun H' e1 e2 e3 => ?_
    rw [hsl] at e1 ⊢
    exact kk H' _ e2 (hP.set hD he ⟨_, hc, t_OB.to (V := updV (vp_V fs) k v) ⟨_, e1, q2, q3, t_set q4 hap hk v⟩ (fun j _ => vp_updV_set hl v j)⟩ e3) (hD.set he) (hS0.put e2 e3 (hD.2 q0 _ he))
theorem gw_iast (hexec : p.tables.exec = Jvm.exec) (hb : c.code = cc) (hK : va_K D cl tys s) (hP : va_P D cl ws H) (hD : va_D A ws) (hS : va_S A H0 H locs) (q0 t0 : Nat) {cA : ClassId} {n : Nat} {f : Nat → Int32} (ha : ws[q0]? = some (a, .inl (cA, n, .inl (f)))) (ht : tys[t0]? = some (cA, .int)) {i : Int32} {x : Int32} (hin : vp_in i n) (hdg : decode cc pc = .ok (.iastore, 1))
    (kk : ∀ (H1 : Heap) (locs1 : List Loc), H1.size = H.size → va_P D cl (ws.set q0 (a, .inl (cA, n, .inl (upd f i.toNatClampNeg x)))) H1 → va_D A (ws.set q0 (a, .inl (cA, n, .inl (upd f i.toNatClampNeg x)))) → va_S A H0 H1 locs1 → W p l e R s m args below meth c H1 locs1 cells slots Q (F0 m (pc + 1) ls rest)) : W p l e R s m args below meth c H locs cells slots Q (F0 m pc ls (.int x :: .int i :: .ref a :: rest)) := by
  refine W.iast hexec hb (hP q0 _ ha) ((hK.2 t0 _ ht).1 n (fun j => .int (f j))) (fun q => by cases q) (by show ¬ (i < 0 ∨ (arrV _ _ _).slots.size ≤ _); rw [arrV_size]; exact hin) rfl rfl hdg fun H1 e z oq => ?_
  refine kk H1 _ z (hP.set hD ha ?_ oq) (hD.set ha) (hS.put z oq (hD.2 q0 _ ha))
  show H1[a]? = some (vp_cell _ _)
  rw [e]
  rw [vp_cell_i, vp_cell_i, arrV_store]
  congr 2
  funext q
  by_cases hq : q = i.toNatClampNeg
  · subst hq
    simp [updV, upd]
  · simp [updV, upd, hq]
theorem gw_bast (hexec : p.tables.exec = Jvm.exec) (hb : c.code = cc) (hK : va_K D cl tys s) (hP : va_P D cl ws H) (hD : va_D A ws) (hS : va_S A H0 H locs) (q0 t0 : Nat) {cA : ClassId} {n : Nat} {f : Nat → Int32} (ha : ws[q0]? = some (a, .inl (cA, n, .inl (f)))) (ht : tys[t0]? = some (cA, .byte)) {i : Int32} {x : Int32} (hin : vp_in i n) (hdg : decode cc pc = .ok (.bastore, 1))
    (kk : ∀ (H1 : Heap) (locs1 : List Loc), H1.size = H.size → va_P D cl (ws.set q0 (a, .inl (cA, n, .inl (upd f i.toNatClampNeg (vp_nar .byte x))))) H1 → va_D A (ws.set q0 (a, .inl (cA, n, .inl (upd f i.toNatClampNeg (vp_nar .byte x))))) → va_S A H0 H1 locs1 → W p l e R s m args below meth c H1 locs1 cells slots Q (F0 m (pc + 1) ls rest)) : W p l e R s m args below meth c H locs cells slots Q (F0 m pc ls (.int x :: .int i :: .ref a :: rest)) := by
  refine W.bast hexec hb (hP q0 _ ha) ((hK.2 t0 _ ht).1 n (fun j => .int (f j))) (fun q => by cases q) (by show ¬ (i < 0 ∨ (arrV _ _ _).slots.size ≤ _); rw [arrV_size]; exact hin) rfl rfl hdg fun H1 e z oq => ?_
  refine kk H1 _ z (hP.set hD ha ?_ oq) (hD.set ha) (hS.put z oq (hD.2 q0 _ ha))
  show H1[a]? = some (vp_cell _ _)
  rw [e]
  rw [vp_cell_i, vp_cell_i, arrV_store]
  congr 2
  funext q
  by_cases hq : q = i.toNatClampNeg
  · subst hq
    simp [updV, upd, vp_nar]
    try rfl
  · simp [updV, upd, hq]
theorem gw_last (hexec : p.tables.exec = Jvm.exec) (hb : c.code = cc) (hK : va_K D cl tys s) (hP : va_P D cl ws H) (hD : va_D A ws) (hS : va_S A H0 H locs) (q0 t0 : Nat) {cA : ClassId} {n : Nat} {f : Nat → Int64} (ha : ws[q0]? = some (a, .inl (cA, n, .inr (.inl (f))))) (ht : tys[t0]? = some (cA, .long)) {i : Int32} {x : Int64} (hin : vp_in i n) (hdg : decode cc pc = .ok (.lastore, 1))
    (kk : ∀ (H1 : Heap) (locs1 : List Loc), H1.size = H.size → va_P D cl (ws.set q0 (a, .inl (cA, n, .inr (.inl (vp_updL f i.toNatClampNeg x))))) H1 → va_D A (ws.set q0 (a, .inl (cA, n, .inr (.inl (vp_updL f i.toNatClampNeg x))))) → va_S A H0 H1 locs1 → W p l e R s m args below meth c H1 locs1 cells slots Q (F0 m (pc + 1) ls rest)) : W p l e R s m args below meth c H locs cells slots Q (F0 m pc ls (.long x :: .int i :: .ref a :: rest)) := by
  refine W.last hexec hb (hP q0 _ ha) ((hK.2 t0 _ ht).1 n (fun j => .long (f j))) (fun q => by cases q) (by show ¬ (i < 0 ∨ (arrV _ _ _).slots.size ≤ _); rw [arrV_size]; exact hin) rfl rfl hdg fun H1 e z oq => ?_
  refine kk H1 _ z (hP.set hD ha ?_ oq) (hD.set ha) (hS.put z oq (hD.2 q0 _ ha))
  show H1[a]? = some (vp_cell _ _)
  rw [e]
  rw [vp_cell_l, vp_cell_l, arrV_store]
  congr 2
  funext q
  by_cases hq : q = i.toNatClampNeg
  · subst hq
    simp [updV, vp_updL]
  · simp [updV, vp_updL, hq]
end GHs
section GH
variable {d RC RS nL cells slots pc q t : Nat} {y : MethodName} {cc : ByteArray} {ret : Option FieldType} {Q : Option Value → Hp → Prop} {lv st : List Value} {h : Hp}
/-- what is known of a class: its place in gcl, its fields' types and names, its words -/
def gCls (ci : Nat) (C : String) (T : u_T) (N : Nat) (ty0 : Nat → FieldType) : Prop := gcl[ci]? = some (C, T, N) ∧ (∀ k, k < N → parseFieldDescriptor (T k).2.2.1 = some (ty0 k)) ∧ (∀ a, a < N → ∀ b, b < N → a ≠ b → (T a).2.1 ≠ (T b).2.1) ∧ (∀ w ∈ u_ws C T N, w ∈ gtb) ∧ (gty ci).length = N ∧ ci < 11
def gco : FieldType → Nat
  | .int => 0
  | .long => 1
  | .boolean => 3
  | .array _ => 2
  | .object _ => 2
  | _ => 9
/-- entry idx of class own links to field k of class ci, a field of kind fk; mo: 0 plain, 1 a nest mate's, 2 final -/
def gF (own : String) (idx ci k fk mo : Nat) : Prop := ∃ (C : String) (T : u_T) (N : Nat) (ty0 : Nat → FieldType), gCls ci C T N ty0 ∧ k < N ∧ gco (ty0 k) = fk ∧ (gty ci)[k]? = some fk ∧ ((mo = 0 ∧ Cond.fieldLink own idx (T k).1 (T k).2.1 (T k).2.2.1 ∈ gtb ∧ (T k).2.2.2 = false) ∨ (mo = 1 ∧ ∃ host, Cond.fieldLinkNest own idx (T k).1 (T k).2.1 (T k).2.2.1 host ∈ gnw ∧ (T k).2.2.2 = false) ∨ (mo = 2 ∧ Cond.fieldLink own idx (T k).1 (T k).2.1 (T k).2.2.1 ∈ gtb ∧ (T k).2.2.2 = true))
theorem gen_obj {G : Gp} {h : Hp} {a ci : Nat} (hk : gK h a = ci) (h11 : ci < 11) : gen G h a = .inr (ci, gfs G h a (gty ci) 0) := by
  unfold gen
  rw [hk, if_neg (by omega), if_neg (by omega), if_neg (by omega)]
theorem g_get {a idx ci fi fk mo : Nat} (hf : gF y.cls idx ci fi fk mo) (ha : a ∈ gL h) (hk : gK h a = ci) (hd : gd cc pc (.getfield idx) 3 q) (k : gY d RC RS y cc nL ret cells slots Q q lv (gfp h a fi fk :: st) h) : gY d RC RS y cc nL ret cells slots Q pc lv (.ref a :: st) h := by
  obtain ⟨hd, rfl⟩ := hd
  obtain ⟨C0, T, N, ty0, ⟨hcl, hty, hnm, hin, hlen, h11⟩, hkN, hco, hc, hlink⟩ := hf
  intro p l e s m args below meth c G C ls H locs hl hw hS
  obtain ⟨hx, hb, hml, hown, hts, -, -, -, hKo⟩ := id C
  obtain ⟨hsz, hlt, hP, hD⟩ := id hw
  obtain ⟨q0, hq0⟩ := gwl_get (G := G) ha
  rw [gen_obj hk h11] at hq0
  have hv : (gfs G h a (gty ci) 0)[fi]? = some (gtr G (gfp h a fi fk)) := by rw [gfs_get G h a (gty ci) 0 fi fk hc, Nat.zero_add]
  rcases hlink with ⟨-, hl1, -⟩ | ⟨-, host, hl1, -⟩ | ⟨-, hl1, -⟩
  · exact va_get hx hb hts hin hown hKo.2.1 hP q0 hq0 hcl fi hkN (hts _ hl1) (fun _ z => z) hv hd (k p l e s m args below meth c G C ls H locs hl hw hS)
  · exact va_getN hx hb hts hin hown hKo.2.1 hP q0 hq0 hcl fi hkN (va_Nw.use rfl (hKo.2.2.1 _ hl1)) (fun _ z => z) hv hd (k p l e s m args below meth c G C ls H locs hl hw hS)
  · exact va_get hx hb hts hin hown hKo.2.1 hP q0 hq0 hcl fi hkN (hts _ hl1) (fun _ z => z) hv hd (k p l e s m args below meth c G C ls H locs hl hw hS)
theorem gWh_set {G : Gp} {h h' : Hp} {a k : Nat} {e : va_E} {H H1 : Heap} (hw : gWh G h H) (hk : (gwl G h)[k]? = some (gB G + a, gen G h a)) (h1 : h'.1 = h.1) (he : gen G h' a = e) (ho : ∀ b, b ≠ a → gen G h' b = gen G h b) (hz : H1.size = H.size) (hP : va_P (gD G) gcl ((gwl G h).set k (gB G + a, e)) H1) (hD : va_D (gA G) ((gwl G h).set k (gB G + a, e))) : gWh G h' H1 := by
  obtain ⟨hsz, hlt, hP0, hD0⟩ := hw
  have hL : gL h' = gL h := congrArg Prod.fst h1
  have hn : gn h' = gn h := congrArg Prod.snd h1
  have e1 := gwl_set hD0 hk hL he ho
  rw [e1] at hP hD
  exact ⟨by rw [hz, hsz, hn], fun b hb => by rw [hn]; exact hlt b (by rw [← hL]; exact hb), hP, hD⟩
theorem g_put {a idx ci fi fk mo : Nat} {v : Value} {h' : Hp} (hf : gF y.cls idx ci fi fk mo) (ha : a ∈ gL h) (hk : gK h a = ci) (h1 : h'.1 = h.1) (hkk : gK h' a = gK h a) (hv : gfp h' a fi fk = v) (hoo : ∀ k' c', (gty ci)[k']? = some c' → k' ≠ fi → gfp h' a k' c' = gfp h a k' c') (ho : ∀ (G : Gp) b, b ≠ a → gen G h' b = gen G h b)
    (hfit : ∀ (G : Gp) (ty : FieldType), gco ty = fk → narrow ty (gtr G v) = gtr G v ∧ fits ty (gtr G v) = true) (hfin : mo = 2 → y.name = "<init>" ∧ gcl[ci]?.map (fun r => (r.2.1 fi).1) = some y.cls) (hd : gd cc pc (.putfield idx) 3 q) (k : gY d RC RS y cc nL ret cells slots Q q lv st h') : gY d RC RS y cc nL ret cells slots Q pc lv (v :: .ref a :: st) h := by
  obtain ⟨hd, rfl⟩ := hd
  obtain ⟨C0, T, N, ty0, ⟨hcl, hty, hnm, hin, hlen, h11⟩, hkN, hco, hc, hlink⟩ := hf
  intro p l e s m args below meth c G C ls H locs hl hw hS
  obtain ⟨hx, hb, hml, hown, hts, -, -, hname, hKo⟩ := id C
  obtain ⟨hsz, hlt, hP, hD⟩ := id hw
  obtain ⟨q0, hq0⟩ := gwl_get (G := G) ha
  have hq1 := hq0
  rw [gen_obj hk h11] at hq1
  obtain ⟨f1, f2⟩ := hfit G (ty0 fi) hco
  have hgo : ∀ (H1 : Heap) (locs1 : List Loc), H1.size = H.size → va_P (gD G) gcl ((gwl G h).set q0 (gB G + a, .inr (ci, (gfs G h a (gty ci) 0).set fi (gtr G v)))) H1 → va_D (gA G) ((gwl G h).set q0 (gB G + a, .inr (ci, (gfs G h a (gty ci) 0).set fi (gtr G v)))) → va_S (gA G) s.heap H1 locs1 → W p l e (grm d RC RS) s m args below meth c H1 locs1 cells slots (MQ below (gQc G Q) args s RC RS (gA G)) (F0 m (pc + 3) ls (st.map (gtr G))) := by
    intro H1 locs1 hz hP1 hD1 hS1
    refine k p l e s m args below meth c G C ls H1 locs1 hl (gWh_set hw hq0 h1 ?_ (ho G) hz hP1 hD1) hS1
    rw [gen_obj (hkk.trans hk) h11, gfs_set G (gty ci) hc hv hoo]
  rcases hlink with ⟨hm, hl1, hl2⟩ | ⟨hm, host, hl1, hl2⟩ | ⟨hm, hl1, hl2⟩
  · exact gw_put (host := "") 0 hx hb hts hin ty0 hty hnm hown hKo.2.1 hP hD hS q0 hq1 hcl fi hkN (Or.inl ⟨rfl, hts _ hl1, hl2⟩) f1 f2 (by rw [gfs_len, hlen]; exact hkN) hd hgo
  · exact gw_put (host := host) 1 hx hb hts hin ty0 hty hnm hown hKo.2.1 hP hD hS q0 hq1 hcl fi hkN (Or.inr (Or.inl ⟨rfl, va_Nw.use rfl (hKo.2.2.1 _ hl1), hl2⟩)) f1 f2 (by rw [gfs_len, hlen]; exact hkN) hd hgo
  · obtain ⟨i1, i2⟩ := hfin hm
    rw [hcl] at i2
    exact gw_put (host := "") 2 hx hb hts hin ty0 hty hnm hown hKo.2.1 hP hD hS q0 hq1 hcl fi hkN (Or.inr (Or.inr ⟨rfl, hts _ hl1, hl2, hname.trans i1, Option.some.inj i2⟩)) f1 f2 (by rw [gfs_len, hlen]; exact hkN) hd hgo
/-- reads by kind -/
theorem g_getI {a idx ci fi fk mo : Nat} (hf : gF y.cls idx ci fi fk mo) (hk0 : fk ≠ 1 ∧ fk ≠ 2) (ha : a ∈ gL h) (hk : gK h a = ci) (hd : gd cc pc (.getfield idx) 3 q) (k : gY d RC RS y cc nL ret cells slots Q q lv (.int (gI h a fi) :: st) h) : gY d RC RS y cc nL ret cells slots Q pc lv (.ref a :: st) h := by
  refine g_get hf ha hk hd ?_
  rw [show gfp h a fi fk = .int (gI h a fi) by unfold gfp; rw [if_neg hk0.1, if_neg hk0.2]]
  exact k
theorem g_getJ {a idx ci fi mo : Nat} (hf : gF y.cls idx ci fi 1 mo) (ha : a ∈ gL h) (hk : gK h a = ci) (hd : gd cc pc (.getfield idx) 3 q) (k : gY d RC RS y cc nL ret cells slots Q q lv (.long (gJ h a fi) :: st) h) : gY d RC RS y cc nL ret cells slots Q pc lv (.ref a :: st) h := g_get hf ha hk hd k
theorem g_getO {a idx ci fi mo : Nat} (hf : gF y.cls idx ci fi 2 mo) (ha : a ∈ gL h) (hk : gK h a = ci) (hd : gd cc pc (.getfield idx) 3 q) (k : gY d RC RS y cc nL ret cells slots Q q lv (va_rf (gR h a fi) :: st) h) : gY d RC RS y cc nL ret cells slots Q pc lv (.ref a :: st) h := g_get hf ha hk hd k
theorem g_getR {a b idx ci fi mo : Nat} (hf : gF y.cls idx ci fi 2 mo) (ha : a ∈ gL h) (hk : gK h a = ci) (hr : gR h a fi = some b) (hd : gd cc pc (.getfield idx) 3 q) (k : gY d RC RS y cc nL ret cells slots Q q lv (.ref b :: st) h) : gY d RC RS y cc nL ret cells slots Q pc lv (.ref a :: st) h := by
  refine g_getO hf ha hk hd ?_
  rw [hr]
  exact k
theorem gen_congr {G : Gp} {h h' : Hp} {b : Nat} (h1 : gK h' b = gK h b) (h2 : gN h' b = gN h b) (h3 : gI h' b = gI h b) (h4 : gJ h' b = gJ h b) (h5 : gR h' b = gR h b) : gen G h' b = gen G h b := by
  have e2 : ∀ cs, gfs G h' b cs 0 = gfs G h b cs 0 := fun cs => gfs_congr G cs 0 (fun j c _ => by unfold gfp; rw [h3, h4, h5])
  unfold gen
  rw [h1, h2, h3, h4, e2]
theorem gen_pI {G : Gp} {h : Hp} {a k : Nat} {v : Int32} {b : Nat} (hb : b ≠ a) : gen G (pI h a k v) b = gen G h b := gen_congr rfl rfl (u2_na _ _ _ hb) rfl rfl
theorem gen_pJ {G : Gp} {h : Hp} {a k : Nat} {v : Int64} {b : Nat} (hb : b ≠ a) : gen G (pJ h a k v) b = gen G h b := gen_congr rfl rfl rfl (u2_na _ _ _ hb) rfl
theorem gen_pR {G : Gp} {h : Hp} {a k : Nat} {v : Option Nat} {b : Nat} (hb : b ≠ a) : gen G (pR h a k v) b = gen G h b := gen_congr rfl rfl rfl rfl (u2_na _ _ _ hb)
theorem g_putI {a idx ci fi mo : Nat} {v : Int32} (hf : gF y.cls idx ci fi 0 mo) (hfin : mo = 2 → y.name = "<init>" ∧ gcl[ci]?.map (fun r => (r.2.1 fi).1) = some y.cls) (ha : a ∈ gL h) (hk : gK h a = ci) (hd : gd cc pc (.putfield idx) 3 q) (k : gY d RC RS y cc nL ret cells slots Q q lv st (pI h a fi v)) : gY d RC RS y cc nL ret cells slots Q pc lv (.int v :: .ref a :: st) h := by
  refine g_put (h' := pI h a fi v) hf ha hk rfl rfl (by show Value.int (u2 _ _ _ _ _ _) = _; rw [u2_s]) (fun k' c' hc' hn => ?_) (fun G b hb => gen_pI hb) (fun G ty hty => ?_) hfin hd k
  · show (if c' = 1 then _ else if c' = 2 then _ else Value.int (u2 (gI h) a fi v a k')) = (if c' = 1 then _ else if c' = 2 then _ else Value.int (gI h a k'))
    rw [u2_n _ _ (fun z => hn z.2)]
    rfl
  · cases ty <;> first | exact ⟨rfl, rfl⟩ | (simp [gco] at hty)
theorem g_putZ {a idx ci fi mo : Nat} {v : Int32} (hf : gF y.cls idx ci fi 3 mo) (hv01 : v = 0 ∨ v = 1) (hfin : mo = 2 → y.name = "<init>" ∧ gcl[ci]?.map (fun r => (r.2.1 fi).1) = some y.cls) (ha : a ∈ gL h) (hk : gK h a = ci) (hd : gd cc pc (.putfield idx) 3 q) (k : gY d RC RS y cc nL ret cells slots Q q lv st (pI h a fi v)) : gY d RC RS y cc nL ret cells slots Q pc lv (.int v :: .ref a :: st) h := by
  refine g_put (h' := pI h a fi v) hf ha hk rfl rfl (by show Value.int (u2 _ _ _ _ _ _) = _; rw [u2_s]) (fun k' c' hc' hn => ?_) (fun G b hb => gen_pI hb) (fun G ty hty => ?_) hfin hd k
  · show (if c' = 1 then _ else if c' = 2 then _ else Value.int (u2 (gI h) a fi v a k')) = (if c' = 1 then _ else if c' = 2 then _ else Value.int (gI h a k'))
    rw [u2_n _ _ (fun z => hn z.2)]
    rfl
  · cases ty <;> first | (rcases hv01 with rfl | rfl <;> exact ⟨rfl, rfl⟩) | (simp [gco] at hty)
theorem g_putJ {a idx ci fi mo : Nat} {v : Int64} (hf : gF y.cls idx ci fi 1 mo) (hfin : mo = 2 → y.name = "<init>" ∧ gcl[ci]?.map (fun r => (r.2.1 fi).1) = some y.cls) (ha : a ∈ gL h) (hk : gK h a = ci) (hd : gd cc pc (.putfield idx) 3 q) (k : gY d RC RS y cc nL ret cells slots Q q lv st (pJ h a fi v)) : gY d RC RS y cc nL ret cells slots Q pc lv (.long v :: .ref a :: st) h := by
  refine g_put (h' := pJ h a fi v) hf ha hk rfl rfl (by show Value.long (u2 _ _ _ _ _ _) = _; rw [u2_s]) (fun k' c' hc' hn => ?_) (fun G b hb => gen_pJ hb) (fun G ty hty => ?_) hfin hd k
  · show (if c' = 1 then Value.long (u2 (gJ h) a fi v a k') else if c' = 2 then _ else _) = (if c' = 1 then Value.long (gJ h a k') else if c' = 2 then _ else _)
    rw [u2_n _ _ (fun z => hn z.2)]
    rfl
  · cases ty <;> first | exact ⟨rfl, rfl⟩ | (simp [gco] at hty)
theorem g_putR {a b idx ci fi mo : Nat} (hf : gF y.cls idx ci fi 2 mo) (hfin : mo = 2 → y.name = "<init>" ∧ gcl[ci]?.map (fun r => (r.2.1 fi).1) = some y.cls) (ha : a ∈ gL h) (hk : gK h a = ci) (hd : gd cc pc (.putfield idx) 3 q) (k : gY d RC RS y cc nL ret cells slots Q q lv st (pR h a fi (some b))) : gY d RC RS y cc nL ret cells slots Q pc lv (.ref b :: .ref a :: st) h := by
  refine g_put (h' := pR h a fi (some b)) hf ha hk rfl rfl (by show va_rf (u2 _ _ _ _ _ _) = _; rw [u2_s]; rfl) (fun k' c' hc' hn => ?_) (fun G b hb => gen_pR hb) (fun G ty hty => ?_) hfin hd k
  · show (if c' = 1 then _ else if c' = 2 then va_rf (u2 (gR h) a fi (some b) a k') else _) = (if c' = 1 then _ else if c' = 2 then va_rf (gR h a k') else _)
    rw [u2_n _ _ (fun z => hn z.2)]
    rfl
  · cases ty <;> first | exact ⟨rfl, rfl⟩ | (simp [gco] at hty)
/-- arrays -/
theorem g_iaload {a : Nat} {i : Int32} (ha : a ∈ gL h) (hk : gK h a = 12) (hi : vp_in i (gN h a)) (hd : gd cc pc .iaload 1 q) (k : gY d RC RS y cc nL ret cells slots Q q lv (.int (gI h a i.toNatClampNeg) :: st) h) : gY d RC RS y cc nL ret cells slots Q pc lv (.int i :: .ref a :: st) h := by
  obtain ⟨hd, rfl⟩ := hd
  intro p l e s m args below meth c G C ls H locs hl hw hS
  obtain ⟨hx, hb, hml, hown, hts, -, -, -, hKo⟩ := id C
  obtain ⟨hsz, hlt, hP, hD⟩ := id hw
  obtain ⟨q0, hq0⟩ := gwl_get (G := G) ha
  rw [show gen G h a = .inl (gcI G, gN h a, .inl (gI h a)) by unfold gen; rw [hk]; rfl] at hq0
  exact va_iald hx hb hKo.2.1 hP q0 1 hq0 rfl hi hd (k p l e s m args below meth c G C ls H locs hl hw hS)
theorem g_baload {a : Nat} {i : Int32} (ha : a ∈ gL h) (hk : gK h a = 11) (hi : vp_in i (gN h a)) (hd : gd cc pc .baload 1 q) (k : gY d RC RS y cc nL ret cells slots Q q lv (.int (gI h a i.toNatClampNeg) :: st) h) : gY d RC RS y cc nL ret cells slots Q pc lv (.int i :: .ref a :: st) h := by
  obtain ⟨hd, rfl⟩ := hd
  intro p l e s m args below meth c G C ls H locs hl hw hS
  obtain ⟨hx, hb, hml, hown, hts, -, -, -, hKo⟩ := id C
  obtain ⟨hsz, hlt, hP, hD⟩ := id hw
  obtain ⟨q0, hq0⟩ := gwl_get (G := G) ha
  rw [show gen G h a = .inl (gcB G, gN h a, .inl (gI h a)) by unfold gen; rw [hk]; rfl] at hq0
  exact va_bald hx hb hKo.2.1 hP q0 0 hq0 rfl hi hd (k p l e s m args below meth c G C ls H locs hl hw hS)
theorem g_laload {a : Nat} {i : Int32} (ha : a ∈ gL h) (hk : gK h a = 13) (hi : vp_in i (gN h a)) (hd : gd cc pc .laload 1 q) (k : gY d RC RS y cc nL ret cells slots Q q lv (.long (gJ h a i.toNatClampNeg) :: st) h) : gY d RC RS y cc nL ret cells slots Q pc lv (.int i :: .ref a :: st) h := by
  obtain ⟨hd, rfl⟩ := hd
  intro p l e s m args below meth c G C ls H locs hl hw hS
  obtain ⟨hx, hb, hml, hown, hts, -, -, -, hKo⟩ := id C
  obtain ⟨hsz, hlt, hP, hD⟩ := id hw
  obtain ⟨q0, hq0⟩ := gwl_get (G := G) ha
  rw [show gen G h a = .inl (gcJ G, gN h a, .inr (.inl (gJ h a))) by unfold gen; rw [hk]; rfl] at hq0
  exact va_lald hx hb hKo.2.1 hP q0 2 hq0 rfl hi hd (k p l e s m args below meth c G C ls H locs hl hw hS)
theorem g_alen {a : Nat} (ha : a ∈ gL h) (hk : gK h a = 11 ∨ gK h a = 12) (hd : gd cc pc .arraylength 1 q) (k : gY d RC RS y cc nL ret cells slots Q q lv (.int (nI (gN h a)) :: st) h) : gY d RC RS y cc nL ret cells slots Q pc lv (.ref a :: st) h := by
  obtain ⟨hd, rfl⟩ := hd
  intro p l e s m args below meth c G C ls H locs hl hw hS
  obtain ⟨hx, hb, hml, hown, hts, -, -, -, hKo⟩ := id C
  obtain ⟨hsz, hlt, hP, hD⟩ := id hw
  obtain ⟨q0, hq0⟩ := gwl_get (G := G) ha
  rcases hk with hk | hk
  · rw [show gen G h a = .inl (gcB G, gN h a, .inl (gI h a)) by unfold gen; rw [hk]; rfl] at hq0
    exact va_alen hx hb hKo.2.1 hP q0 0 hq0 (ty := .byte) rfl rfl hd (k p l e s m args below meth c G C ls H locs hl hw hS)
  · rw [show gen G h a = .inl (gcI G, gN h a, .inl (gI h a)) by unfold gen; rw [hk]; rfl] at hq0
    exact va_alen hx hb hKo.2.1 hP q0 1 hq0 (ty := .int) rfl rfl hd (k p l e s m args below meth c G C ls H locs hl hw hS)
theorem u2_row {α : Type} (f : Nat → Nat → α) (a k : Nat) (v : α) : u2 f a k v a = fun j => if j = k then v else f a j := by
  funext j
  simp [u2]
theorem g_iastore {a : Nat} {i x : Int32} (ha : a ∈ gL h) (hk : gK h a = 12) (hi : vp_in i (gN h a)) (hd : gd cc pc .iastore 1 q) (k : gY d RC RS y cc nL ret cells slots Q q lv st (pI h a i.toNatClampNeg x)) : gY d RC RS y cc nL ret cells slots Q pc lv (.int x :: .int i :: .ref a :: st) h := by
  obtain ⟨hd, rfl⟩ := hd
  intro p l e s m args below meth c G C ls H locs hl hw hS
  obtain ⟨hx, hb, hml, hown, hts, -, -, -, hKo⟩ := id C
  obtain ⟨hsz, hlt, hP, hD⟩ := id hw
  obtain ⟨q0, hq0⟩ := gwl_get (G := G) ha
  have hq1 := hq0
  rw [show gen G h a = .inl (gcI G, gN h a, .inl (gI h a)) by unfold gen; rw [hk]; rfl] at hq1
  refine gw_iast hx hb hKo.2.1 hP hD hS q0 1 hq1 rfl hi hd (fun H1 locs1 hz hP1 hD1 hS1 => k p l e s m args below meth c G C ls H1 locs1 hl (gWh_set hw hq0 rfl ?_ (fun b hb => gen_pI hb) hz hP1 hD1) hS1)
  have e : gI (pI h a i.toNatClampNeg x) a = upd (gI h a) i.toNatClampNeg x := by
    show u2 (gI h) a i.toNatClampNeg x a = _
    rw [u2_row]
    funext j
    simp [upd]
  unfold gen
  rw [show gK (pI h a i.toNatClampNeg x) a = 12 from hk, e]
  rfl
theorem g_bastore {a : Nat} {i x : Int32} (ha : a ∈ gL h) (hk : gK h a = 11) (hi : vp_in i (gN h a)) (hd : gd cc pc .bastore 1 q) (k : gY d RC RS y cc nL ret cells slots Q q lv st (pI h a i.toNatClampNeg x.toInt8.toInt32)) : gY d RC RS y cc nL ret cells slots Q pc lv (.int x :: .int i :: .ref a :: st) h := by
  obtain ⟨hd, rfl⟩ := hd
  intro p l e s m args below meth c G C ls H locs hl hw hS
  obtain ⟨hx, hb, hml, hown, hts, -, -, -, hKo⟩ := id C
  obtain ⟨hsz, hlt, hP, hD⟩ := id hw
  obtain ⟨q0, hq0⟩ := gwl_get (G := G) ha
  have hq1 := hq0
  rw [show gen G h a = .inl (gcB G, gN h a, .inl (gI h a)) by unfold gen; rw [hk]; rfl] at hq1
  refine gw_bast hx hb hKo.2.1 hP hD hS q0 0 hq1 rfl hi hd (fun H1 locs1 hz hP1 hD1 hS1 => k p l e s m args below meth c G C ls H1 locs1 hl (gWh_set hw hq0 rfl ?_ (fun b hb => gen_pI hb) hz hP1 hD1) hS1)
  have e : gI (pI h a i.toNatClampNeg x.toInt8.toInt32) a = upd (gI h a) i.toNatClampNeg (vp_nar .byte x) := by
    show u2 (gI h) a i.toNatClampNeg x.toInt8.toInt32 a = _
    rw [u2_row, vp_nar_byte]
    funext j
    simp [upd]
  unfold gen
  rw [show gK (pI h a i.toNatClampNeg x.toInt8.toInt32) a = 11 from hk, e]
  rfl
theorem g_lastore {a : Nat} {i : Int32} {x : Int64} (ha : a ∈ gL h) (hk : gK h a = 13) (hi : vp_in i (gN h a)) (hd : gd cc pc .lastore 1 q) (k : gY d RC RS y cc nL ret cells slots Q q lv st (pJ h a i.toNatClampNeg x)) : gY d RC RS y cc nL ret cells slots Q pc lv (.long x :: .int i :: .ref a :: st) h := by
  obtain ⟨hd, rfl⟩ := hd
  intro p l e s m args below meth c G C ls H locs hl hw hS
  obtain ⟨hx, hb, hml, hown, hts, -, -, -, hKo⟩ := id C
  obtain ⟨hsz, hlt, hP, hD⟩ := id hw
  obtain ⟨q0, hq0⟩ := gwl_get (G := G) ha
  have hq1 := hq0
  rw [show gen G h a = .inl (gcJ G, gN h a, .inr (.inl (gJ h a))) by unfold gen; rw [hk]; rfl] at hq1
  refine gw_last hx hb hKo.2.1 hP hD hS q0 2 hq1 rfl hi hd (fun H1 locs1 hz hP1 hD1 hS1 => k p l e s m args below meth c G C ls H1 locs1 hl (gWh_set hw hq0 rfl ?_ (fun b hb => gen_pJ hb) hz hP1 hD1) hS1)
  have e : gJ (pJ h a i.toNatClampNeg x) a = vp_updL (gJ h a) i.toNatClampNeg x := by
    show u2 (gJ h) a i.toNatClampNeg x a = _
    rw [u2_row]
    funext j
    simp [vp_updL]
  unfold gen
  rw [show gK (pJ h a i.toNatClampNeg x) a = 13 from hk, e]
  rfl
/-- a new array: kind 11 byte, 12 int, 13 long -/
theorem gen_pN {G : Gp} {h : Hp} {k n b : Nat} (hb : b ≠ gn h) : gen G (pN h k n) b = gen G h b := gen_congr (u1_n _ _ hb) (u1_n _ _ hb) (u1_n _ _ hb) (u1_n _ _ hb) (u1_n _ _ hb)
theorem gWh_push {G : Gp} {h : Hp} {k n : Nat} {e : va_E} {H H1 : Heap} (hw : gWh G h H) (he : gen G (pN h k n) (gn h) = e) (hz : H1.size = H.size + 1) (hP : va_P (gD G) gcl (gwl G h ++ [(gB G + gn h, e)]) H1) (hD : va_D (gA G) (gwl G h ++ [(gB G + gn h, e)])) : gWh G (pN h k n) H1 := by
  obtain ⟨hsz, hlt, hP0, hD0⟩ := hw
  have e1 := gwl_push (G := G) (h := h) (h' := pN h k n) (n := gn h) (e := e) rfl he (fun b hb => gen_pN (Nat.ne_of_lt (hlt b hb)))
  rw [e1] at hP hD
  refine ⟨by rw [hz, hsz]; rfl, fun b hb => ?_, hP, hD⟩
  rcases List.mem_append.mp hb with hb | hb
  · exact Nat.lt_succ_of_lt (hlt b hb)
  · rw [List.mem_singleton.mp hb]; exact Nat.lt_succ_self _
theorem g_newarr {kd : Nat} {at0 : ArrayType} {ty : FieldType} {n : Int32} {N' : Nat} (hty : newarray.typeOf at0 = ty) (hkd : (kd = 11 ∧ ty = .byte) ∨ (kd = 12 ∧ ty = .int) ∨ (kd = 13 ∧ ty = .long)) (hin : Cond.arrayClass ty ∈ gtb) (hn : ¬ n < 0) (hN : n.toNatClampNeg = N') (hby : N' * componentBytes ty ≤ 536870912) (hc : cells + 1 ≤ RC) (hs : slots + N' ≤ RS) (hd : gd cc pc (.newarray at0) 2 q) (k : gY d RC RS y cc nL ret (cells + 1) (slots + N') Q q lv (.ref (gn h) :: st) (pN h kd N')) : gY d RC RS y cc nL ret cells slots Q pc lv (.int n :: st) h := by
  obtain ⟨hd, rfl⟩ := hd
  subst hty
  intro p l e s m args below meth c G C ls H locs hl hw hS
  obtain ⟨hx, hb, hml, hown, hts, -, -, -, hKo⟩ := id C
  obtain ⟨hsz, hlt, hP, hD⟩ := id hw
  refine va_newaK hx hb (hts _ hin) rfl hd rfl hn hN hby hc hs hsz (fun H1 cA e1 z1 o1 hAr hNm => ?_)
  have hkp : ∀ (k : Nat) (x : Nat × va_E), (gwl G h)[k]? = some x → H1[x.1]? = H[x.1]? := fun k x hx9 => o1 x.1 (by rw [← hsz]; exact (hP k x hx9).lt)
  have hcA : (kd = 11 → cA = gcB G) ∧ (kd = 12 → cA = gcI G) ∧ (kd = 13 → cA = gcJ G) := by
    refine ⟨fun z => ?_, fun z => ?_, fun z => ?_⟩
    · have e9 : newarray.typeOf at0 = .byte := by rcases hkd with ⟨a, b⟩ | ⟨a, b⟩ | ⟨a, b⟩ <;> first | exact b | omega
      rw [e9] at hNm
      have h2 : s.vm.findClass ("[" ++ FieldType.byte.toString) = some (gcB G) := (hKo.2.1.2 0 _ rfl).2
      exact Option.some.inj (hNm.symm.trans h2)
    · have e9 : newarray.typeOf at0 = .int := by rcases hkd with ⟨a, b⟩ | ⟨a, b⟩ | ⟨a, b⟩ <;> first | exact b | omega
      rw [e9] at hNm
      have h2 : s.vm.findClass ("[" ++ FieldType.int.toString) = some (gcI G) := (hKo.2.1.2 1 _ rfl).2
      exact Option.some.inj (hNm.symm.trans h2)
    · have e9 : newarray.typeOf at0 = .long := by rcases hkd with ⟨a, b⟩ | ⟨a, b⟩ | ⟨a, b⟩ <;> first | exact b | omega
      rw [e9] at hNm
      have h2 : s.vm.findClass ("[" ++ FieldType.long.toString) = some (gcJ G) := (hKo.2.1.2 2 _ rfl).2
      exact Option.some.inj (hNm.symm.trans h2)
  have hK0 : gK (pN h kd N') (gn h) = kd := u1_s _ _ _
  have hN0 : gN (pN h kd N') (gn h) = N' := u1_s _ _ _
  have hI0 : gI (pN h kd N') (gn h) = fun _ => 0 := u1_s _ _ _
  have hJ0 : gJ (pN h kd N') (gn h) = fun _ => 0 := u1_s _ _ _
  have he : ∃ a0 : vp_A, gen G (pN h kd N') (gn h) = .inl (cA, a0) ∧ vp_cell cA a0 = arrV cA N' (fun _ => defaultValue (newarray.typeOf at0)) := by
    rcases hkd with ⟨a, b⟩ | ⟨a, b⟩ | ⟨a, b⟩
    · refine ⟨(N', .inl (fun _ => 0)), ?_, by rw [b]; rfl⟩
      unfold gen
      rw [hK0, hN0, hI0, hcA.1 a, a]; rfl
    · refine ⟨(N', .inl (fun _ => 0)), ?_, by rw [b]; rfl⟩
      unfold gen
      rw [hK0, hN0, hI0, hcA.2.1 a, a]; rfl
    · refine ⟨(N', .inr (.inl (fun _ => 0))), ?_, by rw [b]; rfl⟩
      unfold gen
      rw [hK0, hN0, hJ0, hcA.2.2 a, a]; rfl
  obtain ⟨a0, he1, he2⟩ := he
  refine k p l e s m args below meth c G C ls H1 locs hl (gWh_push hw he1 (by rw [z1, hsz]) ((hP.kept hkp).app (fun k x hx9 => ?_)) (hD.push hP (by rw [hsz]) (Nat.le_add_right _ _))) ⟨Nat.le_trans hS.1 (by omega), fun x h1 h2 => (o1 x (by rw [← hsz]; exact Nat.lt_of_lt_of_le h1 hS.1)).trans (hS.2.1 x h1 h2), hS.2.2⟩
  have hz : k < 1 := (List.getElem?_eq_some_iff.mp hx9).1
  rw [show k = 0 by omega] at hx9
  cases hx9
  show H1[gB G + gn h]? = some (vp_cell _ _)
  rw [he2]
  exact e1
/-- a new object -/
theorem g_new {ci N idx : Nat} {C0 : String} {T : u_T} {ty0 : Nat → FieldType} (hcls : gCls ci C0 T N ty0) (hty0 : ∀ j, j < N → gco (ty0 j) = (gty ci).getD j 9 ∧ gco (ty0 j) ≠ 9) (hcl : Cond.classLink y.cls idx C0 ∈ gtb) (hins : Cond.instantiable C0 N ∈ gtb) (hini : Cond.initialized C0 ∈ gtb) (hc : cells + 1 ≤ RC) (hs : slots + N ≤ RS) (hd : gd cc pc (.new idx) 3 q) (k : gY d RC RS y cc nL ret (cells + 1) (slots + N) Q q lv (.ref (gn h) :: st) (pN h ci 0)) : gY d RC RS y cc nL ret cells slots Q pc lv st h := by
  obtain ⟨hd, rfl⟩ := hd
  obtain ⟨hcl0, hty, hnm, hin, hlen, h11⟩ := hcls
  intro p l e s m args below meth c G C ls H locs hl hw hS
  obtain ⟨hx, hb, hml, hown, hts, -, -, -, hKo⟩ := id C
  obtain ⟨hsz, hlt, hP, hD⟩ := id hw
  have hKn := hKo.2.1.1 ci _ hcl0
  refine W.newcK hx hb hown (hts _ hcl) (hts _ hins) (hts _ hini) rfl hd hc hs hKn.2.1 hsz (fun H1 kC hkC e1 z1 o1 => ?_)
  have hkp : ∀ (k : Nat) (x : Nat × va_E), (gwl G h)[k]? = some x → H1[x.1]? = H[x.1]? := fun k x hx9 => o1 x.1 (by rw [← hsz]; exact (hP k x hx9).lt)
  have hK0 : gK (pN h ci 0) (gn h) = ci := u1_s _ _ _
  have he : gen G (pN h ci 0) (gn h) = .inr (ci, gfs G (pN h ci 0) (gn h) (gty ci) 0) := gen_obj hK0 h11
  refine k p l e s m args below meth c G C ls H1 locs hl (gWh_push hw he (by rw [z1, hsz]) ((hP.kept hkp).app (fun k x hx9 => ?_)) (hD.push hP (by rw [hsz]) (Nat.le_add_right _ _))) ⟨Nat.le_trans hS.1 (by omega), fun x h1 h2 => (o1 x (by rw [← hsz]; exact Nat.lt_of_lt_of_le h1 hS.1)).trans (hS.2.1 x h1 h2), hS.2.2⟩
  have hz : k < 1 := (List.getElem?_eq_some_iff.mp hx9).1
  rw [show k = 0 by omega] at hx9
  cases hx9
  refine ⟨_, hcl0, (u_born ty0 hts hin hKn hkC e1 hty).to (fun j hj => ?_)⟩
  obtain ⟨g1, g2⟩ := hty0 j hj
  have hcj : (gty ci)[j]? = some (gco (ty0 j)) := by
    rw [g1, List.getD_eq_getElem?_getD]
    have : j < (gty ci).length := by rw [hlen]; exact hj
    simp [this]
  show defaultValue (ty0 j) = (gfs G (pN h ci 0) (gn h) (gty ci) 0).getD j .null
  rw [List.getD_eq_getElem?_getD, gfs_get G _ _ _ 0 j _ hcj, Nat.zero_add]
  have hI0 : gI (pN h ci 0) (gn h) j = 0 := congrFun (u1_s (gI h) (gn h) (fun _ => (0 : Int32))) j
  have hJ0 : gJ (pN h ci 0) (gn h) j = 0 := congrFun (u1_s (gJ h) (gn h) (fun _ => (0 : Int64))) j
  have hR0 : gR (pN h ci 0) (gn h) j = none := congrFun (u1_s (gR h) (gn h) (fun _ => (none : Option Nat))) j
  unfold gfp
  rw [hI0, hJ0, hR0]
  revert g2
  cases ty0 j <;> intro g2 <;> first | rfl | exact absurd rfl g2
end GH

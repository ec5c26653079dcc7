/-! THE REFERENCE'S PARSER: lines with a new name -/
abbrev nnC (C : CT) : Nat → Nat := fun k => pn (C 1 k)
abbrev RD (h : Hp) (c : Nat) (C : CT) : Prop := RC h c C (nnC C)
def RCx (h : Hp) (c : Nat) (C : CT) (lv : Nat → Nat → Prop) : Prop := RSc h c C ∧ RA h c C lv ∧ RSh h c C
section RX
variable {h : Hp} {c : Nat} {C : CT} {lv lv' : Nat → Nat → Prop}
theorem RCx.put (r : RCx h c C lv) {a0 : Nat} (h1 : 1 ≤ a0) (n : Nat) (v : Int32) : RCx (pI h (c + a0) n v) c (u2 C (a0 + 1) n v) (fun a j => lv a j ∨ (a = a0 ∧ j = n)) := ⟨(r.1.off (by omega) v).arr (by omega) v, r.2.1.put a0 n v, (r.2.2.off (by omega) v).u (by omega) v⟩
theorem RCx.cnt (r : RCx h c C lv) {f0 : Nat} (hf : f0 < 13) (v : Int32) : RCx (pI h c f0 v) c (u2 C (saF f0) (sjF f0) v) lv := ⟨r.1.put hf v, (r.2.1.off (Or.inl (Nat.le_refl c)) v).sc (sj_sh ⟨f0, hf⟩).2.2 v, (r.2.2.off (by omega) v).u ⟨(sj_sh ⟨f0, hf⟩).1, (sj_sh ⟨f0, hf⟩).2.1⟩ v⟩
theorem RCx.w (r : RCx h c C lv) (hl : ∀ a j, 1 ≤ a → a ≤ 13 → lv' a j → lv a j) : RCx h c C lv' := ⟨r.1, r.2.1.w hl, r.2.2⟩
end RX
theorem nn_up {C D : CT} {k n : Nat} (hk : C 1 k = nI n) (hn : n ≤ 1100) (hD : ∀ j, D 1 j = C 1 j) : nnC (u2 D 1 k (D 1 k + 1)) = u1 (nnC C) k (nnC C k + 1) := by
  funext j
  show pn (u2 D 1 k (D 1 k + 1) 1 j) = _
  by_cases z : j = k
  · subst z
    rw [u2_s, u1_s, hD, hk, nI_1, pn_nI (by omega)]
    show n + 1 = pn (C 1 j) + 1
    rw [hk, pn_nI (by omega)]
  · rw [u2_n _ _ (fun y => z y.2), u1_n _ _ z, hD]
theorem eb_ok {α β : Type} (a : α) (F : α → Ex β) : Except.bind (.ok a : Ex α) F = F a := rfl
theorem eb_er {α β : Type} (e : Int32 × Nat) (F : α → Ex β) : Except.bind (.error e : Ex α) F = .error e := rfl
theorem eb_as {α β γ : Type} (o : Ex α) (F : α → Ex β) (G : β → Ex γ) : Except.bind (Except.bind o F) G = Except.bind o (fun a => Except.bind (F a) G) := by cases o <;> rfl
/-- the end of a line -/
def LM (tx : Nat → Int32) (en : Nat) (h : Hp) (c : Nat) (o : LR) (v : Option Value) (h' : Hp) : Prop := v = none ∧ PG c h' h ∧ LB h' ∧ ((∃ e, o = .error e ∧ RF h' e) ∨ ∃ x, o = .ok x ∧ RK tx en h' x.1 ∧ RB tx en h' c x.2.2 ∧ RD h' c x.2.1)
def cuP (k : Nat) (x : Nat × CT × List Nm) : LR := .ok (x.1, u2 x.2.1 1 k (x.2.1 1 k + 1), x.2.2)
def o1P (tx : Nat → Int32) (en : Nat) (C : CT) (q k : Nat) (rm : Int32) : Ex Nat := if C 1 k = rm then er tx en 5 q else if C 0 1 = 0 then er tx en 6 q else .ok (nx tx en q)
def lxB (tx : Nat → Int32) (en : Nat) (C : CT) (q k : Nat) (rm : Int32) (F : Nat → LR) : LR := (o1P tx en C q k rm).bind fun q => (F q).bind (cuP k)
theorem nm_nf {tx : Nat → Int32} {en q : Nat} {K : List Nm} (so nu : Int32) : nmP tx en q K so nu = (nfP tx en q K).bind fun y => .ok (y.2, adP K (y.1, so, nu)) := by
  unfold nmP nfP
  repeat' split
  all_goals rfl
theorem lx_nm {tx : Nat → Int32} {en : Nat} {C : CT} {q k : Nat} {rm : Int32} {K : List Nm} (so nu : Int32) (F : Nat × List Nm → LR) : lxB tx en C q k rm (fun q => (nmP tx en q K so nu).bind F) = ((o1P tx en C q k rm).bind fun q => nfP tx en q K).bind fun y => (F (y.2, adP K (y.1, so, nu))).bind (cuP k) := by
  unfold lxB
  rw [eb_as]
  refine congrArg _ (funext fun q => ?_)
  show Except.bind (Except.bind (nmP tx en q K so nu) F) (cuP k) = _
  rw [nm_nf, eb_as, eb_as]
  rfl
theorem o1_ok {tx : Nat → Int32} {en : Nat} {C : CT} {q k : Nat} {rm : Int32} {a : Nat} (h : o1P tx en C q k rm = .ok a) : ¬ C 1 k = rm ∧ ¬ C 0 1 = 0 ∧ a = nx tx en q := by
  unfold o1P at h
  by_cases z : C 1 k = rm
  · rw [if_pos z] at h; cases h
  · rw [if_neg z] at h
    by_cases y : C 0 1 = 0
    · rw [if_pos y] at h; cases h
    · rw [if_neg y] at h; cases h; exact ⟨z, y, rfl⟩
theorem o2_ok {tx : Nat → Int32} {en : Nat} {C : CT} {q k : Nat} {rm : Int32} {α : Type} {F : Nat → Ex α} {y : α} (h : ((o1P tx en C q k rm).bind F) = .ok y) : ¬ C 1 k = rm ∧ ¬ C 0 1 = 0 ∧ F (nx tx en q) = .ok y := by
  cases hz : o1P tx en C q k rm with
  | error e => rw [hz] at h; cases h
  | ok a =>
    rw [hz] at h
    obtain ⟨h1, h2, rfl⟩ := o1_ok hz
    exact ⟨h1, h2, h⟩
theorem ad_lt {K : List Nm} {x : Nm} (h : K.length < 33) : adP K x = K ++ [x] := if_neg (by omega)
theorem WI.c {C : CT} {K : List Nm} (wi : WI C K (nnC C)) {k : Nat} (hk : k < 11) : C 1 k = nI (nnC C k) := wi.1 k hk
theorem WI.lt {C : CT} {K : List Nm} (wi : WI C K (nnC C)) {k m : Nat} (hk : k < 11) (h : ¬ C 1 k = nI m) (hm : nnC C k ≤ m) : nnC C k < m := by
  rcases Nat.lt_or_ge (nnC C k) m with z | z
  · exact z
  · exact absurd (by rw [wi.c hk, Nat.le_antisymm hm z]) h
theorem PG.o {c : Nat} {h' h : Hp} (k : PG c h' h) (hc : 60 ≤ c) : ∀ b j, ¬ (b = 50 ∧ 8 ≤ j ∧ j ≤ 19) → b < 60 → gI h' b j = gI h b j := fun b j p q => k.2.2.2.2.1 b j p (by omega)
theorem ns1 : nsM (nI 1) = 0 := by decide
theorem ns2 : nsM (nI 2) = 1 := by decide
theorem ns3 : nsM (nI 3) = 2 := by decide
theorem ns4 : nsM (nI 4) = 3 := by decide
theorem ns8 : nsM (nI 8) = 4 := by decide
theorem gp_1 : ∀ a : Fin 14, 1 ≤ a.1 → gpF a.1 = 1 → a.1 = 1 ∨ a.1 = 2 := by decide
theorem gp_2 : ∀ a : Fin 14, 1 ≤ a.1 → gpF a.1 = 2 → a.1 = 3 := by decide
theorem gp_3 : ∀ a : Fin 14, 1 ≤ a.1 → gpF a.1 = 3 → a.1 = 4 := by decide
theorem gp_4 : ∀ a : Fin 14, 1 ≤ a.1 → gpF a.1 = 4 → a.1 = 5 := by decide
theorem gp_7 : ∀ a : Fin 14, 1 ≤ a.1 → gpF a.1 = 7 → ¬ (a.1 = 6 ∨ a.1 = 7) → a.1 = 8 ∨ a.1 = 9 ∨ a.1 = 10 := by decide
theorem gp_9 : ∀ a : Fin 14, 1 ≤ a.1 → gpF a.1 = 9 → a.1 = 11 ∨ a.1 = 12 ∨ a.1 = 13 := by decide
theorem r_readWordLine {tx : Nat → Int32} {en : Nat} {h : Hp} {c : Nat} {K : List Nm} (b : RB tx en h c K) {C : CT} (d : RD h c C) (wi : WI C K (nnC C)) (hL : LB h) {q : Nat} (r : RK tx en h q) (ht : tkS tx en q = 1) : gC 9 0 0 yX10_readWordLine cX10_readWordLine 3 none [.ref 50] h (LM tx en h c (lxB tx en C q 2 8 (fun q => (nmP tx en q K (nI 2) (C 1 2)).bind fun x => (roP tx en C 0 x.1).bind fun z => .ok (z.1, u2 C 4 (pn (C 1 2)) z.2.1, x.2)))) := by
  have hc6 := b.M.1
  have hu := wi.2.1
  generalize hoo : (lxB tx en C q 2 8 (fun q => (nmP tx en q K (nI 2) (C 1 2)).bind fun x => (roP tx en C 0 x.1).bind fun z => .ok (z.1, u2 C 4 (pn (C 1 2)) z.2.1, x.2))) = oo
  refine g_entry (lv := [.ref 50, .retAddr 0, .retAddr 0]) 2 pn_X10 rfl rfl rfl ?_
  obtain ⟨HH, hH4, eH⟩ := wi.2.2.2.2
  refine g_aL0 dX10_readWordLine_0 ?_
  refine g_aL0 dX10_readWordLine_1 ?_
  refine g_getR lf_X10_167 (b.S.l 50 rfl) (b.S.k 50 rfl rfl) b.C dX10_readWordLine_2 ?_
  refine g_gI lf_X10_289 (b.M.l 0 rfl) (b.M.k 0 rfl rfl) dX10_readWordLine_5 ?_
  rw [show gI h c 5 = C 1 2 from d.1 5 (by decide)]
  refine g_bipush dX10_readWordLine_8 ?_
  refine r_v2u (r_begins b (o := (.ok q)) ⟨hL, Or.inr ⟨q, rfl, r⟩⟩ (fun q' z => by cases z; rw [ht]; decide) (wd := C 0 1) (d.1 0 (by decide)) (C 1 2) 8) lm_X10_265 dX10_readWordLine_10 (b.S.l 50 rfl) (b.S.k 50 rfl rfl) rfl rfl rfl rfl (fun v h' z => z.1) (fun h1 z => ?_)
  obtain ⟨-, k1, s1⟩ := z
  have b1 := b.go k1
  have d1 := RC.go d hc6 k1
  refine g_aL0 dX10_readWordLine_13 ?_
  refine r_v0l (r_readFresh b1 s1) lm_X10_268 dX10_readWordLine_14 (b1.S.l 50 rfl) (b1.S.k 50 rfl rfl) rfl rfl rfl rfl (fun v h' z => ⟨_, z.choose_spec.1⟩) (fun xv h1 z => ?_)
  obtain ⟨xw, z0, k2, s2⟩ := z
  obtain rfl := Value.long.inj (Option.some.inj z0)
  have b2 := b1.go k2
  have d2 := RC.go d1 hc6 k2
  rw [lx_nm] at hoo
  have s3 : RSt h1 (((o1P tx en C q 2 8).bind fun q => nfP tx en q K).bind fun y => .ok y.2) (RKs tx en) := ⟨s2.1, s2.2.imp (fun ⟨e, z, f⟩ => ⟨e, by rw [show ((o1P tx en C q 2 8).bind fun q => nfP tx en q K) = .error e from z]; rfl, f⟩) (fun ⟨a, z, f⟩ => ⟨a.2, by rw [show ((o1P tx en C q 2 8).bind fun q => nfP tx en q K) = .ok a from z]; rfl, f.1⟩)⟩
  refine g_lS1 dX10_readWordLine_17 rfl rfl ?_
  refine g_aL0 dX10_readWordLine_18 ?_
  refine g_iconst dX10_readWordLine_19 ?_
  refine r_v1u (r_readRows b2 s3 (wd := C 0 1) (d2.1 0 (by decide)) (H := HH) ((d2.1 1 (by decide)).trans eH) hH4 0) lm_X10_276 dX10_readWordLine_20 (b2.S.l 50 rfl) (b2.S.k 50 rfl rfl) rfl rfl rfl rfl (fun v h' z => z.1) (fun h1 z => ?_)
  obtain ⟨-, k3, s4⟩ := z
  have b3 := b2.go k3
  have d3 := RC.go d2 hc6 k3
  rcases s4.2 with ⟨e, z, f⟩ | ⟨a, z, f⟩
  · have ho : oo = .error e := by
      rw [← hoo]
      cases hz : ((o1P tx en C q 2 8).bind fun q => nfP tx en q K) with
      | error e2 => rw [hz] at z; cases z; rfl
      | ok y =>
        rw [hz] at z
        show Except.bind (Except.bind (roP tx en C 0 y.2) _) _ = _
        rw [show roP tx en C 0 y.2 = .error e from by unfold roP; rw [eH, pn_nI (by omega)]; exact z]; rfl
    refine g_aL0 dX10_readWordLine_23 ?_
    refine g_gI lf_X10_71 (b3.S.l 50 rfl) (b3.S.k 50 rfl rfl) dX10_readWordLine_24 ?_
    refine g_iconst dX10_readWordLine_27 ?_
    refine g_icne dX10_readWordLine_28 (fun c28 => absurd f.1 c28) (fun c28 => ?_)
    exact g_vret rfl dX10_readWordLine_31 rfl rfl ⟨rfl, (k3.trans (k2.trans k1)).p c, s4.1, Or.inl ⟨e, ho, f⟩⟩
  · cases hz : ((o1P tx en C q 2 8).bind fun q => nfP tx en q K) with
    | error e2 => rw [hz] at z; cases z
    | ok y =>
      obtain ⟨hn8, hw0, -⟩ := o2_ok hz
      have hnl := wi.lt (k := 2) (m := 8) (by decide) hn8 (by omega)
      have hkl : K.length < 33 := by have := wi.2.2.1; omega
      have ck := wi.c (k := 2) (by decide)
      generalize hnn : nnC C 2 = n at hnl ck
      have hxv : xv = y.1 := by
        rcases s2.2 with ⟨e3, z3, _⟩ | ⟨a3, z3, f3⟩
        · rw [show ((o1P tx en C q 2 8).bind fun q => nfP tx en q K) = .error e3 from z3] at hz; cases hz
        · rw [show ((o1P tx en C q 2 8).bind fun q => nfP tx en q K) = .ok a3 from z3] at hz; cases hz; exact f3.2
      have ho : oo = .ok (a.1, u2 (u2 C 4 n a.2.1) 1 2 (u2 C 4 n a.2.1 1 2 + 1), K ++ [(y.1, nI 2, C 1 2)]) := by
        rw [← hoo, hz, eb_ok, ad_lt hkl]
        rw [hz] at z
        show Except.bind (Except.bind (roP tx en C 0 y.2) _) _ = _
        rw [show roP tx en C 0 y.2 = .ok a from by unfold roP; rw [eH, pn_nI (by omega)]; exact z]
        show cuP 2 (a.1, u2 C 4 (pn (C 1 2)) a.2.1, _) = _
        rw [ck, pn_nI (by omega)]; rfl
      subst hxv
      refine g_aL0 dX10_readWordLine_23 ?_
      refine g_gI lf_X10_71 (b3.S.l 50 rfl) (b3.S.k 50 rfl rfl) dX10_readWordLine_24 ?_
      refine g_iconst dX10_readWordLine_27 ?_
      refine g_icne dX10_readWordLine_28 (fun c28 => ?_) (fun c28 => absurd c28 f.1.n5)
      refine g_aL0 dX10_readWordLine_32 ?_
      refine g_lL1 dX10_readWordLine_33 ?_
      refine g_iconst dX10_readWordLine_34 ?_
      refine g_aL0 dX10_readWordLine_35 ?_
      refine g_getR lf_X10_167 (b3.S.l 50 rfl) (b3.S.k 50 rfl rfl) b3.C dX10_readWordLine_36 ?_
      refine g_gI lf_X10_289 (b3.M.l 0 rfl) (b3.M.k 0 rfl rfl) dX10_readWordLine_39 ?_
      rw [show gI h1 c 5 = C 1 2 from d3.1 5 (by decide)]
      refine e_v3u (d_names b3 hkl _ _ _) lm_X10_280 dX10_readWordLine_42 (b3.S.l 50 rfl) (b3.S.k 50 rfl rfl) rfl rfl rfl rfl ?_
      have bN := b3.nm (x := (y.1, nI 2, C 1 2)) hkl (Or.inr (Or.inl rfl))
      rw [show nsM ((y.1, nI 2, C 1 2) : Nm).2.1 = 1 from ns2] at bN
      have dN := RC.nm d3 (n := K.length) y.1 1 (C 1 2)
      refine g_aL0 dX10_readWordLine_45 ?_
      refine g_getR lf_X10_167 (bN.S.l 50 rfl) (bN.S.k 50 rfl rfl) bN.C dX10_readWordLine_46 ?_
      refine g_getRn lf_X10_292 (bN.M.l 0 rfl) (bN.M.k 0 rfl rfl) (bN.M.r 17 (j := 3) rfl) dX10_readWordLine_49 ?_
      refine g_aL0 dX10_readWordLine_52 ?_
      refine g_getR lf_X10_167 (bN.S.l 50 rfl) (bN.S.k 50 rfl rfl) bN.C dX10_readWordLine_53 ?_
      refine g_gI lf_X10_289 (bN.M.l 0 rfl) (bN.M.k 0 rfl rfl) dX10_readWordLine_56 ?_
      rw [show gI (nmH h1 c K.length y.1 1 (C 1 2)) c 5 = nI n from (dN.1 5 (by decide)).trans ck]
      refine g_aL0 dX10_readWordLine_59 ?_
      refine g_gI lf_X10_203 (bN.S.l 50 rfl) (bN.S.k 50 rfl rfl) dX10_readWordLine_60 ?_
      rw [show gI (nmH h1 c K.length y.1 1 (C 1 2)) 50 19 = a.2.1 from (nmH_I _ _ _ _ _ _ (by omega) (by omega) (by omega)).trans f.2.1]
      refine g_iastoreN (bN.M.l 3 rfl) (bN.M.k 3 rfl rfl) (bN.M.n 3 (n := 8) rfl rfl) (by omega) (by decide) dX10_readWordLine_63 ?_
      refine g_aL0 dX10_readWordLine_64 ?_
      refine g_getR lf_X10_167 (bN.S.l 50 rfl) (bN.S.k 50 rfl rfl) bN.C dX10_readWordLine_65 ?_
      refine g_dup dX10_readWordLine_68 rfl ?_
      refine g_gI lf_X10_289 (bN.M.l 0 rfl) (bN.M.k 0 rfl rfl) dX10_readWordLine_69 ?_
      rw [show ∀ x, gI (pI (nmH h1 c K.length y.1 1 (C 1 2)) (c + 3) n x) c 5 = C 1 2 from fun x => (gIq (by omega)).trans (dN.1 5 (by decide))]
      refine g_iconst dX10_readWordLine_72 ?_
      refine g_iadd dX10_readWordLine_73 ?_
      refine g_pI1 lf_X10_289 (bN.M.l 0 rfl) (bN.M.k 0 rfl rfl) dX10_readWordLine_74 ?_
      have hI : ∀ j, gI (pI (pI (nmH h1 c K.length y.1 1 (C 1 2)) (c + 3) n a.2.1) c 5 (C 1 2 + 1)) 50 j = gI h1 50 j := fun j => (gIq (by omega)).trans ((gIq (by omega)).trans (nmH_I _ _ _ _ _ _ (by omega) (by omega) (by omega)))
      refine g_vret rfl dX10_readWordLine_77 rfl rfl ⟨rfl, (PG_0 _ _).trans ((PG_I _ _ (by omega)).trans ((nmH_P _ _ _ _ _ _).trans ((k3.trans (k2.trans k1)).p c))), s4.1.o hI, Or.inr ⟨_, ho, f.1.o hI (u2_n _ _ (by omega)), (bN.pI (a := 3) _ (by decide) (by omega)).pI (a := 0) _ (by decide) (by decide), ?_⟩⟩
      have := ((RCx.put dN (a0 := 3) (by decide) n a.2.1).cnt (f0 := 5) (by decide) (C 1 2 + 1)).w (lv' := lvF (nnC (u2 (u2 C 4 n a.2.1) 1 2 (u2 C 4 n a.2.1 1 2 + 1)))) (fun a' j h1 h2 h3 => by
        rw [nn_up (C := C) ck (by omega) (fun j => u2_n _ _ (by omega))] at h3
        rcases lv_up a' j h3 with z5 | z5
        · exact Or.inl z5
        · exact Or.inr ⟨gp_2 ⟨a', by omega⟩ h1 z5.1, z5.2.2.trans hnn⟩)
      exact this
theorem r_readView {tx : Nat → Int32} {en : Nat} {h : Hp} {c : Nat} {K : List Nm} (b : RB tx en h c K) {C : CT} (d : RD h c C) (wi : WI C K (nnC C)) (hL : LB h) {q : Nat} (r : RK tx en h q) (ht : tkS tx en q = 1) : gC 9 0 0 yX10_readView cX10_readView 3 none [.ref 50] h (LM tx en h c (lxB tx en C q 3 6 (fun q => (nmP tx en q K (nI 3) (C 1 3)).bind fun x => (roP tx en C 0 x.1).bind fun z => .ok (z.1, u2 C 5 (pn (C 1 3)) z.2.1, x.2)))) := by
  have hc6 := b.M.1
  have hu := wi.2.1
  generalize hoo : (lxB tx en C q 3 6 (fun q => (nmP tx en q K (nI 3) (C 1 3)).bind fun x => (roP tx en C 0 x.1).bind fun z => .ok (z.1, u2 C 5 (pn (C 1 3)) z.2.1, x.2))) = oo
  refine g_entry (lv := [.ref 50, .retAddr 0, .retAddr 0]) 2 pn_X10 rfl rfl rfl ?_
  obtain ⟨HH, hH4, eH⟩ := wi.2.2.2.2
  refine g_aL0 dX10_readView_0 ?_
  refine g_aL0 dX10_readView_1 ?_
  refine g_getR lf_X10_167 (b.S.l 50 rfl) (b.S.k 50 rfl rfl) b.C dX10_readView_2 ?_
  refine g_gI lf_X10_294 (b.M.l 0 rfl) (b.M.k 0 rfl rfl) dX10_readView_5 ?_
  rw [show gI h c 6 = C 1 3 from d.1 6 (by decide)]
  refine g_bipush dX10_readView_8 ?_
  refine r_v2u (r_begins b (o := (.ok q)) ⟨hL, Or.inr ⟨q, rfl, r⟩⟩ (fun q' z => by cases z; rw [ht]; decide) (wd := C 0 1) (d.1 0 (by decide)) (C 1 3) 6) lm_X10_265 dX10_readView_10 (b.S.l 50 rfl) (b.S.k 50 rfl rfl) rfl rfl rfl rfl (fun v h' z => z.1) (fun h1 z => ?_)
  obtain ⟨-, k1, s1⟩ := z
  have b1 := b.go k1
  have d1 := RC.go d hc6 k1
  refine g_aL0 dX10_readView_13 ?_
  refine r_v0l (r_readFresh b1 s1) lm_X10_268 dX10_readView_14 (b1.S.l 50 rfl) (b1.S.k 50 rfl rfl) rfl rfl rfl rfl (fun v h' z => ⟨_, z.choose_spec.1⟩) (fun xv h1 z => ?_)
  obtain ⟨xw, z0, k2, s2⟩ := z
  obtain rfl := Value.long.inj (Option.some.inj z0)
  have b2 := b1.go k2
  have d2 := RC.go d1 hc6 k2
  rw [lx_nm] at hoo
  have s3 : RSt h1 (((o1P tx en C q 3 6).bind fun q => nfP tx en q K).bind fun y => .ok y.2) (RKs tx en) := ⟨s2.1, s2.2.imp (fun ⟨e, z, f⟩ => ⟨e, by rw [show ((o1P tx en C q 3 6).bind fun q => nfP tx en q K) = .error e from z]; rfl, f⟩) (fun ⟨a, z, f⟩ => ⟨a.2, by rw [show ((o1P tx en C q 3 6).bind fun q => nfP tx en q K) = .ok a from z]; rfl, f.1⟩)⟩
  refine g_lS1 dX10_readView_17 rfl rfl ?_
  refine g_aL0 dX10_readView_18 ?_
  refine g_iconst dX10_readView_19 ?_
  refine r_v1u (r_readRows b2 s3 (wd := C 0 1) (d2.1 0 (by decide)) (H := HH) ((d2.1 1 (by decide)).trans eH) hH4 0) lm_X10_276 dX10_readView_20 (b2.S.l 50 rfl) (b2.S.k 50 rfl rfl) rfl rfl rfl rfl (fun v h' z => z.1) (fun h1 z => ?_)
  obtain ⟨-, k3, s4⟩ := z
  have b3 := b2.go k3
  have d3 := RC.go d2 hc6 k3
  rcases s4.2 with ⟨e, z, f⟩ | ⟨a, z, f⟩
  · have ho : oo = .error e := by
      rw [← hoo]
      cases hz : ((o1P tx en C q 3 6).bind fun q => nfP tx en q K) with
      | error e2 => rw [hz] at z; cases z; rfl
      | ok y =>
        rw [hz] at z
        show Except.bind (Except.bind (roP tx en C 0 y.2) _) _ = _
        rw [show roP tx en C 0 y.2 = .error e from by unfold roP; rw [eH, pn_nI (by omega)]; exact z]; rfl
    refine g_aL0 dX10_readView_23 ?_
    refine g_gI lf_X10_71 (b3.S.l 50 rfl) (b3.S.k 50 rfl rfl) dX10_readView_24 ?_
    refine g_iconst dX10_readView_27 ?_
    refine g_icne dX10_readView_28 (fun c28 => absurd f.1 c28) (fun c28 => ?_)
    exact g_vret rfl dX10_readView_31 rfl rfl ⟨rfl, (k3.trans (k2.trans k1)).p c, s4.1, Or.inl ⟨e, ho, f⟩⟩
  · cases hz : ((o1P tx en C q 3 6).bind fun q => nfP tx en q K) with
    | error e2 => rw [hz] at z; cases z
    | ok y =>
      obtain ⟨hn8, hw0, -⟩ := o2_ok hz
      have hnl := wi.lt (k := 3) (m := 6) (by decide) hn8 (by omega)
      have hkl : K.length < 33 := by have := wi.2.2.1; omega
      have ck := wi.c (k := 3) (by decide)
      generalize hnn : nnC C 3 = n at hnl ck
      have hxv : xv = y.1 := by
        rcases s2.2 with ⟨e3, z3, _⟩ | ⟨a3, z3, f3⟩
        · rw [show ((o1P tx en C q 3 6).bind fun q => nfP tx en q K) = .error e3 from z3] at hz; cases hz
        · rw [show ((o1P tx en C q 3 6).bind fun q => nfP tx en q K) = .ok a3 from z3] at hz; cases hz; exact f3.2
      have ho : oo = .ok (a.1, u2 (u2 C 5 n a.2.1) 1 3 (u2 C 5 n a.2.1 1 3 + 1), K ++ [(y.1, nI 3, C 1 3)]) := by
        rw [← hoo, hz, eb_ok, ad_lt hkl]
        rw [hz] at z
        show Except.bind (Except.bind (roP tx en C 0 y.2) _) _ = _
        rw [show roP tx en C 0 y.2 = .ok a from by unfold roP; rw [eH, pn_nI (by omega)]; exact z]
        show cuP 3 (a.1, u2 C 5 (pn (C 1 3)) a.2.1, _) = _
        rw [ck, pn_nI (by omega)]; rfl
      subst hxv
      refine g_aL0 dX10_readView_23 ?_
      refine g_gI lf_X10_71 (b3.S.l 50 rfl) (b3.S.k 50 rfl rfl) dX10_readView_24 ?_
      refine g_iconst dX10_readView_27 ?_
      refine g_icne dX10_readView_28 (fun c28 => ?_) (fun c28 => absurd c28 f.1.n5)
      refine g_aL0 dX10_readView_32 ?_
      refine g_lL1 dX10_readView_33 ?_
      refine g_iconst dX10_readView_34 ?_
      refine g_aL0 dX10_readView_35 ?_
      refine g_getR lf_X10_167 (b3.S.l 50 rfl) (b3.S.k 50 rfl rfl) b3.C dX10_readView_36 ?_
      refine g_gI lf_X10_294 (b3.M.l 0 rfl) (b3.M.k 0 rfl rfl) dX10_readView_39 ?_
      rw [show gI h1 c 6 = C 1 3 from d3.1 6 (by decide)]
      refine e_v3u (d_names b3 hkl _ _ _) lm_X10_280 dX10_readView_42 (b3.S.l 50 rfl) (b3.S.k 50 rfl rfl) rfl rfl rfl rfl ?_
      have bN := b3.nm (x := (y.1, nI 3, C 1 3)) hkl (Or.inr (Or.inr (Or.inl rfl)))
      rw [show nsM ((y.1, nI 3, C 1 3) : Nm).2.1 = 2 from ns3] at bN
      have dN := RC.nm d3 (n := K.length) y.1 2 (C 1 3)
      refine g_aL0 dX10_readView_45 ?_
      refine g_getR lf_X10_167 (bN.S.l 50 rfl) (bN.S.k 50 rfl rfl) bN.C dX10_readView_46 ?_
      refine g_getRn lf_X10_297 (bN.M.l 0 rfl) (bN.M.k 0 rfl rfl) (bN.M.r 18 (j := 4) rfl) dX10_readView_49 ?_
      refine g_aL0 dX10_readView_52 ?_
      refine g_getR lf_X10_167 (bN.S.l 50 rfl) (bN.S.k 50 rfl rfl) bN.C dX10_readView_53 ?_
      refine g_gI lf_X10_294 (bN.M.l 0 rfl) (bN.M.k 0 rfl rfl) dX10_readView_56 ?_
      rw [show gI (nmH h1 c K.length y.1 2 (C 1 3)) c 6 = nI n from (dN.1 6 (by decide)).trans ck]
      refine g_aL0 dX10_readView_59 ?_
      refine g_gI lf_X10_203 (bN.S.l 50 rfl) (bN.S.k 50 rfl rfl) dX10_readView_60 ?_
      rw [show gI (nmH h1 c K.length y.1 2 (C 1 3)) 50 19 = a.2.1 from (nmH_I _ _ _ _ _ _ (by omega) (by omega) (by omega)).trans f.2.1]
      refine g_iastoreN (bN.M.l 4 rfl) (bN.M.k 4 rfl rfl) (bN.M.n 4 (n := 6) rfl rfl) (by omega) (by decide) dX10_readView_63 ?_
      refine g_aL0 dX10_readView_64 ?_
      refine g_getR lf_X10_167 (bN.S.l 50 rfl) (bN.S.k 50 rfl rfl) bN.C dX10_readView_65 ?_
      refine g_dup dX10_readView_68 rfl ?_
      refine g_gI lf_X10_294 (bN.M.l 0 rfl) (bN.M.k 0 rfl rfl) dX10_readView_69 ?_
      rw [show ∀ x, gI (pI (nmH h1 c K.length y.1 2 (C 1 3)) (c + 4) n x) c 6 = C 1 3 from fun x => (gIq (by omega)).trans (dN.1 6 (by decide))]
      refine g_iconst dX10_readView_72 ?_
      refine g_iadd dX10_readView_73 ?_
      refine g_pI1 lf_X10_294 (bN.M.l 0 rfl) (bN.M.k 0 rfl rfl) dX10_readView_74 ?_
      have hI : ∀ j, gI (pI (pI (nmH h1 c K.length y.1 2 (C 1 3)) (c + 4) n a.2.1) c 6 (C 1 3 + 1)) 50 j = gI h1 50 j := fun j => (gIq (by omega)).trans ((gIq (by omega)).trans (nmH_I _ _ _ _ _ _ (by omega) (by omega) (by omega)))
      refine g_vret rfl dX10_readView_77 rfl rfl ⟨rfl, (PG_0 _ _).trans ((PG_I _ _ (by omega)).trans ((nmH_P _ _ _ _ _ _).trans ((k3.trans (k2.trans k1)).p c))), s4.1.o hI, Or.inr ⟨_, ho, f.1.o hI (u2_n _ _ (by omega)), (bN.pI (a := 4) _ (by decide) (by omega)).pI (a := 0) _ (by decide) (by decide), ?_⟩⟩
      have := ((RCx.put dN (a0 := 4) (by decide) n a.2.1).cnt (f0 := 6) (by decide) (C 1 3 + 1)).w (lv' := lvF (nnC (u2 (u2 C 5 n a.2.1) 1 3 (u2 C 5 n a.2.1 1 3 + 1)))) (fun a' j h1 h2 h3 => by
        rw [nn_up (C := C) ck (by omega) (fun j => u2_n _ _ (by omega))] at h3
        rcases lv_up a' j h3 with z5 | z5
        · exact Or.inl z5
        · exact Or.inr ⟨gp_3 ⟨a', by omega⟩ h1 z5.1, z5.2.2.trans hnn⟩)
      exact this

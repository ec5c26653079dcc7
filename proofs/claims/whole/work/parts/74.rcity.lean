/-! THE REFERENCE'S PARSER: its city against the class's picture of one -/
def saF (f : Nat) : Nat := if f < 4 ∨ f = 9 then 0 else 1
def sjF (f : Nat) : Nat := if f = 0 then 1 else if f = 1 then 2 else if f = 2 then 3 else if f = 3 then 4 else if f = 4 then 1 else if f = 5 then 2 else if f = 6 then 3 else if f = 7 then 4 else if f = 8 then 5 else if f = 9 then 13 else if f = 10 then 7 else if f = 11 then 8 else 9
def gpF (a : Nat) : Nat := if a ≤ 2 then 1 else if a = 3 then 2 else if a = 4 then 3 else if a = 5 then 4 else if a ≤ 10 then 7 else 9
def lvF (nn : Nat → Nat) (a j : Nat) : Prop := if a = 6 ∨ a = 7 then j < 49 else j < nn (gpF a)
/-- scalars, arrays where they are live, the shelf -/
def RSc (h : Hp) (c : Nat) (C : CT) : Prop := ∀ f, f < 13 → gI h c f = C (saF f) (sjF f)
def RA (h : Hp) (c : Nat) (C : CT) (lv : Nat → Nat → Prop) : Prop := ∀ a j, 1 ≤ a → a ≤ 13 → lv a j → gI h (c + a) j = C (a + 1) j
def RSh (h : Hp) (c : Nat) (C : CT) : Prop := gI h c 13 = if C 1 10 = 0 then -1 else C 0 5
def RC (h : Hp) (c : Nat) (C : CT) (nn : Nat → Nat) : Prop := RSc h c C ∧ RA h c C (lvF nn) ∧ RSh h c C
theorem sj_inj : ∀ f : Fin 13, ∀ g : Fin 13, f ≠ g → ¬ (saF f.1 = saF g.1 ∧ sjF f.1 = sjF g.1) := by decide
theorem sj_sh : ∀ f : Fin 13, ¬ (saF f.1 = 1 ∧ sjF f.1 = 10) ∧ ¬ (saF f.1 = 0 ∧ sjF f.1 = 5) ∧ saF f.1 ≤ 1 := by decide
theorem RSc.put {h : Hp} {c : Nat} {C : CT} (r : RSc h c C) {f0 : Nat} (hf : f0 < 13) (v : Int32) : RSc (pI h c f0 v) c (u2 C (saF f0) (sjF f0) v) := fun f h1 => by
  by_cases z : f = f0
  · subst z
    rw [gIs, u2_s]
  · rw [gIk z, u2_n _ _ (fun y => sj_inj ⟨f, h1⟩ ⟨f0, hf⟩ (fun q => z (congrArg Fin.val q)) y)]
    exact r f h1
theorem RSc.off {h : Hp} {c : Nat} {C : CT} (r : RSc h c C) {b k : Nat} (hb : b ≠ c) (v : Int32) : RSc (pI h b k v) c C := fun f h1 => (gIq (Ne.symm hb)).trans (r f h1)
theorem RSc.arr {h : Hp} {c : Nat} {C : CT} (r : RSc h c C) {a n : Nat} (ha : 2 ≤ a) (v : Int32) : RSc h c (u2 C a n v) := fun f h1 => by
  rw [u2_n _ _ (fun y => by have hle : saF f ≤ 1 := (sj_sh ⟨f, h1⟩).2.2; have y1 : saF f = a := y.1; omega)]
  exact r f h1
theorem RSc.cnt {h : Hp} {c : Nat} {C : CT} (r : RSc h c C) {a n : Nat} (ha : (a = 1 ∧ (n = 10 ∨ n = 6)) ∨ (a = 0 ∧ n = 5)) (v : Int32) : RSc h c (u2 C a n v) := fun f h1 => by
  have key : ∀ f : Fin 13, ¬ (saF f.1 = 1 ∧ (sjF f.1 = 10 ∨ sjF f.1 = 6)) ∧ ¬ (saF f.1 = 0 ∧ sjF f.1 = 5) := by decide
  rw [u2_n _ _ (fun y => by
    rcases ha with ⟨z, z2⟩ | z
    · exact (key ⟨f, h1⟩).1 ⟨y.1.trans z, z2.imp (fun q => y.2.trans q) (fun q => y.2.trans q)⟩
    · exact (key ⟨f, h1⟩).2 ⟨y.1.trans z.1, y.2.trans z.2⟩)]
  exact r f h1
theorem RA.put {h : Hp} {c : Nat} {C : CT} {lv : Nat → Nat → Prop} (r : RA h c C lv) (a0 n : Nat) (v : Int32) : RA (pI h (c + a0) n v) c (u2 C (a0 + 1) n v) (fun a j => lv a j ∨ (a = a0 ∧ j = n)) := fun a j h1 h2 h3 => by
  by_cases z : a = a0 ∧ j = n
  · rw [z.1, z.2, gIs, u2_s]
  · rw [u2_n _ _ (fun y => z ⟨by omega, y.2⟩)]
    exact (u2_n _ _ (fun y => z ⟨by omega, y.2⟩)).trans (r a j h1 h2 (h3.resolve_right z))
theorem RA.off {h : Hp} {c : Nat} {C : CT} {lv : Nat → Nat → Prop} (r : RA h c C lv) {b k : Nat} (hb : b ≤ c ∨ c + 13 < b) (v : Int32) : RA (pI h b k v) c C lv := fun a j h1 h2 h3 => (gIq (by omega)).trans (r a j h1 h2 h3)
theorem RA.sc {h : Hp} {c : Nat} {C : CT} {lv : Nat → Nat → Prop} (r : RA h c C lv) {a0 n : Nat} (ha : a0 ≤ 1) (v : Int32) : RA h c (u2 C a0 n v) lv := fun a j h1 h2 h3 => by
  rw [u2_n _ _ (fun y => by omega)]
  exact r a j h1 h2 h3
theorem RA.w {h : Hp} {c : Nat} {C : CT} {lv lv' : Nat → Nat → Prop} (r : RA h c C lv) (hl : ∀ a j, 1 ≤ a → a ≤ 13 → lv' a j → lv a j) : RA h c C lv' := fun a j h1 h2 h3 => r a j h1 h2 (hl a j h1 h2 h3)
theorem RSh.off {h : Hp} {c : Nat} {C : CT} (r : RSh h c C) {b k : Nat} (hb : ¬ (b = c ∧ k = 13)) (v : Int32) : RSh (pI h b k v) c C := (u2_n _ _ (fun z => hb ⟨z.1.symm, z.2.symm⟩)).trans r
theorem RSh.u {h : Hp} {c : Nat} {C : CT} (r : RSh h c C) {a n : Nat} (ha : ¬ (a = 1 ∧ n = 10) ∧ ¬ (a = 0 ∧ n = 5)) (v : Int32) : RSh h c (u2 C a n v) := by
  unfold RSh
  rw [u2_n _ _ (fun z => ha.1 ⟨z.1.symm, z.2.symm⟩), u2_n _ _ (fun z => ha.2 ⟨z.1.symm, z.2.symm⟩)]
  exact r
theorem RC.go {h h' : Hp} {c : Nat} {C : CT} {nn : Nat → Nat} (r : RC h c C nn) (hc : 60 ≤ c) (k : GQ h' h) : RC h' c C nn :=
  ⟨fun f h1 => (k.2.2.2.2.1 c f (by omega)).trans (r.1 f h1), fun a j h1 h2 h3 => (k.2.2.2.2.1 (c + a) j (by omega)).trans (r.2.1 a j h1 h2 h3), (k.2.2.2.2.1 c 13 (by omega)).trans r.2.2⟩
theorem lv_up {nn : Nat → Nat} {k : Nat} : ∀ a j, lvF (u1 nn k (nn k + 1)) a j → lvF nn a j ∨ (gpF a = k ∧ ¬ (a = 6 ∨ a = 7) ∧ j = nn k) := by
  intro a j h
  unfold lvF at h ⊢
  by_cases z : a = 6 ∨ a = 7
  · rw [if_pos z] at h ⊢; exact Or.inl h
  · rw [if_neg z] at h ⊢
    by_cases y : gpF a = k
    · rw [y, u1_s] at h
      rw [y]
      rcases Nat.lt_succ_iff_lt_or_eq.mp h with q | q
      · exact Or.inl q
      · exact Or.inr ⟨rfl, z, q⟩
    · rw [u1_n _ _ y] at h
      exact Or.inl h
/-- counts in bounds, as many names, corners' numbers -/
def WI (C : CT) (K : List Nm) (nn : Nat → Nat) : Prop := (∀ k, k < 11 → C 1 k = nI (nn k)) ∧ (nn 1 ≤ 8 ∧ nn 2 ≤ 8 ∧ nn 3 ≤ 6 ∧ nn 4 ≤ 7 ∧ nn 5 ≤ 12 ∧ nn 6 ≤ 7 ∧ nn 7 ≤ 6 ∧ nn 8 ≤ 4 ∧ nn 9 ≤ 8 ∧ nn 10 ≤ 1) ∧ K.length = nn 1 + nn 2 + nn 3 + nn 4 + nn 8 ∧ KB K ∧ ∃ H, H ≤ 4 ∧ C 0 2 = nI H
/-- what a line leaves as it was -/
def PG (c : Nat) (h' h : Hp) : Prop := h'.1 = h.1 ∧ h'.2.1 = h.2.1 ∧ h'.2.2.1 = h.2.2.1 ∧ h'.2.2.2.1 = h.2.2.2.1 ∧ (∀ b j, ¬ (b = 50 ∧ 8 ≤ j ∧ j ≤ 19) → ¬ (c ≤ b ∧ b ≤ c + 16) → gI h' b j = gI h b j) ∧ ∀ b j, ¬ (b = 50 ∧ j = 17) → b ≠ c + 14 → gJ h' b j = gJ h b j
theorem PG.refl (c : Nat) (h : Hp) : PG c h h := ⟨rfl, rfl, rfl, rfl, fun _ _ _ _ => rfl, fun _ _ _ _ => rfl⟩
theorem PG.trans {c : Nat} {a b d : Hp} (x : PG c a b) (y : PG c b d) : PG c a d := ⟨x.1.trans y.1, x.2.1.trans y.2.1, x.2.2.1.trans y.2.2.1, x.2.2.2.1.trans y.2.2.2.1, fun p q r s => (x.2.2.2.2.1 p q r s).trans (y.2.2.2.2.1 p q r s), fun p q r s => (x.2.2.2.2.2 p q r s).trans (y.2.2.2.2.2 p q r s)⟩
theorem GQ.p {h' h : Hp} (k : GQ h' h) (c : Nat) : PG c h' h := ⟨k.1, k.2.1, k.2.2.1, k.2.2.2.1, fun b j p _ => k.2.2.2.2.1 b j p, fun b j p _ => k.2.2.2.2.2 b j p⟩
theorem PG_I (h : Hp) {c a k : Nat} (v : Int32) (ha : a ≤ 16) : PG c (pI h (c + a) k v) h := ⟨rfl, rfl, rfl, rfl, fun b j _ q => gIq (by omega), fun _ _ _ _ => rfl⟩
theorem PG_0 (h : Hp) {c k : Nat} (v : Int32) : PG c (pI h c k v) h := PG_I h (a := 0) v (by omega)
theorem PG_J (h : Hp) {c k : Nat} (v : Int64) : PG c (pJ h (c + 14) k v) h := ⟨rfl, rfl, rfl, rfl, fun _ _ _ _ => rfl, fun b j _ q => u2_n _ _ (fun z => q z.1)⟩
theorem PG.S {c : Nat} {h' h : Hp} (x : PG c h' h) (S : SX h) : SX h' := S.eq x.1 x.2.1 x.2.2.1 x.2.2.2.1
/-- a name more -/
def nmH (h : Hp) (c n : Nat) (key : Int64) (so nu : Int32) : Hp := pI (pI (pI (pJ h (c + 14) n key) (c + 15) n so) (c + 16) n nu) c 14 (nI n + 1)
theorem nmH_I (h : Hp) (c n : Nat) (key : Int64) (so nu : Int32) {b j : Nat} (h1 : b ≠ c + 15) (h2 : b ≠ c + 16) (h3 : ¬ (b = c ∧ j = 14)) : gI (nmH h c n key so nu) b j = gI h b j := (u2_n _ _ h3).trans ((gIq h2).trans (gIq h1))
theorem nmH_P (h : Hp) (c n : Nat) (key : Int64) (so nu : Int32) : PG c (nmH h c n key so nu) h := (PG_0 _ _).trans ((PG_I _ _ (by omega)).trans ((PG_I _ _ (by omega)).trans (PG_J h key)))
section NM
variable {tx : Nat → Int32} {en : Nat} {h : Hp} {c : Nat} {K : List Nm}
theorem RB.nm (b : RB tx en h c K) (hl : K.length < 33) {x : Nm} (hx : x.2.1 = 1 ∨ x.2.1 = 2 ∨ x.2.1 = 3 ∨ x.2.1 = 4 ∨ x.2.1 = 8) : RB tx en (nmH h c K.length x.1 (nsM x.2.1) x.2.2) c (K ++ [x]) := by
  have hc := b.M.1
  have hll : (K ++ [x]).length = K.length + 1 := List.length_append
  refine ⟨b.S, b.M, b.C, ?_, ?_, b.e2, b.y, ?_, by omega, fun i y e => ?_, fun y hy => ?_⟩
  · exact (funext fun j => nmH_I _ _ _ _ _ _ (by omega) (by omega) (by omega)).trans b.x
  · exact (nmH_I _ _ _ _ _ _ (by omega) (by omega) (by omega)).trans b.e
  · rw [hll]; exact (gIs _ _ _ _).trans (nI_1 _)
  · by_cases z : i < K.length
    · rw [List.getElem?_append_left z] at e
      have := b.k e
      refine ⟨(u2_n _ _ (by omega)).trans this.1, ?_, ?_⟩
      · exact (gIq (by omega)).trans ((gIq (by omega)).trans ((gIk (by omega)).trans this.2.1))
      · exact (gIq (by omega)).trans ((gIk (by omega)).trans ((gIq (by omega)).trans this.2.2))
    · have hi := (List.getElem?_eq_some_iff.mp e).1
      obtain rfl : i = K.length := by omega
      rw [List.getElem?_append_right (Nat.le_refl _), Nat.sub_self] at e
      cases e
      exact ⟨u2_s _ _ _ _, (gIq (by omega)).trans ((gIq (by omega)).trans (gIs _ _ _ _)), (gIq (by omega)).trans (gIs _ _ _ _)⟩
  · rcases List.mem_append.mp hy with z | z
    · exact b.s y z
    · rw [List.mem_singleton.mp z]; exact hx
theorem RB.pI (b : RB tx en h c K) {a k : Nat} (v : Int32) (ha : a < 14) (h3 : ¬ (a = 0 ∧ k = 14)) : RB tx en (pI h (c + a) k v) c K := by
  have hc := b.M.1
  refine ⟨b.S, b.M, b.C, (funext fun j => gIq (by omega)).trans b.x, (gIq (by omega)).trans b.e, b.e2, b.y, (u2_n _ _ (by omega)).trans b.n, b.n2, fun i x e => ?_, b.s⟩
  have := b.k e
  exact ⟨this.1, (gIq (by omega)).trans this.2.1, (gIq (by omega)).trans this.2.2⟩
theorem RK.o {q : Nat} {h' : Hp} (r : RK tx en h q) (hI : ∀ j, gI h' 50 j = gI h 50 j) (hJ : gJ h' 50 17 = gJ h 50 17) : RK tx en h' q :=
  ⟨r.1, (hI _).trans r.2.1, (hI _).trans r.2.2.1, fun z => (hI _).trans (r.2.2.2.1 z), (hI _).trans r.2.2.2.2.1, fun z => ⟨hJ.trans (r.2.2.2.2.2.1 z).1, (hI _).trans (r.2.2.2.2.2.1 z).2.1, (hI _).trans (r.2.2.2.2.2.1 z).2.2⟩, fun z => (hI _).trans (r.2.2.2.2.2.2.1 z), (hI _).trans r.2.2.2.2.2.2.2⟩
theorem LB.o {h' : Hp} (r : LB h) (hI : ∀ j, gI h' 50 j = gI h 50 j) : LB h' := ⟨r.1.imp fun a z => ⟨z.1, (hI _).trans z.2⟩, r.2.imp fun a z => ⟨z.1, (hI _).trans z.2⟩⟩
theorem RC.nm {C : CT} {nn : Nat → Nat} (r : RC h c C nn) {n : Nat} (key : Int64) (so nu : Int32) : RC (nmH h c n key so nu) c C nn :=
  ⟨fun f h1 => (nmH_I _ _ _ _ _ _ (by omega) (by omega) (by omega)).trans (r.1 f h1), fun a j h1 h2 h3 => (nmH_I _ _ _ _ _ _ (by omega) (by omega) (by omega)).trans (r.2.1 a j h1 h2 h3), (nmH_I _ _ _ _ _ _ (by omega) (by omega) (by omega)).trans r.2.2⟩
end NM
theorem d_names {tx : Nat → Int32} {en : Nat} {h : Hp} {c : Nat} {K : List Nm} (b : RB tx en h c K) (hl : K.length < 33) (key : Int64) (so nu : Int32) : gCi 0 0 0 yX10_names cX10_names 5 none [.ref 50, .long key, .int so, .int nu] h none (nmH h c K.length key so nu) := by
  refine g_entry (lv := [.ref 50, .long key, .retAddr 0, .int so, .int nu]) 0 pn_X10 rfl rfl rfl ?_
  refine g_aL0 dX10_names_0 ?_
  refine g_getR lf_X10_167 (b.S.l 50 rfl) (b.S.k 50 rfl rfl) b.C dX10_names_1 ?_
  refine g_getRn lf_X10_184 (b.M.l 0 rfl) (b.M.k 0 rfl rfl) (b.M.r 28 (j := 14) rfl) dX10_names_4 ?_
  refine g_aL0 dX10_names_7 ?_
  refine g_getR lf_X10_167 (b.S.l 50 rfl) (b.S.k 50 rfl rfl) b.C dX10_names_8 ?_
  refine g_gI lf_X10_188 (b.M.l 0 rfl) (b.M.k 0 rfl rfl) dX10_names_11 ?_
  rw [b.n]
  refine g_lL1 dX10_names_14 ?_
  refine g_lastoreN (b.M.l 14 rfl) (b.M.k 14 rfl rfl) (b.M.n 14 (n := 33) rfl rfl) (by omega) (by decide) dX10_names_15 ?_
  refine g_aL0 dX10_names_16 ?_
  refine g_getR lf_X10_167 (b.S.l 50 rfl) (b.S.k 50 rfl rfl) b.C dX10_names_17 ?_
  refine g_getRn lf_X10_191 (b.M.l 0 rfl) (b.M.k 0 rfl rfl) (b.M.r 29 (j := 15) rfl) dX10_names_20 ?_
  refine g_aL0 dX10_names_23 ?_
  refine g_getR lf_X10_167 (b.S.l 50 rfl) (b.S.k 50 rfl rfl) b.C dX10_names_24 ?_
  refine g_gI lf_X10_188 (b.M.l 0 rfl) (b.M.k 0 rfl rfl) dX10_names_27 ?_
  rw [show ∀ k x, gI (pJ h (c + 14) k x) c 14 = nI K.length from fun _ _ => b.n]
  refine g_iL3 dX10_names_30 ?_
  refine g_iastoreN (b.M.l 15 rfl) (b.M.k 15 rfl rfl) (b.M.n 15 (n := 33) rfl rfl) (by omega) (by decide) dX10_names_31 ?_
  refine g_aL0 dX10_names_32 ?_
  refine g_getR lf_X10_167 (b.S.l 50 rfl) (b.S.k 50 rfl rfl) b.C dX10_names_33 ?_
  refine g_getRn lf_X10_194 (b.M.l 0 rfl) (b.M.k 0 rfl rfl) (b.M.r 30 (j := 16) rfl) dX10_names_36 ?_
  refine g_aL0 dX10_names_39 ?_
  refine g_getR lf_X10_167 (b.S.l 50 rfl) (b.S.k 50 rfl rfl) b.C dX10_names_40 ?_
  refine g_gI lf_X10_188 (b.M.l 0 rfl) (b.M.k 0 rfl rfl) dX10_names_43 ?_
  rw [show ∀ k x k2 x2, gI (pI (pJ h (c + 14) k x) (c + 15) k2 x2) c 14 = nI K.length from fun _ _ _ _ => (gIq (by omega)).trans b.n]
  refine g_iL4 dX10_names_46 ?_
  refine g_iastoreN (b.M.l 16 rfl) (b.M.k 16 rfl rfl) (b.M.n 16 (n := 33) rfl rfl) (by omega) (by decide) dX10_names_48 ?_
  refine g_aL0 dX10_names_49 ?_
  refine g_getR lf_X10_167 (b.S.l 50 rfl) (b.S.k 50 rfl rfl) b.C dX10_names_50 ?_
  refine g_dup dX10_names_53 rfl ?_
  refine g_gI lf_X10_188 (b.M.l 0 rfl) (b.M.k 0 rfl rfl) dX10_names_54 ?_
  rw [show ∀ k x k2 x2 k3 x3, gI (pI (pI (pJ h (c + 14) k x) (c + 15) k2 x2) (c + 16) k3 x3) c 14 = nI K.length from fun _ _ _ _ _ _ => (gIq (by omega)).trans ((gIq (by omega)).trans b.n)]
  refine g_iconst dX10_names_57 ?_
  refine g_iadd dX10_names_58 ?_
  refine g_pI1 lf_X10_188 (b.M.l 0 rfl) (b.M.k 0 rfl rfl) dX10_names_59 ?_
  exact e_vret rfl dX10_names_62 rfl rfl rfl

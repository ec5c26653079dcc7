/-! THE INVARIANT BETWEEN THE CLASS AND THE REFERENCE -/
theorem gC_deep {d d' RC RS nL : Nat} {y : MethodName} {cc : ByteArray} {ret : Option FieldType} {args : List Value} {h : Hp} {Q : Option Value → Hp → Prop} (hd : d ≤ d') (hC : gC d RC RS y cc nL ret args h Q) : gC d' RC RS y cc nL ret args h Q := by
  intro l G p e ha hc hk s m a below hf happ hP hK
  refine hC l G p e ha hc hk s m a below hf ?_ hP hK
  obtain ⟨g1, g2, g3, g4, g5, g6, g7, g8⟩ := (Spec.appliesLoose_iff hf).mp happ
  refine (Spec.appliesLoose_iff hf).mpr ⟨g1, g2, g3, g4, g5, g6, ?_, g8⟩
  have e1 : (headSpec (Cond.code y cc nL ret :: gtb) (grm d' RC RS)).room = grm d' RC RS := rfl
  have e2 : (headSpec (Cond.code y cc nL ret :: gtb) (grm d RC RS)).room = grm d RC RS := rfl
  rw [e1] at g7
  rw [e2]
  simp only [State.hasRoom, Bool.and_eq_true, decide_eq_true_eq] at g7 ⊢
  have h1 := g7.1.1.1.1
  have h2 := g7.1.1.1.2
  refine ⟨⟨⟨⟨?_, ?_⟩, g7.1.1.2⟩, g7.1.2⟩, g7.2⟩
  · simp only [grm] at h1 ⊢; omega
  · simp only [grm] at h2 ⊢; exact ⟨by omega, by omega, by omega, by omega, h2.2.2.2.2⟩
/-- cells that tell nothing from one call to the next -/
def frx (b j : Nat) : Prop := (b = 0 ∧ j = 8) ∨ (45 ≤ b ∧ b ≤ 49) ∨ (b = 50 ∧ (j = 0 ∨ j = 1 ∨ j = 2 ∨ j = 27 ∨ j = 29 ∨ j = 30 ∨ j = 31 ∨ j = 34)) ∨ (55 ≤ b ∧ b ≤ 58)
def FR (h' h : Hp) : Prop := h'.1 = h.1 ∧ h'.2.1 = h.2.1 ∧ h'.2.2.1 = h.2.2.1 ∧ (∀ b j, ¬ (b = 45 ∧ j = 0) → gR h' b j = gR h b j) ∧ (SX h → SX h') ∧ ∀ b j, ¬ frx b j → gI h' b j = gI h b j
theorem FR.refl (h : Hp) : FR h h := ⟨rfl, rfl, rfl, fun _ _ _ => rfl, id, fun _ _ _ => rfl⟩
theorem FR.trans {a b c : Hp} (x : FR a b) (y : FR b c) : FR a c := ⟨x.1.trans y.1, x.2.1.trans y.2.1, x.2.2.1.trans y.2.2.1, fun b j hb => (x.2.2.2.1 b j hb).trans (y.2.2.2.1 b j hb), fun S => x.2.2.2.2.1 (y.2.2.2.2.1 S), fun b j hb => (x.2.2.2.2.2 b j hb).trans (y.2.2.2.2.2 b j hb)⟩
theorem FR_I (h : Hp) {a k : Nat} (v : Int32) (ha : frx a k) : FR (pI h a k v) h := ⟨rfl, rfl, rfl, fun _ _ _ => rfl, fun S => S.eq rfl rfl rfl rfl, fun b j hb => u2_n _ _ (fun z => hb (by rw [z.1, z.2]; exact ha))⟩
theorem FR_8 (h : Hp) (v : Int32) : FR (pI h 0 8 v) h := FR_I h v (by unfold frx; omega)
theorem FR_mT (h : Hp) : FR (mT h) h := FR_I h 0 (by unfold frx; omega)
theorem FR_mR (h : Hp) (y : Int32) : FR (mR h y) h := (FR_I _ (-1) (by unfold frx; omega)).trans (FR_I h y (by unfold frx; omega))
theorem mF.fr {h' h : Hp} (k : mF h' h) : FR h' h := ⟨k.1, k.2.1, k.2.2.1, fun b j _ => congrFun (congrFun k.2.2.2.1 b) j, k.S, fun b j hb => k.2.2.2.2.1 b j (fun z => hb (by unfold frx; omega)) (fun z => hb (by unfold frx; omega)) (fun z => hb (by unfold frx; omega)) (fun z => hb (by unfold frx; omega)) (fun z => hb (by unfold frx; omega))⟩
theorem wyK.fr {h' h : Hp} (k : wyK h' h) : FR h' h := ⟨k.1, k.2.1, k.2.2.1, k.2.2.2.2.1, k.2.2.2.1, fun b j hb => k.2.2.2.2.2.1 b j (fun z => hb (by unfold frx; omega)) (fun z => hb (by unfold frx; omega)) (fun z => hb (by unfold frx; omega))⟩
theorem FR.f {g h : Hp} (k : FR g h) {b : Nat} (hb : b < 45 ∨ (50 < b ∧ b < 55) ∨ 58 < b) (h0 : b ≠ 0) : gI g b = gI h b := funext (fun j => k.2.2.2.2.2 b j (by unfold frx; omega))
theorem MC.fr {h h' : Hp} {c : Nat} (M : MC h c) (k : FR h' h) : MC h' c := by
  have h6 := M.1
  refine ⟨h6, fun j hj => ?_, fun j hj => ?_, fun j hj => ?_, fun k' j hj => ?_⟩
  · show c + j ∈ h'.1.1
    rw [k.1]; exact M.2.1 j hj
  · show h'.2.1 (c + j) = _
    rw [k.2.1]; exact M.2.2.1 j hj
  · show h'.2.2.1 (c + j) = _
    rw [k.2.2.1]; exact M.2.2.2.1 j hj
  · rw [k.2.2.2.1 c k' (by omega)]; exact M.2.2.2.2 k' j hj
theorem RC.fr {h h' : Hp} {c : Nat} {C : CT} {nn : Nat → Nat} (r : RC h c C nn) (hc : 60 ≤ c) (k : FR h' h) : RC h' c C nn := by
  have e : ∀ a, gI h' (c + a) = gI h (c + a) := fun a => k.f (by omega) (by omega)
  refine ⟨fun f hf => ?_, fun a j h1 h2 h3 => ?_, ?_⟩
  · rw [show gI h' c = gI h c from e 0]; exact r.1 f hf
  · rw [e a]; exact r.2.1 a j h1 h2 h3
  · show gI h' c 13 = _
    rw [show gI h' c = gI h c from e 0]; exact r.2.2
/-! the parts of it -/
def JH (h : Hp) : Prop := SX h ∧ 60 ≤ gn h ∧ ∀ a ∈ gL h, a < gn h
def JT (h : Hp) : Prop := ∃ n, n ≤ 1100 ∧ gI h 1 1 = nI n ∧ gI h 50 6 = nI n ∧ gI h 51 = gI h 2 ∧ BY (gI h 2)
def JR (h : Hp) (t s : Nat) : Prop := ((t = 3 ∧ s = 18) ∨ (t = 18 ∧ s = 3)) ∧ gR h 0 6 = some t ∧ gR h 0 7 = some s ∧ gR h 38 0 = some t
def JZ (h : Hp) (t : Nat) : Prop := gR h 50 3 = none ∧ ZC (CC h t) ∧ gI h 38 3 = 0 ∧ gI h 38 7 = 0 ∧ gI h 38 9 = 0
/-- places of a pane's state that a city of N panes has -/
def lj (N j : Nat) : Prop := j < N ∨ (8 ≤ j ∧ j < 8 + N) ∨ j = 16
/-- the class's state, in the reference's order -/
def cst (h : Hp) (j : Nat) : Int32 := if j < 8 then gI h 39 j else if j < 16 then gI h 40 (j - 8) else gI h 38 3
def SBv (N D : Nat) (f : Nat → Int32) : Prop := ∀ p, p < N → ∀ j, D ≤ j → j < 32 → bt (f p) j = false
/-- an act done, or taken back -/
def tgF (s : Int32) (p : Nat) (c : Int32) (v : Nat → Int32) (j : Nat) : Int32 := if s = 0 then (if j = p then v j ^^^ ((1 : Int32) <<< (c &&& 31)) else v j) else if s = 1 then (if j = 8 + p then v j ^^^ ((1 : Int32) <<< (c &&& 31)) else v j) else (if j = 16 then v j ^^^ ((1 : Int32) <<< (nI p &&& 31)) else v j)
def nxV (h : Hp) (A k j : Nat) : Int32 := if k + 1 = A then gI h 52 j else gI h 53 (17 * (k + 1) + j)
def PSv (h : Hp) (N D : Nat) : Prop := (∀ j, lj N j → cst h j = gI h 52 j) ∧ SBv N D (gI h 52)
def PSa (h : Hp) (N D A : Nat) : Prop := A ≤ 16 ∧ gI h 38 7 = nI A ∧ gI h 50 23 = nI A ∧ ∀ k, k < A → ∃ p, p < N ∧ gI h 42 k = nI p ∧ (∀ j, lj N j → gI h 53 (17 * k + j) = tgF (gI h 41 k) p (gI h 43 k) (nxV h A k) j) ∧ SBv N D (fun j => gI h 53 (17 * k + j))
def PSm (h : Hp) (N D M : Nat) : Prop := M ≤ 3 ∧ gI h 38 9 = nI M ∧ gI h 50 24 = nI M ∧ ∀ m, m < M → (∀ j, lj N j → gI h 44 (17 * m + j) = gI h 54 (17 * m + j)) ∧ SBv N D (fun j => gI h 54 (17 * m + j))
def PS (h : Hp) (N D : Nat) : Prop := PSv h N D ∧ (∃ A, PSa h N D A) ∧ ∃ M, PSm h N D M
/-- how many cells a pane has -/
def dmF (C : CT) : Nat := pn (C 0 1) * pn (C 0 2)
def JC (h : Hp) (t c : Nat) (C : CT) (K : List Nm) : Prop := gR h 50 3 = some c ∧ MC h c ∧ CE h t C ∧ PI C K ∧ 0 < nnC C 1 ∧ RD h c C ∧ PS h (nnC C 1) (dmF C)
def Jc (h : Hp) : Prop := JH h ∧ JT h ∧ LB h ∧ ∃ t s, JR h t s ∧ (JZ h t ∨ ∃ c C K, JC h t c C K)
def TR (h : Hp) : Prop := gI h 50 1 = gI h 0 8 ∧ gI h 50 2 = (if gI h 0 8 = 4 then gI h 0 10 else -1) ∧ gI h 50 13 = gI h 0 9
def J (h : Hp) : Prop := Jc h ∧ TR h
/-! they stay over what a call leaves behind -/
theorem PS.eq {h' h : Hp} {N D : Nat} (p : PS h N D) (e38 : ∀ j, gI h' 38 j = gI h 38 j) (e39 : gI h' 39 = gI h 39) (e40 : gI h' 40 = gI h 40) (e41 : gI h' 41 = gI h 41) (e42 : gI h' 42 = gI h 42) (e43 : gI h' 43 = gI h 43) (e44 : gI h' 44 = gI h 44) (e23 : gI h' 50 23 = gI h 50 23) (e24 : gI h' 50 24 = gI h 50 24) (e52 : gI h' 52 = gI h 52) (e53 : gI h' 53 = gI h 53) (e54 : gI h' 54 = gI h 54) : PS h' N D := by
  obtain ⟨⟨v1, v2⟩, ⟨A, a1, a2, a3, a4⟩, ⟨M, m1, m2, m3, m4⟩⟩ := p
  have ec : ∀ j, cst h' j = cst h j := fun j => by unfold cst; rw [e39, e40, e38]
  have en : ∀ k j, nxV h' A k j = nxV h A k j := fun k j => by unfold nxV; rw [e52, e53]
  refine ⟨⟨fun j hj => by rw [ec, e52]; exact v1 j hj, by rw [e52]; exact v2⟩, ⟨A, a1, by rw [e38]; exact a2, by rw [e23]; exact a3, fun k hk => ?_⟩, ⟨M, m1, by rw [e38]; exact m2, by rw [e24]; exact m3, fun m hm => ?_⟩⟩
  · obtain ⟨p, p1, p2, p3, p4⟩ := a4 k hk
    refine ⟨p, p1, by rw [e42]; exact p2, fun j hj => ?_, by rw [e53]; exact p4⟩
    rw [e53, e41, e43, show nxV h' A k = nxV h A k from funext (en k)]
    exact p3 j hj
  · rw [e44, e54]; exact m4 m hm
theorem PS.fr {h' h : Hp} {N D : Nat} (p : PS h N D) (k : FR h' h) : PS h' N D := p.eq (fun j => congrFun (k.f (by omega) (by omega)) j) (k.f (by omega) (by omega)) (k.f (by omega) (by omega)) (k.f (by omega) (by omega)) (k.f (by omega) (by omega)) (k.f (by omega) (by omega)) (k.f (by omega) (by omega)) (k.2.2.2.2.2 _ _ (by unfold frx; omega)) (k.2.2.2.2.2 _ _ (by unfold frx; omega)) (k.f (by omega) (by omega)) (k.f (by omega) (by omega)) (k.f (by omega) (by omega))
theorem JH.fr {h' h : Hp} (j : JH h) (k : FR h' h) : JH h' := by
  refine ⟨k.2.2.2.2.1 j.1, ?_, ?_⟩
  · show 60 ≤ h'.1.2
    rw [k.1]; exact j.2.1
  · show ∀ a ∈ h'.1.1, a < h'.1.2
    rw [k.1]; exact j.2.2
theorem JT.fr {h' h : Hp} (j : JT h) (k : FR h' h) : JT h' := by
  obtain ⟨n, h1, h2, h3, h4, h5⟩ := j
  refine ⟨n, h1, ?_, ?_, ?_, ?_⟩
  · rw [k.f (by omega) (by omega)]; exact h2
  · rw [k.2.2.2.2.2 50 6 (by unfold frx; omega)]; exact h3
  · rw [k.f (by omega) (by omega), k.f (b := 2) (by omega) (by omega)]; exact h4
  · rw [k.f (b := 2) (by omega) (by omega)]; exact h5
theorem LB.fr {h' h : Hp} (j : LB h) (k : FR h' h) : LB h' := by
  obtain ⟨⟨a, h1, h2⟩, ⟨b, h3, h4⟩⟩ := j
  exact ⟨⟨a, h1, (k.2.2.2.2.2 50 15 (by unfold frx; omega)).trans h2⟩, ⟨b, h3, (k.2.2.2.2.2 50 16 (by unfold frx; omega)).trans h4⟩⟩
theorem JR.fr {h' h : Hp} {t s : Nat} (j : JR h t s) (k : FR h' h) : JR h' t s := ⟨j.1, (k.2.2.2.1 0 6 (by omega)).trans j.2.1, (k.2.2.2.1 0 7 (by omega)).trans j.2.2.1, (k.2.2.2.1 38 0 (by omega)).trans j.2.2.2⟩
theorem JR.t {h : Hp} {t s : Nat} (j : JR h t s) : t = 3 ∨ t = 18 := by have := j.1; omega
theorem JR.s {h : Hp} {t s : Nat} (j : JR h t s) : s = 3 ∨ s = 18 := by have := j.1; omega
theorem CC.fr {h' h : Hp} {t a : Nat} (ht : t = 3 ∨ t = 18) (k : FR h' h) (ha : a < 15) : gI h' (t + a) = gI h (t + a) := k.f (by omega) (by omega)
theorem JZ.fr {h' h : Hp} {t : Nat} (j : JZ h t) (ht : t = 3 ∨ t = 18) (k : FR h' h) : JZ h' t := by
  obtain ⟨h1, ⟨z1, z2, z3, z4, z5, z6, z7, z8, z9⟩, h2, h3, h4⟩ := j
  have e38 : gI h' 38 = gI h 38 := k.f (by omega) (by omega)
  have e : ∀ a j, a < 15 → CC h' t a j = CC h t a j := fun a j ha => congrFun (CC.fr ht k ha) j
  refine ⟨(k.2.2.2.1 50 3 (by omega)).trans h1, ⟨fun k hk => (e 1 k (by omega)).trans (z1 k hk), fun j hj => (e 7 j (by omega)).trans (z2 j hj), fun j hj => (e 8 j (by omega)).trans (z3 j hj), (e 0 1 (by omega)).trans z4, (e 0 2 (by omega)).trans z5, (e 0 3 (by omega)).trans z6, (e 0 4 (by omega)).trans z7, (e 0 5 (by omega)).trans z8, (e 0 13 (by omega)).trans z9⟩, ?_, ?_, ?_⟩
  · rw [e38]; exact h2
  · rw [e38]; exact h3
  · rw [e38]; exact h4
theorem JC.fr {h' h : Hp} {t c : Nat} {C : CT} {K : List Nm} (j : JC h t c C K) (ht : t = 3 ∨ t = 18) (k : FR h' h) : JC h' t c C K := by
  obtain ⟨h1, h2, h3, h4, h5, h6, h7⟩ := j
  exact ⟨(k.2.2.2.1 50 3 (by omega)).trans h1, h2.fr k, fun a j ha => (congrFun (CC.fr ht k ha) j).trans (h3 a j ha), h4, h5, RC.fr h6 h2.1 k, h7.fr k⟩
theorem Jc.fr {h' h : Hp} (j : Jc h) (k : FR h' h) : Jc h' := by
  obtain ⟨j1, j2, j3, t, s, j4, j5⟩ := j
  refine ⟨j1.fr k, j2.fr k, j3.fr k, t, s, j4.fr k, ?_⟩
  rcases j5 with z | ⟨c, C, K, z⟩
  · exact Or.inl (z.fr j4.t k)
  · exact Or.inr ⟨c, C, K, z.fr j4.t k⟩
/-! what the contracts ask for -/
theorem JZ.cx {h : Hp} {t s : Nat} (S : SX h) (r : JR h t s) (z : JZ h t) : CX h t (fun _ => 0) := ⟨S, r.t, r.2.1, r.2.2.2, fun k hk => z.2.1.1 k hk, by decide⟩
theorem JC.cx {h : Hp} {t s c : Nat} {C : CT} {K : List Nm} (S : SX h) (r : JR h t s) (j : JC h t c C K) : CX h t (nnC C) := by
  obtain ⟨h1, h2, h3, h4, h5, h6, h7⟩ := j
  have b := h4.2.1
  have n6 := h4.n6
  exact ⟨S, r.t, r.2.1, r.2.2.2, fun k hk => (h3 1 k (by decide)).trans (h4.1 k hk), by omega, by omega, by omega, by omega, by omega, by omega, by omega, by omega, by omega, by omega⟩
theorem JC.mx {h : Hp} {t c : Nat} {C : CT} {K : List Nm} (S : SX h) (j : JC h t c C K) : MX h c (nnC C) := by
  obtain ⟨h1, h2, h3, h4, h5, h6, h7⟩ := j
  have b := h4.2.1
  refine ⟨S, h2, h1, ⟨(h6.1 4 (by decide)).trans (h4.1 1 (by decide)), (h6.1 5 (by decide)).trans (h4.1 2 (by decide)), (h6.1 6 (by decide)).trans (h4.1 3 (by decide)), (h6.1 7 (by decide)).trans (h4.1 4 (by decide)), (h6.1 10 (by decide)).trans (h4.1 7 (by decide)), (h6.1 11 (by decide)).trans (h4.1 8 (by decide)), (h6.1 12 (by decide)).trans (h4.1 9 (by decide))⟩, by omega, by omega, by omega, by omega, by omega, by omega, by omega⟩
theorem RD.a {h : Hp} {c : Nat} {C : CT} (d : RD h c C) {a j : Nat} (h1 : 1 ≤ a) (h2 : a ≤ 13) (h3 : ¬ (a = 6 ∨ a = 7)) (h4 : j < nnC C (gpF a)) : gI h (c + a) j = C (a + 1) j := d.2.1 a j h1 h2 (by unfold lvF; rw [if_neg h3]; exact h4)
theorem RD.m {h : Hp} {c : Nat} {C : CT} (d : RD h c C) {a j : Nat} (h3 : a = 6 ∨ a = 7) (h4 : j < 49) : gI h (c + a) j = C (a + 1) j := d.2.1 a j (by omega) (by omega) (by unfold lvF; rw [if_pos h3]; exact h4)
theorem ip_ok {P n : Nat} (h : P < n) (hn : n < 2147483648) : ¬ ipF (nI P) (nI n) = 0 := by rw [ip_in h hn]; decide
theorem si_ok {P n : Nat} (h : P < n) (hn : n < 2147483648) : ¬ siF (nI P) (nI n) = 0 := by
  unfold siF
  rw [if_neg (nI_n2 (by omega)), if_neg (ip_ok h hn)]
  decide
theorem JC.mb {h : Hp} {t c : Nat} {C : CT} {K : List Nm} (j : JC h t c C K) : MB h c (nnC C) := by
  obtain ⟨h1, h2, h3, h4, h5, h6, h7⟩ := j
  have b := h4.2.1
  obtain ⟨-, -, -, -, -, p7, p6, p9, -, -⟩ := id h4
  refine ⟨fun j hj => ?_, ⟨fun j => pn (C 8 j), fun j hj => ?_⟩, fun x hx => ?_, fun L hL => ?_⟩
  · rw [RD.m h6 (Or.inl rfl) hj]
    obtain ⟨m, hm, e⟩ := (p7 j hj).1
    rw [e]; exact nI_nn (by omega)
  · rw [RD.m h6 (Or.inr rfl) hj]
    obtain ⟨m, hm, e⟩ := (p7 j hj).2
    show C 8 j = nI (pn (C 8 j)) ∧ pn (C 8 j) ≤ 50
    rw [e, pn_nI (by omega)]; exact ⟨rfl, hm⟩
  · rw [RD.a h6 (a := 5) (by decide) (by decide) (by decide) hx]
    obtain ⟨v, hv, e⟩ := p6 x hx
    rw [e]; exact si_ok hv (by omega)
  · obtain ⟨p, f, t, q1, q2, q3, q4, q5, q6⟩ := p9 L hL
    exact ⟨p, f, t, q1, q2, q3, (RD.a h6 (a := 8) (by decide) (by decide) (by decide) hL).trans q4, (RD.a h6 (a := 9) (by decide) (by decide) (by decide) hL).trans q5, (RD.a h6 (a := 10) (by decide) (by decide) (by decide) hL).trans q6⟩
theorem JC.lx {h : Hp} {t c : Nat} {C : CT} {K : List Nm} (j : JC h t c C K) : LX h t (nnC C) := by
  obtain ⟨h1, h2, h3, h4, h5, h6, h7⟩ := j
  intro L hL
  obtain ⟨p, f, t, q1, q2, q3, q4, q5, q6⟩ := h4.2.2.2.2.2.2.2.1 L hL
  exact ⟨p, f, q1, q2, (h3 9 L (by decide)).trans q4, (h3 10 L (by decide)).trans q5⟩
/-! a call on both sides -/
def PRi (h : Hp) (yx : MethodName) (cx : ByteArray) (nx : Nat) (ym : MethodName) (cm : ByteArray) (nm : Nat) (rt : Option FieldType) (as : List Value) : Prop := ∃ (r : Int32) (h1 : Hp), gCi 12 0 0 yx cx nx rt (.ref 0 :: as) h (some (.int r)) h1 ∧ SX h1 ∧ gC 12 0 0 ym cm nm rt (.ref 50 :: as) h1 (fun v h' => v = some (.int r) ∧ J h')
def PRl (h : Hp) (yx : MethodName) (cx : ByteArray) (nx : Nat) (ym : MethodName) (cm : ByteArray) (nm : Nat) (rt : Option FieldType) (as : List Value) : Prop := ∃ (r : Int64) (h1 : Hp), gCi 12 0 0 yx cx nx rt (.ref 0 :: as) h (some (.long r)) h1 ∧ SX h1 ∧ gC 12 0 0 ym cm nm rt (.ref 50 :: as) h1 (fun v h' => v = some (.long r) ∧ J h')
theorem J_mR {h h1 h2 : Hp} {y : Int32} (j : J h) (fx : FR h1 h) (k : mF h2 (mT h1)) (ey : y = gI h1 0 8) (y4 : ¬ gI h1 0 8 = 4) : J (mR h2 y) := by
  have f2 : FR h2 h1 := k.fr.trans (FR_mT h1)
  have fa : FR (mR h2 y) h := ((FR_mR h2 y).trans f2).trans fx
  refine ⟨j.1.fr fa, ?_⟩
  have e8 : gI (mR h2 y) 0 8 = gI h1 0 8 := by
    show gI h2 0 8 = _
    rw [k.2.2.2.2.1 0 8 (by decide) (by decide) (by decide) (by decide) (by decide)]; rfl
  have e10 : gI (mR h2 y) 0 10 = gI h 0 10 := fa.2.2.2.2.2 0 10 (by unfold frx; omega)
  have e9 : gI (mR h2 y) 0 9 = gI h 0 9 := fa.2.2.2.2.2 0 9 (by unfold frx; omega)
  have e13 : gI (mR h2 y) 50 13 = gI h 50 13 := fa.2.2.2.2.2 50 13 (by unfold frx; omega)
  refine ⟨?_, ?_, ?_⟩
  · rw [e8, ← ey]; rfl
  · rw [e8, if_neg y4]; rfl
  · rw [e13, e9]; exact j.2.2.2
theorem PRi.q {h h1 : Hp} {yx ym : MethodName} {cx cm : ByteArray} {nx nm dx dm : Nat} {rt : Option FieldType} {as : List Value} {r r' y' : Int32} (j : J h) (hx : gCi dx 0 0 yx cx nx rt (.ref 0 :: as) h (some (.int r)) h1) (dx12 : dx ≤ 12) (fx : FR h1 h) (hm : gC dm 0 0 ym cm nm rt (.ref 50 :: as) h1 (mQ2 (mT h1) (.int r') y')) (dm12 : dm ≤ 12) (er : r' = r) (ey : y' = gI h1 0 8) (y4 : ¬ gI h1 0 8 = 4) : PRi h yx cx nx ym cm nm rt as := by
  refine ⟨r, h1, gCi_deep dx12 hx, fx.2.2.2.2.1 j.1.1.1, gC_deep dm12 (gC_imp ?_ hm)⟩
  rintro v h' ⟨rfl, h2, k, rfl⟩
  exact ⟨by rw [er], J_mR j fx k ey y4⟩
theorem PRl.q {h h1 : Hp} {yx ym : MethodName} {cx cm : ByteArray} {nx nm dx dm : Nat} {rt : Option FieldType} {as : List Value} {r r' : Int64} {y' : Int32} (j : J h) (hx : gCi dx 0 0 yx cx nx rt (.ref 0 :: as) h (some (.long r)) h1) (dx12 : dx ≤ 12) (fx : FR h1 h) (hm : gC dm 0 0 ym cm nm rt (.ref 50 :: as) h1 (mQ2 (mT h1) (.long r') y')) (dm12 : dm ≤ 12) (er : r' = r) (ey : y' = gI h1 0 8) (y4 : ¬ gI h1 0 8 = 4) : PRl h yx cx nx ym cm nm rt as := by
  refine ⟨r, h1, gCi_deep dx12 hx, fx.2.2.2.2.1 j.1.1.1, gC_deep dm12 (gC_imp ?_ hm)⟩
  rintro v h' ⟨rfl, h2, k, rfl⟩
  exact ⟨by rw [er], J_mR j fx k ey y4⟩
theorem q2_i {d nL : Nat} {y : MethodName} {cc : ByteArray} {ret : Option FieldType} {args : List Value} {h h2 : Hp} {r : Value} {x : Int32} (k : mF h2 (mT h)) (hC : gCi d 0 0 y cc nL ret args h (some r) (mR h2 x)) : gC d 0 0 y cc nL ret args h (mQ2 (mT h) r x) := gC_imp (fun v h' z => ⟨z.1, h2, k, z.2⟩) hC
theorem q2_r {d nL : Nat} {y : MethodName} {cc : ByteArray} {ret : Option FieldType} {args : List Value} {h : Hp} {r : Value} {x : Int32} (hC : gCi d 0 0 y cc nL ret args h (some r) (mR (mT h) x)) : gC d 0 0 y cc nL ret args h (mQ2 (mT h) r x) := q2_i (mF.refl _) hC
theorem q2_q {d nL : Nat} {y : MethodName} {cc : ByteArray} {ret : Option FieldType} {args : List Value} {h : Hp} {r : Value} {x : Int32} (hC : gC d 0 0 y cc nL ret args h (mQ (mT h) r x)) : gC d 0 0 y cc nL ret args h (mQ2 (mT h) r x) := gC_imp (fun v h' z => ⟨z.1, z.2.choose, z.2.choose_spec.1.m, z.2.choose_spec.2⟩) hC
/-! how the two sides look to each other -/
def VW (h g : Hp) (t c : Nat) (C : CT) : Prop := CE h t C ∧ RD g c C ∧ (∀ p, p < nnC C 1 → gI g 52 p = gI h 39 p ∧ gI g 52 (8 + p) = gI h 40 p) ∧ gI g 52 16 = gI h 38 3
theorem JC.vw {h g : Hp} {t c : Nat} {C : CT} {K : List Nm} (j : JC h t c C K) (k : FR g h) : VW h g t c C := by
  obtain ⟨h1, h2, h3, h4, h5, h6, h7⟩ := j
  have b := h4.2.1
  have e52 : gI g 52 = gI h 52 := k.f (by omega) (by omega)
  refine ⟨h3, RC.fr h6 h2.1 k, fun p hp => ⟨?_, ?_⟩, ?_⟩
  · rw [e52, ← h7.1.1 p (Or.inl hp)]
    unfold cst; rw [if_pos (by omega)]
  · rw [e52, ← h7.1.1 (8 + p) (Or.inr (Or.inl ⟨by omega, by omega⟩))]
    unfold cst; rw [if_neg (by omega), if_pos (by omega), Nat.add_sub_cancel_left]
  · rw [e52, ← h7.1.1 16 (Or.inr (Or.inr rfl))]
    unfold cst; rw [if_neg (by omega), if_neg (by omega)]
section VWs
variable {h g : Hp} {t c : Nat} {C : CT}
theorem VW.cc (v : VW h g t c C) {a : Nat} (ha : a < 15) : gI h (t + a) = C a := funext (fun j => v.1 a j ha)
theorem VW.s (v : VW h g t c C) {f : Nat} (hf : f < 13) : gI g c f = C (saF f) (sjF f) := v.2.1.1 f hf
theorem VW.a (v : VW h g t c C) {a j : Nat} (h1 : 1 ≤ a) (h2 : a ≤ 13) (h3 : ¬ (a = 6 ∨ a = 7)) (h4 : j < nnC C (gpF a)) : gI g (c + a) j = gI h (t + (a + 1)) j := by
  rw [v.cc (by omega)]; exact RD.a v.2.1 h1 h2 h3 h4
theorem VW.m (v : VW h g t c C) {a j : Nat} (h3 : a = 6 ∨ a = 7) (h4 : j < 49) : gI g (c + a) j = gI h (t + (a + 1)) j := by
  rw [v.cc (by omega)]; exact RD.m v.2.1 h3 h4
theorem VW.th (v : VW h g t c C) : gI g 52 16 = gI h 38 3 := v.2.2.2
theorem VW.w (v : VW h g t c C) : gI g c 0 = gI h t 1 := (v.s (by decide)).trans (v.1 0 1 (by decide)).symm
theorem VW.hg (v : VW h g t c C) : gI g c 1 = gI h t 2 := (v.s (by decide)).trans (v.1 0 2 (by decide)).symm
theorem VW.hl (v : VW h g t c C) : gI g c 2 = gI h t 3 := (v.s (by decide)).trans (v.1 0 3 (by decide)).symm
theorem VW.ic (v : VW h g t c C) : gI g c 3 = gI h t 4 := (v.s (by decide)).trans (v.1 0 4 (by decide)).symm
theorem VW.tv (v : VW h g t c C) : gI g c 9 = gI h t 13 := (v.s (by decide)).trans (v.1 0 13 (by decide)).symm
theorem VW.fw (v : VW h g t c C) (b : Int32) : fwF (gI g (c + 3)) b (nnC C 2) 0 = fwF (gI h (t + 4)) b (nnC C 2) 0 := fwF_c _ _ (fun j _ hj => v.a (a := 3) (by decide) (by decide) (by decide) (show j < nnC C 2 by omega))
theorem VW.dk (v : VW h g t c C) (b3 : nnC C 3 ≤ 6) {x : Int32} (hx : ¬ siF x (nI (nnC C 3)) = 0) : dkF (gI g (c + 4)) x = dkF (gI h (t + 5)) x := dkF_c b3 hx (fun j hj => v.a (a := 4) (by decide) (by decide) (by decide) hj)
theorem VW.se (v : VW h g t c C) (b3 : nnC C 3 ≤ 6) {p : Nat} (hp : p < nnC C 1) {x : Int32} (hx : ¬ siF x (nI (nnC C 3)) = 0) : seM g c p x = seF h t p x := by
  show sbF (gI g 52 p) (gI g 52 (8 + p)) (dkF (gI g (c + 4)) x) = _
  rw [(v.2.2.1 p hp).1, (v.2.2.1 p hp).2, v.dk b3 hx]
theorem VW.sh (v : VW h g t c C) {p : Nat} (hp : p < nnC C 1) : shM g p = seF h t p (-2) := by
  show gI g 52 p &&& (gI g 52 (8 + p) ^^^ (-1)) = (gI h 39 p &&& (gI h 40 p ^^^ (-1))) &&& (0 ^^^ (-1))
  rw [(v.2.2.1 p hp).1, (v.2.2.1 p hp).2, and_n0]
theorem VW.rd (v : VW h g t c C) (b3 : nnC C 3 ≤ 6) {p : Nat} (hp : p < nnC C 1) {x : Int32} (hx : ¬ siF x (nI (nnC C 3)) = 0) : rdM g c (nnC C) p x = wrF h t (nnC C 2) p x := by
  show fwF (gI g (c + 3)) (seM g c p x) (nnC C 2) 0 = _
  rw [v.se b3 hp hx, v.fw]
theorem VW.gn (v : VW h g t c C) (b3 : nnC C 3 ≤ 6) {p : Nat} (hp : p < nnC C 1) {x : Int32} (hx : ¬ siF x (nI (nnC C 3)) = 0) : gnM g c (nnC C) p x = whF (seF h t p x) (wrF h t (nnC C 2) p x) := by
  unfold gnM
  rw [wh_eq, v.se b3 hp hx, v.rd b3 hp hx]
end VWs
theorem wn4 (a b c : Int32) : ¬ wnF a b c = 4 := by
  unfold wnF
  repeat' split
  all_goals decide
theorem iz (p : Int32) : ipF p (nI 0) = 0 := by
  unfold ipF
  by_cases z : p < 0
  · rw [if_pos z]
  · rw [if_neg z, if_pos (show nI 0 ≤ p from Int32.not_lt.mp z)]
theorem wz (p b c : Int32) : wnF (ipF p (nI 0)) b c = 1 := by unfold wnF; rw [if_pos (iz p)]

/-! THE REFERENCE'S PARSER: its state, its words -/
/-- what the parser's words leave as it was -/
def GQ (h' h : Hp) : Prop := h'.1 = h.1 ∧ h'.2.1 = h.2.1 ∧ h'.2.2.1 = h.2.2.1 ∧ h'.2.2.2.1 = h.2.2.2.1 ∧ (∀ b j, ¬ (b = 50 ∧ 8 ≤ j ∧ j ≤ 19) → gI h' b j = gI h b j) ∧ ∀ b j, ¬ (b = 50 ∧ j = 17) → gJ h' b j = gJ h b j
theorem GQ.refl (h : Hp) : GQ h h := ⟨rfl, rfl, rfl, rfl, fun _ _ _ => rfl, fun _ _ _ => rfl⟩
theorem GQ.trans {a b c : Hp} (x : GQ a b) (y : GQ b c) : GQ a c := ⟨x.1.trans y.1, x.2.1.trans y.2.1, x.2.2.1.trans y.2.2.1, x.2.2.2.1.trans y.2.2.2.1, fun p q r => (x.2.2.2.2.1 p q r).trans (y.2.2.2.2.1 p q r), fun p q r => (x.2.2.2.2.2 p q r).trans (y.2.2.2.2.2 p q r)⟩
theorem GQ_I (h : Hp) {k : Nat} (v : Int32) (hk : 8 ≤ k ∧ k ≤ 19) : GQ (pI h 50 k v) h := ⟨rfl, rfl, rfl, rfl, fun b j z => u2_n _ _ (fun y => z ⟨y.1, by rw [y.2]; exact hk⟩), fun _ _ _ => rfl⟩
theorem GO.q {h' h : Hp} (k : GO h' h) : GQ h' h := ⟨k.1, k.2.1, k.2.2.1, k.2.2.2.1, fun b j z => k.2.2.2.2.1 b j (fun y => z ⟨y.1, by omega⟩), k.2.2.2.2.2⟩
theorem GQ.S {h' h : Hp} (x : GQ h' h) (S : SX h) : SX h' := S.eq x.1 x.2.1 x.2.2.1 x.2.2.2.1
theorem GQ.f {g h : Hp} (k : GQ g h) {b : Nat} (h1 : b ≠ 50) : gI g b = gI h b := funext fun j => k.2.2.2.2.1 b j (fun z => h1 z.1)
theorem GQ_fw (h : Hp) (f p : Int32) : GQ (fwH h f p) h := (GQ_I _ _ (by omega)).trans ((GQ_I _ _ (by omega)).trans (GQ_I h _ (by omega)))
/-- the reference's sorts of names -/
def nsM (s : Int32) : Int32 := if s = 8 then 4 else s - 1
def KS (K : List Nm) : Prop := ∀ x ∈ K, x.2.1 = 1 ∨ x.2.1 = 2 ∨ x.2.1 = 3 ∨ x.2.1 = 4 ∨ x.2.1 = 8
/-- the city under way at c, with names K -/
def RB (tx : Nat → Int32) (en : Nat) (h : Hp) (c : Nat) (K : List Nm) : Prop := SX h ∧ MC h c ∧ gR h 50 4 = some c ∧ gI h 51 = tx ∧ gI h 50 7 = nI en ∧ en ≤ 1100 ∧ BY tx ∧ gI h c 14 = nI K.length ∧ K.length ≤ 33 ∧ (∀ i x, K[i]? = some x → gJ h (c + 14) i = x.1 ∧ gI h (c + 15) i = nsM x.2.1 ∧ gI h (c + 16) i = x.2.2) ∧ KS K
section RBs
variable {tx : Nat → Int32} {en : Nat} {h : Hp} {c : Nat} {K : List Nm}
theorem RB.S (b : RB tx en h c K) : SX h := b.1
theorem RB.M (b : RB tx en h c K) : MC h c := b.2.1
theorem RB.C (b : RB tx en h c K) : gR h 50 4 = some c := b.2.2.1
theorem RB.x (b : RB tx en h c K) : gI h 51 = tx := b.2.2.2.1
theorem RB.e (b : RB tx en h c K) : gI h 50 7 = nI en := b.2.2.2.2.1
theorem RB.e2 (b : RB tx en h c K) : en ≤ 1100 := b.2.2.2.2.2.1
theorem RB.y (b : RB tx en h c K) : BY tx := b.2.2.2.2.2.2.1
theorem RB.n (b : RB tx en h c K) : gI h c 14 = nI K.length := b.2.2.2.2.2.2.2.1
theorem RB.n2 (b : RB tx en h c K) : K.length ≤ 33 := b.2.2.2.2.2.2.2.2.1
theorem RB.k (b : RB tx en h c K) {i : Nat} {x : Nm} (e : K[i]? = some x) : gJ h (c + 14) i = x.1 ∧ gI h (c + 15) i = nsM x.2.1 ∧ gI h (c + 16) i = x.2.2 := b.2.2.2.2.2.2.2.2.2.1 i x e
theorem RB.s (b : RB tx en h c K) : KS K := b.2.2.2.2.2.2.2.2.2.2
theorem RB.go {h' : Hp} (b : RB tx en h c K) (k : GQ h' h) : RB tx en h' c K := by
  have hc := b.M.1
  refine ⟨k.S b.S, b.M.eq k.1 k.2.1 k.2.2.1 k.2.2.2.1, (congrFun (congrFun k.2.2.2.1 50) 4).trans b.C, (k.f (by decide)).trans b.x, (k.2.2.2.2.1 50 7 (by omega)).trans b.e, b.e2, b.y, (k.2.2.2.2.1 c 14 (by omega)).trans b.n, b.n2, fun i x e => ?_, b.s⟩
  have := b.k e
  exact ⟨(k.2.2.2.2.2 _ _ (by omega)).trans this.1, (k.2.2.2.2.1 _ _ (by omega)).trans this.2.1, (k.2.2.2.2.1 _ _ (by omega)).trans this.2.2⟩
end RBs
/-- it has failed with e -/
def RF (h : Hp) (e : Int32 × Nat) : Prop := gI h 50 9 = 5 ∧ gI h 50 13 = e.1 ∧ gI h 50 14 = nI e.2 ∧ 0 < e.1
def RSt {α : Type} (h : Hp) (o : Ex α) (R : α → Hp → Prop) : Prop := LB h ∧ ((∃ e, o = .error e ∧ RF h e) ∨ ∃ a, o = .ok a ∧ R a h)
theorem RSt.l {α : Type} {h : Hp} {o : Ex α} {R : α → Hp → Prop} (s : RSt h o R) : LB h := s.1
theorem LB_I {h : Hp} {b k : Nat} {v : Int32} (hL : LB h) (hk : ¬ (b = 50 ∧ (k = 15 ∨ k = 16))) : LB (pI h b k v) := ⟨hL.1.imp fun a z => ⟨z.1, (u2_n _ _ (fun y => hk ⟨y.1.symm, Or.inl y.2.symm⟩)).trans z.2⟩, hL.2.imp fun a z => ⟨z.1, (u2_n _ _ (fun y => hk ⟨y.1.symm, Or.inr y.2.symm⟩)).trans z.2⟩⟩
theorem LB_fw {h : Hp} (hL : LB h) (f p : Int32) : LB (fwH h f p) := LB_I (LB_I (LB_I hL (by omega)) (by omega)) (by omega)
theorem RF_fw {tx : Nat → Int32} {en : Nat} {h : Hp} {q : Nat} (r : RK tx en h q) {f : Int32} (hf : 0 < f) : RF (fwH h f (gI h 50 10)) (f, tkP tx en q) := ⟨gIs _ _ _ _, rfl, r.2.2.1, hf⟩
theorem RF.go {h h' : Hp} {e : Int32 × Nat} (r : RF h e) (k : h' = h) : RF h' e := k ▸ r
abbrev RKs (tx : Nat → Int32) (en : Nat) : Nat → Hp → Prop := fun q h => RK tx en h q
theorem gC_imp {d RC RS nL : Nat} {y : MethodName} {cc : ByteArray} {ret : Option FieldType} {args : List Value} {h : Hp} {Q Q' : Option Value → Hp → Prop} (hQ : ∀ v h', Q v h' → Q' v h') (hC : gC d RC RS y cc nL ret args h Q) : gC d RC RS y cc nL ret args h Q' := by
  intro l G
  exact (hC l G).imp (fun _ _ _ _ z => by
    obtain ⟨⟨v, h', a, b, rest⟩, F⟩ := z
    exact ⟨⟨v, h', a, hQ v h' b, rest⟩, F⟩)
theorem r_goesOn {tx : Nat → Int32} {en : Nat} {h : Hp} {c : Nat} {K : List Nm} (b : RB tx en h c K) {o : Ex Nat} (s : RSt h o (RKs tx en)) (h5 : ∀ q, o = .ok q → ¬ tkS tx en q = 5) : gC 1 0 0 yX10_goesOn cX10_goesOn 3 none [.ref 50] h (fun v h' => v = none ∧ GQ h' h ∧ RSt h' (o.bind fun q => .ok (nx tx en q)) (RKs tx en)) := by
  rcases s with ⟨hL, ⟨e, rfl, f⟩ | ⟨q, rfl, r⟩⟩
  · refine gC_imp (Q := fun v h' => v = none ∧ h' = h) (fun v h' z => ?_) (d_goesOn5 b.S f.1)
    obtain ⟨rfl, rfl⟩ := z
    exact ⟨rfl, GQ.refl _, hL, Or.inl ⟨e, rfl, f⟩⟩
  · have ht := h5 q rfl
    exact gC_imp (fun v h' z => ⟨z.1, z.2.1.q, z.2.2.1, Or.inr ⟨_, rfl, z.2.2.2⟩⟩) (d_goesOn b.y b.e2 b.S b.x b.e (r.2.2.2.1 ht) (tkL_le r.1 b.e2) (by rw [r.2.1]; exact rs_5 _) r.2.2.2.2.2.2.2 hL)
def isR (s g x : Int32) : Int32 := if s = 4 then (if g = x then 1 else 0) else 0
theorem d_isSign {h : Hp} (S : SX h) (x : Int32) : gCi 0 0 0 yX10_isSign cX10_isSign 2 (some .boolean) [.ref 50, .int x] h (some (.int (isR (gI h 50 9) (gI h 50 11) x))) h := by
  refine g_entry (lv := [.ref 50, .int x]) 0 pn_X10 rfl rfl rfl ?_
  refine g_aL0 dX10_isSign_0 ?_
  refine g_gI lf_X10_71 (S.l 50 rfl) (S.k 50 rfl rfl) dX10_isSign_1 ?_
  refine g_iconst dX10_isSign_4 ?_
  refine g_icne dX10_isSign_5 (fun c5 => ?_) (fun c5 => ?_)
  · refine g_iconst dX10_isSign_20 ?_
    exact e_zret rfl (by decide) dX10_isSign_21 rfl rfl (if_neg c5).symm rfl
  · refine g_aL0 dX10_isSign_8 ?_
    refine g_gI lf_X10_83 (S.l 50 rfl) (S.k 50 rfl rfl) dX10_isSign_9 ?_
    refine g_iL1 dX10_isSign_12 ?_
    refine g_icne dX10_isSign_13 (fun c13 => ?_) (fun c13 => ?_)
    · refine g_iconst dX10_isSign_20 ?_
      exact e_zret rfl (by decide) dX10_isSign_21 rfl rfl ((if_pos c5).trans (if_neg c13)).symm rfl
    · refine g_iconst dX10_isSign_16 ?_
      refine g_goto dX10_isSign_17 ?_
      exact e_zret rfl (by decide) dX10_isSign_21 rfl rfl ((if_pos c5).trans (if_pos c13)).symm rfl

/-! THE PARSER as functions; the class's Parser: tokens, numbers, names -/
def fnF (nk : Nat → Int64) (key : Int64) : Nat → Nat → Int32
  | 0, _ => -1
  | n + 1, i => if lg_cmp (nk i) key = 0 then nI i else fnF nk key n (i + 1)
abbrev Nm := Int64 × Int32 × Int32
/-- what parsing says: a fault and its place, or what comes next -/
abbrev Ex (α : Type) := Except (Int32 × Nat) α
section PP
variable (tx : Nat → Int32) (en : Nat)
def nx (q : Nat) : Nat := tkP tx en q + tkL tx en q
def isP (q k : Nat) : Int32 := isF tx (tkS tx en q) (tkP tx en q) (tkL tx en q) k
def kyP (q : Nat) : Int64 := kyF tx (tkP tx en q) (tkL tx en q) 0 0
def vlP (q : Nat) : Int32 := vlF tx (tkP tx en q) (tkL tx en q) 0 0
def er {α : Type} (f : Int32) (q : Nat) : Ex α := .error (f, tkP tx en q)
def lsF (q : Nat) : Int32 := if isP tx en q 0 = 0 then (if isP tx en q 1 = 0 then (if isP tx en q 2 = 0 then (if isP tx en q 3 = 0 then (if isP tx en q 4 = 0 then (if isP tx en q 5 = 0 then (if isP tx en q 6 = 0 then (if isP tx en q 7 = 0 then (if isP tx en q 8 = 0 then (if isP tx en q 9 = 0 then (if isP tx en q 10 = 0 then -1 else 10) else 9) else 8) else 7) else 6) else 5) else 4) else 3) else 2) else 1) else 0
def fxP (q k : Nat) : Ex Nat := if isP tx en q k = 0 then er tx en 1 q else .ok (nx tx en q)
def nwP (q : Nat) (lo hi : Int32) : Ex (Int32 × Nat) := if tkS tx en q = 2 then (if vlP tx en q < lo then er tx en 4 q else if vlP tx en q ≤ hi then .ok (vlP tx en q, nx tx en q) else er tx en 4 q) else er tx en 1 q
/-- the first that has the key: its sort and number -/
def fdP (key : Int64) : List Nm → Option (Int32 × Int32)
  | [] => none
  | x :: l => if lg_cmp x.1 key = 0 then some x.2 else fdP key l
def adP (K : List Nm) (x : Nm) : List Nm := if 33 ≤ K.length then K else K ++ [x]
def nmP (q : Nat) (K : List Nm) (so nu : Int32) : Ex (Nat × List Nm) := if tkS tx en q = 1 then (if lsF tx en q = -1 then (if fdP (kyP tx en q) K = none then .ok (nx tx en q, adP K (kyP tx en q, so, nu)) else er tx en 3 q) else er tx en 1 q) else er tx en 1 q
def knP (q : Nat) (K : List Nm) (so : Int32) : Ex Int32 := if tkS tx en q = 1 then (if lsF tx en q = -1 then (match fdP (kyP tx en q) K with | none => er tx en 2 q | some p => if p.1 = so then .ok p.2 else er tx en 2 q) else er tx en 1 q) else er tx en 1 q
end PP
/-- the tokens' and names' cells hold place q of text tx and names K -/
def PT (tx : Nat → Int32) (en : Nat) (h : Hp) (q : Nat) (K : List Nm) : Prop := SX h ∧ gI h 2 = tx ∧ gI h 34 1 = nI en ∧ en ≤ 1100 ∧ q ≤ en ∧ gI h 34 2 = tkS tx en q ∧ gI h 34 3 = nI (tkP tx en q) ∧ gI h 34 4 = nI (tkL tx en q) ∧ gI h 33 4 = nI K.length ∧ K.length ≤ 33 ∧ ∀ i x, K[i]? = some x → gJ h 35 i = x.1 ∧ gI h 36 i = x.2.1 ∧ gI h 37 i = x.2.2
/-- what reading a piece leaves as it was -/
def TQ (h' h : Hp) : Prop := h'.1 = h.1 ∧ h'.2.1 = h.2.1 ∧ h'.2.2.1 = h.2.2.1 ∧ h'.2.2.2.1 = h.2.2.2.1 ∧ (∀ b j, b ≠ 33 → b ≠ 34 → b ≠ 36 → b ≠ 37 → gI h' b j = gI h b j) ∧ (∀ b j, b ≠ 35 → gJ h' b j = gJ h b j)
def FQ (h' h : Hp) : Prop := ∀ j, (j = 6 ∨ j = 10 ∨ j = 11) → gI h' 33 j = gI h 33 j
def FL (h : Hp) (e : Int32 × Nat) : Prop := gI h 33 10 = e.1 ∧ gI h 33 11 = nI e.2
/-- a piece is read as o says -/
def RQ {α : Type} (h : Hp) (o : Ex α) (R : α → Hp → Prop) (v : Option Value) (h' : Hp) : Prop := TQ h' h ∧ ((∃ e, o = .error e ∧ v = some (.int 0) ∧ FL h' e) ∨ (∃ x, o = .ok x ∧ v = some (.int 1) ∧ FQ h' h ∧ R x h'))
theorem TQ.refl (h : Hp) : TQ h h := ⟨rfl, rfl, rfl, rfl, fun _ _ _ _ _ _ => rfl, fun _ _ _ => rfl⟩
theorem TQ.trans {a b c : Hp} (x : TQ a b) (y : TQ b c) : TQ a c := ⟨x.1.trans y.1, x.2.1.trans y.2.1, x.2.2.1.trans y.2.2.1, x.2.2.2.1.trans y.2.2.2.1, fun p q r s u v => (x.2.2.2.2.1 p q r s u v).trans (y.2.2.2.2.1 p q r s u v), fun p q r => (x.2.2.2.2.2 p q r).trans (y.2.2.2.2.2 p q r)⟩
theorem TQ.S {h' h : Hp} (x : TQ h' h) (S : SX h) : SX h' := S.eq x.1 x.2.1 x.2.2.1 x.2.2.2.1
theorem TQ.R {h' h : Hp} (x : TQ h' h) : gR h' = gR h := x.2.2.2.1
theorem TQ_I (h : Hp) {a k : Nat} (v : Int32) (ha : a = 33 ∨ a = 34 ∨ a = 36 ∨ a = 37) : TQ (pI h a k v) h := ⟨rfl, rfl, rfl, rfl, fun b j h1 h2 h3 h4 => gIq (by omega), fun _ _ _ => rfl⟩
theorem TQ_J (h : Hp) (k : Nat) (v : Int64) : TQ (pJ h 35 k v) h := ⟨rfl, rfl, rfl, rfl, fun _ _ _ _ _ _ => rfl, fun b j x => u2_n _ _ (fun z => x z.1)⟩
theorem FQ.refl (h : Hp) : FQ h h := fun _ _ => rfl
theorem FQ.trans {a b c : Hp} (x : FQ a b) (y : FQ b c) : FQ a c := fun j hj => (x j hj).trans (y j hj)
theorem FQ_I (h : Hp) {a k : Nat} (v : Int32) (ha : a ≠ 33 ∨ (k ≠ 6 ∧ k ≠ 10 ∧ k ≠ 11)) : FQ (pI h a k v) h := fun j hj => u2_n _ _ (by omega)
section PTs
variable {tx : Nat → Int32} {en : Nat} {h : Hp} {q : Nat} {K : List Nm}
theorem PT.S (T : PT tx en h q K) : SX h := T.1
theorem PT.x (T : PT tx en h q K) : gI h 2 = tx := T.2.1
theorem PT.e (T : PT tx en h q K) : gI h 34 1 = nI en := T.2.2.1
theorem PT.e2 (T : PT tx en h q K) : en ≤ 1100 := T.2.2.2.1
theorem PT.q2 (T : PT tx en h q K) : q ≤ en := T.2.2.2.2.1
theorem PT.s (T : PT tx en h q K) : gI h 34 2 = tkS tx en q := T.2.2.2.2.2.1
theorem PT.p (T : PT tx en h q K) : gI h 34 3 = nI (tkP tx en q) := T.2.2.2.2.2.2.1
theorem PT.l (T : PT tx en h q K) : gI h 34 4 = nI (tkL tx en q) := T.2.2.2.2.2.2.2.1
theorem PT.n (T : PT tx en h q K) : gI h 33 4 = nI K.length := T.2.2.2.2.2.2.2.2.1
theorem PT.n2 (T : PT tx en h q K) : K.length ≤ 33 := T.2.2.2.2.2.2.2.2.2.1
theorem PT.k (T : PT tx en h q K) {i : Nat} {x : Nm} (e : K[i]? = some x) : gJ h 35 i = x.1 ∧ gI h 36 i = x.2.1 ∧ gI h 37 i = x.2.2 := T.2.2.2.2.2.2.2.2.2.2 i x e
theorem PT.pl (T : PT tx en h q K) : tkP tx en q + tkL tx en q ≤ en := tkL_le T.q2 T.e2
theorem PT.pl2 (T : PT tx en h q K) : tkP tx en q + tkL tx en q ≤ 1100 := Nat.le_trans T.pl T.e2
/-- a cell of another kind is written -/
theorem PT.I (T : PT tx en h q K) {a k : Nat} (v : Int32) (h1 : a ≠ 2) (h2 : a ≠ 34) (h3 : a ≠ 36) (h4 : a ≠ 37) (h5 : ¬ (a = 33 ∧ k = 4)) : PT tx en (pI h a k v) q K := by
  refine ⟨T.S, ?_, (gIq (by omega)).trans T.e, T.e2, T.q2, (gIq (by omega)).trans T.s, (gIq (by omega)).trans T.p, (gIq (by omega)).trans T.l, (u2_n _ _ (by omega)).trans T.n, T.n2, fun i x e => ⟨(T.k e).1, (gIq (by omega)).trans (T.k e).2.1, (gIq (by omega)).trans (T.k e).2.2⟩⟩
  exact (funext fun j => gIq (by omega)).trans T.x
theorem PT.step (T : PT tx en h q K) : PT tx en (tkH h en (nx tx en q)) (nx tx en q) K := by
  have e := T.x
  unfold tkH
  rw [e]
  refine ⟨T.S, ?_, (t3_n _ _ _ _ (by omega)).trans T.e, T.e2, T.pl, rfl, rfl, rfl, (t3_n _ _ _ _ (by omega)).trans T.n, T.n2, fun i x e => ⟨(T.k e).1, (t3_n _ _ _ _ (by omega)).trans (T.k e).2.1, (t3_n _ _ _ _ (by omega)).trans (T.k e).2.2⟩⟩
  exact (funext fun j => t3_n _ _ _ _ (by omega)).trans e
theorem TQ_st (h : Hp) (en q : Nat) : TQ (tkH h en q) h := ⟨rfl, rfl, rfl, rfl, fun b j h1 h2 h3 h4 => t3_n _ _ _ _ (by omega), fun _ _ _ => rfl⟩
theorem FQ_st (h : Hp) (en q : Nat) : FQ (tkH h en q) h := fun j _ => t3_n _ _ _ _ (by omega)
def flH (h : Hp) (f : Int32) : Hp := pI (pI h 33 10 f) 33 11 (gI h 34 3)
theorem TQ_fl (h : Hp) (f : Int32) : TQ (flH h f) h := (TQ_I _ _ (by omega)).trans (TQ_I h _ (by omega))
theorem FL_fl (T : PT tx en h q K) (f : Int32) : FL (flH h f) (f, tkP tx en q) := ⟨rfl, (gIs _ _ _ _).trans T.p⟩
theorem fd_fn (nk : Nat → Int64) (key : Int64) : ∀ (K : List Nm) (i : Nat), (∀ j x, K[j]? = some x → nk (i + j) = x.1) → (fdP key K = none ∧ (fnF nk key K.length i = -1)) ∨ (∃ j x, K[j]? = some x ∧ fdP key K = some x.2 ∧ fnF nk key K.length i = nI (i + j))
  | [], _, _ => Or.inl ⟨rfl, rfl⟩
  | y :: K, i, hk => by
    have e0 : nk i = y.1 := hk 0 y rfl
    show (fdP key (y :: K) = none ∧ (if lg_cmp (nk i) key = 0 then nI i else fnF nk key K.length (i + 1)) = -1) ∨ (∃ j x, (y :: K)[j]? = some x ∧ fdP key (y :: K) = some x.2 ∧ (if lg_cmp (nk i) key = 0 then nI i else fnF nk key K.length (i + 1)) = nI (i + j))
    unfold fdP
    rw [e0]
    by_cases z : lg_cmp y.1 key = 0
    · rw [if_pos z, if_pos z]
      exact Or.inr ⟨0, y, rfl, rfl, rfl⟩
    · rw [if_neg z, if_neg z]
      rcases fd_fn nk key K (i + 1) (fun j x e => by rw [show i + 1 + j = i + (j + 1) from by omega]; exact hk (j + 1) x e) with ⟨a, b⟩ | ⟨j, x, a, b, c⟩
      · exact Or.inl ⟨a, b⟩
      · exact Or.inr ⟨j + 1, x, a, b, by rw [c]; congr 1; omega⟩
theorem nI_n1 {n : Nat} (h : n < 2147483648) : ¬ nI n = -1 := fun z => by
  have e := congrArg Int32.toInt z
  rw [nI_toInt h] at e
  exact absurd e (by rw [show (-1 : Int32).toInt = -1 from by decide]; omega)
end PTs
theorem w_is {tx : Nat → Int32} {en : Nat} {h : Hp} {q : Nat} {K : List Nm} (T : PT tx en h q K) {k : Nat} (hk : k < 36) {x : UInt32} (hx : ¬ x = 0 ∧ x.toNat - 1 = k) : gCi 4 0 0 yX5_is cX5_is 3 (some .boolean) [.ref 34, .float x] h (some (.int (isP tx en q k))) h := by
  have e := c_is T.S T.p T.l T.pl2 hk hx
  rw [T.x, T.s] at e
  exact e
theorem w_step {tx : Nat → Int32} {en : Nat} {h : Hp} {q : Nat} {K : List Nm} (T : PT tx en h q K) : gCi 1 0 0 yX5_step cX5_step 2 none [.ref 34] h none (tkH h en (nx tx en q)) := by
  exact c_step T.S T.e T.e2 T.p T.l T.pl
theorem w_key {tx : Nat → Int32} {en : Nat} {h : Hp} {q : Nat} {K : List Nm} (T : PT tx en h q K) : gCi 0 0 0 yX5_key cX5_key 4 (some .long) [.ref 34] h (some (.long (kyP tx en q))) h := by
  have e := c_key T.S T.p T.l T.pl2
  rw [T.x] at e
  exact e
theorem w_value {tx : Nat → Int32} {en : Nat} {h : Hp} {q : Nat} {K : List Nm} (T : PT tx en h q K) : gCi 0 0 0 yX5_value cX5_value 3 (some .int) [.ref 34] h (some (.int (vlP tx en q))) h := by
  have e := c_value T.S T.p T.l T.pl2
  rw [T.x] at e
  exact e
theorem w_letter {tx : Nat → Int32} {en : Nat} {h : Hp} {q : Nat} {K : List Nm} (T : PT tx en h q K) {j : Nat} (hj : j < tkL tx en q) : gCi 0 0 0 yX5_letter cX5_letter 2 (some .int) [.ref 34, .int (nI j)] h (some (.int (tx (tkP tx en q + j)))) h := by
  have e := c_letter T.S T.p T.l T.pl2 hj
  rw [T.x] at e
  exact e
theorem c_fail {h : Hp} (S : SX h) (f : Int32) : gCi 0 0 0 yX3_fail cX3_fail 2 (some .boolean) [.ref 33, .int f] h (some (.int 0)) (flH h f) := by
  refine g_entry (lv := [.ref 33, .int f]) 0 pn_X3 rfl rfl rfl ?_
  refine g_aL0 dX3_fail_0 ?_
  refine g_iL1 dX3_fail_1 ?_
  refine g_pI0 lf_X3_47 (S.l 33 rfl) (S.k 33 rfl rfl) dX3_fail_2 ?_
  refine g_aL0 dX3_fail_5 ?_
  refine g_aL0 dX3_fail_6 ?_
  refine g_getR lf_X3_16 (S.l 33 rfl) (S.k 33 rfl rfl) (S.r 33 0 (b := 34) rfl rfl) dX3_fail_7 ?_
  refine g_gI lf_X3_76 (S.l 34 rfl) (S.k 34 rfl rfl) dX3_fail_10 ?_
  refine g_pI0 lf_X3_26 (S.l 33 rfl) (S.k 33 rfl rfl) dX3_fail_13 ?_
  refine g_iconst dX3_fail_16 ?_
  exact e_zret rfl (by decide) dX3_fail_17 rfl rfl rfl rfl
theorem c_lineSort {tx : Nat → Int32} {en : Nat} {h : Hp} {q : Nat} {K : List Nm} (T : PT tx en h q K) : gCi 5 0 0 yX3_lineSort cX3_lineSort 1 (some .int) [.ref 33] h (some (.int (lsF tx en q))) h := by
  refine g_entry (lv := [.ref 33]) 0 pn_X3 rfl rfl rfl ?_
  refine g_aL0 dX3_lineSort_0 ?_
  refine g_getR lf_X3_16 (T.S.l 33 rfl) (T.S.k 33 rfl rfl) (T.S.r 33 0 (b := 34) rfl rfl) dX3_lineSort_1 ?_
  refine g_ldcS (tx := "city") (n := 0) (x := 1) (List.mem_of_getElem? (i := 0) rfl) (by decide) dX3_lineSort_4 ?_
  refine e_v1i (w_is T (k := 0) (by decide) (by decide)) lm_X3_80 dX3_lineSort_6 (T.S.l 34 rfl) (T.S.k 34 rfl rfl) rfl rfl rfl rfl ?_
  refine g_ifeq dX3_lineSort_9 (fun c9 => ?_) (fun c9 => ?_)
  · refine g_aL0 dX3_lineSort_14 ?_
    refine g_getR lf_X3_16 (T.S.l 33 rfl) (T.S.k 33 rfl rfl) (T.S.r 33 0 (b := 34) rfl rfl) dX3_lineSort_15 ?_
    refine g_ldcS (tx := "pane") (n := 1) (x := 2) (List.mem_of_getElem? (i := 1) rfl) (by decide) dX3_lineSort_18 ?_
    refine e_v1i (w_is T (k := 1) (by decide) (by decide)) lm_X3_80 dX3_lineSort_20 (T.S.l 34 rfl) (T.S.k 34 rfl rfl) rfl rfl rfl rfl ?_
    refine g_ifeq dX3_lineSort_23 (fun c23 => ?_) (fun c23 => ?_)
    · refine g_aL0 dX3_lineSort_28 ?_
      refine g_getR lf_X3_16 (T.S.l 33 rfl) (T.S.k 33 rfl rfl) (T.S.r 33 0 (b := 34) rfl rfl) dX3_lineSort_29 ?_
      refine g_ldcS (tx := "word") (n := 2) (x := 3) (List.mem_of_getElem? (i := 2) rfl) (by decide) dX3_lineSort_32 ?_
      refine e_v1i (w_is T (k := 2) (by decide) (by decide)) lm_X3_80 dX3_lineSort_34 (T.S.l 34 rfl) (T.S.k 34 rfl rfl) rfl rfl rfl rfl ?_
      refine g_ifeq dX3_lineSort_37 (fun c37 => ?_) (fun c37 => ?_)
      · refine g_aL0 dX3_lineSort_42 ?_
        refine g_getR lf_X3_16 (T.S.l 33 rfl) (T.S.k 33 rfl rfl) (T.S.r 33 0 (b := 34) rfl rfl) dX3_lineSort_43 ?_
        refine g_ldcS (tx := "view") (n := 3) (x := 4) (List.mem_of_getElem? (i := 3) rfl) (by decide) dX3_lineSort_46 ?_
        refine e_v1i (w_is T (k := 3) (by decide) (by decide)) lm_X3_80 dX3_lineSort_48 (T.S.l 34 rfl) (T.S.k 34 rfl rfl) rfl rfl rfl rfl ?_
        refine g_ifeq dX3_lineSort_51 (fun c51 => ?_) (fun c51 => ?_)
        · refine g_aL0 dX3_lineSort_56 ?_
          refine g_getR lf_X3_16 (T.S.l 33 rfl) (T.S.k 33 rfl rfl) (T.S.r 33 0 (b := 34) rfl rfl) dX3_lineSort_57 ?_
          refine g_ldcS (tx := "corner") (n := 4) (x := 5) (List.mem_of_getElem? (i := 4) rfl) (by decide) dX3_lineSort_60 ?_
          refine e_v1i (w_is T (k := 4) (by decide) (by decide)) lm_X3_80 dX3_lineSort_62 (T.S.l 34 rfl) (T.S.k 34 rfl rfl) rfl rfl rfl rfl ?_
          refine g_ifeq dX3_lineSort_65 (fun c65 => ?_) (fun c65 => ?_)
          · refine g_aL0 dX3_lineSort_70 ?_
            refine g_getR lf_X3_16 (T.S.l 33 rfl) (T.S.k 33 rfl rfl) (T.S.r 33 0 (b := 34) rfl rfl) dX3_lineSort_71 ?_
            refine g_ldcS (tx := "street") (n := 5) (x := 6) (List.mem_of_getElem? (i := 5) rfl) (by decide) dX3_lineSort_74 ?_
            refine e_v1i (w_is T (k := 5) (by decide) (by decide)) lm_X3_80 dX3_lineSort_76 (T.S.l 34 rfl) (T.S.k 34 rfl rfl) rfl rfl rfl rfl ?_
            refine g_ifeq dX3_lineSort_79 (fun c79 => ?_) (fun c79 => ?_)
            · refine g_aL0 dX3_lineSort_84 ?_
              refine g_getR lf_X3_16 (T.S.l 33 rfl) (T.S.k 33 rfl rfl) (T.S.r 33 0 (b := 34) rfl rfl) dX3_lineSort_85 ?_
              refine g_ldcS (tx := "thief") (n := 6) (x := 7) (List.mem_of_getElem? (i := 6) rfl) (by decide) dX3_lineSort_88 ?_
              refine e_v1i (w_is T (k := 6) (by decide) (by decide)) lm_X3_80 dX3_lineSort_90 (T.S.l 34 rfl) (T.S.k 34 rfl rfl) rfl rfl rfl rfl ?_
              refine g_ifeq dX3_lineSort_93 (fun c93 => ?_) (fun c93 => ?_)
              · refine g_aL0 dX3_lineSort_99 ?_
                refine g_getR lf_X3_16 (T.S.l 33 rfl) (T.S.k 33 rfl rfl) (T.S.r 33 0 (b := 34) rfl rfl) dX3_lineSort_100 ?_
                refine g_ldcS (tx := "sent") (n := 7) (x := 8) (List.mem_of_getElem? (i := 7) rfl) (by decide) dX3_lineSort_103 ?_
                refine e_v1i (w_is T (k := 7) (by decide) (by decide)) lm_X3_80 dX3_lineSort_105 (T.S.l 34 rfl) (T.S.k 34 rfl rfl) rfl rfl rfl rfl ?_
                refine g_ifeq dX3_lineSort_108 (fun c108 => ?_) (fun c108 => ?_)
                · refine g_aL0 dX3_lineSort_114 ?_
                  refine g_getR lf_X3_16 (T.S.l 33 rfl) (T.S.k 33 rfl rfl) (T.S.r 33 0 (b := 34) rfl rfl) dX3_lineSort_115 ?_
                  refine g_ldcS (tx := "person") (n := 8) (x := 9) (List.mem_of_getElem? (i := 8) rfl) (by decide) dX3_lineSort_118 ?_
                  refine e_v1i (w_is T (k := 8) (by decide) (by decide)) lm_X3_80 dX3_lineSort_120 (T.S.l 34 rfl) (T.S.k 34 rfl rfl) rfl rfl rfl rfl ?_
                  refine g_ifeq dX3_lineSort_123 (fun c123 => ?_) (fun c123 => ?_)
                  · refine g_aL0 dX3_lineSort_129 ?_
                    refine g_getR lf_X3_16 (T.S.l 33 rfl) (T.S.k 33 rfl rfl) (T.S.r 33 0 (b := 34) rfl rfl) dX3_lineSort_130 ?_
                    refine g_ldcS (tx := "shard") (n := 9) (x := 10) (List.mem_of_getElem? (i := 9) rfl) (by decide) dX3_lineSort_133 ?_
                    refine e_v1i (w_is T (k := 9) (by decide) (by decide)) lm_X3_80 dX3_lineSort_135 (T.S.l 34 rfl) (T.S.k 34 rfl rfl) rfl rfl rfl rfl ?_
                    refine g_ifeq dX3_lineSort_138 (fun c138 => ?_) (fun c138 => ?_)
                    · refine g_aL0 dX3_lineSort_144 ?_
                      refine g_getR lf_X3_16 (T.S.l 33 rfl) (T.S.k 33 rfl rfl) (T.S.r 33 0 (b := 34) rfl rfl) dX3_lineSort_145 ?_
                      refine g_ldcS (tx := "shelf") (n := 10) (x := 11) (List.mem_of_getElem? (i := 10) rfl) (by decide) dX3_lineSort_148 ?_
                      refine e_v1i (w_is T (k := 10) (by decide) (by decide)) lm_X3_80 dX3_lineSort_150 (T.S.l 34 rfl) (T.S.k 34 rfl rfl) rfl rfl rfl rfl ?_
                      refine g_ifeq dX3_lineSort_153 (fun c153 => ?_) (fun c153 => ?_)
                      · refine g_iconst dX3_lineSort_161 ?_
                        exact e_iret rfl dX3_lineSort_162 rfl rfl ((if_pos c9).trans ((if_pos c23).trans ((if_pos c37).trans ((if_pos c51).trans ((if_pos c65).trans ((if_pos c79).trans ((if_pos c93).trans ((if_pos c108).trans ((if_pos c123).trans ((if_pos c138).trans (if_pos c153))))))))))).symm rfl
                      · refine g_bipush dX3_lineSort_156 ?_
                        refine g_goto dX3_lineSort_158 ?_
                        exact e_iret rfl dX3_lineSort_162 rfl rfl ((if_pos c9).trans ((if_pos c23).trans ((if_pos c37).trans ((if_pos c51).trans ((if_pos c65).trans ((if_pos c79).trans ((if_pos c93).trans ((if_pos c108).trans ((if_pos c123).trans ((if_pos c138).trans (if_neg c153))))))))))).symm rfl
                    · refine g_bipush dX3_lineSort_141 ?_
                      exact e_iret rfl dX3_lineSort_143 rfl rfl ((if_pos c9).trans ((if_pos c23).trans ((if_pos c37).trans ((if_pos c51).trans ((if_pos c65).trans ((if_pos c79).trans ((if_pos c93).trans ((if_pos c108).trans ((if_pos c123).trans (if_neg c138)))))))))).symm rfl
                  · refine g_bipush dX3_lineSort_126 ?_
                    exact e_iret rfl dX3_lineSort_128 rfl rfl ((if_pos c9).trans ((if_pos c23).trans ((if_pos c37).trans ((if_pos c51).trans ((if_pos c65).trans ((if_pos c79).trans ((if_pos c93).trans ((if_pos c108).trans (if_neg c123))))))))).symm rfl
                · refine g_bipush dX3_lineSort_111 ?_
                  exact e_iret rfl dX3_lineSort_113 rfl rfl ((if_pos c9).trans ((if_pos c23).trans ((if_pos c37).trans ((if_pos c51).trans ((if_pos c65).trans ((if_pos c79).trans ((if_pos c93).trans (if_neg c108)))))))).symm rfl
              · refine g_bipush dX3_lineSort_96 ?_
                exact e_iret rfl dX3_lineSort_98 rfl rfl ((if_pos c9).trans ((if_pos c23).trans ((if_pos c37).trans ((if_pos c51).trans ((if_pos c65).trans ((if_pos c79).trans (if_neg c93))))))).symm rfl
            · refine g_iconst dX3_lineSort_82 ?_
              exact e_iret rfl dX3_lineSort_83 rfl rfl ((if_pos c9).trans ((if_pos c23).trans ((if_pos c37).trans ((if_pos c51).trans ((if_pos c65).trans (if_neg c79)))))).symm rfl
          · refine g_iconst dX3_lineSort_68 ?_
            exact e_iret rfl dX3_lineSort_69 rfl rfl ((if_pos c9).trans ((if_pos c23).trans ((if_pos c37).trans ((if_pos c51).trans (if_neg c65))))).symm rfl
        · refine g_iconst dX3_lineSort_54 ?_
          exact e_iret rfl dX3_lineSort_55 rfl rfl ((if_pos c9).trans ((if_pos c23).trans ((if_pos c37).trans (if_neg c51)))).symm rfl
      · refine g_iconst dX3_lineSort_40 ?_
        exact e_iret rfl dX3_lineSort_41 rfl rfl ((if_pos c9).trans ((if_pos c23).trans (if_neg c37))).symm rfl
    · refine g_iconst dX3_lineSort_26 ?_
      exact e_iret rfl dX3_lineSort_27 rfl rfl ((if_pos c9).trans (if_neg c23)).symm rfl
  · refine g_iconst dX3_lineSort_12 ?_
    exact e_iret rfl dX3_lineSort_13 rfl rfl (if_neg c9).symm rfl
theorem c_fixed {tx : Nat → Int32} {en : Nat} {h : Hp} {q : Nat} {K : List Nm} (T : PT tx en h q K) {k : Nat} (hk : k < 36) {x : UInt32} (hx : ¬ x = 0 ∧ x.toNat - 1 = k) : gC 5 0 0 yX3_fixed cX3_fixed 2 (some .boolean) [.ref 33, .float x] h (RQ h (fxP tx en q k) (fun x h' => PT tx en h' x K)) := by
  refine g_entry (lv := [.ref 33, .float x]) 0 pn_X3 rfl rfl rfl ?_
  refine g_aL0 dX3_fixed_0 ?_
  refine g_getR lf_X3_16 (T.S.l 33 rfl) (T.S.k 33 rfl rfl) (T.S.r 33 0 (b := 34) rfl rfl) dX3_fixed_1 ?_
  refine g_sL1 dX3_fixed_4 ?_
  refine e_v1i (w_is T hk hx) lm_X3_80 dX3_fixed_5 (T.S.l 34 rfl) (T.S.k 34 rfl rfl) rfl rfl rfl rfl ?_
  refine g_ifne dX3_fixed_8 (fun c8 => ?_) (fun c8 => ?_)
  · refine g_aL0 dX3_fixed_17 ?_
    refine g_getR lf_X3_16 (T.S.l 33 rfl) (T.S.k 33 rfl rfl) (T.S.r 33 0 (b := 34) rfl rfl) dX3_fixed_18 ?_
    refine e_v0u (w_step T) lm_X3_70 dX3_fixed_21 (T.S.l 34 rfl) (T.S.k 34 rfl rfl) rfl rfl rfl rfl ?_
    refine g_iconst dX3_fixed_24 ?_
    exact g_zret rfl rfl dX3_fixed_25 rfl rfl ⟨TQ_st _ _ _, Or.inr ⟨_, if_neg c8, rfl, FQ_st _ _ _, T.step⟩⟩
  · refine g_aL0 dX3_fixed_11 ?_
    refine g_iconst dX3_fixed_12 ?_
    refine e_v1i (c_fail T.S _) lm_X3_66 dX3_fixed_13 (T.S.l 33 rfl) (T.S.k 33 rfl rfl) rfl rfl rfl rfl ?_
    exact g_zret rfl rfl dX3_fixed_16 rfl rfl ⟨TQ_fl _ _, Or.inl ⟨_, if_pos c8, rfl, FL_fl T _⟩⟩
theorem c_numberWithin {tx : Nat → Int32} {en : Nat} {h : Hp} {q : Nat} {K : List Nm} (T : PT tx en h q K) (lo hi : Int32) : gC 2 0 0 yX3_numberWithin cX3_numberWithin 3 (some .boolean) [.ref 33, .int lo, .int hi] h (RQ h (nwP tx en q lo hi) (fun x h' => PT tx en h' x.2 K ∧ gI h' 33 7 = x.1)) := by
  refine g_entry (lv := [.ref 33, .int lo, .int hi]) 0 pn_X3 rfl rfl rfl ?_
  refine g_aL0 dX3_numberWithin_0 ?_
  refine g_getR lf_X3_16 (T.S.l 33 rfl) (T.S.k 33 rfl rfl) (T.S.r 33 0 (b := 34) rfl rfl) dX3_numberWithin_1 ?_
  refine g_gI lf_X3_60 (T.S.l 34 rfl) (T.S.k 34 rfl rfl) dX3_numberWithin_4 ?_
  refine g_iconst dX3_numberWithin_7 ?_
  rw [T.s]
  refine g_iceq dX3_numberWithin_8 (fun c8 => ?_) (fun c8 => ?_)
  · refine g_aL0 dX3_numberWithin_17 ?_
    refine g_aL0 dX3_numberWithin_18 ?_
    refine g_getR lf_X3_16 (T.S.l 33 rfl) (T.S.k 33 rfl rfl) (T.S.r 33 0 (b := 34) rfl rfl) dX3_numberWithin_19 ?_
    refine e_v0i (w_value T) lm_X3_243 dX3_numberWithin_22 (T.S.l 34 rfl) (T.S.k 34 rfl rfl) rfl rfl rfl rfl ?_
    refine g_pI0 lf_X3_117 (T.S.l 33 rfl) (T.S.k 33 rfl rfl) dX3_numberWithin_25 ?_
    have T1 : PT tx en (pI h 33 7 (vlP tx en q)) q K := T.I _ (by decide) (by decide) (by decide) (by decide) (by decide)
    refine g_aL0 dX3_numberWithin_28 ?_
    refine g_gI lf_X3_117 (T1.S.l 33 rfl) (T1.S.k 33 rfl rfl) dX3_numberWithin_29 ?_
    refine g_iL1 dX3_numberWithin_32 ?_
    rw [gIs]
    refine g_iclt dX3_numberWithin_33 (fun c33 => ?_) (fun c33 => ?_)
    · refine g_aL0 dX3_numberWithin_44 ?_
      refine g_iconst dX3_numberWithin_45 ?_
      refine e_v1i (c_fail T1.S _) lm_X3_66 dX3_numberWithin_46 (T1.S.l 33 rfl) (T1.S.k 33 rfl rfl) rfl rfl rfl rfl ?_
      exact g_zret rfl rfl dX3_numberWithin_49 rfl rfl ⟨(TQ_fl _ _).trans (TQ_I h _ (by omega)), Or.inl ⟨_, ((if_pos c8).trans (if_pos c33)), rfl, FL_fl T1 _⟩⟩
    · refine g_aL0 dX3_numberWithin_36 ?_
      refine g_gI lf_X3_117 (T1.S.l 33 rfl) (T1.S.k 33 rfl rfl) dX3_numberWithin_37 ?_
      refine g_iL2 dX3_numberWithin_40 ?_
      rw [gIs]
      refine g_icle dX3_numberWithin_41 (fun c41 => ?_) (fun c41 => ?_)
      · refine g_aL0 dX3_numberWithin_50 ?_
        refine g_getR lf_X3_16 (T1.S.l 33 rfl) (T1.S.k 33 rfl rfl) (T1.S.r 33 0 (b := 34) rfl rfl) dX3_numberWithin_51 ?_
        refine e_v0u (w_step T1) lm_X3_70 dX3_numberWithin_54 (T1.S.l 34 rfl) (T1.S.k 34 rfl rfl) rfl rfl rfl rfl ?_
        refine g_iconst dX3_numberWithin_57 ?_
        exact g_zret rfl rfl dX3_numberWithin_58 rfl rfl ⟨(TQ_st _ _ _).trans (TQ_I h _ (by omega)), Or.inr ⟨_, ((if_pos c8).trans ((if_neg c33).trans (if_pos c41))), rfl, (FQ_st _ _ _).trans (FQ_I h _ (by omega)), T1.step, (t3_n _ _ _ _ (by omega)).trans (gIs _ _ _ _)⟩⟩
      · refine g_aL0 dX3_numberWithin_44 ?_
        refine g_iconst dX3_numberWithin_45 ?_
        refine e_v1i (c_fail T1.S _) lm_X3_66 dX3_numberWithin_46 (T1.S.l 33 rfl) (T1.S.k 33 rfl rfl) rfl rfl rfl rfl ?_
        exact g_zret rfl rfl dX3_numberWithin_49 rfl rfl ⟨(TQ_fl _ _).trans (TQ_I h _ (by omega)), Or.inl ⟨_, ((if_pos c8).trans ((if_neg c33).trans (if_neg c41))), rfl, FL_fl T1 _⟩⟩
  · refine g_aL0 dX3_numberWithin_11 ?_
    refine g_iconst dX3_numberWithin_12 ?_
    refine e_v1i (c_fail T.S _) lm_X3_66 dX3_numberWithin_13 (T.S.l 33 rfl) (T.S.k 33 rfl rfl) rfl rfl rfl rfl ?_
    exact g_zret rfl rfl dX3_numberWithin_16 rfl rfl ⟨TQ_fl _ _, Or.inl ⟨_, if_neg c8, rfl, FL_fl T _⟩⟩
theorem c_findName {tx : Nat → Int32} {en : Nat} {h : Hp} {q : Nat} {K : List Nm} (T : PT tx en h q K) (key : Int64) : gCi 0 0 0 yX3_findName cX3_findName 4 (some .int) [.ref 33, .long key] h (some (.int (fnF (gJ h 35) key K.length 0))) h := by
  refine g_entry (lv := [.ref 33, .long key, .retAddr 0, .retAddr 0]) 1 pn_X3 rfl rfl rfl ?_
  have loop : ∀ (n i : Nat) , i + n = K.length → fnF (gJ h 35) key K.length 0 = fnF (gJ h 35) key n i → gY 0 0 0 yX3_findName cX3_findName 4 (some .int) 0 0 (fun v' h' => v' = (some (.int (fnF (gJ h 35) key K.length 0))) ∧ h' = h) 2 [.ref 33, .long key, .retAddr 0, .int (nI i)] [] h := by
    intro n
    induction n with
    | zero =>
      intro i  hi he 
      refine g_iL3 dX3_findName_2 ?_
      refine g_aL0 dX3_findName_3 ?_
      refine g_gI lf_X3_44 (T.S.l 33 rfl) (T.S.k 33 rfl rfl) dX3_findName_4 ?_
      rw [T.n]
      refine g_icge dX3_findName_7 (fun c7 => ?_) (fun c7 => absurd (nI_le (by omega) (by have := T.n2; omega)) c7)
      refine g_iconst dX3_findName_29 ?_
      exact e_iret rfl dX3_findName_30 rfl rfl he.symm rfl
    | succ n ih =>
      intro i  hi he 
      refine g_iL3 dX3_findName_2 ?_
      refine g_aL0 dX3_findName_3 ?_
      refine g_gI lf_X3_44 (T.S.l 33 rfl) (T.S.k 33 rfl rfl) dX3_findName_4 ?_
      rw [T.n]
      refine g_icge dX3_findName_7 (fun c7 => absurd c7 (nI_ge (by omega) (by have := T.n2; omega))) (fun c7 => ?_)
      refine g_aL0 dX3_findName_10 ?_
      refine g_getR lf_X3_30 (T.S.l 33 rfl) (T.S.k 33 rfl rfl) (T.S.r 33 1 (b := 35) rfl rfl) dX3_findName_11 ?_
      refine g_iL3 dX3_findName_14 ?_
      refine g_laloadN (T.S.l 35 rfl) (T.S.k 35 rfl rfl) (T.S.n 35 (n := 33) rfl rfl) (show i < 33 from by have := T.n2; omega) (by decide) dX3_findName_15 ?_
      refine g_lL1 dX3_findName_16 ?_
      refine g_lcmp dX3_findName_17 ?_
      refine g_ifne dX3_findName_18 (fun c18 => ?_) (fun c18 => ?_)
      · refine g_ii3 dX3_findName_23 rfl rfl ?_
        refine g_goto dX3_findName_26 ?_
        rw [nI_1]
        exact ih (i + 1)  (by omega) (he.trans (if_neg c18)) 
      · refine g_iL3 dX3_findName_21 ?_
        exact e_iret rfl dX3_findName_22 rfl rfl (he.trans (if_pos c18)).symm rfl
  refine g_iconst dX3_findName_0 ?_
  refine g_iS3 dX3_findName_1 rfl rfl ?_
  exact loop K.length 0 (by omega) rfl
theorem fd_T {tx : Nat → Int32} {en : Nat} {h : Hp} {q : Nat} {K : List Nm} (T : PT tx en h q K) (key : Int64) : (fdP key K = none ∧ fnF (gJ h 35) key K.length 0 = -1) ∨ (∃ j x, K[j]? = some x ∧ fdP key K = some x.2 ∧ fnF (gJ h 35) key K.length 0 = nI j) := by
  rcases fd_fn (gJ h 35) key K 0 (fun j x e => by rw [Nat.zero_add]; exact (T.k e).1) with a | ⟨j, x, a, b, c⟩
  · exact Or.inl a
  · rw [Nat.zero_add] at c; exact Or.inr ⟨j, x, a, b, c⟩
theorem c_knownName {tx : Nat → Int32} {en : Nat} {h : Hp} {q : Nat} {K : List Nm} (T : PT tx en h q K) (so : Int32) : gC 6 0 0 yX3_knownName cX3_knownName 3 (some .boolean) [.ref 33, .int so] h (RQ h (knP tx en q K so) (fun x h' => PT tx en h' q K ∧ gI h' 33 7 = x)) := by
  refine g_entry (lv := [.ref 33, .int so, .retAddr 0]) 1 pn_X3 rfl rfl rfl ?_
  refine g_aL0 dX3_knownName_0 ?_
  refine g_getR lf_X3_16 (T.S.l 33 rfl) (T.S.k 33 rfl rfl) (T.S.r 33 0 (b := 34) rfl rfl) dX3_knownName_1 ?_
  refine g_gI lf_X3_60 (T.S.l 34 rfl) (T.S.k 34 rfl rfl) dX3_knownName_4 ?_
  refine g_iconst dX3_knownName_7 ?_
  rw [T.s]
  refine g_icne dX3_knownName_8 (fun c8 => ?_) (fun c8 => ?_)
  · refine g_aL0 dX3_knownName_19 ?_
    refine g_iconst dX3_knownName_20 ?_
    refine e_v1i (c_fail T.S _) lm_X3_66 dX3_knownName_21 (T.S.l 33 rfl) (T.S.k 33 rfl rfl) rfl rfl rfl rfl ?_
    exact g_zret rfl rfl dX3_knownName_24 rfl rfl ⟨TQ_fl _ _, Or.inl ⟨_, (if_neg c8), rfl, FL_fl T _⟩⟩
  · refine g_aL0 dX3_knownName_11 ?_
    refine e_v0i (c_lineSort T) lm_X3_104 dX3_knownName_12 (T.S.l 33 rfl) (T.S.k 33 rfl rfl) rfl rfl rfl rfl ?_
    refine g_iconst dX3_knownName_15 ?_
    refine g_iceq dX3_knownName_16 (fun c16 => ?_) (fun c16 => ?_)
    · refine g_aL0 dX3_knownName_25 ?_
      refine g_aL0 dX3_knownName_26 ?_
      refine g_getR lf_X3_16 (T.S.l 33 rfl) (T.S.k 33 rfl rfl) (T.S.r 33 0 (b := 34) rfl rfl) dX3_knownName_27 ?_
      refine e_v0l (w_key T) lm_X3_246 dX3_knownName_30 (T.S.l 34 rfl) (T.S.k 34 rfl rfl) rfl rfl rfl rfl ?_
      refine e_v1i (c_findName T _) lm_X3_250 dX3_knownName_33 (T.S.l 33 rfl) (T.S.k 33 rfl rfl) rfl rfl rfl rfl ?_
      have hn2 := T.n2
      rcases fd_T T (kyP tx en q) with ⟨a, b⟩ | ⟨j, x, a, b, z⟩
      · rw [b]
        refine g_iS2 dX3_knownName_36 rfl rfl ?_
        refine g_iL2 dX3_knownName_37 ?_
        refine g_iconst dX3_knownName_38 ?_
        refine g_iceq dX3_knownName_39 (fun c39 => ?_) (fun c39 => absurd rfl c39)
        refine g_aL0 dX3_knownName_52 ?_
        refine g_iconst dX3_knownName_53 ?_
        refine e_v1i (c_fail T.S _) lm_X3_66 dX3_knownName_54 (T.S.l 33 rfl) (T.S.k 33 rfl rfl) rfl rfl rfl rfl ?_
        exact g_zret rfl rfl dX3_knownName_57 rfl rfl ⟨TQ_fl _ _, Or.inl ⟨_, (show knP tx en q K so = _ from by unfold knP; rw [if_pos c8, if_pos c16, a]; rfl), rfl, FL_fl T _⟩⟩
      · rw [z]
        have hj : j < 33 := by have := (List.getElem?_eq_some_iff.mp a).1; omega
        refine g_iS2 dX3_knownName_36 rfl rfl ?_
        refine g_iL2 dX3_knownName_37 ?_
        refine g_iconst dX3_knownName_38 ?_
        refine g_iceq dX3_knownName_39 (fun c39 => absurd c39 (nI_n1 (by omega))) (fun c39 => ?_)
        refine g_aL0 dX3_knownName_42 ?_
        refine g_getR lf_X3_34 (T.S.l 33 rfl) (T.S.k 33 rfl rfl) (T.S.r 33 2 (b := 36) rfl rfl) dX3_knownName_43 ?_
        refine g_iL2 dX3_knownName_46 ?_
        refine g_ialoadN (T.S.l 36 rfl) (T.S.k 36 rfl rfl) (T.S.n 36 (n := 33) rfl rfl) hj (by decide) dX3_knownName_47 ?_
        rw [(T.k a).2.1]
        refine g_iL1 dX3_knownName_48 ?_
        refine g_iceq dX3_knownName_49 (fun c49 => ?_) (fun c49 => ?_)
        · refine g_aL0 dX3_knownName_58 ?_
          refine g_aL0 dX3_knownName_59 ?_
          refine g_getR lf_X3_38 (T.S.l 33 rfl) (T.S.k 33 rfl rfl) (T.S.r 33 3 (b := 37) rfl rfl) dX3_knownName_60 ?_
          refine g_iL2 dX3_knownName_63 ?_
          refine g_ialoadN (T.S.l 37 rfl) (T.S.k 37 rfl rfl) (T.S.n 37 (n := 33) rfl rfl) hj (by decide) dX3_knownName_64 ?_
          rw [(T.k a).2.2]
          refine g_pI0 lf_X3_117 (T.S.l 33 rfl) (T.S.k 33 rfl rfl) dX3_knownName_65 ?_
          refine g_iconst dX3_knownName_68 ?_
          exact g_zret rfl rfl dX3_knownName_69 rfl rfl ⟨TQ_I h _ (by omega), Or.inr ⟨_, (show knP tx en q K so = _ from by unfold knP; rw [if_pos c8, if_pos c16, b]; exact if_pos c49), rfl, FQ_I h _ (by omega), T.I _ (by decide) (by decide) (by decide) (by decide) (by decide), gIs _ _ _ _⟩⟩
        · refine g_aL0 dX3_knownName_52 ?_
          refine g_iconst dX3_knownName_53 ?_
          refine e_v1i (c_fail T.S _) lm_X3_66 dX3_knownName_54 (T.S.l 33 rfl) (T.S.k 33 rfl rfl) rfl rfl rfl rfl ?_
          exact g_zret rfl rfl dX3_knownName_57 rfl rfl ⟨TQ_fl _ _, Or.inl ⟨_, (show knP tx en q K so = _ from by unfold knP; rw [if_pos c8, if_pos c16, b]; exact if_neg c49), rfl, FL_fl T _⟩⟩
    · refine g_aL0 dX3_knownName_19 ?_
      refine g_iconst dX3_knownName_20 ?_
      refine e_v1i (c_fail T.S _) lm_X3_66 dX3_knownName_21 (T.S.l 33 rfl) (T.S.k 33 rfl rfl) rfl rfl rfl rfl ?_
      exact g_zret rfl rfl dX3_knownName_24 rfl rfl ⟨TQ_fl _ _, Or.inl ⟨_, ((if_pos c8).trans (if_neg c16)), rfl, FL_fl T _⟩⟩
section PTs
variable {tx : Nat → Int32} {en : Nat} {h : Hp} {q : Nat} {K : List Nm}
def adH (h : Hp) (n : Nat) (x : Nm) : Hp := pI (pI (pI (pJ h 35 n x.1) 36 n x.2.1) 37 n x.2.2) 33 4 (nI n + 1)
theorem PT.add (T : PT tx en h q K) (x : Nm) (hl : K.length < 33) : PT tx en (adH h K.length x) q (K ++ [x]) := by
  have hlen : (K ++ [x]).length = K.length + 1 := List.length_append
  refine ⟨T.S, ?_, T.e, T.e2, T.q2, T.s, T.p, T.l, ?_, by omega, fun i y e => ?_⟩
  · exact (funext fun j => (gIq (by omega)).trans ((gIq (by omega)).trans (gIq (by omega)))).trans T.x
  · rw [hlen]; exact (gIs _ _ _ _).trans (nI_1 _)
  · by_cases z : i < K.length
    · rw [List.getElem?_append_left z] at e
      refine ⟨(u2_n _ _ (by omega)).trans (T.k e).1, ?_, ?_⟩
      · exact (gIq (by omega)).trans ((gIq (by omega)).trans ((gIk (by omega)).trans (T.k e).2.1))
      · exact (gIq (by omega)).trans ((gIk (by omega)).trans ((gIq (by omega)).trans (T.k e).2.2))
    · have hi := (List.getElem?_eq_some_iff.mp e).1
      rw [hlen] at hi
      have hi2 : i = K.length := by omega
      subst hi2
      rw [List.getElem?_append_right (Nat.le_refl _), Nat.sub_self] at e
      cases e
      refine ⟨u2_s (gJ h) 35 _ _, ?_, ?_⟩
      · exact (gIq (by omega)).trans ((gIq (by omega)).trans (gIs _ _ _ _))
      · exact (gIq (by omega)).trans (gIs _ _ _ _)
theorem TQ_ad (h : Hp) (n : Nat) (x : Nm) : TQ (adH h n x) h := (TQ_I _ _ (by omega)).trans ((TQ_I _ _ (by omega)).trans ((TQ_I _ _ (by omega)).trans (TQ_J h n x.1)))
theorem FQ_ad (h : Hp) (n : Nat) (x : Nm) : FQ (adH h n x) h := fun j hj => (gIk (by omega)).trans ((gIq (by omega)).trans (gIq (by omega)))
end PTs
theorem c_newName {tx : Nat → Int32} {en : Nat} {h : Hp} {q : Nat} {K : List Nm} (T : PT tx en h q K) {s : Nat} (hs : s = 3 ∨ s = 18) (hR : gR h 33 5 = some s) {k : Nat} (hk : k < 11) : gC 6 0 0 yX3_newName cX3_newName 4 (some .boolean) [.ref 33, .int (nI k)] h (RQ h (nmP tx en q K (nI k) (gI h (s + 1) k)) (fun x h' => PT tx en h' x.1 x.2)) := by
  refine g_entry (lv := [.ref 33, .int (nI k), .retAddr 0, .retAddr 0]) 2 pn_X3 rfl rfl rfl ?_
  refine g_aL0 dX3_newName_0 ?_
  refine g_getR lf_X3_16 (T.S.l 33 rfl) (T.S.k 33 rfl rfl) (T.S.r 33 0 (b := 34) rfl rfl) dX3_newName_1 ?_
  refine g_gI lf_X3_60 (T.S.l 34 rfl) (T.S.k 34 rfl rfl) dX3_newName_4 ?_
  refine g_iconst dX3_newName_7 ?_
  rw [T.s]
  refine g_icne dX3_newName_8 (fun c8 => ?_) (fun c8 => ?_)
  · refine g_aL0 dX3_newName_19 ?_
    refine g_iconst dX3_newName_20 ?_
    refine e_v1i (c_fail T.S _) lm_X3_66 dX3_newName_21 (T.S.l 33 rfl) (T.S.k 33 rfl rfl) rfl rfl rfl rfl ?_
    exact g_zret rfl rfl dX3_newName_24 rfl rfl ⟨TQ_fl _ _, Or.inl ⟨_, (if_neg c8), rfl, FL_fl T _⟩⟩
  · refine g_aL0 dX3_newName_11 ?_
    refine e_v0i (c_lineSort T) lm_X3_104 dX3_newName_12 (T.S.l 33 rfl) (T.S.k 33 rfl rfl) rfl rfl rfl rfl ?_
    refine g_iconst dX3_newName_15 ?_
    refine g_iceq dX3_newName_16 (fun c16 => ?_) (fun c16 => ?_)
    · refine g_aL0 dX3_newName_25 ?_
      refine g_getR lf_X3_16 (T.S.l 33 rfl) (T.S.k 33 rfl rfl) (T.S.r 33 0 (b := 34) rfl rfl) dX3_newName_26 ?_
      refine e_v0l (w_key T) lm_X3_246 dX3_newName_29 (T.S.l 34 rfl) (T.S.k 34 rfl rfl) rfl rfl rfl rfl ?_
      refine g_lS2 dX3_newName_32 rfl rfl ?_
      refine g_aL0 dX3_newName_33 ?_
      refine g_lL2 dX3_newName_34 ?_
      refine e_v1i (c_findName T _) lm_X3_250 dX3_newName_35 (T.S.l 33 rfl) (T.S.k 33 rfl rfl) rfl rfl rfl rfl ?_
      have hn2 := T.n2
      rcases fd_T T (kyP tx en q) with ⟨a, b⟩ | ⟨j, x, a, b, z⟩
      · rw [b]
        refine g_iconst dX3_newName_38 ?_
        refine g_iceq dX3_newName_39 (fun c39 => ?_) (fun c39 => absurd rfl c39)
        refine g_aL0 dX3_newName_48 ?_
        refine g_gI lf_X3_44 (T.S.l 33 rfl) (T.S.k 33 rfl rfl) dX3_newName_49 ?_
        refine g_bipush dX3_newName_52 ?_
        rw [T.n]
        refine g_icge dX3_newName_54 (fun c54 => ?_) (fun c54 => ?_)
        · have hl : 33 ≤ K.length := (nI_leI (by decide) (by omega)).mp c54
          refine g_aL0 dX3_newName_105 ?_
          refine g_getR lf_X3_16 (T.S.l 33 rfl) (T.S.k 33 rfl rfl) (T.S.r 33 0 (b := 34) rfl rfl) dX3_newName_106 ?_
          refine e_v0u (w_step T) lm_X3_70 dX3_newName_109 (T.S.l 34 rfl) (T.S.k 34 rfl rfl) rfl rfl rfl rfl ?_
          refine g_iconst dX3_newName_112 ?_
          exact g_zret rfl rfl dX3_newName_113 rfl rfl ⟨TQ_st _ _ _, Or.inr ⟨_, (show nmP tx en q K (nI k) (gI h (s + 1) k) = _ from by unfold nmP; rw [if_pos c8, if_pos c16, if_pos a]), rfl, FQ_st _ _ _, by unfold adP; rw [if_pos hl]; exact T.step⟩⟩
        · have hl : K.length < 33 := by
            rcases Nat.lt_or_ge K.length 33 with y | y
            · exact y
            · exact absurd (nI_le y (by omega)) c54
          refine g_aL0 dX3_newName_57 ?_
          refine g_getR lf_X3_30 (T.S.l 33 rfl) (T.S.k 33 rfl rfl) (T.S.r 33 1 (b := 35) rfl rfl) dX3_newName_58 ?_
          refine g_aL0 dX3_newName_61 ?_
          refine g_gI lf_X3_44 (T.S.l 33 rfl) (T.S.k 33 rfl rfl) dX3_newName_62 ?_
          rw [T.n]
          refine g_lL2 dX3_newName_65 ?_
          refine g_lastoreN (T.S.l 35 rfl) (T.S.k 35 rfl rfl) (T.S.n 35 (n := 33) rfl rfl) hl (by decide) dX3_newName_66 ?_
          refine g_aL0 dX3_newName_67 ?_
          refine g_getR lf_X3_34 (T.S.l 33 rfl) (T.S.k 33 rfl rfl) (T.S.r 33 2 (b := 36) rfl rfl) dX3_newName_68 ?_
          refine g_aL0 dX3_newName_71 ?_
          refine g_gI lf_X3_44 (T.S.l 33 rfl) (T.S.k 33 rfl rfl) dX3_newName_72 ?_
          rw [show gI (pJ h 35 K.length (kyP tx en q)) 33 4 = _ from T.n]
          refine g_iL1 dX3_newName_75 ?_
          refine g_iastoreN (T.S.l 36 rfl) (T.S.k 36 rfl rfl) (T.S.n 36 (n := 33) rfl rfl) hl (by decide) dX3_newName_76 ?_
          refine g_aL0 dX3_newName_77 ?_
          refine g_getR lf_X3_38 (T.S.l 33 rfl) (T.S.k 33 rfl rfl) (T.S.r 33 3 (b := 37) rfl rfl) dX3_newName_78 ?_
          refine g_aL0 dX3_newName_81 ?_
          refine g_gI lf_X3_44 (T.S.l 33 rfl) (T.S.k 33 rfl rfl) dX3_newName_82 ?_
          rw [gIq (a := 36) (b := 33) (by decide), show gI (pJ h 35 K.length (kyP tx en q)) 33 4 = _ from T.n]
          refine g_aL0 dX3_newName_85 ?_
          refine g_getR lf_X3_22 (T.S.l 33 rfl) (T.S.k 33 rfl rfl) hR dX3_newName_86 ?_
          refine g_getR lf_X3_63 (T.S.cl hs 0 rfl) (T.S.ck hs) (T.S.cr hs 0 (j := 1) rfl rfl) dX3_newName_89 ?_
          refine g_iL1 dX3_newName_92 ?_
          refine g_ialoadN (T.S.cl hs 1 rfl) (T.S.cka hs 1 rfl rfl) (T.S.cn hs 1 (n := 11) rfl rfl rfl) hk (by decide) dX3_newName_93 ?_
          rw [gIq (a := 36) (by omega), show gI (pJ h 35 K.length (kyP tx en q)) (s + 1) k = gI h (s + 1) k from rfl]
          refine g_iastoreN (T.S.l 37 rfl) (T.S.k 37 rfl rfl) (T.S.n 37 (n := 33) rfl rfl) hl (by decide) dX3_newName_94 ?_
          refine g_aL0 dX3_newName_95 ?_
          refine g_dup dX3_newName_96 rfl ?_
          refine g_gI lf_X3_44 (T.S.l 33 rfl) (T.S.k 33 rfl rfl) dX3_newName_97 ?_
          rw [gIq (a := 37) (b := 33) (by decide), gIq (a := 36) (b := 33) (by decide), show gI (pJ h 35 K.length (kyP tx en q)) 33 4 = _ from T.n]
          refine g_iconst dX3_newName_100 ?_
          refine g_iadd dX3_newName_101 ?_
          refine g_pI0 lf_X3_44 (T.S.l 33 rfl) (T.S.k 33 rfl rfl) dX3_newName_102 ?_
          have T1 := T.add (kyP tx en q, nI k, gI h (s + 1) k) hl
          show gY _ _ _ _ _ _ _ _ _ _ _ _ _ (adH h K.length (kyP tx en q, nI k, gI h (s + 1) k))
          refine g_aL0 dX3_newName_105 ?_
          refine g_getR lf_X3_16 (T1.S.l 33 rfl) (T1.S.k 33 rfl rfl) (T1.S.r 33 0 (b := 34) rfl rfl) dX3_newName_106 ?_
          refine e_v0u (w_step T1) lm_X3_70 dX3_newName_109 (T1.S.l 34 rfl) (T1.S.k 34 rfl rfl) rfl rfl rfl rfl ?_
          refine g_iconst dX3_newName_112 ?_
          exact g_zret rfl rfl dX3_newName_113 rfl rfl ⟨(TQ_st _ _ _).trans (TQ_ad _ _ _), Or.inr ⟨_, (show nmP tx en q K (nI k) (gI h (s + 1) k) = _ from by unfold nmP; rw [if_pos c8, if_pos c16, if_pos a]), rfl, (FQ_st _ _ _).trans (FQ_ad _ _ _), by unfold adP; rw [if_neg (by omega)]; exact T1.step⟩⟩
      · rw [z]
        have hj : j < 33 := by have := (List.getElem?_eq_some_iff.mp a).1; omega
        refine g_iconst dX3_newName_38 ?_
        refine g_iceq dX3_newName_39 (fun c39 => absurd c39 (nI_n1 (by omega))) (fun c39 => ?_)
        refine g_aL0 dX3_newName_42 ?_
        refine g_iconst dX3_newName_43 ?_
        refine e_v1i (c_fail T.S _) lm_X3_66 dX3_newName_44 (T.S.l 33 rfl) (T.S.k 33 rfl rfl) rfl rfl rfl rfl ?_
        exact g_zret rfl rfl dX3_newName_47 rfl rfl ⟨TQ_fl _ _, Or.inl ⟨_, (show nmP tx en q K (nI k) (gI h (s + 1) k) = _ from by unfold nmP; rw [if_pos c8, if_pos c16, if_neg (by rw [b]; intro z; cases z)]; rfl), rfl, FL_fl T _⟩⟩
    · refine g_aL0 dX3_newName_19 ?_
      refine g_iconst dX3_newName_20 ?_
      refine e_v1i (c_fail T.S _) lm_X3_66 dX3_newName_21 (T.S.l 33 rfl) (T.S.k 33 rfl rfl) rfl rfl rfl rfl ?_
      exact g_zret rfl rfl dX3_newName_24 rfl rfl ⟨TQ_fl _ _, Or.inl ⟨_, ((if_pos c8).trans (if_neg c16)), rfl, FL_fl T _⟩⟩

/-! THE REFERENCE: walks by minutes, by chance; minutesOf; common; fraction -/
section RR
variable {d RC RS nL cells slots pc q : Nat} {y : MethodName} {cc : ByteArray} {ret : Option FieldType} {Q : Option Value → Hp → Prop} {lv st : List Value} {h : Hp}
theorem r_v0i {a idx ci mL dc : Nat} {yc : MethodName} {bc : ByteArray} {rc : Option FieldType} {Qk : Option Value → Hp → Prop} (hM : gC dc 0 0 yc bc mL rc (.ref a :: []) h Qk) (hl0 : gV y.cls idx yc bc mL rc ci 0) (hd : gd cc pc (.invokevirtual idx) 3 q) (ha : a ∈ gL h) (hk : gK h a = ci) (hdep : Nat.ble (dc + 1) d = true) (hcat : Nat.ble (st.map fun v => v.category).sum 8 = true) (hc : Nat.ble cells RC = true) (hs : Nat.ble slots RS = true) (hQ : ∀ v h', Qk v h' → ∃ r : Int32, v = some (.int r)) (k : ∀ (r : Int32) h', Qk (some (.int r)) h' → gY d RC RS y cc nL ret cells slots Q q lv (.int r :: st) h') : gY d RC RS y cc nL ret cells slots Q pc lv (.ref a :: st) h := g_v0 hM hl0 hd ha hk hdep hcat hc hs (fun v h' e => by obtain ⟨r, rfl⟩ := hQ v h' e; exact k r h' e)
theorem r_v0u {a idx ci mL dc : Nat} {yc : MethodName} {bc : ByteArray} {rc : Option FieldType} {Qk : Option Value → Hp → Prop} (hM : gC dc 0 0 yc bc mL rc (.ref a :: []) h Qk) (hl0 : gV y.cls idx yc bc mL rc ci 0) (hd : gd cc pc (.invokevirtual idx) 3 q) (ha : a ∈ gL h) (hk : gK h a = ci) (hdep : Nat.ble (dc + 1) d = true) (hcat : Nat.ble (st.map fun v => v.category).sum 8 = true) (hc : Nat.ble cells RC = true) (hs : Nat.ble slots RS = true) (hQ : ∀ v h', Qk v h' → v = none) (k : ∀ h', Qk none h' → gY d RC RS y cc nL ret cells slots Q q lv st h') : gY d RC RS y cc nL ret cells slots Q pc lv (.ref a :: st) h := g_v0 hM hl0 hd ha hk hdep hcat hc hs (fun v h' e => by obtain rfl := hQ v h' e; exact k h' e)
theorem r_v1i {x1 : Value} {a idx ci mL dc : Nat} {yc : MethodName} {bc : ByteArray} {rc : Option FieldType} {Qk : Option Value → Hp → Prop} (hM : gC dc 0 0 yc bc mL rc (.ref a :: [x1]) h Qk) (hl0 : gV y.cls idx yc bc mL rc ci 1) (hd : gd cc pc (.invokevirtual idx) 3 q) (ha : a ∈ gL h) (hk : gK h a = ci) (hdep : Nat.ble (dc + 1) d = true) (hcat : Nat.ble (st.map fun v => v.category).sum 8 = true) (hc : Nat.ble cells RC = true) (hs : Nat.ble slots RS = true) (hQ : ∀ v h', Qk v h' → ∃ r : Int32, v = some (.int r)) (k : ∀ (r : Int32) h', Qk (some (.int r)) h' → gY d RC RS y cc nL ret cells slots Q q lv (.int r :: st) h') : gY d RC RS y cc nL ret cells slots Q pc lv (x1 :: .ref a :: st) h := g_v1 hM hl0 hd ha hk hdep hcat hc hs (fun v h' e => by obtain ⟨r, rfl⟩ := hQ v h' e; exact k r h' e)
theorem r_v1u {x1 : Value} {a idx ci mL dc : Nat} {yc : MethodName} {bc : ByteArray} {rc : Option FieldType} {Qk : Option Value → Hp → Prop} (hM : gC dc 0 0 yc bc mL rc (.ref a :: [x1]) h Qk) (hl0 : gV y.cls idx yc bc mL rc ci 1) (hd : gd cc pc (.invokevirtual idx) 3 q) (ha : a ∈ gL h) (hk : gK h a = ci) (hdep : Nat.ble (dc + 1) d = true) (hcat : Nat.ble (st.map fun v => v.category).sum 8 = true) (hc : Nat.ble cells RC = true) (hs : Nat.ble slots RS = true) (hQ : ∀ v h', Qk v h' → v = none) (k : ∀ h', Qk none h' → gY d RC RS y cc nL ret cells slots Q q lv st h') : gY d RC RS y cc nL ret cells slots Q pc lv (x1 :: .ref a :: st) h := g_v1 hM hl0 hd ha hk hdep hcat hc hs (fun v h' e => by obtain rfl := hQ v h' e; exact k h' e)
theorem r_v2i {x1 x2 : Value} {a idx ci mL dc : Nat} {yc : MethodName} {bc : ByteArray} {rc : Option FieldType} {Qk : Option Value → Hp → Prop} (hM : gC dc 0 0 yc bc mL rc (.ref a :: [x1, x2]) h Qk) (hl0 : gV y.cls idx yc bc mL rc ci 2) (hd : gd cc pc (.invokevirtual idx) 3 q) (ha : a ∈ gL h) (hk : gK h a = ci) (hdep : Nat.ble (dc + 1) d = true) (hcat : Nat.ble (st.map fun v => v.category).sum 8 = true) (hc : Nat.ble cells RC = true) (hs : Nat.ble slots RS = true) (hQ : ∀ v h', Qk v h' → ∃ r : Int32, v = some (.int r)) (k : ∀ (r : Int32) h', Qk (some (.int r)) h' → gY d RC RS y cc nL ret cells slots Q q lv (.int r :: st) h') : gY d RC RS y cc nL ret cells slots Q pc lv (x2 :: x1 :: .ref a :: st) h := g_v2 hM hl0 hd ha hk hdep hcat hc hs (fun v h' e => by obtain ⟨r, rfl⟩ := hQ v h' e; exact k r h' e)
theorem r_v2u {x1 x2 : Value} {a idx ci mL dc : Nat} {yc : MethodName} {bc : ByteArray} {rc : Option FieldType} {Qk : Option Value → Hp → Prop} (hM : gC dc 0 0 yc bc mL rc (.ref a :: [x1, x2]) h Qk) (hl0 : gV y.cls idx yc bc mL rc ci 2) (hd : gd cc pc (.invokevirtual idx) 3 q) (ha : a ∈ gL h) (hk : gK h a = ci) (hdep : Nat.ble (dc + 1) d = true) (hcat : Nat.ble (st.map fun v => v.category).sum 8 = true) (hc : Nat.ble cells RC = true) (hs : Nat.ble slots RS = true) (hQ : ∀ v h', Qk v h' → v = none) (k : ∀ h', Qk none h' → gY d RC RS y cc nL ret cells slots Q q lv st h') : gY d RC RS y cc nL ret cells slots Q pc lv (x2 :: x1 :: .ref a :: st) h := g_v2 hM hl0 hd ha hk hdep hcat hc hs (fun v h' e => by obtain rfl := hQ v h' e; exact k h' e)
theorem r_v4i {x1 x2 x3 x4 : Value} {a idx ci mL dc : Nat} {yc : MethodName} {bc : ByteArray} {rc : Option FieldType} {Qk : Option Value → Hp → Prop} (hM : gC dc 0 0 yc bc mL rc (.ref a :: [x1, x2, x3, x4]) h Qk) (hl0 : gV y.cls idx yc bc mL rc ci 4) (hd : gd cc pc (.invokevirtual idx) 3 q) (ha : a ∈ gL h) (hk : gK h a = ci) (hdep : Nat.ble (dc + 1) d = true) (hcat : Nat.ble (st.map fun v => v.category).sum 8 = true) (hc : Nat.ble cells RC = true) (hs : Nat.ble slots RS = true) (hQ : ∀ v h', Qk v h' → ∃ r : Int32, v = some (.int r)) (k : ∀ (r : Int32) h', Qk (some (.int r)) h' → gY d RC RS y cc nL ret cells slots Q q lv (.int r :: st) h') : gY d RC RS y cc nL ret cells slots Q pc lv (x4 :: x3 :: x2 :: x1 :: .ref a :: st) h := g_v4 hM hl0 hd ha hk hdep hcat hc hs (fun v h' e => by obtain ⟨r, rfl⟩ := hQ v h' e; exact k r h' e)
theorem r_v4u {x1 x2 x3 x4 : Value} {a idx ci mL dc : Nat} {yc : MethodName} {bc : ByteArray} {rc : Option FieldType} {Qk : Option Value → Hp → Prop} (hM : gC dc 0 0 yc bc mL rc (.ref a :: [x1, x2, x3, x4]) h Qk) (hl0 : gV y.cls idx yc bc mL rc ci 4) (hd : gd cc pc (.invokevirtual idx) 3 q) (ha : a ∈ gL h) (hk : gK h a = ci) (hdep : Nat.ble (dc + 1) d = true) (hcat : Nat.ble (st.map fun v => v.category).sum 8 = true) (hc : Nat.ble cells RC = true) (hs : Nat.ble slots RS = true) (hQ : ∀ v h', Qk v h' → v = none) (k : ∀ h', Qk none h' → gY d RC RS y cc nL ret cells slots Q q lv st h') : gY d RC RS y cc nL ret cells slots Q pc lv (x4 :: x3 :: x2 :: x1 :: .ref a :: st) h := g_v4 hM hl0 hd ha hk hdep hcat hc hs (fun v h' e => by obtain rfl := hQ v h' e; exact k h' e)
end RR
/-- the reference's city is well told: minutes, chances, views of corners, letters -/
def MB (h : Hp) (c : Nat) (cn : Nat → Nat) : Prop := (∀ j, j < 49 → ¬ gI h (c + 6) j < 0) ∧ (∃ rn : Nat → Nat, ∀ j, j < 49 → gI h (c + 7) j = nI (rn j) ∧ rn j ≤ 50) ∧ (∀ x, x < cn 4 → ¬ siF (gI h (c + 5) x) (nI (cn 3)) = 0) ∧ (∀ L, L < cn 7 → ∃ P F T, P < cn 1 ∧ F < cn 4 ∧ T < cn 4 ∧ gI h (c + 8) L = nI P ∧ gI h (c + 9) L = nI F ∧ gI h (c + 10) L = nI T)
def wkQ (h : Hp) (s : PW) (v : Option Value) (h' : Hp) : Prop := v = some (.int (nI s.1.length)) ∧ WM h' s [] ∧ wmK h' h
theorem d_wo {h : Hp} {c : Nat} {cn : Nat → Nat} (X : MX h c cn) {h' : Hp} (k : wmK h' h) (so : Int32) {pa : Int32} {P : Nat} (hpa : pa = nI P) (hP : P < 8) {s : PW} {p : List Nat} (r : WM h' s p) (hp : p ≠ []) (hl : p.length ≤ 7) (hx : ∀ x ∈ p, x < cn 4) : gCi 0 0 0 yX10_worthOf cX10_worthOf 10 (some .long) [.ref 50, .int so, .int pa, .int (nI p.length)] h' (some (.long (wtM so (gI h (c + 1) P) (gI h (c + 6)) (gI h (c + 7)) p))) h' := by
  have hc6 := X.M.1
  have h4 := X.b4
  cases p with
  | nil => exact absurd rfl hp
  | cons x l =>
    subst hpa
    have := d_worthOf (X.wm k) so hP (M := (x :: l).length) (x0 := x) (l0 := l) (by rw [Nat.add_comm]; rfl) (fun j y e => ⟨r.2.2.2.2 j y e, by have := hx y (List.mem_of_getElem? e); omega⟩) hl
    rw [k.f (b := c + 6) (by omega) (by omega) (by omega), k.f (b := c + 7) (by omega) (by omega) (by omega), k.f (b := c + 1) (by omega) (by omega) (by omega)] at this
    exact this
theorem d_wkS {h : Hp} {c : Nat} {cn : Nat → Nat} (X : MX h c cn) (B : MB h c cn) {so pa : Int32} (hso : ¬ so = 2) {P : Nat} (hpa : pa = nI P) (hP : P < 8) (to : Int32) (sh : Nat → Bool) (hMB : ∀ h', wmK h' h → ∀ x, x < cn 4 → gCi 2 0 0 yX10_mayBe cX10_mayBe 4 (some .boolean) [.ref 50, .int so, .int pa, .int (nI x)] h' (some (.int (if sh x = true then 0 else 1))) h') {F : Nat} (hF : F < cn 4) : gC 3 0 0 yX10_walks cX10_walks 7 (some .int) [.ref 50, .int so, .int pa, .int (nI F), .int to] h (wkQ h (wyF (gI h (c + 6)) (gI h (c + 7)) 0 0 (cn 4) F to sh)) := by
  have := d_walks X so pa to sh (wtM so (gI h (c + 1) P) (gI h (c + 6)) (gI h (c + 7))) (fun j w => wbF 0 0 (gI h (c + 6) j) (gI h (c + 7) j) w) hMB (fun h' k s p r hp hl hx => d_wo X k so hpa hP r hp hl hx) (fun p a i hpa hl _ _ => wt_so hso p a i hpa hl) B.1 hF
  rw [wt_1, if_neg hso] at this
  unfold wkQ wyF
  rw [if_pos (show (0 : Int32) = 0 from rfl)]
  exact this
theorem d_wkF {h : Hp} {c : Nat} {cn : Nat → Nat} (X : MX h c cn) (B : MB h c cn) {P : Nat} (hP : P < 8) (to : Int32) {F : Nat} (hF : F < cn 4) : gC 3 0 0 yX10_walks cX10_walks 7 (some .int) [.ref 50, .int 2, .int (nI P), .int (nI F), .int to] h (wkQ h (wyF (gI h (c + 6)) (gI h (c + 7)) 1 (tkF (gI h (c + 1) P)) (cn 4) F to (fun _ => false))) := by
  have h4 := X.b4
  obtain ⟨rn, hr⟩ := B.2.1
  have := d_walks X 2 (nI P) to (fun _ => false) (wtM 2 (gI h (c + 1) P) (gI h (c + 6)) (gI h (c + 7))) (fun j w => wbF 1 (tkF (gI h (c + 1) P)) (gI h (c + 6) j) (gI h (c + 7) j) w) (fun h' k x hx => d_mayBe0 (X.wm k) _ _ _ (by decide)) (fun h' k s p r hp hl hx => d_wo X k 2 rfl hP r hp hl hx) (fun p a i hpa hl hx hi => wt_sa hr p a i hpa hl (fun x hq => by have := hx x hq; omega) (by omega)) B.1 hF
  rw [wt_1, if_pos rfl] at this
  unfold wkQ wyF
  rw [if_neg (show ¬ (1 : Int32) = 0 by decide)]
  exact this
theorem d_wk0 {h : Hp} {c : Nat} {cn : Nat → Nat} (X : MX h c cn) (B : MB h c cn) (to : Int32) {F : Nat} (hF : F < cn 4) : gC 3 0 0 yX10_walks cX10_walks 7 (some .int) [.ref 50, .int 0, .int 0, .int (nI F), .int to] h (wkQ h (wyF (gI h (c + 6)) (gI h (c + 7)) 0 0 (cn 4) F to (fun _ => false))) := d_wkS X B (by decide) (P := 0) rfl (by decide) to (fun _ => false) (fun h' k x hx => d_mayBe0 (X.wm k) _ _ _ (by decide)) hF
/-- the corners that are shut for pane P: a thief reads there -/
def shF (h : Hp) (c : Nat) (cn : Nat → Nat) (P : Nat) : Nat → Bool := fun x => decide (mbM 1 (thF (gI h c 9) (nI x)) (rdM h c cn P (gI h (c + 5) x)) = 0)
theorem mb01 (th rd : Int32) : mbM 1 th rd = if decide (mbM 1 th rd = 0) = true then 0 else 1 := by
  unfold mbM
  rw [if_pos rfl]
  by_cases z : th = 0
  · rw [if_pos z]; rfl
  · rw [if_neg z]
    by_cases y : rd = -2
    · rw [if_pos y]; rfl
    · rw [if_neg y]; rfl
theorem rdM_wm {h : Hp} {c : Nat} {cn : Nat → Nat} (X : MX h c cn) {h' : Hp} (k : wmK h' h) (P : Nat) (v : Int32) : rdM h' c cn P v = rdM h c cn P v := by
  have hc6 := X.M.1
  show fwF (gI h' (c + 3)) (sbF (gI h' 52 P) (gI h' 52 (8 + P)) (dkF (gI h' (c + 4)) v)) (cn 2) 0 = _
  rw [k.f (b := c + 3) (by omega) (by omega) (by omega), k.f (b := c + 4) (by omega) (by omega) (by omega), k.f (b := 52) (by omega) (by omega) (by omega)]
theorem d_wk1 {h : Hp} {c : Nat} {cn : Nat → Nat} (X : MX h c cn) (B : MB h c cn) {P : Nat} (hP : P < 8) (to : Int32) {F : Nat} (hF : F < cn 4) : gC 3 0 0 yX10_walks cX10_walks 7 (some .int) [.ref 50, .int 1, .int (nI P), .int (nI F), .int to] h (wkQ h (wyF (gI h (c + 6)) (gI h (c + 7)) 0 0 (cn 4) F to (shF h c cn P))) := by
  have hc6 := X.M.1
  refine d_wkS X B (by decide) rfl hP to (shF h c cn P) (fun h' k x hx => ?_) hF
  have := d_mayBe1 (X.wm k) hP (x := x) (by have := X.b4; omega) (by rw [k.f (b := c + 5) (by omega) (by omega) (by omega)]; exact B.2.2.1 x hx)
  rw [rdM_wm X k, k.f (b := c + 5) (by omega) (by omega) (by omega), k.f (b := c) (by omega) (by omega) (by omega), mb01] at this
  exact this
theorem d_minutesOf {h : Hp} {c : Nat} {cn : Nat → Nat} (X : MX h c cn) {so pa to : Int32} {F : Nat} {s : PW} (W : gC 3 0 0 yX10_walks cX10_walks 7 (some .int) [.ref 50, .int so, .int pa, .int (nI F), .int to] h (wkQ h s)) : gC 4 0 0 yX10_minutesOf cX10_minutesOf 5 (some .int) [.ref 50, .int so, .int pa, .int (nI F), .int to] h (fun v h' => v = some (.int (smF s)) ∧ wmK h' h) := by
  refine g_entry (lv := [.ref 50, .int so, .int pa, .int (nI F), .int to]) 0 pn_X10 rfl rfl rfl ?_
  refine g_aL0 dX10_minutesOf_0 ?_
  refine g_iL1 dX10_minutesOf_1 ?_
  refine g_iL2 dX10_minutesOf_2 ?_
  refine g_iL3 dX10_minutesOf_3 ?_
  refine g_iL4 dX10_minutesOf_4 ?_
  refine r_v4i W lm_X10_431 dX10_minutesOf_6 (X.S.l 50 rfl) (X.S.k 50 rfl rfl) rfl rfl rfl rfl (fun v h' e => ⟨_, e.1⟩) (fun r h1 e => ?_)
  obtain ⟨e1, r1, k1⟩ := e
  obtain rfl := Value.int.inj (Option.some.inj e1)
  have Sk := k1.S X.S
  refine g_ifne dX10_minutesOf_9 (fun c9 => ?_) (fun c9 => ?_)
  · have hne : s.1 ≠ [] := fun z => c9 (by rw [z]; rfl)
    refine g_aL0 dX10_minutesOf_17 ?_
    refine g_getJ lf_X10_428 (Sk.l 50 rfl) (Sk.k 50 rfl rfl) dX10_minutesOf_18 ?_
    rw [r1.2.2.1 hne]
    refine g_lneg dX10_minutesOf_21 ?_
    refine g_l2i dX10_minutesOf_22 ?_
    exact g_iret rfl dX10_minutesOf_23 rfl rfl ⟨congrArg (fun x => some (Value.int x)) (if_neg c9).symm, k1⟩
  · refine g_bipush dX10_minutesOf_12 ?_
    refine g_goto dX10_minutesOf_14 ?_
    exact g_iret rfl dX10_minutesOf_23 rfl rfl ⟨congrArg (fun x => some (Value.int x)) (if_pos c9).symm, k1⟩
theorem lN_0 {n : Nat} (h : n < 2 ^ 63) : lg_cmp (lN n) 0 = 0 ↔ n = 0 := by
  constructor
  · intro z
    by_cases y : n = 0
    · exact y
    · exfalso
      have hlt : lN 0 < lN n := (pk_lLT (by decide) h).mpr (by omega)
      have h1 : ¬ lN n < 0 := fun q => by
        have := (pk_lLT (a := n) (b := 0) h (by decide)).mp q
        omega
      have h2 : ¬ lN n = 0 := fun q => by
        have := (pk_lEQ (a := n) (b := 0) h (by decide)).mp q
        omega
      unfold lg_cmp at z
      revert z
      repeat' split
      all_goals first | (intro z; exact absurd z (by decide)) | (intro _; contradiction)
  · intro z; rw [z]; decide
theorem d_common {h : Hp} {a0 b0 : Nat} (ha0 : a0 < 2 ^ 63) (hb0 : b0 < 2 ^ 63) : gCi 0 0 0 yX10_common cX10_common 10 (some .long) [.long (lN a0), .long (lN b0)] h (some (.long (lN (Nat.gcd a0 b0)))) h := by
  refine g_entry (lv := [.long (lN a0), .retAddr 0, .long (lN b0), .retAddr 0, .retAddr 0, .retAddr 0, .retAddr 0, .retAddr 0, .retAddr 0, .retAddr 0]) 6 pn_X10 rfl rfl rfl ?_
  have loop : ∀ (b a : Nat) (v8 v9 : Value), a < 2 ^ 63 → b < 2 ^ 63 → Nat.gcd a0 b0 = Nat.gcd a b → gY 0 0 0 yX10_common cX10_common 10 (some .long) 0 0 (fun v' h' => v' = (some (.long (lN (Nat.gcd a0 b0)))) ∧ h' = h) 6 [.long (lN a0), .retAddr 0, .long (lN b0), .retAddr 0, .long (lN a), .retAddr 0, .long (lN b), .retAddr 0, v8, v9] [] h := by
    intro b
    induction b using Nat.strongRecOn with
    | _ b ih =>
      intro a v8 v9 ha hb he
      refine g_lL6 dX10_common_6 ?_
      refine g_lconst dX10_common_8 ?_
      refine g_lcmp dX10_common_9 ?_
      refine g_ifeq dX10_common_10 (fun c10 => ?_) (fun c10 => ?_)
      · refine g_lL4 dX10_common_31 ?_
        have hb9 := (lN_0 hb).mp c10
        exact e_lret rfl dX10_common_33 rfl rfl (by rw [he, hb9, Nat.gcd_zero_right]) rfl
      · have hb0 : ¬ b = 0 := fun z => c10 ((lN_0 hb).mpr z)
        refine g_lL4 dX10_common_13 ?_
        refine g_lL6 dX10_common_15 ?_
        refine g_lrem dX10_common_17 (fun z => hb0 ((pk_lEQ hb (by decide)).mp z)) ?_
        rw [pk_lRem ha (by omega) hb]
        refine g_lS8 dX10_common_18 rfl rfl ?_
        refine g_lL6 dX10_common_20 ?_
        refine g_lS4 dX10_common_22 rfl rfl ?_
        refine g_lL8 dX10_common_24 ?_
        refine g_lS6 dX10_common_26 rfl rfl ?_
        refine g_goto dX10_common_28 ?_
        exact ih (a % b) (Nat.mod_lt _ (by omega)) b _ _ hb (Nat.lt_of_le_of_lt (Nat.mod_le _ _) ha) (by rw [he, Nat.gcd_comm a b, Nat.gcd_rec b a, Nat.gcd_comm])
  refine g_lL0 dX10_common_0 ?_
  refine g_lS4 dX10_common_1 rfl rfl ?_
  refine g_lL2 dX10_common_3 ?_
  refine g_lS6 dX10_common_4 rfl rfl ?_
  exact loop b0 a0 _ _ ha0 hb0 rfl
theorem gd_N : ∀ (n k a b : Nat), a < 2 ^ 63 → b < 2 ^ k → 2 * k < n → k ≤ 62 → gdF n (lN a) (lN b) = lN (Nat.gcd a b) := by
  have step : ∀ (n a b : Nat), a < 2 ^ 63 → b < 2 ^ 63 → 0 < b → gdF (n + 1) (lN a) (lN b) = gdF n (lN b) (lN (a % b)) := by
    intro n a b ha hb h0
    rw [gdF, if_neg (fun z => by have := (lN_0 hb).mp z; omega), pk_lRem ha h0 hb]
  have zero : ∀ (n a : Nat), gdF n (lN a) (lN 0) = lN a := by
    intro n a
    cases n with
    | zero => rfl
    | succ n => exact if_pos (by decide)
  intro n k
  induction k generalizing n with
  | zero =>
    intro a b ha hb hn _
    obtain rfl : b = 0 := by have : 2 ^ 0 = 1 := rfl; omega
    rw [zero, Nat.gcd_zero_right]
  | succ k ih =>
    intro a b ha hb hn hk
    have hk63 : 2 ^ (k + 1) ≤ 2 ^ 62 := Nat.pow_le_pow_right (by decide) hk
    have h63 : (2 : Nat) ^ 62 < 2 ^ 63 := by decide
    obtain ⟨n, rfl⟩ : ∃ m, n = m + 2 := ⟨n - 2, by omega⟩
    by_cases z : b = 0
    · subst z; rw [zero, Nat.gcd_zero_right]
    · rw [show n + 2 = (n + 1) + 1 from rfl, step (n + 1) a b ha (by omega) (by omega)]
      have hm : a % b < b := Nat.mod_lt _ (by omega)
      have hg : Nat.gcd a b = Nat.gcd b (a % b) := by rw [Nat.gcd_comm a b, Nat.gcd_rec b a, Nat.gcd_comm]
      by_cases y : a % b = 0
      · rw [hg, y, zero, Nat.gcd_zero_right]
      · rw [step n b (a % b) (by omega) (by omega) (by omega)]
        have hlt : b % (a % b) < 2 ^ k := by
          have h2 : 2 ^ (k + 1) = 2 * 2 ^ k := by rw [Nat.pow_succ, Nat.mul_comm]
          have h3 : b % (a % b) < a % b := Nat.mod_lt _ (by omega)
          have h4 : b % (a % b) ≤ b - a % b := by
            rw [Nat.mod_eq_sub_mod (by omega)]
            exact Nat.mod_le _ _
          omega
        rw [ih n (a % b) (b % (a % b)) (by omega) hlt (by omega) (by omega), hg, Nat.gcd_comm b (a % b), Nat.gcd_rec (a % b) b, Nat.gcd_comm]
theorem gd_100 {W : Nat} (h : W < 2 ^ 63) : gdE (gdF 100 (lN W) 1000000000000) = lN (Nat.gcd W 1000000000000) := by
  rw [show (1000000000000 : Int64) = lN 1000000000000 from rfl, gd_N 100 40 W 1000000000000 h (by decide) (by decide) (by decide)]
  have hp : 0 < Nat.gcd W 1000000000000 := Nat.gcd_pos_of_pos_right _ (by decide)
  have hl : Nat.gcd W 1000000000000 < 2 ^ 63 := Nat.lt_of_le_of_lt (Nat.gcd_le_right _ (by decide)) (by decide)
  unfold gdE
  refine if_neg (fun z => ?_)
  have h1 : lN 0 < lN (Nat.gcd W 1000000000000) := (pk_lLT (by decide) hl).mpr hp
  have h2 : ¬ lN (Nat.gcd W 1000000000000) < 0 := fun q => by
    have := (pk_lLT (b := 0) hl (by decide)).mp q
    omega
  have h3 : ¬ lN (Nat.gcd W 1000000000000) = 0 := fun q => by
    have := (pk_lEQ (b := 0) hl (by decide)).mp q
    omega
  unfold lg_cmp at z
  revert z
  repeat' split
  all_goals first | (intro z; exact absurd z (by decide)) | (intro _; contradiction)
theorem d_fraction {h : Hp} (S : SX h) {W : Nat} (hW : W < 2 ^ 63) (o : Int32) : gCi 1 0 0 yX10_fraction cX10_fraction 6 (some .long) [.ref 50, .long (lN W), .long 1000000000000, .int o] h (some (.long ((if o = 0 then lN W else 1000000000000) / gdE (gdF 100 (lN W) 1000000000000)))) (mR h 0) := by
  rw [gd_100 hW]
  refine g_entry (lv := [.ref 50, .long (lN W), .retAddr 0, .long 1000000000000, .retAddr 0, .int o]) 0 pn_X10 rfl rfl rfl ?_
  refine g_aL0 dX10_fraction_0 ?_
  refine g_iconst dX10_fraction_1 ?_
  refine e_v1i (d_good S _) lm_X10_49 dX10_fraction_2 (S.l 50 rfl) (S.k 50 rfl rfl) rfl rfl rfl rfl ?_
  refine g_pop dX10_fraction_5 rfl ?_
  refine g_iL5 dX10_fraction_6 ?_
  refine g_ifeq dX10_fraction_8 (fun c8 => ?_) (fun c8 => ?_)
  · refine g_lL1 dX10_fraction_15 ?_
    refine g_lL1 dX10_fraction_16 ?_
    refine g_lL3 dX10_fraction_17 ?_
    refine e_s2l (d_common (b0 := 1000000000000) hW (by decide)) lm_X10_52 dX10_fraction_18 rfl rfl rfl rfl ?_
    refine g_ldiv dX10_fraction_21 (fun z => by have := (pk_lEQ (b := 0) (Nat.lt_of_le_of_lt (Nat.gcd_le_right _ (by decide)) (by decide)) (by decide)).mp z; have hp : 0 < Nat.gcd W 1000000000000 := Nat.gcd_pos_of_pos_right _ (by decide); omega) ?_
    exact e_lret rfl dX10_fraction_22 rfl rfl (by rw [if_pos c8]) rfl
  · refine g_lL3 dX10_fraction_11 ?_
    refine g_goto dX10_fraction_12 ?_
    refine g_lL1 dX10_fraction_16 ?_
    refine g_lL3 dX10_fraction_17 ?_
    refine e_s2l (d_common (b0 := 1000000000000) hW (by decide)) lm_X10_52 dX10_fraction_18 rfl rfl rfl rfl ?_
    refine g_ldiv dX10_fraction_21 (fun z => by have := (pk_lEQ (b := 0) (Nat.lt_of_le_of_lt (Nat.gcd_le_right _ (by decide)) (by decide)) (by decide)).mp z; have hp : 0 < Nat.gcd W 1000000000000 := Nat.gcd_pos_of_pos_right _ (by decide); omega) ?_
    exact e_lret rfl dX10_fraction_22 rfl rfl (by rw [if_neg c8]) rfl

/-! THE REFERENCE: what its calls have in common; panes seen -/
/-- the reference with a city at c, its counts cn -/
def MX (h : Hp) (c : Nat) (cn : Nat → Nat) : Prop := SX h ∧ MC h c ∧ gR h 50 3 = some c ∧ (gI h c 4 = nI (cn 1) ∧ gI h c 5 = nI (cn 2) ∧ gI h c 6 = nI (cn 3) ∧ gI h c 7 = nI (cn 4) ∧ gI h c 10 = nI (cn 7) ∧ gI h c 11 = nI (cn 8) ∧ gI h c 12 = nI (cn 9)) ∧ cn 1 ≤ 8 ∧ cn 2 ≤ 8 ∧ cn 3 ≤ 6 ∧ cn 4 ≤ 7 ∧ cn 7 ≤ 6 ∧ cn 8 ≤ 4 ∧ cn 9 ≤ 8
section MXs
variable {h : Hp} {c : Nat} {cn : Nat → Nat}
theorem MX.S (X : MX h c cn) : SX h := X.1
theorem MX.M (X : MX h c cn) : MC h c := X.2.1
theorem MX.C (X : MX h c cn) : gR h 50 3 = some c := X.2.2.1
theorem MX.c1 (X : MX h c cn) : gI h c 4 = nI (cn 1) := X.2.2.2.1.1
theorem MX.c2 (X : MX h c cn) : gI h c 5 = nI (cn 2) := X.2.2.2.1.2.1
theorem MX.c3 (X : MX h c cn) : gI h c 6 = nI (cn 3) := X.2.2.2.1.2.2.1
theorem MX.c4 (X : MX h c cn) : gI h c 7 = nI (cn 4) := X.2.2.2.1.2.2.2.1
theorem MX.c7 (X : MX h c cn) : gI h c 10 = nI (cn 7) := X.2.2.2.1.2.2.2.2.1
theorem MX.c8 (X : MX h c cn) : gI h c 11 = nI (cn 8) := X.2.2.2.1.2.2.2.2.2.1
theorem MX.c9 (X : MX h c cn) : gI h c 12 = nI (cn 9) := X.2.2.2.1.2.2.2.2.2.2
theorem MX.b1 (X : MX h c cn) : cn 1 ≤ 8 := X.2.2.2.2.1
theorem MX.b2 (X : MX h c cn) : cn 2 ≤ 8 := X.2.2.2.2.2.1
theorem MX.b3 (X : MX h c cn) : cn 3 ≤ 6 := X.2.2.2.2.2.2.1
theorem MX.b4 (X : MX h c cn) : cn 4 ≤ 7 := X.2.2.2.2.2.2.2.1
theorem MX.b7 (X : MX h c cn) : cn 7 ≤ 6 := X.2.2.2.2.2.2.2.2.1
theorem MX.b8 (X : MX h c cn) : cn 8 ≤ 4 := X.2.2.2.2.2.2.2.2.2.1
theorem MX.b9 (X : MX h c cn) : cn 9 ≤ 8 := X.2.2.2.2.2.2.2.2.2.2
/-- cells of the reference itself are written -/
theorem MX.I (X : MX h c cn) {a k : Nat} (v : Int32) (ha : a < 60) : MX (pI h a k v) c cn := by
  have hc := X.M.1
  exact ⟨X.S, X.M, X.C, ⟨(gIq (by omega)).trans X.c1, (gIq (by omega)).trans X.c2, (gIq (by omega)).trans X.c3, (gIq (by omega)).trans X.c4, (gIq (by omega)).trans X.c7, (gIq (by omega)).trans X.c8, (gIq (by omega)).trans X.c9⟩, X.2.2.2.2⟩
end MXs
/-- a call of the reference ends with trouble y -/
def mR (h : Hp) (y : Int32) : Hp := pI (pI h 50 1 y) 50 2 (-1)
def mT (h : Hp) : Hp := pI h 50 0 0
theorem bz01 (x s : Int32) : bz x s = 0 ∨ bz x s = 1 := by
  have e : ∀ y : Int32, y &&& 1 = 0 ∨ y &&& 1 = 1 := by
    intro y
    by_cases z : bt y 0 = true
    · refine Or.inr (bt_ext fun j hj => ?_)
      rw [bt_and, show bt (1 : Int32) j = decide (j = 0) from bt_1 (i := 0) (by decide) hj]
      by_cases w : j = 0
      · subst w; rw [z]; rfl
      · rw [decide_eq_false w, Bool.and_false]
    · refine Or.inl (bt_ext fun j hj => ?_)
      rw [bt_and, show bt (1 : Int32) j = decide (j = 0) from bt_1 (i := 0) (by decide) hj, bt_0]
      by_cases w : j = 0
      · subst w
        rw [Bool.eq_false_iff.mpr z]; rfl
      · rw [decide_eq_false w, Bool.and_false]
  exact e _
theorem th1 {x s : Int32} (h : bz x s = 1) : thF x s = 1 := if_neg (by rw [h]; decide)
theorem th0 {x s : Int32} (h : ¬ bz x s = 1) : thF x s = 0 := if_pos ((bz01 x s).resolve_right h)
def inF (x a b : Int32) : Int32 := if x < a then 0 else if b < x then 0 else 1
theorem thF_01 (x s : Int32) : thF x s = 0 ∨ thF x s = 1 := by unfold thF; split; exact Or.inl rfl; exact Or.inr rfl
theorem nI_n2 {n : Nat} (h : n < 2147483648) : ¬ nI n = -2 := fun z => by
  have e := congrArg Int32.toInt z
  rw [nI_toInt h] at e
  exact absurd e (by rw [show (-2 : Int32).toInt = -2 from by decide]; omega)
theorem d_refused {h : Hp} (S : SX h) (y : Int32) : gCi 0 0 0 yX10_refused cX10_refused 2 (some .int) [.ref 50, .int y] h (some (.int (-1))) (mR h y) := by
  refine g_entry (lv := [.ref 50, .int y]) 0 pn_X10 rfl rfl rfl ?_
  refine g_aL0 dX10_refused_0 ?_
  refine g_iL1 dX10_refused_1 ?_
  refine g_pI0 lf_X10_42 (S.l 50 rfl) (S.k 50 rfl rfl) dX10_refused_2 ?_
  refine g_aL0 dX10_refused_5 ?_
  refine g_iconst dX10_refused_6 ?_
  refine g_pI0 lf_X10_9 (S.l 50 rfl) (S.k 50 rfl rfl) dX10_refused_7 ?_
  refine g_iconst dX10_refused_10 ?_
  exact e_iret rfl dX10_refused_11 rfl rfl rfl rfl
theorem d_good {h : Hp} (S : SX h) (y : Int32) : gCi 0 0 0 yX10_good cX10_good 2 (some .int) [.ref 50, .int y] h (some (.int y)) (mR h 0) := by
  refine g_entry (lv := [.ref 50, .int y]) 0 pn_X10 rfl rfl rfl ?_
  refine g_aL0 dX10_good_0 ?_
  refine g_iconst dX10_good_1 ?_
  refine g_pI0 lf_X10_42 (S.l 50 rfl) (S.k 50 rfl rfl) dX10_good_2 ?_
  refine g_aL0 dX10_good_5 ?_
  refine g_iconst dX10_good_6 ?_
  refine g_pI0 lf_X10_9 (S.l 50 rfl) (S.k 50 rfl rfl) dX10_good_7 ?_
  refine g_iL1 dX10_good_10 ?_
  exact e_iret rfl dX10_good_11 rfl rfl rfl rfl
theorem d_lost {h : Hp} (S : SX h) (y : Int32) : gCi 1 0 0 yX10_lost cX10_lost 2 (some .int) [.ref 50, .int y] h (some (.int (-100))) (mR h y) := by
  refine g_entry (lv := [.ref 50, .int y]) 0 pn_X10 rfl rfl rfl ?_
  refine g_aL0 dX10_lost_0 ?_
  refine g_iL1 dX10_lost_1 ?_
  refine e_v1i (d_refused S _) lm_X10_45 dX10_lost_2 (S.l 50 rfl) (S.k 50 rfl rfl) rfl rfl rfl rfl ?_
  refine g_pop dX10_lost_5 rfl ?_
  refine g_bipush dX10_lost_6 ?_
  exact e_iret rfl dX10_lost_8 rfl rfl rfl rfl
theorem d_denied {h : Hp} (S : SX h) (y : Int32) : gCi 1 0 0 yX10_denied cX10_denied 2 (some .boolean) [.ref 50, .int y] h (some (.int 0)) (mR h y) := by
  refine g_entry (lv := [.ref 50, .int y]) 0 pn_X10 rfl rfl rfl ?_
  refine g_aL0 dX10_denied_0 ?_
  refine g_iL1 dX10_denied_1 ?_
  refine e_v1i (d_refused S _) lm_X10_45 dX10_denied_2 (S.l 50 rfl) (S.k 50 rfl rfl) rfl rfl rfl rfl ?_
  refine g_pop dX10_denied_5 rfl ?_
  refine g_iconst dX10_denied_6 ?_
  exact e_zret rfl (by decide) dX10_denied_7 rfl rfl rfl rfl
theorem d_granted {h : Hp} (S : SX h) : gCi 1 0 0 yX10_granted cX10_granted 1 (some .boolean) [.ref 50] h (some (.int 1)) (mR h 0) := by
  refine g_entry (lv := [.ref 50]) 0 pn_X10 rfl rfl rfl ?_
  refine g_aL0 dX10_granted_0 ?_
  refine g_iconst dX10_granted_1 ?_
  refine e_v1i (d_good S _) lm_X10_49 dX10_granted_2 (S.l 50 rfl) (S.k 50 rfl rfl) rfl rfl rfl rfl ?_
  refine g_pop dX10_granted_5 rfl ?_
  refine g_iconst dX10_granted_6 ?_
  exact e_zret rfl (by decide) dX10_granted_7 rfl rfl rfl rfl
theorem d_in {h : Hp} (x a b : Int32) : gCi 0 0 0 yX10_in cX10_in 3 (some .boolean) [.int x, .int a, .int b] h (some (.int (inF x a b))) h := by
  refine g_entry (lv := [.int x, .int a, .int b]) 0 pn_X10 rfl rfl rfl ?_
  refine g_iL0 dX10_in_0 ?_
  refine g_iL1 dX10_in_1 ?_
  refine g_iclt dX10_in_2 (fun c2 => ?_) (fun c2 => ?_)
  · refine g_iconst dX10_in_14 ?_
    exact e_zret rfl (by decide) dX10_in_15 rfl rfl (if_pos c2).symm rfl
  · refine g_iL0 dX10_in_5 ?_
    refine g_iL2 dX10_in_6 ?_
    refine g_icgt dX10_in_7 (fun c7 => ?_) (fun c7 => ?_)
    · refine g_iconst dX10_in_14 ?_
      exact e_zret rfl (by decide) dX10_in_15 rfl rfl ((if_neg c2).trans (if_pos c7)).symm rfl
    · refine g_iconst dX10_in_10 ?_
      refine g_goto dX10_in_11 ?_
      exact e_zret rfl (by decide) dX10_in_15 rfl rfl ((if_neg c2).trans (if_neg c7)).symm rfl
theorem d_bit {h : Hp} (x s : Int32) : gCi 0 0 0 yX10_bit cX10_bit 2 (some .boolean) [.int x, .int s] h (some (.int (thF x s))) h := by
  refine g_entry (lv := [.int x, .int s]) 0 pn_X10 rfl rfl rfl ?_
  refine g_iL0 dX10_bit_0 ?_
  refine g_iL1 dX10_bit_1 ?_
  refine g_ishr dX10_bit_2 ?_
  refine g_iconst dX10_bit_3 ?_
  refine g_iand dX10_bit_4 ?_
  refine g_iconst dX10_bit_5 ?_
  refine g_icne dX10_bit_6 (fun c6 => ?_) (fun c6 => ?_)
  · refine g_iconst dX10_bit_13 ?_
    exact e_zret rfl (by decide) dX10_bit_14 rfl rfl (th0 c6).symm rfl
  · refine g_iconst dX10_bit_9 ?_
    refine g_goto dX10_bit_10 ?_
    exact e_zret rfl (by decide) dX10_bit_14 rfl rfl (th1 c6).symm rfl
theorem d_isPane {h : Hp} {c : Nat} {cn : Nat → Nat} (X : MX h c cn) (p : Int32) : gCi 0 0 0 yX10_isPane cX10_isPane 2 (some .boolean) [.ref 50, .int p] h (some (.int (ipF p (nI (cn 1))))) h := by
  refine g_entry (lv := [.ref 50, .int p]) 0 pn_X10 rfl rfl rfl ?_
  refine g_aL0 dX10_isPane_0 ?_
  refine g_getR lf_X10_359 (X.S.l 50 rfl) (X.S.k 50 rfl rfl) X.C dX10_isPane_1 ?_
  refine g_ifnullS dX10_isPane_4 ?_
  refine g_iL1 dX10_isPane_7 ?_
  refine g_iflt dX10_isPane_8 (fun c8 => ?_) (fun c8 => ?_)
  · refine g_iconst dX10_isPane_26 ?_
    exact e_zret rfl (by decide) dX10_isPane_27 rfl rfl (if_pos c8).symm rfl
  · refine g_iL1 dX10_isPane_11 ?_
    refine g_aL0 dX10_isPane_12 ?_
    refine g_getR lf_X10_359 (X.S.l 50 rfl) (X.S.k 50 rfl rfl) X.C dX10_isPane_13 ?_
    refine g_gI lf_X10_215 (X.M.l 0 rfl) (X.M.k 0 rfl rfl) dX10_isPane_16 ?_
    rw [X.c1]
    refine g_icge dX10_isPane_19 (fun c19 => ?_) (fun c19 => ?_)
    · refine g_iconst dX10_isPane_26 ?_
      exact e_zret rfl (by decide) dX10_isPane_27 rfl rfl ((if_neg c8).trans (if_pos c19)).symm rfl
    · refine g_iconst dX10_isPane_22 ?_
      refine g_goto dX10_isPane_23 ?_
      exact e_zret rfl (by decide) dX10_isPane_27 rfl rfl ((if_neg c8).trans (if_neg c19)).symm rfl
theorem z_isPane {h : Hp} (S : SX h) (hz : gR h 50 3 = none) (p : Int32) : gCi 0 0 0 yX10_isPane cX10_isPane 2 (some .boolean) [.ref 50, .int p] h (some (.int 0)) h := by
  refine g_entry (lv := [.ref 50, .int p]) 0 pn_X10 rfl rfl rfl ?_
  refine g_aL0 dX10_isPane_0 ?_
  refine g_getN0 lf_X10_359 (S.l 50 rfl) (S.k 50 rfl rfl) hz dX10_isPane_1 ?_
  refine g_ifnullZ dX10_isPane_4 ?_
  refine g_iconst dX10_isPane_26 ?_
  exact e_zret rfl (by decide) dX10_isPane_27 rfl rfl rfl rfl
theorem d_isWordOf {h : Hp} {c : Nat} {cn : Nat → Nat} (X : MX h c cn) (p : Int32) : gCi 0 0 0 yX10_isWordOf cX10_isWordOf 2 (some .boolean) [.ref 50, .int p] h (some (.int (ipF p (nI (cn 2))))) h := by
  refine g_entry (lv := [.ref 50, .int p]) 0 pn_X10 rfl rfl rfl ?_
  refine g_aL0 dX10_isWordOf_0 ?_
  refine g_getR lf_X10_359 (X.S.l 50 rfl) (X.S.k 50 rfl rfl) X.C dX10_isWordOf_1 ?_
  refine g_ifnullS dX10_isWordOf_4 ?_
  refine g_iL1 dX10_isWordOf_7 ?_
  refine g_iflt dX10_isWordOf_8 (fun c8 => ?_) (fun c8 => ?_)
  · refine g_iconst dX10_isWordOf_26 ?_
    exact e_zret rfl (by decide) dX10_isWordOf_27 rfl rfl (if_pos c8).symm rfl
  · refine g_iL1 dX10_isWordOf_11 ?_
    refine g_aL0 dX10_isWordOf_12 ?_
    refine g_getR lf_X10_359 (X.S.l 50 rfl) (X.S.k 50 rfl rfl) X.C dX10_isWordOf_13 ?_
    refine g_gI lf_X10_289 (X.M.l 0 rfl) (X.M.k 0 rfl rfl) dX10_isWordOf_16 ?_
    rw [X.c2]
    refine g_icge dX10_isWordOf_19 (fun c19 => ?_) (fun c19 => ?_)
    · refine g_iconst dX10_isWordOf_26 ?_
      exact e_zret rfl (by decide) dX10_isWordOf_27 rfl rfl ((if_neg c8).trans (if_pos c19)).symm rfl
    · refine g_iconst dX10_isWordOf_22 ?_
      refine g_goto dX10_isWordOf_23 ?_
      exact e_zret rfl (by decide) dX10_isWordOf_27 rfl rfl ((if_neg c8).trans (if_neg c19)).symm rfl
theorem z_isWordOf {h : Hp} (S : SX h) (hz : gR h 50 3 = none) (p : Int32) : gCi 0 0 0 yX10_isWordOf cX10_isWordOf 2 (some .boolean) [.ref 50, .int p] h (some (.int 0)) h := by
  refine g_entry (lv := [.ref 50, .int p]) 0 pn_X10 rfl rfl rfl ?_
  refine g_aL0 dX10_isWordOf_0 ?_
  refine g_getN0 lf_X10_359 (S.l 50 rfl) (S.k 50 rfl rfl) hz dX10_isWordOf_1 ?_
  refine g_ifnullZ dX10_isWordOf_4 ?_
  refine g_iconst dX10_isWordOf_26 ?_
  exact e_zret rfl (by decide) dX10_isWordOf_27 rfl rfl rfl rfl
theorem d_isCorner {h : Hp} {c : Nat} {cn : Nat → Nat} (X : MX h c cn) (p : Int32) : gCi 0 0 0 yX10_isCorner cX10_isCorner 2 (some .boolean) [.ref 50, .int p] h (some (.int (ipF p (nI (cn 4))))) h := by
  refine g_entry (lv := [.ref 50, .int p]) 0 pn_X10 rfl rfl rfl ?_
  refine g_aL0 dX10_isCorner_0 ?_
  refine g_getR lf_X10_359 (X.S.l 50 rfl) (X.S.k 50 rfl rfl) X.C dX10_isCorner_1 ?_
  refine g_ifnullS dX10_isCorner_4 ?_
  refine g_iL1 dX10_isCorner_7 ?_
  refine g_iflt dX10_isCorner_8 (fun c8 => ?_) (fun c8 => ?_)
  · refine g_iconst dX10_isCorner_26 ?_
    exact e_zret rfl (by decide) dX10_isCorner_27 rfl rfl (if_pos c8).symm rfl
  · refine g_iL1 dX10_isCorner_11 ?_
    refine g_aL0 dX10_isCorner_12 ?_
    refine g_getR lf_X10_359 (X.S.l 50 rfl) (X.S.k 50 rfl rfl) X.C dX10_isCorner_13 ?_
    refine g_gI lf_X10_300 (X.M.l 0 rfl) (X.M.k 0 rfl rfl) dX10_isCorner_16 ?_
    rw [X.c4]
    refine g_icge dX10_isCorner_19 (fun c19 => ?_) (fun c19 => ?_)
    · refine g_iconst dX10_isCorner_26 ?_
      exact e_zret rfl (by decide) dX10_isCorner_27 rfl rfl ((if_neg c8).trans (if_pos c19)).symm rfl
    · refine g_iconst dX10_isCorner_22 ?_
      refine g_goto dX10_isCorner_23 ?_
      exact e_zret rfl (by decide) dX10_isCorner_27 rfl rfl ((if_neg c8).trans (if_neg c19)).symm rfl
theorem z_isCorner {h : Hp} (S : SX h) (hz : gR h 50 3 = none) (p : Int32) : gCi 0 0 0 yX10_isCorner cX10_isCorner 2 (some .boolean) [.ref 50, .int p] h (some (.int 0)) h := by
  refine g_entry (lv := [.ref 50, .int p]) 0 pn_X10 rfl rfl rfl ?_
  refine g_aL0 dX10_isCorner_0 ?_
  refine g_getN0 lf_X10_359 (S.l 50 rfl) (S.k 50 rfl rfl) hz dX10_isCorner_1 ?_
  refine g_ifnullZ dX10_isCorner_4 ?_
  refine g_iconst dX10_isCorner_26 ?_
  exact e_zret rfl (by decide) dX10_isCorner_27 rfl rfl rfl rfl
theorem d_isSent {h : Hp} {c : Nat} {cn : Nat → Nat} (X : MX h c cn) (p : Int32) : gCi 0 0 0 yX10_isSent cX10_isSent 2 (some .boolean) [.ref 50, .int p] h (some (.int (ipF p (nI (cn 7))))) h := by
  refine g_entry (lv := [.ref 50, .int p]) 0 pn_X10 rfl rfl rfl ?_
  refine g_aL0 dX10_isSent_0 ?_
  refine g_getR lf_X10_359 (X.S.l 50 rfl) (X.S.k 50 rfl rfl) X.C dX10_isSent_1 ?_
  refine g_ifnullS dX10_isSent_4 ?_
  refine g_iL1 dX10_isSent_7 ?_
  refine g_iflt dX10_isSent_8 (fun c8 => ?_) (fun c8 => ?_)
  · refine g_iconst dX10_isSent_26 ?_
    exact e_zret rfl (by decide) dX10_isSent_27 rfl rfl (if_pos c8).symm rfl
  · refine g_iL1 dX10_isSent_11 ?_
    refine g_aL0 dX10_isSent_12 ?_
    refine g_getR lf_X10_359 (X.S.l 50 rfl) (X.S.k 50 rfl rfl) X.C dX10_isSent_13 ?_
    refine g_gI lf_X10_325 (X.M.l 0 rfl) (X.M.k 0 rfl rfl) dX10_isSent_16 ?_
    rw [X.c7]
    refine g_icge dX10_isSent_19 (fun c19 => ?_) (fun c19 => ?_)
    · refine g_iconst dX10_isSent_26 ?_
      exact e_zret rfl (by decide) dX10_isSent_27 rfl rfl ((if_neg c8).trans (if_pos c19)).symm rfl
    · refine g_iconst dX10_isSent_22 ?_
      refine g_goto dX10_isSent_23 ?_
      exact e_zret rfl (by decide) dX10_isSent_27 rfl rfl ((if_neg c8).trans (if_neg c19)).symm rfl
theorem z_isSent {h : Hp} (S : SX h) (hz : gR h 50 3 = none) (p : Int32) : gCi 0 0 0 yX10_isSent cX10_isSent 2 (some .boolean) [.ref 50, .int p] h (some (.int 0)) h := by
  refine g_entry (lv := [.ref 50, .int p]) 0 pn_X10 rfl rfl rfl ?_
  refine g_aL0 dX10_isSent_0 ?_
  refine g_getN0 lf_X10_359 (S.l 50 rfl) (S.k 50 rfl rfl) hz dX10_isSent_1 ?_
  refine g_ifnullZ dX10_isSent_4 ?_
  refine g_iconst dX10_isSent_26 ?_
  exact e_zret rfl (by decide) dX10_isSent_27 rfl rfl rfl rfl
theorem d_isView {h : Hp} {c : Nat} {cn : Nat → Nat} (X : MX h c cn) (v : Int32) : gCi 0 0 0 yX10_isView cX10_isView 2 (some .boolean) [.ref 50, .int v] h (some (.int (siF v (nI (cn 3))))) h := by
  refine g_entry (lv := [.ref 50, .int v]) 0 pn_X10 rfl rfl rfl ?_
  refine g_aL0 dX10_isView_0 ?_
  refine g_getR lf_X10_359 (X.S.l 50 rfl) (X.S.k 50 rfl rfl) X.C dX10_isView_1 ?_
  refine g_ifnullS dX10_isView_4 ?_
  refine g_iL1 dX10_isView_7 ?_
  refine g_bipush dX10_isView_8 ?_
  refine g_iceq dX10_isView_10 (fun c10 => ?_) (fun c10 => ?_)
  · refine g_iconst dX10_isView_28 ?_
    refine g_goto dX10_isView_29 ?_
    exact e_zret rfl (by decide) dX10_isView_33 rfl rfl (if_pos c10).symm rfl
  · refine g_iL1 dX10_isView_13 ?_
    refine g_iflt dX10_isView_14 (fun c14 => ?_) (fun c14 => ?_)
    · refine g_iconst dX10_isView_32 ?_
      exact e_zret rfl (by decide) dX10_isView_33 rfl rfl ((if_neg c10).trans (if_pos (if_pos c14))).symm rfl
    · refine g_iL1 dX10_isView_17 ?_
      refine g_aL0 dX10_isView_18 ?_
      refine g_getR lf_X10_359 (X.S.l 50 rfl) (X.S.k 50 rfl rfl) X.C dX10_isView_19 ?_
      refine g_gI lf_X10_294 (X.M.l 0 rfl) (X.M.k 0 rfl rfl) dX10_isView_22 ?_
      rw [X.c3]
      refine g_icge dX10_isView_25 (fun c25 => ?_) (fun c25 => ?_)
      · refine g_iconst dX10_isView_32 ?_
        exact e_zret rfl (by decide) dX10_isView_33 rfl rfl ((if_neg c10).trans (if_pos ((if_neg c14).trans (if_pos c25)))).symm rfl
      · refine g_iconst dX10_isView_28 ?_
        refine g_goto dX10_isView_29 ?_
        exact e_zret rfl (by decide) dX10_isView_33 rfl rfl ((if_neg c10).trans (if_neg (by rw [show ipF v (nI (cn 3)) = 1 from ((if_neg c14).trans (if_neg c25))]; decide))).symm rfl
theorem z_isView {h : Hp} (S : SX h) (hz : gR h 50 3 = none) (v : Int32) : gCi 0 0 0 yX10_isView cX10_isView 2 (some .boolean) [.ref 50, .int v] h (some (.int 0)) h := by
  refine g_entry (lv := [.ref 50, .int v]) 0 pn_X10 rfl rfl rfl ?_
  refine g_aL0 dX10_isView_0 ?_
  refine g_getN0 lf_X10_359 (S.l 50 rfl) (S.k 50 rfl rfl) hz dX10_isView_1 ?_
  refine g_ifnullZ dX10_isView_4 ?_
  refine g_iconst dX10_isView_32 ?_
  exact e_zret rfl (by decide) dX10_isView_33 rfl rfl rfl rfl
theorem d_isBroken {h : Hp} (S : SX h) (p : Int32) : gCi 1 0 0 yX10_isBroken cX10_isBroken 2 (some .boolean) [.ref 50, .int p] h (some (.int (thF (gI h 52 16) p))) h := by
  refine g_entry (lv := [.ref 50, .int p]) 0 pn_X10 rfl rfl rfl ?_
  refine g_aL0 dX10_isBroken_0 ?_
  refine g_getR lf_X10_17 (S.l 50 rfl) (S.k 50 rfl rfl) (S.r 50 20 (b := 52) rfl rfl) dX10_isBroken_1 ?_
  refine g_bipush dX10_isBroken_4 ?_
  refine g_ialoadK (S.l 52 rfl) (S.k 52 rfl rfl) (S.n 52 (n := 17) rfl rfl) rfl (j := 16) rfl dX10_isBroken_6 ?_
  refine g_iL1 dX10_isBroken_7 ?_
  refine e_s2i (d_bit _ _) lm_X10_367 dX10_isBroken_8 rfl rfl rfl rfl ?_
  exact e_zret rfl (thF_01 _ _) dX10_isBroken_11 rfl rfl rfl rfl
theorem si1 {v : Int32} {n : Nat} (hn : n < 2147483648) (h : ¬ siF v (nI n) = 0) : v = -2 ∨ ∃ V, V < n ∧ v = nI V := by
  by_cases e : v = -2
  · exact Or.inl e
  · refine Or.inr (ip1 hn ?_)
    intro z
    exact h ((if_neg e).trans (if_pos z))
theorem dk_in (dk : Nat → Int32) {V : Nat} (h : V < 6) : dkF dk (nI V) = dk V := by
  unfold dkF
  rw [if_neg (show ¬ nI V < 0 from (show ¬ nI V < nI 0 from nI_nlt (by omega) (by omega))), if_neg (show ¬ 6 ≤ nI V from (show ¬ nI 6 ≤ nI V from nI_ge h (by omega))), nI_clamp (by omega)]
theorem d_darkOf {h : Hp} {c : Nat} {cn : Nat → Nat} (X : MX h c cn) {v : Int32} (hv : ¬ siF v (nI (cn 3)) = 0) : gCi 0 0 0 yX10_darkOf cX10_darkOf 2 (some .int) [.ref 50, .int v] h (some (.int (dkF (gI h (c + 4)) v))) h := by
  have hb := X.b3
  rcases si1 (by omega) hv with rfl | ⟨V, hV, rfl⟩
  · refine g_entry (lv := [.ref 50, .int (-2)]) 0 pn_X10 rfl rfl rfl ?_
    refine g_iL1 dX10_darkOf_0 ?_
    refine g_bipush dX10_darkOf_1 ?_
    refine g_icne dX10_darkOf_3 (fun c3 => absurd rfl c3) (fun c3 => ?_)
    refine g_iconst dX10_darkOf_6 ?_
    refine g_goto dX10_darkOf_7 ?_
    exact e_iret rfl dX10_darkOf_19 rfl rfl rfl rfl
  · refine g_entry (lv := [.ref 50, .int (nI V)]) 0 pn_X10 rfl rfl rfl ?_
    refine g_iL1 dX10_darkOf_0 ?_
    refine g_bipush dX10_darkOf_1 ?_
    refine g_icne dX10_darkOf_3 (fun c3 => ?_) (fun c3 => absurd c3 (nI_n2 (by omega)))
    refine g_aL0 dX10_darkOf_10 ?_
    refine g_getR lf_X10_359 (X.S.l 50 rfl) (X.S.k 50 rfl rfl) X.C dX10_darkOf_11 ?_
    refine g_getRn lf_X10_297 (X.M.l 0 rfl) (X.M.k 0 rfl rfl) (X.M.r 18 (j := 4) rfl) dX10_darkOf_14 ?_
    refine g_iL1 dX10_darkOf_17 ?_
    refine g_ialoadN (X.M.l 4 rfl) (X.M.k 4 rfl rfl) (X.M.n 4 (n := 6) rfl rfl) (show V < 6 from by omega) (by decide) dX10_darkOf_18 ?_
    exact e_iret rfl dX10_darkOf_19 rfl rfl (dk_in _ (by omega)).symm rfl
abbrev shM (h : Hp) (p : Nat) : Int32 := gI h 52 p &&& (gI h 52 (8 + p) ^^^ (-1))
abbrev seM (h : Hp) (c p : Nat) (v : Int32) : Int32 := sbF (gI h 52 p) (gI h 52 (8 + p)) (dkF (gI h (c + 4)) v)
theorem d_shownBy {h : Hp} (S : SX h) {p : Nat} (hp : p < 8) : gCi 0 0 0 yX10_shownBy cX10_shownBy 2 (some .int) [.ref 50, .int (nI p)] h (some (.int (shM h p))) h := by
  refine g_entry (lv := [.ref 50, .int (nI p)]) 0 pn_X10 rfl rfl rfl ?_
  refine g_aL0 dX10_shownBy_0 ?_
  refine g_getR lf_X10_17 (S.l 50 rfl) (S.k 50 rfl rfl) (S.r 50 20 (b := 52) rfl rfl) dX10_shownBy_1 ?_
  refine g_iconst dX10_shownBy_4 ?_
  refine g_iL1 dX10_shownBy_5 ?_
  refine g_iadd dX10_shownBy_6 ?_
  rw [show (0 : Int32) = nI 0 from rfl, nI_add, Nat.zero_add]
  refine g_ialoadN (S.l 52 rfl) (S.k 52 rfl rfl) (S.n 52 (n := 17) rfl rfl) (show p < 17 from by omega) (by decide) dX10_shownBy_7 ?_
  refine g_aL0 dX10_shownBy_8 ?_
  refine g_getR lf_X10_17 (S.l 50 rfl) (S.k 50 rfl rfl) (S.r 50 20 (b := 52) rfl rfl) dX10_shownBy_9 ?_
  refine g_bipush dX10_shownBy_12 ?_
  refine g_iL1 dX10_shownBy_14 ?_
  refine g_iadd dX10_shownBy_15 ?_
  rw [show (8 : Int32) = nI 8 from rfl, nI_add]
  refine g_ialoadN (S.l 52 rfl) (S.k 52 rfl rfl) (S.n 52 (n := 17) rfl rfl) (show 8 + p < 17 from by omega) (by decide) dX10_shownBy_16 ?_
  refine g_iconst dX10_shownBy_17 ?_
  refine g_ixor dX10_shownBy_18 ?_
  refine g_iand dX10_shownBy_19 ?_
  exact e_iret rfl dX10_shownBy_20 rfl rfl rfl rfl
theorem d_seenOf {h : Hp} {c : Nat} {cn : Nat → Nat} (X : MX h c cn) {p : Nat} (hp : p < 8) {v : Int32} (hv : ¬ siF v (nI (cn 3)) = 0) : gCi 1 0 0 yX10_seenOf cX10_seenOf 3 (some .int) [.ref 50, .int (nI p), .int v] h (some (.int (seM h c p v))) h := by
  refine g_entry (lv := [.ref 50, .int (nI p), .int v]) 0 pn_X10 rfl rfl rfl ?_
  refine g_aL0 dX10_seenOf_0 ?_
  refine g_iL1 dX10_seenOf_1 ?_
  refine e_v1i (d_shownBy X.S hp) lm_X10_371 dX10_seenOf_2 (X.S.l 50 rfl) (X.S.k 50 rfl rfl) rfl rfl rfl rfl ?_
  refine g_aL0 dX10_seenOf_5 ?_
  refine g_iL2 dX10_seenOf_6 ?_
  refine e_v1i (d_darkOf X hv) lm_X10_374 dX10_seenOf_7 (X.S.l 50 rfl) (X.S.k 50 rfl rfl) rfl rfl rfl rfl ?_
  refine g_iconst dX10_seenOf_10 ?_
  refine g_ixor dX10_seenOf_11 ?_
  refine g_iand dX10_seenOf_12 ?_
  exact e_iret rfl dX10_seenOf_13 rfl rfl rfl rfl
theorem d_readOf {h : Hp} {c : Nat} {cn : Nat → Nat} (X : MX h c cn) (b : Int32) : gCi 0 0 0 yX10_readOf cX10_readOf 3 (some .int) [.ref 50, .int b] h (some (.int (fwF (gI h (c + 3)) b (cn 2) 0))) h := by
  refine g_entry (lv := [.ref 50, .int b, .retAddr 0]) 1 pn_X10 rfl rfl rfl ?_
  have loop : ∀ (n i : Nat) , i + n = cn 2 → fwF (gI h (c + 3)) b (cn 2) 0 = fwF (gI h (c + 3)) b n i → gY 0 0 0 yX10_readOf cX10_readOf 3 (some .int) 0 0 (fun v' h' => v' = (some (.int (fwF (gI h (c + 3)) b (cn 2) 0))) ∧ h' = h) 2 [.ref 50, .int b, .int (nI i)] [] h := by
    intro n
    induction n with
    | zero =>
      intro i  hi he 
      refine g_iL2 dX10_readOf_2 ?_
      refine g_aL0 dX10_readOf_3 ?_
      refine g_getR lf_X10_359 (X.S.l 50 rfl) (X.S.k 50 rfl rfl) X.C dX10_readOf_4 ?_
      refine g_gI lf_X10_289 (X.M.l 0 rfl) (X.M.k 0 rfl rfl) dX10_readOf_7 ?_
      rw [X.c2]
      refine g_icge dX10_readOf_10 (fun c10 => ?_) (fun c10 => absurd (nI_le (by omega) (by have := X.b2; omega)) c10)
      refine g_bipush dX10_readOf_34 ?_
      exact e_iret rfl dX10_readOf_36 rfl rfl he.symm rfl
    | succ n ih =>
      intro i  hi he 
      refine g_iL2 dX10_readOf_2 ?_
      refine g_aL0 dX10_readOf_3 ?_
      refine g_getR lf_X10_359 (X.S.l 50 rfl) (X.S.k 50 rfl rfl) X.C dX10_readOf_4 ?_
      refine g_gI lf_X10_289 (X.M.l 0 rfl) (X.M.k 0 rfl rfl) dX10_readOf_7 ?_
      rw [X.c2]
      refine g_icge dX10_readOf_10 (fun c10 => absurd c10 (nI_ge (by omega) (by have := X.b2; omega))) (fun c10 => ?_)
      refine g_aL0 dX10_readOf_13 ?_
      refine g_getR lf_X10_359 (X.S.l 50 rfl) (X.S.k 50 rfl rfl) X.C dX10_readOf_14 ?_
      refine g_getRn lf_X10_292 (X.M.l 0 rfl) (X.M.k 0 rfl rfl) (X.M.r 17 (j := 3) rfl) dX10_readOf_17 ?_
      refine g_iL2 dX10_readOf_20 ?_
      refine g_ialoadN (X.M.l 3 rfl) (X.M.k 3 rfl rfl) (X.M.n 3 (n := 8) rfl rfl) (show i < 8 from by have := X.b2; omega) (by decide) dX10_readOf_21 ?_
      refine g_iL1 dX10_readOf_22 ?_
      refine g_icne dX10_readOf_23 (fun c23 => ?_) (fun c23 => ?_)
      · refine g_ii2 dX10_readOf_28 rfl rfl ?_
        refine g_goto dX10_readOf_31 ?_
        rw [nI_1]
        exact ih (i + 1)  (by omega) (he.trans (if_neg c23)) 
      · refine g_iL2 dX10_readOf_26 ?_
        exact e_iret rfl dX10_readOf_27 rfl rfl (he.trans (if_pos c23)).symm rfl
  refine g_iconst dX10_readOf_0 ?_
  refine g_iS2 dX10_readOf_1 rfl rfl ?_
  exact loop (cn 2) 0 (by omega) rfl
theorem d_refusesSeen {h : Hp} {c : Nat} {cn : Nat → Nat} (X : MX h c cn) (p v : Int32) : gCi 2 0 0 yX10_refusesSeen cX10_refusesSeen 3 (some .int) [.ref 50, .int p, .int v] h (some (.int (wnF (ipF p (nI (cn 1))) (siF v (nI (cn 3))) (thF (gI h 52 16) p)))) h := by
  refine g_entry (lv := [.ref 50, .int p, .int v]) 0 pn_X10 rfl rfl rfl ?_
  refine g_aL0 dX10_refusesSeen_0 ?_
  refine g_iL1 dX10_refusesSeen_1 ?_
  refine e_v1i (d_isPane X _) lm_X10_377 dX10_refusesSeen_2 (X.S.l 50 rfl) (X.S.k 50 rfl rfl) rfl rfl rfl rfl ?_
  refine g_ifeq dX10_refusesSeen_5 (fun c5 => ?_) (fun c5 => ?_)
  · refine g_iconst dX10_refusesSeen_16 ?_
    refine g_goto dX10_refusesSeen_17 ?_
    exact e_iret rfl dX10_refusesSeen_33 rfl rfl (if_pos c5).symm rfl
  · refine g_aL0 dX10_refusesSeen_8 ?_
    refine g_iL2 dX10_refusesSeen_9 ?_
    refine e_v1i (d_isView X _) lm_X10_380 dX10_refusesSeen_10 (X.S.l 50 rfl) (X.S.k 50 rfl rfl) rfl rfl rfl rfl ?_
    refine g_ifne dX10_refusesSeen_13 (fun c13 => ?_) (fun c13 => ?_)
    · refine g_aL0 dX10_refusesSeen_20 ?_
      refine g_iL1 dX10_refusesSeen_21 ?_
      refine e_v1i (d_isBroken X.S _) lm_X10_383 dX10_refusesSeen_22 (X.S.l 50 rfl) (X.S.k 50 rfl rfl) rfl rfl rfl rfl ?_
      refine g_ifeq dX10_refusesSeen_25 (fun c25 => ?_) (fun c25 => ?_)
      · refine g_iconst dX10_refusesSeen_32 ?_
        exact e_iret rfl dX10_refusesSeen_33 rfl rfl ((if_neg c5).trans ((if_neg c13).trans (if_pos c25))).symm rfl
      · refine g_iconst dX10_refusesSeen_28 ?_
        refine g_goto dX10_refusesSeen_29 ?_
        exact e_iret rfl dX10_refusesSeen_33 rfl rfl ((if_neg c5).trans ((if_neg c13).trans (if_neg c25))).symm rfl
    · refine g_iconst dX10_refusesSeen_16 ?_
      refine g_goto dX10_refusesSeen_17 ?_
      exact e_iret rfl dX10_refusesSeen_33 rfl rfl ((if_neg c5).trans (if_pos c13)).symm rfl
theorem z_refusesSeen {h : Hp} (S : SX h) (hz : gR h 50 3 = none) (p v : Int32) : gCi 2 0 0 yX10_refusesSeen cX10_refusesSeen 3 (some .int) [.ref 50, .int p, .int v] h (some (.int 1)) h := by
  refine g_entry (lv := [.ref 50, .int p, .int v]) 0 pn_X10 rfl rfl rfl ?_
  refine g_aL0 dX10_refusesSeen_0 ?_
  refine g_iL1 dX10_refusesSeen_1 ?_
  refine e_v1i (z_isPane S hz _) lm_X10_377 dX10_refusesSeen_2 (S.l 50 rfl) (S.k 50 rfl rfl) rfl rfl rfl rfl ?_
  refine g_ifeq dX10_refusesSeen_5 (fun c5 => ?_) (fun c5 => absurd rfl c5)
  refine g_iconst dX10_refusesSeen_16 ?_
  refine g_goto dX10_refusesSeen_17 ?_
  exact e_iret rfl dX10_refusesSeen_33 rfl rfl rfl rfl
theorem wn_le {ip o br : Int32} (h : wnF ip o br ≤ 0) : wnF ip o br = 0 := by
  revert h
  unfold wnF
  repeat' split
  all_goals decide
theorem wn_gt {ip o br : Int32} (h : ¬ wnF ip o br ≤ 0) : ¬ wnF ip o br = 0 := fun z => h (by rw [z]; decide)

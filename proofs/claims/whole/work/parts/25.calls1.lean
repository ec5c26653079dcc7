/-! THE CLASS: GlassPost: what calls have in common; panes -/
/-- the class as calls find it: told at t, its counts cn -/
def CX (h : Hp) (t : Nat) (cn : Nat → Nat) : Prop := SX h ∧ (t = 3 ∨ t = 18) ∧ gR h 0 6 = some t ∧ gR h 38 0 = some t ∧ (∀ k, k < 11 → gI h (t + 1) k = nI (cn k)) ∧ cn 1 ≤ 8 ∧ cn 2 ≤ 8 ∧ cn 3 ≤ 6 ∧ cn 4 ≤ 7 ∧ cn 5 ≤ 12 ∧ cn 6 ≤ 7 ∧ cn 7 ≤ 6 ∧ cn 8 ≤ 4 ∧ cn 9 ≤ 8 ∧ cn 10 ≤ 1
section CXs
variable {h : Hp} {t : Nat} {cn : Nat → Nat}
theorem CX.S (X : CX h t cn) : SX h := X.1
theorem CX.hc (X : CX h t cn) : t = 3 ∨ t = 18 := X.2.1
theorem CX.T (X : CX h t cn) : gR h 0 6 = some t := X.2.2.1
theorem CX.P (X : CX h t cn) : gR h 38 0 = some t := X.2.2.2.1
theorem CX.c (X : CX h t cn) (k : Nat) (hk : Nat.ble (k + 1) 11 = true) : gI h (t + 1) k = nI (cn k) := X.2.2.2.2.1 k (Nat.le_of_ble_eq_true hk)
theorem CX.b1 (X : CX h t cn) : cn 1 ≤ 8 := X.2.2.2.2.2.1
theorem CX.b2 (X : CX h t cn) : cn 2 ≤ 8 := X.2.2.2.2.2.2.1
theorem CX.b3 (X : CX h t cn) : cn 3 ≤ 6 := X.2.2.2.2.2.2.2.1
theorem CX.b4 (X : CX h t cn) : cn 4 ≤ 7 := X.2.2.2.2.2.2.2.2.1
theorem CX.b7 (X : CX h t cn) : cn 7 ≤ 6 := X.2.2.2.2.2.2.2.2.2.2.2.1
theorem CX.b8 (X : CX h t cn) : cn 8 ≤ 4 := X.2.2.2.2.2.2.2.2.2.2.2.2.1
theorem CX.b9 (X : CX h t cn) : cn 9 ≤ 8 := X.2.2.2.2.2.2.2.2.2.2.2.2.2.1
theorem CX.b10 (X : CX h t cn) : cn 10 ≤ 1 := X.2.2.2.2.2.2.2.2.2.2.2.2.2.2
end CXs
/-- is p one of n -/
def ipF (p n : Int32) : Int32 := if p < 0 then 0 else if n ≤ p then 0 else 1
theorem ip1 {p : Int32} {n : Nat} (hn : n < 2 ^ 31) (h : ¬ ipF p (nI n) = 0) : ∃ P, P < n ∧ p = nI P := by
  rcases pk_ix p hn with z | z | z
  · exact absurd (if_pos z) h
  · by_cases y : p < 0
    · exact absurd (if_pos y) h
    · exact absurd ((if_neg y).trans (if_pos z)) h
  · exact z
def wnF (ip oth br : Int32) : Int32 := if ip = 0 then 1 else if oth = 0 then 1 else if br = 0 then 0 else 5
theorem wn0 {ip o br : Int32} (h : wnF ip o br = 0) : ¬ ip = 0 ∧ ¬ o = 0 ∧ br = 0 := by
  unfold wnF at h
  split at h
  · exact absurd h (by decide)
  · split at h
    · exact absurd h (by decide)
    · split at h
      · exact ⟨by assumption, by assumption, by assumption⟩
      · exact absurd h (by decide)
/-- is v a view, or none -/
def siF (v n : Int32) : Int32 := if v = -2 then 1 else if ipF v n = 0 then 0 else 1
def pn (p : Int32) : Nat := p.toNatClampNeg
theorem pn_nI {n : Nat} (h : n < 2147483648) : pn (nI n) = n := nI_clamp h
theorem c_refuse {h : Hp} {t : Nat} {cn : Nat → Nat} (X : CX h t cn) (y : Int32) : gCi 0 0 0 yX8_refuse cX8_refuse 2 (some .int) [.ref 0, .int y] h (some (.int (-1))) (pI h 0 8 y) := by
  refine g_entry (lv := [.ref 0, .int y]) 0 pn_X8 rfl rfl rfl ?_
  refine g_aL0 dX8_refuse_0 ?_
  refine g_iL1 dX8_refuse_1 ?_
  refine g_pI0 lf_X8_65 (X.S.l 0 rfl) (X.S.k 0 rfl rfl) dX8_refuse_2 ?_
  refine g_iconst dX8_refuse_5 ?_
  exact e_iret rfl dX8_refuse_6 rfl rfl rfl rfl
theorem c_answer {h : Hp} {t : Nat} {cn : Nat → Nat} (X : CX h t cn) (y : Int32) : gCi 0 0 0 yX8_answer cX8_answer 2 (some .int) [.ref 0, .int y] h (some (.int y)) (pI h 0 8 0) := by
  refine g_entry (lv := [.ref 0, .int y]) 0 pn_X8 rfl rfl rfl ?_
  refine g_aL0 dX8_answer_0 ?_
  refine g_iconst dX8_answer_1 ?_
  refine g_pI0 lf_X8_65 (X.S.l 0 rfl) (X.S.k 0 rfl rfl) dX8_answer_2 ?_
  refine g_iL1 dX8_answer_5 ?_
  exact e_iret rfl dX8_answer_6 rfl rfl rfl rfl
def ncF (n : Int32) : Int32 := if n = 0 then 1 else 0
theorem c_noCity {h : Hp} {t : Nat} {cn : Nat → Nat} (X : CX h t cn) : gCi 0 0 0 yX8_noCity cX8_noCity 1 (some .boolean) [.ref 0] h (some (.int (ncF (nI (cn 1))))) h := by
  refine g_entry (lv := [.ref 0]) 0 pn_X8 rfl rfl rfl ?_
  refine g_aL0 dX8_noCity_0 ?_
  refine g_getR lf_X8_19 (X.S.l 0 rfl) (X.S.k 0 rfl rfl) X.T dX8_noCity_1 ?_
  refine g_getR lf_X8_103 (X.S.cl X.hc 0 rfl) (X.S.ck X.hc) (X.S.cr X.hc 0 (j := 1) rfl rfl) dX8_noCity_4 ?_
  refine g_iconst dX8_noCity_7 ?_
  refine g_ialoadK (X.S.cl X.hc 1 rfl) (X.S.cka X.hc 1 rfl rfl) (X.S.cn X.hc 1 (n := 11) rfl rfl rfl) rfl (j := 1) rfl dX8_noCity_8 ?_
  rw [X.c 1 rfl]
  refine g_ifne dX8_noCity_9 (fun c9 => ?_) (fun c9 => ?_)
  · refine g_iconst dX8_noCity_16 ?_
    exact e_zret rfl (by decide) dX8_noCity_17 rfl rfl (if_neg c9).symm rfl
  · refine g_iconst dX8_noCity_12 ?_
    refine g_goto dX8_noCity_13 ?_
    exact e_zret rfl (by decide) dX8_noCity_17 rfl rfl (if_pos c9).symm rfl
theorem c_isPane {h : Hp} {t : Nat} {cn : Nat → Nat} (X : CX h t cn) (p : Int32) : gCi 0 0 0 yX8_isPane cX8_isPane 2 (some .boolean) [.ref 0, .int p] h (some (.int (ipF p (nI (cn 1))))) h := by
  refine g_entry (lv := [.ref 0, .int p]) 0 pn_X8 rfl rfl rfl ?_
  refine g_iL1 dX8_isPane_0 ?_
  refine g_iflt dX8_isPane_1 (fun c1 => ?_) (fun c1 => ?_)
  · refine g_iconst dX8_isPane_21 ?_
    exact e_zret rfl (by decide) dX8_isPane_22 rfl rfl (if_pos c1).symm rfl
  · refine g_iL1 dX8_isPane_4 ?_
    refine g_aL0 dX8_isPane_5 ?_
    refine g_getR lf_X8_19 (X.S.l 0 rfl) (X.S.k 0 rfl rfl) X.T dX8_isPane_6 ?_
    refine g_getR lf_X8_103 (X.S.cl X.hc 0 rfl) (X.S.ck X.hc) (X.S.cr X.hc 0 (j := 1) rfl rfl) dX8_isPane_9 ?_
    refine g_iconst dX8_isPane_12 ?_
    refine g_ialoadK (X.S.cl X.hc 1 rfl) (X.S.cka X.hc 1 rfl rfl) (X.S.cn X.hc 1 (n := 11) rfl rfl rfl) rfl (j := 1) rfl dX8_isPane_13 ?_
    rw [X.c 1 rfl]
    refine g_icge dX8_isPane_14 (fun c14 => ?_) (fun c14 => ?_)
    · refine g_iconst dX8_isPane_21 ?_
      exact e_zret rfl (by decide) dX8_isPane_22 rfl rfl ((if_neg c1).trans (if_pos c14)).symm rfl
    · refine g_iconst dX8_isPane_17 ?_
      refine g_goto dX8_isPane_18 ?_
      exact e_zret rfl (by decide) dX8_isPane_22 rfl rfl ((if_neg c1).trans (if_neg c14)).symm rfl
theorem c_isWord {h : Hp} {t : Nat} {cn : Nat → Nat} (X : CX h t cn) (p : Int32) : gCi 0 0 0 yX8_isWord cX8_isWord 2 (some .boolean) [.ref 0, .int p] h (some (.int (ipF p (nI (cn 2))))) h := by
  refine g_entry (lv := [.ref 0, .int p]) 0 pn_X8 rfl rfl rfl ?_
  refine g_iL1 dX8_isWord_0 ?_
  refine g_iflt dX8_isWord_1 (fun c1 => ?_) (fun c1 => ?_)
  · refine g_iconst dX8_isWord_21 ?_
    exact e_zret rfl (by decide) dX8_isWord_22 rfl rfl (if_pos c1).symm rfl
  · refine g_iL1 dX8_isWord_4 ?_
    refine g_aL0 dX8_isWord_5 ?_
    refine g_getR lf_X8_19 (X.S.l 0 rfl) (X.S.k 0 rfl rfl) X.T dX8_isWord_6 ?_
    refine g_getR lf_X8_103 (X.S.cl X.hc 0 rfl) (X.S.ck X.hc) (X.S.cr X.hc 0 (j := 1) rfl rfl) dX8_isWord_9 ?_
    refine g_iconst dX8_isWord_12 ?_
    refine g_ialoadK (X.S.cl X.hc 1 rfl) (X.S.cka X.hc 1 rfl rfl) (X.S.cn X.hc 1 (n := 11) rfl rfl rfl) rfl (j := 2) rfl dX8_isWord_13 ?_
    rw [X.c 2 rfl]
    refine g_icge dX8_isWord_14 (fun c14 => ?_) (fun c14 => ?_)
    · refine g_iconst dX8_isWord_21 ?_
      exact e_zret rfl (by decide) dX8_isWord_22 rfl rfl ((if_neg c1).trans (if_pos c14)).symm rfl
    · refine g_iconst dX8_isWord_17 ?_
      refine g_goto dX8_isWord_18 ?_
      exact e_zret rfl (by decide) dX8_isWord_22 rfl rfl ((if_neg c1).trans (if_neg c14)).symm rfl
theorem c_isView {h : Hp} {t : Nat} {cn : Nat → Nat} (X : CX h t cn) (p : Int32) : gCi 0 0 0 yX8_isView cX8_isView 2 (some .boolean) [.ref 0, .int p] h (some (.int (ipF p (nI (cn 3))))) h := by
  refine g_entry (lv := [.ref 0, .int p]) 0 pn_X8 rfl rfl rfl ?_
  refine g_iL1 dX8_isView_0 ?_
  refine g_iflt dX8_isView_1 (fun c1 => ?_) (fun c1 => ?_)
  · refine g_iconst dX8_isView_21 ?_
    exact e_zret rfl (by decide) dX8_isView_22 rfl rfl (if_pos c1).symm rfl
  · refine g_iL1 dX8_isView_4 ?_
    refine g_aL0 dX8_isView_5 ?_
    refine g_getR lf_X8_19 (X.S.l 0 rfl) (X.S.k 0 rfl rfl) X.T dX8_isView_6 ?_
    refine g_getR lf_X8_103 (X.S.cl X.hc 0 rfl) (X.S.ck X.hc) (X.S.cr X.hc 0 (j := 1) rfl rfl) dX8_isView_9 ?_
    refine g_iconst dX8_isView_12 ?_
    refine g_ialoadK (X.S.cl X.hc 1 rfl) (X.S.cka X.hc 1 rfl rfl) (X.S.cn X.hc 1 (n := 11) rfl rfl rfl) rfl (j := 3) rfl dX8_isView_13 ?_
    rw [X.c 3 rfl]
    refine g_icge dX8_isView_14 (fun c14 => ?_) (fun c14 => ?_)
    · refine g_iconst dX8_isView_21 ?_
      exact e_zret rfl (by decide) dX8_isView_22 rfl rfl ((if_neg c1).trans (if_pos c14)).symm rfl
    · refine g_iconst dX8_isView_17 ?_
      refine g_goto dX8_isView_18 ?_
      exact e_zret rfl (by decide) dX8_isView_22 rfl rfl ((if_neg c1).trans (if_neg c14)).symm rfl
theorem c_isCorner {h : Hp} {t : Nat} {cn : Nat → Nat} (X : CX h t cn) (p : Int32) : gCi 0 0 0 yX8_isCorner cX8_isCorner 2 (some .boolean) [.ref 0, .int p] h (some (.int (ipF p (nI (cn 4))))) h := by
  refine g_entry (lv := [.ref 0, .int p]) 0 pn_X8 rfl rfl rfl ?_
  refine g_iL1 dX8_isCorner_0 ?_
  refine g_iflt dX8_isCorner_1 (fun c1 => ?_) (fun c1 => ?_)
  · refine g_iconst dX8_isCorner_21 ?_
    exact e_zret rfl (by decide) dX8_isCorner_22 rfl rfl (if_pos c1).symm rfl
  · refine g_iL1 dX8_isCorner_4 ?_
    refine g_aL0 dX8_isCorner_5 ?_
    refine g_getR lf_X8_19 (X.S.l 0 rfl) (X.S.k 0 rfl rfl) X.T dX8_isCorner_6 ?_
    refine g_getR lf_X8_103 (X.S.cl X.hc 0 rfl) (X.S.ck X.hc) (X.S.cr X.hc 0 (j := 1) rfl rfl) dX8_isCorner_9 ?_
    refine g_iconst dX8_isCorner_12 ?_
    refine g_ialoadK (X.S.cl X.hc 1 rfl) (X.S.cka X.hc 1 rfl rfl) (X.S.cn X.hc 1 (n := 11) rfl rfl rfl) rfl (j := 4) rfl dX8_isCorner_13 ?_
    rw [X.c 4 rfl]
    refine g_icge dX8_isCorner_14 (fun c14 => ?_) (fun c14 => ?_)
    · refine g_iconst dX8_isCorner_21 ?_
      exact e_zret rfl (by decide) dX8_isCorner_22 rfl rfl ((if_neg c1).trans (if_pos c14)).symm rfl
    · refine g_iconst dX8_isCorner_17 ?_
      refine g_goto dX8_isCorner_18 ?_
      exact e_zret rfl (by decide) dX8_isCorner_22 rfl rfl ((if_neg c1).trans (if_neg c14)).symm rfl
theorem c_isLetter {h : Hp} {t : Nat} {cn : Nat → Nat} (X : CX h t cn) (p : Int32) : gCi 0 0 0 yX8_isLetter cX8_isLetter 2 (some .boolean) [.ref 0, .int p] h (some (.int (ipF p (nI (cn 7))))) h := by
  refine g_entry (lv := [.ref 0, .int p]) 0 pn_X8 rfl rfl rfl ?_
  refine g_iL1 dX8_isLetter_0 ?_
  refine g_iflt dX8_isLetter_1 (fun c1 => ?_) (fun c1 => ?_)
  · refine g_iconst dX8_isLetter_22 ?_
    exact e_zret rfl (by decide) dX8_isLetter_23 rfl rfl (if_pos c1).symm rfl
  · refine g_iL1 dX8_isLetter_4 ?_
    refine g_aL0 dX8_isLetter_5 ?_
    refine g_getR lf_X8_19 (X.S.l 0 rfl) (X.S.k 0 rfl rfl) X.T dX8_isLetter_6 ?_
    refine g_getR lf_X8_103 (X.S.cl X.hc 0 rfl) (X.S.ck X.hc) (X.S.cr X.hc 0 (j := 1) rfl rfl) dX8_isLetter_9 ?_
    refine g_bipush dX8_isLetter_12 ?_
    refine g_ialoadK (X.S.cl X.hc 1 rfl) (X.S.cka X.hc 1 rfl rfl) (X.S.cn X.hc 1 (n := 11) rfl rfl rfl) rfl (j := 7) rfl dX8_isLetter_14 ?_
    rw [X.c 7 rfl]
    refine g_icge dX8_isLetter_15 (fun c15 => ?_) (fun c15 => ?_)
    · refine g_iconst dX8_isLetter_22 ?_
      exact e_zret rfl (by decide) dX8_isLetter_23 rfl rfl ((if_neg c1).trans (if_pos c15)).symm rfl
    · refine g_iconst dX8_isLetter_18 ?_
      refine g_goto dX8_isLetter_19 ?_
      exact e_zret rfl (by decide) dX8_isLetter_23 rfl rfl ((if_neg c1).trans (if_neg c15)).symm rfl
theorem c_isCell {h : Hp} {t : Nat} {cn : Nat → Nat} (X : CX h t cn) (p : Int32) : gCi 1 0 0 yX8_isCell cX8_isCell 2 (some .boolean) [.ref 0, .int p] h (some (.int (ipF p (gI h t 1 * gI h t 2)))) h := by
  refine g_entry (lv := [.ref 0, .int p]) 0 pn_X8 rfl rfl rfl ?_
  refine g_iL1 dX8_isCell_0 ?_
  refine g_iflt dX8_isCell_1 (fun c1 => ?_) (fun c1 => ?_)
  · refine g_iconst dX8_isCell_19 ?_
    exact e_zret rfl (by decide) dX8_isCell_20 rfl rfl (if_pos c1).symm rfl
  · refine g_iL1 dX8_isCell_4 ?_
    refine g_aL0 dX8_isCell_5 ?_
    refine g_getR lf_X8_19 (X.S.l 0 rfl) (X.S.k 0 rfl rfl) X.T dX8_isCell_6 ?_
    refine e_v0i (c_cells X.S X.hc) lm_X8_319 dX8_isCell_9 (X.S.cl X.hc 0 rfl) (X.S.ck X.hc) rfl rfl rfl rfl ?_
    refine g_icge dX8_isCell_12 (fun c12 => ?_) (fun c12 => ?_)
    · refine g_iconst dX8_isCell_19 ?_
      exact e_zret rfl (by decide) dX8_isCell_20 rfl rfl ((if_neg c1).trans (if_pos c12)).symm rfl
    · refine g_iconst dX8_isCell_15 ?_
      refine g_goto dX8_isCell_16 ?_
      exact e_zret rfl (by decide) dX8_isCell_20 rfl rfl ((if_neg c1).trans (if_neg c12)).symm rfl
theorem c_isSight {h : Hp} {t : Nat} {cn : Nat → Nat} (X : CX h t cn) (v : Int32) : gCi 1 0 0 yX8_isSight cX8_isSight 2 (some .boolean) [.ref 0, .int v] h (some (.int (siF v (nI (cn 3))))) h := by
  refine g_entry (lv := [.ref 0, .int v]) 0 pn_X8 rfl rfl rfl ?_
  refine g_iL1 dX8_isSight_0 ?_
  refine g_bipush dX8_isSight_1 ?_
  refine g_iceq dX8_isSight_3 (fun c3 => ?_) (fun c3 => ?_)
  · refine g_iconst dX8_isSight_14 ?_
    refine g_goto dX8_isSight_15 ?_
    exact e_zret rfl (by decide) dX8_isSight_19 rfl rfl (if_pos c3).symm rfl
  · refine g_aL0 dX8_isSight_6 ?_
    refine g_iL1 dX8_isSight_7 ?_
    refine e_v1i (c_isView X _) lm_X8_135 dX8_isSight_8 (X.S.l 0 rfl) (X.S.k 0 rfl rfl) rfl rfl rfl rfl ?_
    refine g_ifeq dX8_isSight_11 (fun c11 => ?_) (fun c11 => ?_)
    · refine g_iconst dX8_isSight_18 ?_
      exact e_zret rfl (by decide) dX8_isSight_19 rfl rfl ((if_neg c3).trans (if_pos c11)).symm rfl
    · refine g_iconst dX8_isSight_14 ?_
      refine g_goto dX8_isSight_15 ?_
      exact e_zret rfl (by decide) dX8_isSight_19 rfl rfl ((if_neg c3).trans (if_neg c11)).symm rfl
theorem c_whyNot {h : Hp} {t : Nat} {cn : Nat → Nat} (X : CX h t cn) (p o : Int32) : gCi 1 0 0 yX8_whyNot cX8_whyNot 3 (some .int) [.ref 0, .int p, .int o] h (some (.int (wnF (ipF p (nI (cn 1))) o (thF (gI h 38 3) p)))) h := by
  refine g_entry (lv := [.ref 0, .int p, .int o]) 0 pn_X8 rfl rfl rfl ?_
  refine g_aL0 dX8_whyNot_0 ?_
  refine g_iL1 dX8_whyNot_1 ?_
  refine e_v1i (c_isPane X _) lm_X8_110 dX8_whyNot_2 (X.S.l 0 rfl) (X.S.k 0 rfl rfl) rfl rfl rfl rfl ?_
  refine g_ifeq dX8_whyNot_5 (fun c5 => ?_) (fun c5 => ?_)
  · refine g_iconst dX8_whyNot_12 ?_
    exact e_iret rfl dX8_whyNot_13 rfl rfl (if_pos c5).symm rfl
  · refine g_iL2 dX8_whyNot_8 ?_
    refine g_ifne dX8_whyNot_9 (fun c9 => ?_) (fun c9 => ?_)
    · refine g_aL0 dX8_whyNot_14 ?_
      refine g_getR lf_X8_40 (X.S.l 0 rfl) (X.S.k 0 rfl rfl) (X.S.r 0 2 (b := 38) rfl rfl) dX8_whyNot_15 ?_
      refine g_iL1 dX8_whyNot_18 ?_
      refine e_v1i (c_isBroken X.S _) lm_X8_123 dX8_whyNot_19 (X.S.l 38 rfl) (X.S.k 38 rfl rfl) rfl rfl rfl rfl ?_
      refine g_ifeq dX8_whyNot_22 (fun c22 => ?_) (fun c22 => ?_)
      · refine g_iconst dX8_whyNot_29 ?_
        exact e_iret rfl dX8_whyNot_30 rfl rfl ((if_neg c5).trans ((if_neg c9).trans (if_pos c22))).symm rfl
      · refine g_iconst dX8_whyNot_25 ?_
        refine g_goto dX8_whyNot_26 ?_
        exact e_iret rfl dX8_whyNot_30 rfl rfl ((if_neg c5).trans ((if_neg c9).trans (if_neg c22))).symm rfl
    · refine g_iconst dX8_whyNot_12 ?_
      exact e_iret rfl dX8_whyNot_13 rfl rfl ((if_neg c5).trans (if_pos c9)).symm rfl
theorem m_seen {h : Hp} {t : Nat} {cn : Nat → Nat} (X : CX h t cn) (p v : Int32) : gCi 4 0 0 yX8_seen cX8_seen 4 (some .int) [.ref 0, .int p, .int v] h (some (.int (if (wnF (ipF p (nI (cn 1))) (siF v (nI (cn 3))) (thF (gI h 38 3) p)) = 0 then seF h t (pn p) v else -1))) (pI h 0 8 (wnF (ipF p (nI (cn 1))) (siF v (nI (cn 3))) (thF (gI h 38 3) p))) := by
  refine g_entry (lv := [.ref 0, .int p, .int v, .retAddr 0]) 1 pn_X8 rfl rfl rfl ?_
  refine g_aL0 dX8_seen_0 ?_
  refine g_iL1 dX8_seen_1 ?_
  refine g_aL0 dX8_seen_2 ?_
  refine g_iL2 dX8_seen_3 ?_
  refine e_v1i (c_isSight X _) lm_X8_141 dX8_seen_4 (X.S.l 0 rfl) (X.S.k 0 rfl rfl) rfl rfl rfl rfl ?_
  refine e_v2i (c_whyNot X _ _) lm_X8_144 dX8_seen_7 (X.S.l 0 rfl) (X.S.k 0 rfl rfl) rfl rfl rfl rfl ?_
  refine g_iS3 dX8_seen_10 rfl rfl ?_
  refine g_iL3 dX8_seen_11 ?_
  refine g_ifne dX8_seen_12 (fun c12 => ?_) (fun c12 => ?_)
  · refine g_aL0 dX8_seen_31 ?_
    refine g_iL3 dX8_seen_32 ?_
    refine e_v1i (c_refuse X _) lm_X8_86 dX8_seen_33 (X.S.l 0 rfl) (X.S.k 0 rfl rfl) rfl rfl rfl rfl ?_
    exact e_iret rfl dX8_seen_36 rfl rfl (if_neg c12).symm rfl
  · obtain ⟨P, hP, rfl⟩ := ip1 (by have := X.b1; omega) (wn0 c12).1
    have hP8 : P < 8 := by have := X.b1; omega
    refine g_aL0 dX8_seen_15 ?_
    refine g_aL0 dX8_seen_16 ?_
    refine g_getR lf_X8_40 (X.S.l 0 rfl) (X.S.k 0 rfl rfl) (X.S.r 0 2 (b := 38) rfl rfl) dX8_seen_17 ?_
    refine g_iL1 dX8_seen_20 ?_
    refine g_iL2 dX8_seen_21 ?_
    refine e_v2i (c_seenBits X.S X.hc X.P hP8 _) lm_X8_148 dX8_seen_22 (X.S.l 38 rfl) (X.S.k 38 rfl rfl) rfl rfl rfl rfl ?_
    refine e_v1i (c_answer X _) lm_X8_107 dX8_seen_25 (X.S.l 0 rfl) (X.S.k 0 rfl rfl) rfl rfl rfl rfl ?_
    refine g_goto dX8_seen_28 ?_
    exact e_iret rfl dX8_seen_36 rfl rfl (by rw [if_pos c12, pn_nI (by omega)]) (by rw [c12])
theorem m_read {h : Hp} {t : Nat} {cn : Nat → Nat} (X : CX h t cn) (p v : Int32) : gCi 4 0 0 yX8_read cX8_read 4 (some .int) [.ref 0, .int p, .int v] h (some (.int (if (wnF (ipF p (nI (cn 1))) (siF v (nI (cn 3))) (thF (gI h 38 3) p)) = 0 then wrF h t (cn 2) (pn p) v else -1))) (pI h 0 8 (wnF (ipF p (nI (cn 1))) (siF v (nI (cn 3))) (thF (gI h 38 3) p))) := by
  refine g_entry (lv := [.ref 0, .int p, .int v, .retAddr 0]) 1 pn_X8 rfl rfl rfl ?_
  refine g_aL0 dX8_read_0 ?_
  refine g_iL1 dX8_read_1 ?_
  refine g_aL0 dX8_read_2 ?_
  refine g_iL2 dX8_read_3 ?_
  refine e_v1i (c_isSight X _) lm_X8_141 dX8_read_4 (X.S.l 0 rfl) (X.S.k 0 rfl rfl) rfl rfl rfl rfl ?_
  refine e_v2i (c_whyNot X _ _) lm_X8_144 dX8_read_7 (X.S.l 0 rfl) (X.S.k 0 rfl rfl) rfl rfl rfl rfl ?_
  refine g_iS3 dX8_read_10 rfl rfl ?_
  refine g_iL3 dX8_read_11 ?_
  refine g_ifne dX8_read_12 (fun c12 => ?_) (fun c12 => ?_)
  · refine g_aL0 dX8_read_31 ?_
    refine g_iL3 dX8_read_32 ?_
    refine e_v1i (c_refuse X _) lm_X8_86 dX8_read_33 (X.S.l 0 rfl) (X.S.k 0 rfl rfl) rfl rfl rfl rfl ?_
    exact e_iret rfl dX8_read_36 rfl rfl (if_neg c12).symm rfl
  · obtain ⟨P, hP, rfl⟩ := ip1 (by have := X.b1; omega) (wn0 c12).1
    have hP8 : P < 8 := by have := X.b1; omega
    refine g_aL0 dX8_read_15 ?_
    refine g_aL0 dX8_read_16 ?_
    refine g_getR lf_X8_40 (X.S.l 0 rfl) (X.S.k 0 rfl rfl) (X.S.r 0 2 (b := 38) rfl rfl) dX8_read_17 ?_
    refine g_iL1 dX8_read_20 ?_
    refine g_iL2 dX8_read_21 ?_
    refine e_v2i (c_wordRead X.S X.hc X.P (X.c 2 rfl) X.b2 hP8 _) lm_X8_152 dX8_read_22 (X.S.l 38 rfl) (X.S.k 38 rfl rfl) rfl rfl rfl rfl ?_
    refine e_v1i (c_answer X _) lm_X8_107 dX8_read_25 (X.S.l 0 rfl) (X.S.k 0 rfl rfl) rfl rfl rfl rfl ?_
    refine g_goto dX8_read_28 ?_
    exact e_iret rfl dX8_read_36 rfl rfl (by rw [if_pos c12, pn_nI (by omega)]) (by rw [c12])
theorem m_word {h : Hp} {t : Nat} {cn : Nat → Nat} (X : CX h t cn) (p : Int32) : gCi 1 0 0 yX8_word cX8_word 2 (some .int) [.ref 0, .int p] h (some (.int (if (ipF p (nI (cn 2))) = 0 then -1 else gI h (t + 4) (pn p)))) (pI h 0 8 (if (ipF p (nI (cn 2))) = 0 then 1 else 0)) := by
  refine g_entry (lv := [.ref 0, .int p]) 0 pn_X8 rfl rfl rfl ?_
  refine g_aL0 dX8_word_0 ?_
  refine g_iL1 dX8_word_1 ?_
  refine e_v1i (c_isWord X _) lm_X8_129 dX8_word_2 (X.S.l 0 rfl) (X.S.k 0 rfl rfl) rfl rfl rfl rfl ?_
  refine g_ifeq dX8_word_5 (fun c5 => ?_) (fun c5 => ?_)
  · refine g_aL0 dX8_word_24 ?_
    refine g_iconst dX8_word_25 ?_
    refine e_v1i (c_refuse X _) lm_X8_86 dX8_word_26 (X.S.l 0 rfl) (X.S.k 0 rfl rfl) rfl rfl rfl rfl ?_
    exact e_iret rfl dX8_word_29 rfl rfl (if_pos c5).symm (by rw [if_pos c5])
  · obtain ⟨P, hP, rfl⟩ := ip1 (by have := X.b2; omega) c5
    have hP8 : P < 8 := by have := X.b2; omega
    refine g_aL0 dX8_word_8 ?_
    refine g_aL0 dX8_word_9 ?_
    refine g_getR lf_X8_19 (X.S.l 0 rfl) (X.S.k 0 rfl rfl) X.T dX8_word_10 ?_
    refine g_getR lf_X8_132 (X.S.cl X.hc 0 rfl) (X.S.ck X.hc) (X.S.cr X.hc 8 (j := 4) rfl rfl) dX8_word_13 ?_
    refine g_iL1 dX8_word_16 ?_
    refine g_ialoadN (X.S.cl X.hc 4 rfl) (X.S.cka X.hc 4 rfl rfl) (X.S.cn X.hc 4 (n := 8) rfl rfl rfl) hP8 (by decide) dX8_word_17 ?_
    refine e_v1i (c_answer X _) lm_X8_107 dX8_word_18 (X.S.l 0 rfl) (X.S.k 0 rfl rfl) rfl rfl rfl rfl ?_
    refine g_goto dX8_word_21 ?_
    exact e_iret rfl dX8_word_29 rfl rfl (by rw [if_neg c5, pn_nI (by omega)]) (by rw [if_neg c5])
theorem m_view {h : Hp} {t : Nat} {cn : Nat → Nat} (X : CX h t cn) (p : Int32) : gCi 1 0 0 yX8_view cX8_view 2 (some .int) [.ref 0, .int p] h (some (.int (if (ipF p (nI (cn 3))) = 0 then -1 else gI h (t + 5) (pn p)))) (pI h 0 8 (if (ipF p (nI (cn 3))) = 0 then 1 else 0)) := by
  refine g_entry (lv := [.ref 0, .int p]) 0 pn_X8 rfl rfl rfl ?_
  refine g_aL0 dX8_view_0 ?_
  refine g_iL1 dX8_view_1 ?_
  refine e_v1i (c_isView X _) lm_X8_135 dX8_view_2 (X.S.l 0 rfl) (X.S.k 0 rfl rfl) rfl rfl rfl rfl ?_
  refine g_ifeq dX8_view_5 (fun c5 => ?_) (fun c5 => ?_)
  · refine g_aL0 dX8_view_24 ?_
    refine g_iconst dX8_view_25 ?_
    refine e_v1i (c_refuse X _) lm_X8_86 dX8_view_26 (X.S.l 0 rfl) (X.S.k 0 rfl rfl) rfl rfl rfl rfl ?_
    exact e_iret rfl dX8_view_29 rfl rfl (if_pos c5).symm (by rw [if_pos c5])
  · obtain ⟨P, hP, rfl⟩ := ip1 (by have := X.b3; omega) c5
    have hP8 : P < 6 := by have := X.b3; omega
    refine g_aL0 dX8_view_8 ?_
    refine g_aL0 dX8_view_9 ?_
    refine g_getR lf_X8_19 (X.S.l 0 rfl) (X.S.k 0 rfl rfl) X.T dX8_view_10 ?_
    refine g_getR lf_X8_138 (X.S.cl X.hc 0 rfl) (X.S.ck X.hc) (X.S.cr X.hc 9 (j := 5) rfl rfl) dX8_view_13 ?_
    refine g_iL1 dX8_view_16 ?_
    refine g_ialoadN (X.S.cl X.hc 5 rfl) (X.S.cka X.hc 5 rfl rfl) (X.S.cn X.hc 5 (n := 6) rfl rfl rfl) hP8 (by decide) dX8_view_17 ?_
    refine e_v1i (c_answer X _) lm_X8_107 dX8_view_18 (X.S.l 0 rfl) (X.S.k 0 rfl rfl) rfl rfl rfl rfl ?_
    refine g_goto dX8_view_21 ?_
    exact e_iret rfl dX8_view_29 rfl rfl (by rw [if_neg c5, pn_nI (by omega)]) (by rw [if_neg c5])
/-- why two panes can't be laid together -/
def wbt (wa wb : Int32) : Int32 := if wa = 0 then wb else wa
def neF (a b : Int32) (ip : Int32) : Int32 := if ip = 0 then 0 else if a = b then 0 else 1
theorem c_whyNotBoth {h : Hp} {t : Nat} {cn : Nat → Nat} (X : CX h t cn) (p q : Int32) : gCi 2 0 0 yX8_whyNotBoth cX8_whyNotBoth 4 (some .int) [.ref 0, .int p, .int q] h (some (.int (wbt (wnF (ipF p (nI (cn 1))) (neF p q (ipF q (nI (cn 1)))) (thF (gI h 38 3) p)) (wnF (ipF q (nI (cn 1))) 1 (thF (gI h 38 3) q))))) h := by
  refine g_entry (lv := [.ref 0, .int p, .int q, .retAddr 0]) 1 pn_X8 rfl rfl rfl ?_
  refine g_aL0 dX8_whyNotBoth_0 ?_
  refine g_iL1 dX8_whyNotBoth_1 ?_
  refine g_aL0 dX8_whyNotBoth_2 ?_
  refine g_iL2 dX8_whyNotBoth_3 ?_
  refine e_v1i (c_isPane X _) lm_X8_110 dX8_whyNotBoth_4 (X.S.l 0 rfl) (X.S.k 0 rfl rfl) rfl rfl rfl rfl ?_
  refine g_ifeq dX8_whyNotBoth_7 (fun c7 => ?_) (fun c7 => ?_)
  · refine g_iconst dX8_whyNotBoth_19 ?_
    have ef : neF p q (ipF q (nI (cn 1))) = 0 := (if_pos c7)
    have W  : gCi 1 0 0 yX8_whyNot cX8_whyNot 3 (some .int) [.ref 0, .int p, .int 0] h (some (.int (wnF (ipF p (nI (cn 1))) (neF p q (ipF q (nI (cn 1)))) (thF (gI h 38 3) p)))) h := by rw [ef]; exact c_whyNot X p _
    refine e_v2i W lm_X8_144 dX8_whyNotBoth_20 (X.S.l 0 rfl) (X.S.k 0 rfl rfl) rfl rfl rfl rfl ?_
    refine g_iS3 dX8_whyNotBoth_23 rfl rfl ?_
    refine g_iL3 dX8_whyNotBoth_24 ?_
    refine g_ifne dX8_whyNotBoth_25 (fun c25 => ?_) (fun c25 => ?_)
    · refine g_iL3 dX8_whyNotBoth_37 ?_
      exact e_iret rfl dX8_whyNotBoth_38 rfl rfl (if_neg c25).symm rfl
    · refine g_aL0 dX8_whyNotBoth_28 ?_
      refine g_iL2 dX8_whyNotBoth_29 ?_
      refine g_iconst dX8_whyNotBoth_30 ?_
      refine e_v2i (c_whyNot X _ _) lm_X8_144 dX8_whyNotBoth_31 (X.S.l 0 rfl) (X.S.k 0 rfl rfl) rfl rfl rfl rfl ?_
      refine g_goto dX8_whyNotBoth_34 ?_
      exact e_iret rfl dX8_whyNotBoth_38 rfl rfl (if_pos c25).symm rfl
  · refine g_iL1 dX8_whyNotBoth_10 ?_
    refine g_iL2 dX8_whyNotBoth_11 ?_
    refine g_iceq dX8_whyNotBoth_12 (fun c12 => ?_) (fun c12 => ?_)
    · refine g_iconst dX8_whyNotBoth_19 ?_
      have ef : neF p q (ipF q (nI (cn 1))) = 0 := ((if_neg c7).trans (if_pos c12))
      have W  : gCi 1 0 0 yX8_whyNot cX8_whyNot 3 (some .int) [.ref 0, .int p, .int 0] h (some (.int (wnF (ipF p (nI (cn 1))) (neF p q (ipF q (nI (cn 1)))) (thF (gI h 38 3) p)))) h := by rw [ef]; exact c_whyNot X p _
      refine e_v2i W lm_X8_144 dX8_whyNotBoth_20 (X.S.l 0 rfl) (X.S.k 0 rfl rfl) rfl rfl rfl rfl ?_
      refine g_iS3 dX8_whyNotBoth_23 rfl rfl ?_
      refine g_iL3 dX8_whyNotBoth_24 ?_
      refine g_ifne dX8_whyNotBoth_25 (fun c25 => ?_) (fun c25 => ?_)
      · refine g_iL3 dX8_whyNotBoth_37 ?_
        exact e_iret rfl dX8_whyNotBoth_38 rfl rfl (if_neg c25).symm rfl
      · refine g_aL0 dX8_whyNotBoth_28 ?_
        refine g_iL2 dX8_whyNotBoth_29 ?_
        refine g_iconst dX8_whyNotBoth_30 ?_
        refine e_v2i (c_whyNot X _ _) lm_X8_144 dX8_whyNotBoth_31 (X.S.l 0 rfl) (X.S.k 0 rfl rfl) rfl rfl rfl rfl ?_
        refine g_goto dX8_whyNotBoth_34 ?_
        exact e_iret rfl dX8_whyNotBoth_38 rfl rfl (if_pos c25).symm rfl
    · refine g_iconst dX8_whyNotBoth_15 ?_
      refine g_goto dX8_whyNotBoth_16 ?_
      have ef : neF p q (ipF q (nI (cn 1))) = 1 := ((if_neg c7).trans (if_neg c12))
      have W  : gCi 1 0 0 yX8_whyNot cX8_whyNot 3 (some .int) [.ref 0, .int p, .int 1] h (some (.int (wnF (ipF p (nI (cn 1))) (neF p q (ipF q (nI (cn 1)))) (thF (gI h 38 3) p)))) h := by rw [ef]; exact c_whyNot X p _
      refine e_v2i W lm_X8_144 dX8_whyNotBoth_20 (X.S.l 0 rfl) (X.S.k 0 rfl rfl) rfl rfl rfl rfl ?_
      refine g_iS3 dX8_whyNotBoth_23 rfl rfl ?_
      refine g_iL3 dX8_whyNotBoth_24 ?_
      refine g_ifne dX8_whyNotBoth_25 (fun c25 => ?_) (fun c25 => ?_)
      · refine g_iL3 dX8_whyNotBoth_37 ?_
        exact e_iret rfl dX8_whyNotBoth_38 rfl rfl (if_neg c25).symm rfl
      · refine g_aL0 dX8_whyNotBoth_28 ?_
        refine g_iL2 dX8_whyNotBoth_29 ?_
        refine g_iconst dX8_whyNotBoth_30 ?_
        refine e_v2i (c_whyNot X _ _) lm_X8_144 dX8_whyNotBoth_31 (X.S.l 0 rfl) (X.S.k 0 rfl rfl) rfl rfl rfl rfl ?_
        refine g_goto dX8_whyNotBoth_34 ?_
        exact e_iret rfl dX8_whyNotBoth_38 rfl rfl (if_pos c25).symm rfl
theorem wb0 {ia ib o br bq : Int32} (h : wbt (wnF ia o br) (wnF ib 1 bq) = 0) : ¬ ia = 0 ∧ ¬ ib = 0 := by
  unfold wbt at h
  split at h
  · rename_i z; exact ⟨(wn0 z).1, (wn0 h).1⟩
  · rename_i z; exact absurd h z
theorem m_together {h : Hp} {t : Nat} {cn : Nat → Nat} (X : CX h t cn) (p q : Int32) : gCi 3 0 0 yX8_together cX8_together 4 (some .int) [.ref 0, .int p, .int q] h (some (.int (if (wbt (wnF (ipF p (nI (cn 1))) (neF p q (ipF q (nI (cn 1)))) (thF (gI h 38 3) p)) (wnF (ipF q (nI (cn 1))) 1 (thF (gI h 38 3) q))) = 0 then ltF h t (pn p) (pn q) else -1))) (pI h 0 8 (wbt (wnF (ipF p (nI (cn 1))) (neF p q (ipF q (nI (cn 1)))) (thF (gI h 38 3) p)) (wnF (ipF q (nI (cn 1))) 1 (thF (gI h 38 3) q)))) := by
  refine g_entry (lv := [.ref 0, .int p, .int q, .retAddr 0]) 1 pn_X8 rfl rfl rfl ?_
  refine g_aL0 dX8_together_0 ?_
  refine g_iL1 dX8_together_1 ?_
  refine g_iL2 dX8_together_2 ?_
  refine e_v2i (c_whyNotBoth X _ _) lm_X8_155 dX8_together_3 (X.S.l 0 rfl) (X.S.k 0 rfl rfl) rfl rfl rfl rfl ?_
  refine g_iS3 dX8_together_6 rfl rfl ?_
  refine g_iL3 dX8_together_7 ?_
  refine g_ifne dX8_together_8 (fun c8 => ?_) (fun c8 => ?_)
  · refine g_aL0 dX8_together_27 ?_
    refine g_iL3 dX8_together_28 ?_
    refine e_v1i (c_refuse X _) lm_X8_86 dX8_together_29 (X.S.l 0 rfl) (X.S.k 0 rfl rfl) rfl rfl rfl rfl ?_
    exact e_iret rfl dX8_together_32 rfl rfl (if_neg c8).symm rfl
  · obtain ⟨P, hP, rfl⟩ := ip1 (by have := X.b1; omega) (wb0 c8).1
    obtain ⟨Q, hQ, rfl⟩ := ip1 (by have := X.b1; omega) (wb0 c8).2
    have hP8 : P < 8 := by have := X.b1; omega
    have hQ8 : Q < 8 := by have := X.b1; omega
    refine g_aL0 dX8_together_11 ?_
    refine g_aL0 dX8_together_12 ?_
    refine g_getR lf_X8_40 (X.S.l 0 rfl) (X.S.k 0 rfl rfl) (X.S.r 0 2 (b := 38) rfl rfl) dX8_together_13 ?_
    refine g_iL1 dX8_together_16 ?_
    refine g_iL2 dX8_together_17 ?_
    refine e_v2i (c_laidTogether X.S X.hc X.P hP8 hQ8) lm_X8_158 dX8_together_18 (X.S.l 38 rfl) (X.S.k 38 rfl rfl) rfl rfl rfl rfl ?_
    refine e_v1i (c_answer X _) lm_X8_107 dX8_together_21 (X.S.l 0 rfl) (X.S.k 0 rfl rfl) rfl rfl rfl rfl ?_
    refine g_goto dX8_together_24 ?_
    exact e_iret rfl dX8_together_32 rfl rfl (by rw [if_pos c8, pn_nI (by omega), pn_nI (by omega)]) (by rw [c8])
theorem m_readTogether {h : Hp} {t : Nat} {cn : Nat → Nat} (X : CX h t cn) (p q : Int32) : gCi 3 0 0 yX8_readTogether cX8_readTogether 4 (some .int) [.ref 0, .int p, .int q] h (some (.int (if (wbt (wnF (ipF p (nI (cn 1))) (neF p q (ipF q (nI (cn 1)))) (thF (gI h 38 3) p)) (wnF (ipF q (nI (cn 1))) 1 (thF (gI h 38 3) q))) = 0 then fwF (gI h (t + 4)) (ltF h t (pn p) (pn q)) (cn 2) 0 else -1))) (pI h 0 8 (wbt (wnF (ipF p (nI (cn 1))) (neF p q (ipF q (nI (cn 1)))) (thF (gI h 38 3) p)) (wnF (ipF q (nI (cn 1))) 1 (thF (gI h 38 3) q)))) := by
  refine g_entry (lv := [.ref 0, .int p, .int q, .retAddr 0]) 1 pn_X8 rfl rfl rfl ?_
  refine g_aL0 dX8_readTogether_0 ?_
  refine g_iL1 dX8_readTogether_1 ?_
  refine g_iL2 dX8_readTogether_2 ?_
  refine e_v2i (c_whyNotBoth X _ _) lm_X8_155 dX8_readTogether_3 (X.S.l 0 rfl) (X.S.k 0 rfl rfl) rfl rfl rfl rfl ?_
  refine g_iS3 dX8_readTogether_6 rfl rfl ?_
  refine g_iL3 dX8_readTogether_7 ?_
  refine g_ifne dX8_readTogether_8 (fun c8 => ?_) (fun c8 => ?_)
  · refine g_aL0 dX8_readTogether_34 ?_
    refine g_iL3 dX8_readTogether_35 ?_
    refine e_v1i (c_refuse X _) lm_X8_86 dX8_readTogether_36 (X.S.l 0 rfl) (X.S.k 0 rfl rfl) rfl rfl rfl rfl ?_
    exact e_iret rfl dX8_readTogether_39 rfl rfl (if_neg c8).symm rfl
  · obtain ⟨P, hP, rfl⟩ := ip1 (by have := X.b1; omega) (wb0 c8).1
    obtain ⟨Q, hQ, rfl⟩ := ip1 (by have := X.b1; omega) (wb0 c8).2
    have hP8 : P < 8 := by have := X.b1; omega
    have hQ8 : Q < 8 := by have := X.b1; omega
    refine g_aL0 dX8_readTogether_11 ?_
    refine g_aL0 dX8_readTogether_12 ?_
    refine g_getR lf_X8_19 (X.S.l 0 rfl) (X.S.k 0 rfl rfl) X.T dX8_readTogether_13 ?_
    refine g_aL0 dX8_readTogether_16 ?_
    refine g_getR lf_X8_40 (X.S.l 0 rfl) (X.S.k 0 rfl rfl) (X.S.r 0 2 (b := 38) rfl rfl) dX8_readTogether_17 ?_
    refine g_iL1 dX8_readTogether_20 ?_
    refine g_iL2 dX8_readTogether_21 ?_
    refine e_v2i (c_laidTogether X.S X.hc X.P hP8 hQ8) lm_X8_158 dX8_readTogether_22 (X.S.l 38 rfl) (X.S.k 38 rfl rfl) rfl rfl rfl rfl ?_
    refine e_v1i (c_firstWord X.S X.hc (X.c 2 rfl) X.b2 _) lm_X8_161 dX8_readTogether_25 (X.S.cl X.hc 0 rfl) (X.S.ck X.hc) rfl rfl rfl rfl ?_
    refine e_v1i (c_answer X _) lm_X8_107 dX8_readTogether_28 (X.S.l 0 rfl) (X.S.k 0 rfl rfl) rfl rfl rfl rfl ?_
    refine g_goto dX8_readTogether_31 ?_
    exact e_iret rfl dX8_readTogether_39 rfl rfl (by rw [if_pos c8, pn_nI (by omega), pn_nI (by omega)]) (by rw [c8])
def vfF (wr : Nat → Int32) (wd : Int32) : Nat → Nat → Int32 → Int32
  | 0, _, b => b
  | n + 1, i, b => if wr i = wd then vfF wr wd n (i + 1) (b ||| ((1 : Int32) <<< (nI i &&& 31))) else vfF wr wd n (i + 1) b
theorem m_viewsFor {h : Hp} {t : Nat} {cn : Nat → Nat} (X : CX h t cn) (p wd : Int32) : gCi 4 0 0 yX8_viewsFor cX8_viewsFor 6 (some .int) [.ref 0, .int p, .int wd] h (some (.int (if (wnF (ipF p (nI (cn 1))) (ipF wd (nI (cn 2))) (thF (gI h 38 3) p)) = 0 then vfF (fun i => wrF h t (cn 2) (pn p) (nI i)) wd (cn 3) 0 0 else -1))) (pI h 0 8 (wnF (ipF p (nI (cn 1))) (ipF wd (nI (cn 2))) (thF (gI h 38 3) p))) := by
  refine g_entry (lv := [.ref 0, .int p, .int wd, .retAddr 0, .retAddr 0, .retAddr 0]) 3 pn_X8 rfl rfl rfl ?_
  refine g_aL0 dX8_viewsFor_0 ?_
  refine g_iL1 dX8_viewsFor_1 ?_
  refine g_aL0 dX8_viewsFor_2 ?_
  refine g_iL2 dX8_viewsFor_3 ?_
  refine e_v1i (c_isWord X _) lm_X8_129 dX8_viewsFor_4 (X.S.l 0 rfl) (X.S.k 0 rfl rfl) rfl rfl rfl rfl ?_
  refine e_v2i (c_whyNot X _ _) lm_X8_144 dX8_viewsFor_7 (X.S.l 0 rfl) (X.S.k 0 rfl rfl) rfl rfl rfl rfl ?_
  refine g_iS3 dX8_viewsFor_10 rfl rfl ?_
  refine g_iL3 dX8_viewsFor_11 ?_
  refine g_ifeq dX8_viewsFor_12 (fun c12 => ?_) (fun c12 => ?_)
  · obtain ⟨P, hP, rfl⟩ := ip1 (by have := X.b1; omega) (wn0 c12).1
    have hP8 : P < 8 := by have := X.b1; omega
    have loop : ∀ (n i : Nat) (b : Int32), i + n = cn 3 → vfF (fun i => wrF h t (cn 2) P (nI i)) wd (cn 3) 0 0 = vfF (fun i => wrF h t (cn 2) P (nI i)) wd n i b → gY 4 0 0 yX8_viewsFor cX8_viewsFor 6 (some .int) 0 0 (fun v' h' => v' = (some (.int (if (wnF (ipF (nI P) (nI (cn 1))) (ipF wd (nI (cn 2))) (thF (gI h 38 3) (nI P))) = 0 then vfF (fun i => wrF h t (cn 2) (pn (nI P)) (nI i)) wd (cn 3) 0 0 else -1))) ∧ h' = (pI h 0 8 (wnF (ipF (nI P) (nI (cn 1))) (ipF wd (nI (cn 2))) (thF (gI h 38 3) (nI P))))) 27 [.ref 0, .int (nI P), .int wd, .int (wnF (ipF (nI P) (nI (cn 1))) (ipF wd (nI (cn 2))) (thF (gI h 38 3) (nI P))), .int b, .int (nI i)] [] h := by
      intro n
      induction n with
      | zero =>
        intro i b hi he 
        refine g_iL5 dX8_viewsFor_27 ?_
        refine g_aL0 dX8_viewsFor_29 ?_
        refine g_getR lf_X8_19 (X.S.l 0 rfl) (X.S.k 0 rfl rfl) X.T dX8_viewsFor_30 ?_
        refine g_getR lf_X8_103 (X.S.cl X.hc 0 rfl) (X.S.ck X.hc) (X.S.cr X.hc 0 (j := 1) rfl rfl) dX8_viewsFor_33 ?_
        refine g_iconst dX8_viewsFor_36 ?_
        refine g_ialoadK (X.S.cl X.hc 1 rfl) (X.S.cka X.hc 1 rfl rfl) (X.S.cn X.hc 1 (n := 11) rfl rfl rfl) rfl (j := 3) rfl dX8_viewsFor_37 ?_
        rw [X.c 3 rfl]
        refine g_icge dX8_viewsFor_38 (fun c38 => ?_) (fun c38 => absurd (nI_le (by omega) (by have := X.b3; omega)) c38)
        refine g_aL0 dX8_viewsFor_70 ?_
        refine g_iL4 dX8_viewsFor_71 ?_
        refine e_v1i (c_answer X _) lm_X8_107 dX8_viewsFor_73 (X.S.l 0 rfl) (X.S.k 0 rfl rfl) rfl rfl rfl rfl ?_
        exact e_iret rfl dX8_viewsFor_76 rfl rfl (by rw [if_pos c12, pn_nI (by omega)]; exact he.symm) (by rw [c12])
      | succ n ih =>
        intro i b hi he 
        refine g_iL5 dX8_viewsFor_27 ?_
        refine g_aL0 dX8_viewsFor_29 ?_
        refine g_getR lf_X8_19 (X.S.l 0 rfl) (X.S.k 0 rfl rfl) X.T dX8_viewsFor_30 ?_
        refine g_getR lf_X8_103 (X.S.cl X.hc 0 rfl) (X.S.ck X.hc) (X.S.cr X.hc 0 (j := 1) rfl rfl) dX8_viewsFor_33 ?_
        refine g_iconst dX8_viewsFor_36 ?_
        refine g_ialoadK (X.S.cl X.hc 1 rfl) (X.S.cka X.hc 1 rfl rfl) (X.S.cn X.hc 1 (n := 11) rfl rfl rfl) rfl (j := 3) rfl dX8_viewsFor_37 ?_
        rw [X.c 3 rfl]
        refine g_icge dX8_viewsFor_38 (fun c38 => absurd c38 (nI_ge (by omega) (by have := X.b3; omega))) (fun c38 => ?_)
        refine g_aL0 dX8_viewsFor_41 ?_
        refine g_getR lf_X8_40 (X.S.l 0 rfl) (X.S.k 0 rfl rfl) (X.S.r 0 2 (b := 38) rfl rfl) dX8_viewsFor_42 ?_
        refine g_iL1 dX8_viewsFor_45 ?_
        refine g_iL5 dX8_viewsFor_46 ?_
        refine e_v2i (c_wordRead X.S X.hc X.P (X.c 2 rfl) X.b2 hP8 _) lm_X8_152 dX8_viewsFor_48 (X.S.l 38 rfl) (X.S.k 38 rfl rfl) rfl rfl rfl rfl ?_
        refine g_iL2 dX8_viewsFor_51 ?_
        refine g_icne dX8_viewsFor_52 (fun c52 => ?_) (fun c52 => ?_)
        · refine g_ii5 dX8_viewsFor_64 rfl rfl ?_
          refine g_goto dX8_viewsFor_67 ?_
          rw [nI_1]
          exact ih (i + 1) _ (by omega) (he.trans (if_neg c52)) 
        · refine g_iL4 dX8_viewsFor_55 ?_
          refine g_iconst dX8_viewsFor_57 ?_
          refine g_iL5 dX8_viewsFor_58 ?_
          refine g_ishl dX8_viewsFor_60 ?_
          refine g_ior dX8_viewsFor_61 ?_
          refine g_iS4 dX8_viewsFor_62 rfl rfl ?_
          refine g_ii5 dX8_viewsFor_64 rfl rfl ?_
          refine g_goto dX8_viewsFor_67 ?_
          rw [nI_1]
          exact ih (i + 1) _ (by omega) (he.trans (if_pos c52)) 
    refine g_iconst dX8_viewsFor_21 ?_
    refine g_iS4 dX8_viewsFor_22 rfl rfl ?_
    refine g_iconst dX8_viewsFor_24 ?_
    refine g_iS5 dX8_viewsFor_25 rfl rfl ?_
    exact loop (cn 3) 0 _ (by omega) rfl
  · refine g_aL0 dX8_viewsFor_15 ?_
    refine g_iL3 dX8_viewsFor_16 ?_
    refine e_v1i (c_refuse X _) lm_X8_86 dX8_viewsFor_17 (X.S.l 0 rfl) (X.S.k 0 rfl rfl) rfl rfl rfl rfl ?_
    exact e_iret rfl dX8_viewsFor_20 rfl rfl (if_neg c12).symm rfl
theorem m_pairFor {h : Hp} {t : Nat} {cn : Nat → Nat} (X : CX h t cn) (p : Int32) : gCi 4 0 0 yX8_pairFor cX8_pairFor 2 (some .int) [.ref 0, .int p] h (some (.int (if (ipF p (nI (cn 2))) = 0 then -1 else fpO (fun p => thF (gI h 38 3) (nI p)) (ltF h t) (gI h (t + 4) (pn p)) (cn 1) (cn 1) 0))) (pI h 0 8 (if (ipF p (nI (cn 2))) = 0 then 1 else 0)) := by
  refine g_entry (lv := [.ref 0, .int p]) 0 pn_X8 rfl rfl rfl ?_
  refine g_aL0 dX8_pairFor_0 ?_
  refine g_iL1 dX8_pairFor_1 ?_
  refine e_v1i (c_isWord X _) lm_X8_129 dX8_pairFor_2 (X.S.l 0 rfl) (X.S.k 0 rfl rfl) rfl rfl rfl rfl ?_
  refine g_ifeq dX8_pairFor_5 (fun c5 => ?_) (fun c5 => ?_)
  · refine g_aL0 dX8_pairFor_31 ?_
    refine g_iconst dX8_pairFor_32 ?_
    refine e_v1i (c_refuse X _) lm_X8_86 dX8_pairFor_33 (X.S.l 0 rfl) (X.S.k 0 rfl rfl) rfl rfl rfl rfl ?_
    exact e_iret rfl dX8_pairFor_36 rfl rfl (if_pos c5).symm (by rw [if_pos c5])
  · obtain ⟨P, hP, rfl⟩ := ip1 (by have := X.b2; omega) c5
    have hP8 : P < 8 := by have := X.b2; omega
    refine g_aL0 dX8_pairFor_8 ?_
    refine g_aL0 dX8_pairFor_9 ?_
    refine g_getR lf_X8_40 (X.S.l 0 rfl) (X.S.k 0 rfl rfl) (X.S.r 0 2 (b := 38) rfl rfl) dX8_pairFor_10 ?_
    refine g_aL0 dX8_pairFor_13 ?_
    refine g_getR lf_X8_19 (X.S.l 0 rfl) (X.S.k 0 rfl rfl) X.T dX8_pairFor_14 ?_
    refine g_getR lf_X8_132 (X.S.cl X.hc 0 rfl) (X.S.ck X.hc) (X.S.cr X.hc 8 (j := 4) rfl rfl) dX8_pairFor_17 ?_
    refine g_iL1 dX8_pairFor_20 ?_
    refine g_ialoadN (X.S.cl X.hc 4 rfl) (X.S.cka X.hc 4 rfl rfl) (X.S.cn X.hc 4 (n := 8) rfl rfl rfl) hP8 (by decide) dX8_pairFor_21 ?_
    refine e_v1i (c_firstPair X.S X.hc X.P (X.c 1 rfl) X.b1 _) lm_X8_164 dX8_pairFor_22 (X.S.l 38 rfl) (X.S.k 38 rfl rfl) rfl rfl rfl rfl ?_
    refine e_v1i (c_answer X _) lm_X8_107 dX8_pairFor_25 (X.S.l 0 rfl) (X.S.k 0 rfl rfl) rfl rfl rfl rfl ?_
    refine g_goto dX8_pairFor_28 ?_
    exact e_iret rfl dX8_pairFor_36 rfl rfl (by rw [if_neg c5, pn_nI (by omega)]) (by rw [if_neg c5])
theorem m_fault {h : Hp} {t : Nat} {cn : Nat → Nat} (X : CX h t cn) : gCi 0 0 0 yX8_fault cX8_fault 1 (some .int) [.ref 0] h (some (.int (gI h 0 9))) h := by
  refine g_entry (lv := [.ref 0]) 0 pn_X8 rfl rfl rfl ?_
  refine g_aL0 dX8_fault_0 ?_
  refine g_gI lf_X8_69 (X.S.l 0 rfl) (X.S.k 0 rfl rfl) dX8_fault_1 ?_
  exact e_iret rfl dX8_fault_4 rfl rfl rfl rfl
theorem m_where {h : Hp} {t : Nat} {cn : Nat → Nat} (X : CX h t cn) : gCi 0 0 0 yX8_where cX8_where 1 (some .int) [.ref 0] h (some (.int (if gI h 0 8 = 4 then gI h 0 10 else -1))) h := by
  refine g_entry (lv := [.ref 0]) 0 pn_X8 rfl rfl rfl ?_
  refine g_aL0 dX8_where_0 ?_
  refine g_gI lf_X8_65 (X.S.l 0 rfl) (X.S.k 0 rfl rfl) dX8_where_1 ?_
  refine g_iconst dX8_where_4 ?_
  refine g_icne dX8_where_5 (fun c5 => ?_) (fun c5 => ?_)
  · refine g_iconst dX8_where_15 ?_
    exact e_iret rfl dX8_where_16 rfl rfl (if_neg c5).symm rfl
  · refine g_aL0 dX8_where_8 ?_
    refine g_gI lf_X8_72 (X.S.l 0 rfl) (X.S.k 0 rfl rfl) dX8_where_9 ?_
    refine g_goto dX8_where_12 ?_
    exact e_iret rfl dX8_where_16 rfl rfl (if_pos c5).symm rfl
theorem m_trouble {h : Hp} {t : Nat} {cn : Nat → Nat} (X : CX h t cn) : gCi 0 0 0 yX8_trouble cX8_trouble 1 (some .int) [.ref 0] h (some (.int (gI h 0 8))) h := by
  refine g_entry (lv := [.ref 0]) 0 pn_X8 rfl rfl rfl ?_
  refine g_aL0 dX8_trouble_0 ?_
  refine g_gI lf_X8_65 (X.S.l 0 rfl) (X.S.k 0 rfl rfl) dX8_trouble_1 ?_
  exact e_iret rfl dX8_trouble_4 rfl rfl rfl rfl

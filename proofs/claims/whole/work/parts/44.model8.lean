/-! THE REFERENCE: acts: it remembers, scratches, covers, breaks; led -/
def shL : Nat → Nat → Hp → Hp
  | 0, _, h => h
  | n + 1, i, h => shL n (i + 1) (pI h 53 i (gI h 53 (i + 17)))
def rmL (A : Nat) : Nat → Nat → Hp → Hp
  | 0, _, h => h
  | n + 1, i, h => rmL A n (i + 1) (pI h 53 (17 * A + i) (gI h 52 i))
theorem shL_S : ∀ (n i : Nat) (h : Hp), SX h → SX (shL n i h)
  | 0, _, _, S => S
  | n + 1, i, h, S => shL_S n (i + 1) (pI h 53 i (gI h 53 (i + 17))) S
theorem rmL_S (A : Nat) : ∀ (n i : Nat) (h : Hp), SX h → SX (rmL A n i h)
  | 0, _, _, S => S
  | n + 1, i, h, S => rmL_S A n (i + 1) (pI h 53 (17 * A + i) (gI h 52 i)) S
theorem shL_I : ∀ (n i : Nat) (h : Hp) (b j : Nat), b ≠ 53 → gI (shL n i h) b j = gI h b j
  | 0, _, _, _, _, _ => rfl
  | n + 1, i, h, b, j, hb => (shL_I n (i + 1) _ b j hb).trans (gIq hb)
theorem rmL_I (A : Nat) : ∀ (n i : Nat) (h : Hp) (b j : Nat), b ≠ 53 → gI (rmL A n i h) b j = gI h b j
  | 0, _, _, _, _, _ => rfl
  | n + 1, i, h, b, j, hb => (rmL_I A n (i + 1) _ b j hb).trans (gIq hb)
theorem rmL_R (A : Nat) : ∀ (n i : Nat) (h : Hp), gR (rmL A n i h) = gR h
  | 0, _, _ => rfl
  | n + 1, i, h => rmL_R A n (i + 1) (pI h 53 (17 * A + i) (gI h 52 i))
theorem shL_R : ∀ (n i : Nat) (h : Hp), gR (shL n i h) = gR h
  | 0, _, _ => rfl
  | n + 1, i, h => shL_R n (i + 1) (pI h 53 i (gI h 53 (i + 17)))
/-- the state is remembered as act A -/
def reH (k : Nat) (h : Hp) (A : Nat) : Hp := pI (rmL A k 0 h) 50 23 (nI (A + 1))
theorem g_rem {h : Hp} (S : SX h) {A : Nat} (hA : gI h 50 23 = nI A) (hA16 : A < 16) (v1 : Value) : gY 0 0 0 yX10_remembers cX10_remembers 2 none 0 0 (fun v' h' => v' = none ∧ h' = (reH 17 h A)) 49 [.ref 50, v1] [] h := by
  have loop : ∀ (n i : Nat) (hh : Hp), i + n = 17 → rmL A 17 0 h = rmL A n i hh → SX hh → gI hh 50 23 = nI A → gY 0 0 0 yX10_remembers cX10_remembers 2 none 0 0 (fun v' h' => v' = none ∧ h' = (reH 17 h A)) 51 [.ref 50, .int (nI i)] [] hh := by
    intro n
    induction n with
    | zero =>
      intro i hh hi he S1 m1
      refine g_iL1 dX10_remembers_51 ?_
      refine g_bipush dX10_remembers_52 ?_
      rw [show (17 : Int32) = nI 17 from rfl]
      refine g_icge dX10_remembers_54 (fun c54 => ?_) (fun c54 => absurd (nI_le (by omega) (by omega)) c54)
      refine g_aL0 dX10_remembers_83 ?_
      refine g_dup dX10_remembers_84 rfl ?_
      refine g_gI lf_X10_361 (S1.l 50 rfl) (S1.k 50 rfl rfl) dX10_remembers_85 ?_
      rw [m1]
      refine g_iconst dX10_remembers_88 ?_
      refine g_iadd dX10_remembers_89 ?_
      rw [nI_1]
      refine g_pI0 lf_X10_361 (S1.l 50 rfl) (S1.k 50 rfl rfl) dX10_remembers_90 ?_
      exact e_vret rfl dX10_remembers_93 rfl rfl (by unfold reH; rw [he]; rfl)
    | succ n ih =>
      intro i hh hi he S1 m1
      refine g_iL1 dX10_remembers_51 ?_
      refine g_bipush dX10_remembers_52 ?_
      rw [show (17 : Int32) = nI 17 from rfl]
      refine g_icge dX10_remembers_54 (fun c54 => absurd c54 (nI_ge (by omega) (by omega))) (fun c54 => ?_)
      refine g_aL0 dX10_remembers_57 ?_
      refine g_getR lf_X10_21 (S1.l 50 rfl) (S1.k 50 rfl rfl) (S1.r 50 21 (b := 53) rfl rfl) dX10_remembers_58 ?_
      refine g_bipush dX10_remembers_61 ?_
      refine g_aL0 dX10_remembers_63 ?_
      refine g_gI lf_X10_361 (S1.l 50 rfl) (S1.k 50 rfl rfl) dX10_remembers_64 ?_
      refine g_imul dX10_remembers_67 ?_
      refine g_iL1 dX10_remembers_68 ?_
      refine g_iadd dX10_remembers_69 ?_
      rw [m1, show (17 : Int32) = nI 17 from rfl, pk_mul, nI_add]
      refine g_aL0 dX10_remembers_70 ?_
      refine g_getR lf_X10_17 (S1.l 50 rfl) (S1.k 50 rfl rfl) (S1.r 50 20 (b := 52) rfl rfl) dX10_remembers_71 ?_
      refine g_iL1 dX10_remembers_74 ?_
      refine g_ialoadN (S1.l 52 rfl) (S1.k 52 rfl rfl) (S1.n 52 (n := 17) rfl rfl) (show i < 17 from by omega) (by decide) dX10_remembers_75 ?_
      refine g_iastoreN (S1.l 53 rfl) (S1.k 53 rfl rfl) (S1.n 53 (n := 272) rfl rfl) (show 17 * A + i < 272 from by omega) (by decide) dX10_remembers_76 ?_
      refine g_ii1 dX10_remembers_77 rfl rfl ?_
      refine g_goto dX10_remembers_80 ?_
      rw [nI_1]
      exact ih (i + 1) _ (by omega) he S1 ((gIq (by decide)).trans m1)
  refine g_iconst dX10_remembers_49 ?_
  refine g_iS1 dX10_remembers_50 rfl rfl ?_
  exact loop 17 0 _ (by omega) rfl S hA
theorem d_remembers1 {h : Hp} (S : SX h) {A : Nat} (hA : gI h 50 23 = nI A) (hA16 : A < 16) : gCi 0 0 0 yX10_remembers cX10_remembers 2 none [.ref 50] h none (reH 17 h A) := by
  refine g_entry (lv := [.ref 50, .retAddr 0]) 1 pn_X10 rfl rfl rfl ?_
  refine g_aL0 dX10_remembers_0 ?_
  refine g_gI lf_X10_361 (S.l 50 rfl) (S.k 50 rfl rfl) dX10_remembers_1 ?_
  refine g_bipush dX10_remembers_4 ?_
  rw [hA]
  refine g_icne dX10_remembers_6 (fun c6 => ?_) (fun c6 => absurd c6 (show ¬ nI A = nI 16 from nI_neq (by omega) (by omega) (by omega)))
  exact g_rem S hA hA16 _
theorem d_remembers2 {h hs : Hp} (S : SX h) (hA : gI h 50 23 = nI 16) (es : shL 255 0 h = hs) : gCi 0 0 0 yX10_remembers cX10_remembers 2 none [.ref 50] h none (reH 17 (pI hs 50 23 (nI 15)) 15) := by
  refine g_entry (lv := [.ref 50, .retAddr 0]) 1 pn_X10 rfl rfl rfl ?_
  refine g_aL0 dX10_remembers_0 ?_
  refine g_gI lf_X10_361 (S.l 50 rfl) (S.k 50 rfl rfl) dX10_remembers_1 ?_
  refine g_bipush dX10_remembers_4 ?_
  rw [hA]
  refine g_icne dX10_remembers_6 (fun c6 => absurd rfl c6) (fun c6 => ?_)
  refine g_iconst dX10_remembers_9 ?_
  refine g_iS1 dX10_remembers_10 rfl rfl ?_
  have loop : ∀ (n i : Nat) (hh : Hp), i + n = 255 → hs = shL n i hh → SX hh → gI hh 50 23 = nI 16 → gY 0 0 0 yX10_remembers cX10_remembers 2 none 0 0 (fun v' h' => v' = none ∧ h' = (reH 17 (pI hs 50 23 (nI 15)) 15)) 11 [.ref 50, .int (nI i)] [] hh := by
    intro n
    induction n with
    | zero =>
      intro i hh hi he S1 m1
      refine g_iL1 dX10_remembers_11 ?_
      refine g_sipush dX10_remembers_12 ?_
      rw [show (255 : Int32) = nI 255 from rfl]
      refine g_icge dX10_remembers_15 (fun c15 => ?_) (fun c15 => absurd (nI_le (by omega) (by omega)) c15)
      refine g_aL0 dX10_remembers_39 ?_
      refine g_dup dX10_remembers_40 rfl ?_
      refine g_gI lf_X10_361 (S1.l 50 rfl) (S1.k 50 rfl rfl) dX10_remembers_41 ?_
      rw [m1]
      refine g_iconst dX10_remembers_44 ?_
      refine g_isub dX10_remembers_45 ?_
      rw [show nI 16 - 1 = nI 15 from rfl]
      refine g_pI0 lf_X10_361 (S1.l 50 rfl) (S1.k 50 rfl rfl) dX10_remembers_46 ?_
      rw [show hs = hh from he]
      exact g_rem (h := pI hh 50 23 (nI 15)) S1 (gIs _ _ _ _) (by decide) _
    | succ n ih =>
      intro i hh hi he S1 m1
      refine g_iL1 dX10_remembers_11 ?_
      refine g_sipush dX10_remembers_12 ?_
      rw [show (255 : Int32) = nI 255 from rfl]
      refine g_icge dX10_remembers_15 (fun c15 => absurd c15 (nI_ge (by omega) (by omega))) (fun c15 => ?_)
      refine g_aL0 dX10_remembers_18 ?_
      refine g_getR lf_X10_21 (S1.l 50 rfl) (S1.k 50 rfl rfl) (S1.r 50 21 (b := 53) rfl rfl) dX10_remembers_19 ?_
      refine g_iL1 dX10_remembers_22 ?_
      refine g_aL0 dX10_remembers_23 ?_
      refine g_getR lf_X10_21 (S1.l 50 rfl) (S1.k 50 rfl rfl) (S1.r 50 21 (b := 53) rfl rfl) dX10_remembers_24 ?_
      refine g_iL1 dX10_remembers_27 ?_
      refine g_bipush dX10_remembers_28 ?_
      refine g_iadd dX10_remembers_30 ?_
      rw [show (17 : Int32) = nI 17 from rfl, nI_add]
      refine g_ialoadN (S1.l 53 rfl) (S1.k 53 rfl rfl) (S1.n 53 (n := 272) rfl rfl) (show i + 17 < 272 from by omega) (by decide) dX10_remembers_31 ?_
      refine g_iastoreN (S1.l 53 rfl) (S1.k 53 rfl rfl) (S1.n 53 (n := 272) rfl rfl) (show i < 272 from by omega) (by decide) dX10_remembers_32 ?_
      refine g_ii1 dX10_remembers_33 rfl rfl ?_
      refine g_goto dX10_remembers_36 ?_
      rw [nI_1]
      exact ih (i + 1) _ (by omega) he S1 ((gIq (by decide)).trans m1)
  exact loop 255 0 _ (by omega) es.symm S hA
def icF (ip x n : Int32) : Int32 := if ip = 0 then 0 else ipF x n
theorem d_isCell {h : Hp} {c : Nat} {cn : Nat → Nat} (X : MX h c cn) (p x : Int32) : gCi 1 0 0 yX10_isCell cX10_isCell 3 (some .boolean) [.ref 50, .int p, .int x] h (some (.int (icF (ipF p (nI (cn 1))) x (gI h c 0 * gI h c 1)))) h := by
  refine g_entry (lv := [.ref 50, .int p, .int x]) 0 pn_X10 rfl rfl rfl ?_
  refine g_aL0 dX10_isCell_0 ?_
  refine g_iL1 dX10_isCell_1 ?_
  refine e_v1i (d_isPane X _) lm_X10_377 dX10_isCell_2 (X.S.l 50 rfl) (X.S.k 50 rfl rfl) rfl rfl rfl rfl ?_
  refine g_ifeq dX10_isCell_5 (fun c5 => ?_) (fun c5 => ?_)
  · refine g_iconst dX10_isCell_27 ?_
    exact e_zret rfl (by decide) dX10_isCell_28 rfl rfl (if_pos c5).symm rfl
  · refine g_iL2 dX10_isCell_8 ?_
    refine g_iflt dX10_isCell_9 (fun c9 => ?_) (fun c9 => ?_)
    · refine g_iconst dX10_isCell_27 ?_
      exact e_zret rfl (by decide) dX10_isCell_28 rfl rfl ((if_neg c5).trans (if_pos c9)).symm rfl
    · refine g_iL2 dX10_isCell_12 ?_
      refine g_aL0 dX10_isCell_13 ?_
      refine g_getR lf_X10_359 (X.S.l 50 rfl) (X.S.k 50 rfl rfl) X.C dX10_isCell_14 ?_
      refine e_v0i (d_cells X) lm_X10_389 dX10_isCell_17 (X.M.l 0 rfl) (X.M.k 0 rfl rfl) rfl rfl rfl rfl ?_
      refine g_icge dX10_isCell_20 (fun c20 => ?_) (fun c20 => ?_)
      · refine g_iconst dX10_isCell_27 ?_
        exact e_zret rfl (by decide) dX10_isCell_28 rfl rfl ((if_neg c5).trans ((if_neg c9).trans (if_pos c20))).symm rfl
      · refine g_iconst dX10_isCell_23 ?_
        refine g_goto dX10_isCell_24 ?_
        exact e_zret rfl (by decide) dX10_isCell_28 rfl rfl ((if_neg c5).trans ((if_neg c9).trans (if_neg c20))).symm rfl
theorem z_isCell {h : Hp} (S : SX h) (hz : gR h 50 3 = none) (p x : Int32) : gCi 1 0 0 yX10_isCell cX10_isCell 3 (some .boolean) [.ref 50, .int p, .int x] h (some (.int 0)) h := by
  refine g_entry (lv := [.ref 50, .int p, .int x]) 0 pn_X10 rfl rfl rfl ?_
  refine g_aL0 dX10_isCell_0 ?_
  refine g_iL1 dX10_isCell_1 ?_
  refine e_v1i (z_isPane S hz _) lm_X10_377 dX10_isCell_2 (S.l 50 rfl) (S.k 50 rfl rfl) rfl rfl rfl rfl ?_
  refine g_ifeq dX10_isCell_5 (fun c5 => ?_) (fun c5 => absurd rfl c5)
  refine g_iconst dX10_isCell_27 ?_
  exact e_zret rfl (by decide) dX10_isCell_28 rfl rfl rfl rfl
theorem d_mc_no {h : Hp} {c : Nat} {cn : Nat → Nat} (X : MX h c cn) (a : Nat) (p x : Int32) (hc : icF (ipF p (nI (cn 1))) x (gI h c 0 * gI h c 1) = 0) : gCi 3 0 0 yX10_marksCell cX10_marksCell 4 (some .boolean) [.ref 50, .int (nI a), .int p, .int x] h (some (.int 0)) (mR h 1) := by
  refine g_entry (lv := [.ref 50, .int (nI a), .int p, .int x]) 0 pn_X10 rfl rfl rfl ?_
  refine g_aL0 dX10_marksCell_0 ?_
  refine g_iL2 dX10_marksCell_1 ?_
  refine g_iL3 dX10_marksCell_2 ?_
  refine e_v2i (d_isCell X _ _) lm_X10_526 dX10_marksCell_3 (X.S.l 50 rfl) (X.S.k 50 rfl rfl) rfl rfl rfl rfl ?_
  refine g_ifne dX10_marksCell_6 (fun c6 => absurd hc c6) (fun c6 => ?_)
  refine g_aL0 dX10_marksCell_9 ?_
  refine g_iconst dX10_marksCell_10 ?_
  refine e_v1i (d_denied X.S _) lm_X10_529 dX10_marksCell_11 (X.S.l 50 rfl) (X.S.k 50 rfl rfl) rfl rfl rfl rfl ?_
  exact e_zret rfl (by decide) dX10_marksCell_14 rfl rfl rfl rfl
theorem d_mc_5 {h : Hp} {c : Nat} {cn : Nat → Nat} (X : MX h c cn) {a : Nat} (ha : a ≤ 8) {P : Nat} (hP8 : P < 8) (x : Int32) (hc : ¬ icF (ipF (nI P) (nI (cn 1))) x (gI h c 0 * gI h c 1) = 0) (h5 : ¬ thF (gI h 52 16) (nI P) = 0 ∨ ¬ thF (gI h 52 (a + P)) x = 0) : gCi 3 0 0 yX10_marksCell cX10_marksCell 4 (some .boolean) [.ref 50, .int (nI a), .int (nI P), .int x] h (some (.int 0)) (mR h 5) := by
  refine g_entry (lv := [.ref 50, .int (nI a), .int (nI P), .int x]) 0 pn_X10 rfl rfl rfl ?_
  refine g_aL0 dX10_marksCell_0 ?_
  refine g_iL2 dX10_marksCell_1 ?_
  refine g_iL3 dX10_marksCell_2 ?_
  refine e_v2i (d_isCell X _ _) lm_X10_526 dX10_marksCell_3 (X.S.l 50 rfl) (X.S.k 50 rfl rfl) rfl rfl rfl rfl ?_
  refine g_ifne dX10_marksCell_6 (fun c6 => ?_) (fun c6 => absurd c6 hc)
  refine g_aL0 dX10_marksCell_15 ?_
  refine g_iL2 dX10_marksCell_16 ?_
  refine e_v1i (d_isBroken X.S _) lm_X10_383 dX10_marksCell_17 (X.S.l 50 rfl) (X.S.k 50 rfl rfl) rfl rfl rfl rfl ?_
  refine g_ifne dX10_marksCell_20 (fun c20 => ?_) (fun c20 => ?_)
  · refine g_aL0 dX10_marksCell_38 ?_
    refine g_iconst dX10_marksCell_39 ?_
    refine e_v1i (d_denied X.S _) lm_X10_529 dX10_marksCell_40 (X.S.l 50 rfl) (X.S.k 50 rfl rfl) rfl rfl rfl rfl ?_
    exact e_zret rfl (by decide) dX10_marksCell_43 rfl rfl rfl rfl
  · refine g_aL0 dX10_marksCell_23 ?_
    refine g_getR lf_X10_17 (X.S.l 50 rfl) (X.S.k 50 rfl rfl) (X.S.r 50 20 (b := 52) rfl rfl) dX10_marksCell_24 ?_
    refine g_iL1 dX10_marksCell_27 ?_
    refine g_iL2 dX10_marksCell_28 ?_
    refine g_iadd dX10_marksCell_29 ?_
    rw [nI_add]
    refine g_ialoadN (X.S.l 52 rfl) (X.S.k 52 rfl rfl) (X.S.n 52 (n := 17) rfl rfl) (show a + P < 17 from by omega) (by decide) dX10_marksCell_30 ?_
    refine g_iL3 dX10_marksCell_31 ?_
    refine e_s2i (d_bit _ _) lm_X10_367 dX10_marksCell_32 rfl rfl rfl rfl ?_
    refine g_ifeq dX10_marksCell_35 (fun c35 => absurd h5 (fun z => z.elim (fun y => y c20) (fun y => y c35))) (fun c35 => ?_)
    refine g_aL0 dX10_marksCell_38 ?_
    refine g_iconst dX10_marksCell_39 ?_
    refine e_v1i (d_denied X.S _) lm_X10_529 dX10_marksCell_40 (X.S.l 50 rfl) (X.S.k 50 rfl rfl) rfl rfl rfl rfl ?_
    exact e_zret rfl (by decide) dX10_marksCell_43 rfl rfl rfl rfl
theorem d_mc_ok {h : Hp} {c : Nat} {cn : Nat → Nat} (X : MX h c cn) {a : Nat} (ha : a ≤ 8) {P : Nat} (hP8 : P < 8) (x : Int32) (hc : ¬ icF (ipF (nI P) (nI (cn 1))) x (gI h c 0 * gI h c 1) = 0) (h4 : thF (gI h 52 16) (nI P) = 0) (h5 : thF (gI h 52 (a + P)) x = 0) {hr : Hp} (Sr : SX hr) (W : gCi 0 0 0 yX10_remembers cX10_remembers 2 none [.ref 50] h none hr) : gCi 3 0 0 yX10_marksCell cX10_marksCell 4 (some .boolean) [.ref 50, .int (nI a), .int (nI P), .int x] h (some (.int 1)) (mR (pI hr 52 (a + P) (gI hr 52 (a + P) ||| ((1 : Int32) <<< (x &&& 31)))) 0) := by
  refine g_entry (lv := [.ref 50, .int (nI a), .int (nI P), .int x]) 0 pn_X10 rfl rfl rfl ?_
  refine g_aL0 dX10_marksCell_0 ?_
  refine g_iL2 dX10_marksCell_1 ?_
  refine g_iL3 dX10_marksCell_2 ?_
  refine e_v2i (d_isCell X _ _) lm_X10_526 dX10_marksCell_3 (X.S.l 50 rfl) (X.S.k 50 rfl rfl) rfl rfl rfl rfl ?_
  refine g_ifne dX10_marksCell_6 (fun c6 => ?_) (fun c6 => absurd c6 hc)
  refine g_aL0 dX10_marksCell_15 ?_
  refine g_iL2 dX10_marksCell_16 ?_
  refine e_v1i (d_isBroken X.S _) lm_X10_383 dX10_marksCell_17 (X.S.l 50 rfl) (X.S.k 50 rfl rfl) rfl rfl rfl rfl ?_
  refine g_ifne dX10_marksCell_20 (fun c20 => absurd h4 c20) (fun c20 => ?_)
  refine g_aL0 dX10_marksCell_23 ?_
  refine g_getR lf_X10_17 (X.S.l 50 rfl) (X.S.k 50 rfl rfl) (X.S.r 50 20 (b := 52) rfl rfl) dX10_marksCell_24 ?_
  refine g_iL1 dX10_marksCell_27 ?_
  refine g_iL2 dX10_marksCell_28 ?_
  refine g_iadd dX10_marksCell_29 ?_
  rw [nI_add]
  refine g_ialoadN (X.S.l 52 rfl) (X.S.k 52 rfl rfl) (X.S.n 52 (n := 17) rfl rfl) (show a + P < 17 from by omega) (by decide) dX10_marksCell_30 ?_
  refine g_iL3 dX10_marksCell_31 ?_
  refine e_s2i (d_bit _ _) lm_X10_367 dX10_marksCell_32 rfl rfl rfl rfl ?_
  refine g_ifeq dX10_marksCell_35 (fun c35 => ?_) (fun c35 => absurd h5 c35)
  refine g_aL0 dX10_marksCell_44 ?_
  refine e_v0u W lm_X10_532 dX10_marksCell_45 (X.S.l 50 rfl) (X.S.k 50 rfl rfl) rfl rfl rfl rfl ?_
  refine g_aL0 dX10_marksCell_48 ?_
  refine g_getR lf_X10_17 (Sr.l 50 rfl) (Sr.k 50 rfl rfl) (Sr.r 50 20 (b := 52) rfl rfl) dX10_marksCell_49 ?_
  refine g_iL1 dX10_marksCell_52 ?_
  refine g_iL2 dX10_marksCell_53 ?_
  refine g_iadd dX10_marksCell_54 ?_
  rw [nI_add]
  refine g_dup2 dX10_marksCell_55 rfl rfl ?_
  refine g_ialoadN (Sr.l 52 rfl) (Sr.k 52 rfl rfl) (Sr.n 52 (n := 17) rfl rfl) (show a + P < 17 from by omega) (by decide) dX10_marksCell_56 ?_
  refine g_iconst dX10_marksCell_57 ?_
  refine g_iL3 dX10_marksCell_58 ?_
  refine g_ishl dX10_marksCell_59 ?_
  refine g_ior dX10_marksCell_60 ?_
  refine g_iastoreN (Sr.l 52 rfl) (Sr.k 52 rfl rfl) (Sr.n 52 (n := 17) rfl rfl) (show a + P < 17 from by omega) (by decide) dX10_marksCell_61 ?_
  refine g_aL0 dX10_marksCell_62 ?_
  refine e_v0i (d_granted (h := pI hr 52 (a + P) (gI hr 52 (a + P) ||| ((1 : Int32) <<< (x &&& 31)))) Sr) lm_X10_535 dX10_marksCell_63 (Sr.l 50 rfl) (Sr.k 50 rfl rfl) rfl rfl rfl rfl ?_
  exact e_zret rfl (by decide) dX10_marksCell_66 rfl rfl rfl rfl

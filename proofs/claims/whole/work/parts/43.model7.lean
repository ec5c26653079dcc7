/-! THE REFERENCE: made panes, marks, back, undo, sizes -/
def imF (cn : Nat → Nat) (a b c d e : Int32) : Int32 := if (ipF a (nI (cn 2))) = 0 then 0 else if (ipF c (nI (cn 2))) = 0 then 0 else if (ipF e (nI (cn 2))) = 0 then 0 else if (siF b (nI (cn 3))) = 0 then 0 else if (siF d (nI (cn 3))) = 0 then 0 else 1
theorem im1 {cn : Nat → Nat} {a b c d e : Int32} (h : ¬ imF cn a b c d e = 0) : ¬ ipF a (nI (cn 2)) = 0 ∧ ¬ ipF c (nI (cn 2)) = 0 ∧ ¬ ipF e (nI (cn 2)) = 0 ∧ ¬ siF b (nI (cn 3)) = 0 ∧ ¬ siF d (nI (cn 3)) = 0 := by
  unfold imF at h
  split at h
  · exact absurd rfl h
  · split at h
    · exact absurd rfl h
    · split at h
      · exact absurd rfl h
      · split at h
        · exact absurd rfl h
        · split at h
          · exact absurd rfl h
          · exact ⟨by assumption, by assumption, by assumption, by assumption, by assumption⟩
theorem d_isMade {h : Hp} {c0 : Nat} {cn : Nat → Nat} (X : MX h c0 cn) (a b c d e : Int32) : gCi 1 0 0 yX10_isMade cX10_isMade 6 (some .boolean) [.ref 50, .int a, .int b, .int c, .int d, .int e] h (some (.int (imF cn a b c d e))) h := by
  refine g_entry (lv := [.ref 50, .int a, .int b, .int c, .int d, .int e]) 0 pn_X10 rfl rfl rfl ?_
  refine g_aL0 dX10_isMade_0 ?_
  refine g_iL1 dX10_isMade_1 ?_
  refine e_v1i (d_isWordOf X _) lm_X10_395 dX10_isMade_2 (X.S.l 50 rfl) (X.S.k 50 rfl rfl) rfl rfl rfl rfl ?_
  refine g_ifeq dX10_isMade_5 (fun c5 => ?_) (fun c5 => ?_)
  · refine g_iconst dX10_isMade_46 ?_
    exact e_zret rfl (by decide) dX10_isMade_47 rfl rfl (if_pos c5).symm rfl
  · refine g_aL0 dX10_isMade_8 ?_
    refine g_iL3 dX10_isMade_9 ?_
    refine e_v1i (d_isWordOf X _) lm_X10_395 dX10_isMade_10 (X.S.l 50 rfl) (X.S.k 50 rfl rfl) rfl rfl rfl rfl ?_
    refine g_ifeq dX10_isMade_13 (fun c13 => ?_) (fun c13 => ?_)
    · refine g_iconst dX10_isMade_46 ?_
      exact e_zret rfl (by decide) dX10_isMade_47 rfl rfl ((if_neg c5).trans (if_pos c13)).symm rfl
    · refine g_aL0 dX10_isMade_16 ?_
      refine g_iL5 dX10_isMade_17 ?_
      refine e_v1i (d_isWordOf X _) lm_X10_395 dX10_isMade_19 (X.S.l 50 rfl) (X.S.k 50 rfl rfl) rfl rfl rfl rfl ?_
      refine g_ifeq dX10_isMade_22 (fun c22 => ?_) (fun c22 => ?_)
      · refine g_iconst dX10_isMade_46 ?_
        exact e_zret rfl (by decide) dX10_isMade_47 rfl rfl ((if_neg c5).trans ((if_neg c13).trans (if_pos c22))).symm rfl
      · refine g_aL0 dX10_isMade_25 ?_
        refine g_iL2 dX10_isMade_26 ?_
        refine e_v1i (d_isView X _) lm_X10_380 dX10_isMade_27 (X.S.l 50 rfl) (X.S.k 50 rfl rfl) rfl rfl rfl rfl ?_
        refine g_ifeq dX10_isMade_30 (fun c30 => ?_) (fun c30 => ?_)
        · refine g_iconst dX10_isMade_46 ?_
          exact e_zret rfl (by decide) dX10_isMade_47 rfl rfl ((if_neg c5).trans ((if_neg c13).trans ((if_neg c22).trans (if_pos c30)))).symm rfl
        · refine g_aL0 dX10_isMade_33 ?_
          refine g_iL4 dX10_isMade_34 ?_
          refine e_v1i (d_isView X _) lm_X10_380 dX10_isMade_36 (X.S.l 50 rfl) (X.S.k 50 rfl rfl) rfl rfl rfl rfl ?_
          refine g_ifeq dX10_isMade_39 (fun c39 => ?_) (fun c39 => ?_)
          · refine g_iconst dX10_isMade_46 ?_
            exact e_zret rfl (by decide) dX10_isMade_47 rfl rfl ((if_neg c5).trans ((if_neg c13).trans ((if_neg c22).trans ((if_neg c30).trans (if_pos c39))))).symm rfl
          · refine g_iconst dX10_isMade_42 ?_
            refine g_goto dX10_isMade_43 ?_
            exact e_zret rfl (by decide) dX10_isMade_47 rfl rfl ((if_neg c5).trans ((if_neg c13).trans ((if_neg c22).trans ((if_neg c30).trans (if_neg c39))))).symm rfl
theorem z_isMade {h : Hp} (S : SX h) (hz : gR h 50 3 = none) (a b c d e : Int32) : gCi 1 0 0 yX10_isMade cX10_isMade 6 (some .boolean) [.ref 50, .int a, .int b, .int c, .int d, .int e] h (some (.int 0)) h := by
  refine g_entry (lv := [.ref 50, .int a, .int b, .int c, .int d, .int e]) 0 pn_X10 rfl rfl rfl ?_
  refine g_aL0 dX10_isMade_0 ?_
  refine g_iL1 dX10_isMade_1 ?_
  refine e_v1i (z_isWordOf S hz _) lm_X10_395 dX10_isMade_2 (S.l 50 rfl) (S.k 50 rfl rfl) rfl rfl rfl rfl ?_
  refine g_ifeq dX10_isMade_5 (fun c5 => ?_) (fun c5 => absurd rfl c5)
  refine g_iconst dX10_isMade_46 ?_
  exact e_zret rfl (by decide) dX10_isMade_47 rfl rfl rfl rfl
/-- the two panes of the reference while it makes them -/
def mk2 (h : Hp) (x y : Int32) : Hp := pI (pI h 50 30 x) 50 31 y
theorem mk2_30 (h : Hp) (x y z : Int32) : pI (mk2 h x y) 50 30 z = mk2 h z y := pI_cong (by
  funext b j
  simp only [mk2, pI, u2]
  by_cases hb : b = 50 <;> by_cases h0 : j = 30 <;> by_cases h1 : j = 31 <;> simp_all)
theorem mk2_31 (h : Hp) (x y z : Int32) : pI (mk2 h x y) 50 31 z = mk2 h x z := pI_cong (by
  funext b j
  simp only [mk2, pI, u2]
  by_cases hb : b = 50 <;> by_cases h1 : j = 31 <;> simp_all)
theorem mk2_I30 (h : Hp) (x y : Int32) : gI (mk2 h x y) 50 30 = x := rfl
theorem mk2_I31 (h : Hp) (x y : Int32) : gI (mk2 h x y) 50 31 = y := rfl
theorem mk2_X {h : Hp} {c : Nat} {cn : Nat → Nat} (X : MX h c cn) (x y : Int32) : MX (mk2 h x y) c cn := (X.I x (by decide)).I y (by decide)
theorem mk2_n (h : Hp) (x y : Int32) {b j : Nat} (hb : b ≠ 50) : gI (mk2 h x y) b j = gI h b j := (gIq hb).trans (gIq hb)
theorem nI_neq {a b : Nat} (ha : a < 2147483648) (hb : b < 2147483648) (h : a ≠ b) : ¬ nI a = nI b := fun z => by
  have e := congrArg Int32.toInt z
  rw [nI_toInt ha, nI_toInt hb] at e
  omega
def mkL17 (m : Nat) : Nat → Nat → Hp → Hp
  | 0, _, h => h
  | n + 1, i, h => mkL17 m n (i + 1) (pI h 54 (17 * m + i) (gI h 52 i))
def bkL (m : Nat) : Nat → Nat → Hp → Hp
  | 0, _, h => h
  | n + 1, i, h => bkL m n (i + 1) (pI h 52 i (gI h 54 (17 * m + i)))
def unL (m : Nat) : Nat → Nat → Hp → Hp
  | 0, _, h => h
  | n + 1, i, h => unL m n (i + 1) (pI h 52 i (gI h 53 (17 * m + i)))
theorem mkL17_S (m : Nat) : ∀ (n i : Nat) (h : Hp), SX h → SX (mkL17 m n i h)
  | 0, _, _, S => S
  | n + 1, i, h, S => mkL17_S m n (i + 1) (pI h 54 (17 * m + i) (gI h 52 i)) S
theorem mkL17_I (m : Nat) : ∀ (n i : Nat) (h : Hp) (b j : Nat), b ≠ 54 → gI (mkL17 m n i h) b j = gI h b j
  | 0, _, _, _, _, _ => rfl
  | n + 1, i, h, b, j, hb => (mkL17_I m n (i + 1) _ b j hb).trans (gIq hb)
theorem n_mark1 {h : Hp} {c : Nat} (S : SX (mT h)) (hM : MC (mT h) c) (hC : gR (mT h) 50 3 = some c) (hm : gI (mT h) 50 24 = nI 3) : gCi 1 0 0 yX10_mark cX10_mark 2 (some .int) [.ref 50] h (some (.int (-1))) (mR (mT h) 3) := by
  refine g_entry (lv := [.ref 50, .retAddr 0]) 1 pn_X10 rfl rfl rfl ?_
  refine g_aL0 dX10_mark_0 ?_
  refine g_iconst dX10_mark_1 ?_
  refine g_pI0 lf_X10_39 (S.l 50 rfl) (S.k 50 rfl rfl) dX10_mark_2 ?_
  show gY _ _ _ _ _ _ _ _ _ _ _ _ _ (mT h)
  generalize mT h = h at S hM hC hm ⊢
  refine g_aL0 dX10_mark_5 ?_
  refine g_getR lf_X10_359 (S.l 50 rfl) (S.k 50 rfl rfl) hC dX10_mark_6 ?_
  refine g_ifnonnullS dX10_mark_9 ?_
  refine g_aL0 dX10_mark_18 ?_
  refine g_gI lf_X10_364 (S.l 50 rfl) (S.k 50 rfl rfl) dX10_mark_19 ?_
  refine g_iconst dX10_mark_22 ?_
  rw [hm]
  refine g_icne dX10_mark_23 (fun c23 => absurd rfl c23) (fun c23 => ?_)
  refine g_aL0 dX10_mark_26 ?_
  refine g_iconst dX10_mark_27 ?_
  refine e_v1i (d_refused S _) lm_X10_45 dX10_mark_28 (S.l 50 rfl) (S.k 50 rfl rfl) rfl rfl rfl rfl ?_
  exact e_iret rfl dX10_mark_31 rfl rfl rfl rfl
theorem z_mark {h : Hp} (S : SX (mT h)) (hz : gR (mT h) 50 3 = none) : gCi 1 0 0 yX10_mark cX10_mark 2 (some .int) [.ref 50] h (some (.int (-1))) (mR (mT h) 1) := by
  refine g_entry (lv := [.ref 50, .retAddr 0]) 1 pn_X10 rfl rfl rfl ?_
  refine g_aL0 dX10_mark_0 ?_
  refine g_iconst dX10_mark_1 ?_
  refine g_pI0 lf_X10_39 (S.l 50 rfl) (S.k 50 rfl rfl) dX10_mark_2 ?_
  show gY _ _ _ _ _ _ _ _ _ _ _ _ _ (mT h)
  generalize mT h = h at S hz ⊢
  refine g_aL0 dX10_mark_5 ?_
  refine g_getN0 lf_X10_359 (S.l 50 rfl) (S.k 50 rfl rfl) hz dX10_mark_6 ?_
  refine g_ifnonnullZ dX10_mark_9 ?_
  refine g_aL0 dX10_mark_12 ?_
  refine g_iconst dX10_mark_13 ?_
  refine e_v1i (d_refused S _) lm_X10_45 dX10_mark_14 (S.l 50 rfl) (S.k 50 rfl rfl) rfl rfl rfl rfl ?_
  exact e_iret rfl dX10_mark_17 rfl rfl rfl rfl
theorem n_mark2 {h : Hp} {c : Nat} (S : SX (mT h)) (hM : MC (mT h) c) (hC : gR (mT h) 50 3 = some c) {m : Nat} (hm : gI (mT h) 50 24 = nI m) (hm3 : m < 3) : gCi 1 0 0 yX10_mark cX10_mark 2 (some .int) [.ref 50] h (some (.int (nI m))) (mR (pI (mkL17 m 17 0 (mT h)) 50 24 (nI (m + 1))) 0) := by
  refine g_entry (lv := [.ref 50, .retAddr 0]) 1 pn_X10 rfl rfl rfl ?_
  refine g_aL0 dX10_mark_0 ?_
  refine g_iconst dX10_mark_1 ?_
  refine g_pI0 lf_X10_39 (S.l 50 rfl) (S.k 50 rfl rfl) dX10_mark_2 ?_
  show gY _ _ _ _ _ _ _ _ _ _ _ _ _ (mT h)
  generalize mT h = h at S hM hC hm ⊢
  refine g_aL0 dX10_mark_5 ?_
  refine g_getR lf_X10_359 (S.l 50 rfl) (S.k 50 rfl rfl) hC dX10_mark_6 ?_
  refine g_ifnonnullS dX10_mark_9 ?_
  refine g_aL0 dX10_mark_18 ?_
  refine g_gI lf_X10_364 (S.l 50 rfl) (S.k 50 rfl rfl) dX10_mark_19 ?_
  refine g_iconst dX10_mark_22 ?_
  rw [hm]
  refine g_icne dX10_mark_23 (fun c23 => ?_) (fun c23 => absurd c23 (show ¬ nI m = nI 3 from nI_neq (by omega) (by omega) (by omega)))
  refine g_iconst dX10_mark_32 ?_
  refine g_iS1 dX10_mark_33 rfl rfl ?_
  have loop : ∀ (n i : Nat) (hh : Hp), i + n = 17 → mkL17 m 17 0 h = mkL17 m n i hh → SX hh → gI hh 50 24 = nI m → gY 1 0 0 yX10_mark cX10_mark 2 (some .int) 0 0 (fun v' h' => v' = (some (.int (nI m))) ∧ h' = (mR (pI (mkL17 m 17 0 h) 50 24 (nI (m + 1))) 0)) 34 [.ref 50, .int (nI i)] [] hh := by
    intro n
    induction n with
    | zero =>
      intro i hh hi he S1 m1
      refine g_iL1 dX10_mark_34 ?_
      refine g_bipush dX10_mark_35 ?_
      rw [show (17 : Int32) = nI 17 from rfl]
      refine g_icge dX10_mark_37 (fun c37 => ?_) (fun c37 => absurd (nI_le (by omega) (by omega)) c37)
      refine g_aL0 dX10_mark_66 ?_
      refine g_dup dX10_mark_67 rfl ?_
      refine g_gI lf_X10_364 (S1.l 50 rfl) (S1.k 50 rfl rfl) dX10_mark_68 ?_
      rw [m1]
      refine g_iconst dX10_mark_71 ?_
      refine g_iadd dX10_mark_72 ?_
      rw [nI_1]
      refine g_pI0 lf_X10_364 (S1.l 50 rfl) (S1.k 50 rfl rfl) dX10_mark_73 ?_
      refine g_aL0 dX10_mark_76 ?_
      refine g_aL0 dX10_mark_77 ?_
      refine g_gI lf_X10_364 (S1.l 50 rfl) (S1.k 50 rfl rfl) dX10_mark_78 ?_
      rw [gIs]
      refine g_iconst dX10_mark_81 ?_
      refine g_isub dX10_mark_82 ?_
      rw [nI_pred]
      refine e_v1i (d_good (h := pI hh 50 24 (nI (m + 1))) S1 _) lm_X10_49 dX10_mark_83 (S1.l 50 rfl) (S1.k 50 rfl rfl) rfl rfl rfl rfl ?_
      exact e_iret rfl dX10_mark_86 rfl rfl rfl (by rw [he]; rfl)
    | succ n ih =>
      intro i hh hi he S1 m1
      refine g_iL1 dX10_mark_34 ?_
      refine g_bipush dX10_mark_35 ?_
      rw [show (17 : Int32) = nI 17 from rfl]
      refine g_icge dX10_mark_37 (fun c37 => absurd c37 (nI_ge (by omega) (by omega))) (fun c37 => ?_)
      refine g_aL0 dX10_mark_40 ?_
      refine g_getR lf_X10_24 (S1.l 50 rfl) (S1.k 50 rfl rfl) (S1.r 50 22 (b := 54) rfl rfl) dX10_mark_41 ?_
      refine g_bipush dX10_mark_44 ?_
      refine g_aL0 dX10_mark_46 ?_
      refine g_gI lf_X10_364 (S1.l 50 rfl) (S1.k 50 rfl rfl) dX10_mark_47 ?_
      refine g_imul dX10_mark_50 ?_
      refine g_iL1 dX10_mark_51 ?_
      refine g_iadd dX10_mark_52 ?_
      rw [m1, show (17 : Int32) = nI 17 from rfl, pk_mul, nI_add]
      refine g_aL0 dX10_mark_53 ?_
      refine g_getR lf_X10_17 (S1.l 50 rfl) (S1.k 50 rfl rfl) (S1.r 50 20 (b := 52) rfl rfl) dX10_mark_54 ?_
      refine g_iL1 dX10_mark_57 ?_
      refine g_ialoadN (S1.l 52 rfl) (S1.k 52 rfl rfl) (S1.n 52 (n := 17) rfl rfl) (show i < 17 from by omega) (by decide) dX10_mark_58 ?_
      refine g_iastoreN (S1.l 54 rfl) (S1.k 54 rfl rfl) (S1.n 54 (n := 51) rfl rfl) (show 17 * m + i < 51 from by omega) (by decide) dX10_mark_59 ?_
      refine g_ii1 dX10_mark_60 rfl rfl ?_
      refine g_goto dX10_mark_63 ?_
      rw [nI_1]
      exact ih (i + 1) _ (by omega) he S1 ((gIq (by decide)).trans m1)
  exact loop 17 0 _ (by omega) rfl S hm
theorem n_back0 {h : Hp} {c : Nat} (S : SX (mT h)) (hM : MC (mT h) c) (hC : gR (mT h) 50 3 = some c) {N : Nat} (hm : gI (mT h) 50 24 = nI N) (k : Int32) (hk : k < 0 ∨ ¬ k < nI N) : gCi 2 0 0 yX10_back cX10_back 3 (some .boolean) [.ref 50, .int k] h (some (.int 0)) (mR (mT h) 1) := by
  refine g_entry (lv := [.ref 50, .int k, .retAddr 0]) 1 pn_X10 rfl rfl rfl ?_
  refine g_aL0 dX10_back_0 ?_
  refine g_iconst dX10_back_1 ?_
  refine g_pI0 lf_X10_39 (S.l 50 rfl) (S.k 50 rfl rfl) dX10_back_2 ?_
  show gY _ _ _ _ _ _ _ _ _ _ _ _ _ (mT h)
  generalize mT h = h at S hM hC hm ⊢
  refine g_aL0 dX10_back_5 ?_
  refine g_getR lf_X10_359 (S.l 50 rfl) (S.k 50 rfl rfl) hC dX10_back_6 ?_
  refine g_ifnullS dX10_back_9 ?_
  refine g_iL1 dX10_back_12 ?_
  refine g_iflt dX10_back_13 (fun c13 => ?_) (fun c13 => ?_)
  · refine g_aL0 dX10_back_24 ?_
    refine g_iconst dX10_back_25 ?_
    refine e_v1i (d_denied S _) lm_X10_529 dX10_back_26 (S.l 50 rfl) (S.k 50 rfl rfl) rfl rfl rfl rfl ?_
    exact e_zret rfl (by decide) dX10_back_29 rfl rfl rfl rfl
  · refine g_iL1 dX10_back_16 ?_
    refine g_aL0 dX10_back_17 ?_
    refine g_gI lf_X10_364 (S.l 50 rfl) (S.k 50 rfl rfl) dX10_back_18 ?_
    rw [hm]
    refine g_iclt dX10_back_21 (fun c21 => absurd hk (fun z => z.elim c13 (fun y => y c21))) (fun c21 => ?_)
    refine g_aL0 dX10_back_24 ?_
    refine g_iconst dX10_back_25 ?_
    refine e_v1i (d_denied S _) lm_X10_529 dX10_back_26 (S.l 50 rfl) (S.k 50 rfl rfl) rfl rfl rfl rfl ?_
    exact e_zret rfl (by decide) dX10_back_29 rfl rfl rfl rfl
theorem z_back {h : Hp} (S : SX (mT h)) (hz : gR (mT h) 50 3 = none) (k : Int32) : gCi 2 0 0 yX10_back cX10_back 3 (some .boolean) [.ref 50, .int k] h (some (.int (0))) (mR (mT h) 1) := by
  refine g_entry (lv := [.ref 50, .int k, .retAddr 0]) 1 pn_X10 rfl rfl rfl ?_
  refine g_aL0 dX10_back_0 ?_
  refine g_iconst dX10_back_1 ?_
  refine g_pI0 lf_X10_39 (S.l 50 rfl) (S.k 50 rfl rfl) dX10_back_2 ?_
  show gY _ _ _ _ _ _ _ _ _ _ _ _ _ (mT h)
  generalize mT h = h at S hz ⊢
  refine g_aL0 dX10_back_5 ?_
  refine g_getN0 lf_X10_359 (S.l 50 rfl) (S.k 50 rfl rfl) hz dX10_back_6 ?_
  refine g_ifnullZ dX10_back_9 ?_
  refine g_aL0 dX10_back_24 ?_
  refine g_iconst dX10_back_25 ?_
  refine e_v1i (d_denied S _) lm_X10_529 dX10_back_26 (S.l 50 rfl) (S.k 50 rfl rfl) rfl rfl rfl rfl ?_
  exact e_zret rfl (by decide) dX10_back_29 rfl rfl rfl rfl
theorem n_back1 {h : Hp} {c : Nat} (S : SX (mT h)) (hM : MC (mT h) c) (hC : gR (mT h) 50 3 = some c) {N m : Nat} (hm : gI (mT h) 50 24 = nI N) (hN3 : N ≤ 3) (hk : m < N) : gCi 2 0 0 yX10_back cX10_back 3 (some .boolean) [.ref 50, .int (nI m)] h (some (.int 1)) (mR (pI (bkL m 17 0 (mT h)) 50 23 0) 0) := by
  refine g_entry (lv := [.ref 50, .int (nI m), .retAddr 0]) 1 pn_X10 rfl rfl rfl ?_
  refine g_aL0 dX10_back_0 ?_
  refine g_iconst dX10_back_1 ?_
  refine g_pI0 lf_X10_39 (S.l 50 rfl) (S.k 50 rfl rfl) dX10_back_2 ?_
  show gY _ _ _ _ _ _ _ _ _ _ _ _ _ (mT h)
  generalize mT h = h at S hM hC hm ⊢
  refine g_aL0 dX10_back_5 ?_
  refine g_getR lf_X10_359 (S.l 50 rfl) (S.k 50 rfl rfl) hC dX10_back_6 ?_
  refine g_ifnullS dX10_back_9 ?_
  refine g_iL1 dX10_back_12 ?_
  refine g_iflt dX10_back_13 (fun c13 => absurd c13 (show ¬ nI m < nI 0 from nI_nlt (by omega) (by omega))) (fun c13 => ?_)
  refine g_iL1 dX10_back_16 ?_
  refine g_aL0 dX10_back_17 ?_
  refine g_gI lf_X10_364 (S.l 50 rfl) (S.k 50 rfl rfl) dX10_back_18 ?_
  rw [hm]
  refine g_iclt dX10_back_21 (fun c21 => ?_) (fun c21 => absurd (nI_lt hk (by omega)) c21)
  refine g_iconst dX10_back_30 ?_
  refine g_iS2 dX10_back_31 rfl rfl ?_
  have loop : ∀ (n i : Nat) (hh : Hp), i + n = 17 → bkL m 17 0 h = bkL m n i hh → SX hh → gY 2 0 0 yX10_back cX10_back 3 (some .boolean) 0 0 (fun v' h' => v' = (some (.int 1)) ∧ h' = (mR (pI (bkL m 17 0 h) 50 23 0) 0)) 32 [.ref 50, .int (nI m), .int (nI i)] [] hh := by
    intro n
    induction n with
    | zero =>
      intro i hh hi he S1
      refine g_iL2 dX10_back_32 ?_
      refine g_bipush dX10_back_33 ?_
      rw [show (17 : Int32) = nI 17 from rfl]
      refine g_icge dX10_back_35 (fun c35 => ?_) (fun c35 => absurd (nI_le (by omega) (by omega)) c35)
      refine g_aL0 dX10_back_61 ?_
      refine g_iconst dX10_back_62 ?_
      refine g_pI0 lf_X10_361 (S1.l 50 rfl) (S1.k 50 rfl rfl) dX10_back_63 ?_
      refine g_aL0 dX10_back_66 ?_
      refine e_v0i (d_granted (h := pI hh 50 23 0) S1) lm_X10_535 dX10_back_67 (S1.l 50 rfl) (S1.k 50 rfl rfl) rfl rfl rfl rfl ?_
      exact e_zret rfl (by decide) dX10_back_70 rfl rfl rfl (by rw [he]; rfl)
    | succ n ih =>
      intro i hh hi he S1
      refine g_iL2 dX10_back_32 ?_
      refine g_bipush dX10_back_33 ?_
      rw [show (17 : Int32) = nI 17 from rfl]
      refine g_icge dX10_back_35 (fun c35 => absurd c35 (nI_ge (by omega) (by omega))) (fun c35 => ?_)
      refine g_aL0 dX10_back_38 ?_
      refine g_getR lf_X10_17 (S1.l 50 rfl) (S1.k 50 rfl rfl) (S1.r 50 20 (b := 52) rfl rfl) dX10_back_39 ?_
      refine g_iL2 dX10_back_42 ?_
      refine g_aL0 dX10_back_43 ?_
      refine g_getR lf_X10_24 (S1.l 50 rfl) (S1.k 50 rfl rfl) (S1.r 50 22 (b := 54) rfl rfl) dX10_back_44 ?_
      refine g_bipush dX10_back_47 ?_
      refine g_iL1 dX10_back_49 ?_
      refine g_imul dX10_back_50 ?_
      refine g_iL2 dX10_back_51 ?_
      refine g_iadd dX10_back_52 ?_
      rw [show (17 : Int32) = nI 17 from rfl, pk_mul, nI_add]
      refine g_ialoadN (S1.l 54 rfl) (S1.k 54 rfl rfl) (S1.n 54 (n := 51) rfl rfl) (show 17 * m + i < 51 from by omega) (by decide) dX10_back_53 ?_
      refine g_iastoreN (S1.l 52 rfl) (S1.k 52 rfl rfl) (S1.n 52 (n := 17) rfl rfl) (show i < 17 from by omega) (by decide) dX10_back_54 ?_
      refine g_ii2 dX10_back_55 rfl rfl ?_
      refine g_goto dX10_back_58 ?_
      rw [nI_1]
      exact ih (i + 1) _ (by omega) he S1
  exact loop 17 0 _ (by omega) rfl S
theorem n_undo0 {h : Hp} {c : Nat} (S : SX (mT h)) (hM : MC (mT h) c) (hC : gR (mT h) 50 3 = some c) (hA : gI (mT h) 50 23 = 0) : gCi 2 0 0 yX10_undo cX10_undo 2 (some .boolean) [.ref 50] h (some (.int 0)) (mR (mT h) 6) := by
  refine g_entry (lv := [.ref 50, .retAddr 0]) 1 pn_X10 rfl rfl rfl ?_
  refine g_aL0 dX10_undo_0 ?_
  refine g_iconst dX10_undo_1 ?_
  refine g_pI0 lf_X10_39 (S.l 50 rfl) (S.k 50 rfl rfl) dX10_undo_2 ?_
  show gY _ _ _ _ _ _ _ _ _ _ _ _ _ (mT h)
  generalize mT h = h at S hM hC hA ⊢
  refine g_aL0 dX10_undo_5 ?_
  refine g_getR lf_X10_359 (S.l 50 rfl) (S.k 50 rfl rfl) hC dX10_undo_6 ?_
  refine g_ifnullS dX10_undo_9 ?_
  refine g_aL0 dX10_undo_12 ?_
  refine g_gI lf_X10_361 (S.l 50 rfl) (S.k 50 rfl rfl) dX10_undo_13 ?_
  rw [hA]
  refine g_ifne dX10_undo_16 (fun c16 => absurd rfl c16) (fun c16 => ?_)
  refine g_aL0 dX10_undo_19 ?_
  refine g_bipush dX10_undo_20 ?_
  refine e_v1i (d_denied S _) lm_X10_529 dX10_undo_22 (S.l 50 rfl) (S.k 50 rfl rfl) rfl rfl rfl rfl ?_
  exact e_zret rfl (by decide) dX10_undo_25 rfl rfl rfl rfl
theorem z_undo {h : Hp} (S : SX (mT h)) (hz : gR (mT h) 50 3 = none) : gCi 2 0 0 yX10_undo cX10_undo 2 (some .boolean) [.ref 50] h (some (.int (0))) (mR (mT h) 6) := by
  refine g_entry (lv := [.ref 50, .retAddr 0]) 1 pn_X10 rfl rfl rfl ?_
  refine g_aL0 dX10_undo_0 ?_
  refine g_iconst dX10_undo_1 ?_
  refine g_pI0 lf_X10_39 (S.l 50 rfl) (S.k 50 rfl rfl) dX10_undo_2 ?_
  show gY _ _ _ _ _ _ _ _ _ _ _ _ _ (mT h)
  generalize mT h = h at S hz ⊢
  refine g_aL0 dX10_undo_5 ?_
  refine g_getN0 lf_X10_359 (S.l 50 rfl) (S.k 50 rfl rfl) hz dX10_undo_6 ?_
  refine g_ifnullZ dX10_undo_9 ?_
  refine g_aL0 dX10_undo_19 ?_
  refine g_bipush dX10_undo_20 ?_
  refine e_v1i (d_denied S _) lm_X10_529 dX10_undo_22 (S.l 50 rfl) (S.k 50 rfl rfl) rfl rfl rfl rfl ?_
  exact e_zret rfl (by decide) dX10_undo_25 rfl rfl rfl rfl
theorem n_undo1 {h : Hp} {c : Nat} (S : SX (mT h)) (hM : MC (mT h) c) (hC : gR (mT h) 50 3 = some c) {A : Nat} (hA : gI (mT h) 50 23 = nI (A + 1)) (hA16 : A < 16) : gCi 2 0 0 yX10_undo cX10_undo 2 (some .boolean) [.ref 50] h (some (.int 1)) (mR (unL A 17 0 (pI (mT h) 50 23 (nI A))) 0) := by
  refine g_entry (lv := [.ref 50, .retAddr 0]) 1 pn_X10 rfl rfl rfl ?_
  refine g_aL0 dX10_undo_0 ?_
  refine g_iconst dX10_undo_1 ?_
  refine g_pI0 lf_X10_39 (S.l 50 rfl) (S.k 50 rfl rfl) dX10_undo_2 ?_
  show gY _ _ _ _ _ _ _ _ _ _ _ _ _ (mT h)
  generalize mT h = h at S hM hC hA ⊢
  refine g_aL0 dX10_undo_5 ?_
  refine g_getR lf_X10_359 (S.l 50 rfl) (S.k 50 rfl rfl) hC dX10_undo_6 ?_
  refine g_ifnullS dX10_undo_9 ?_
  refine g_aL0 dX10_undo_12 ?_
  refine g_gI lf_X10_361 (S.l 50 rfl) (S.k 50 rfl rfl) dX10_undo_13 ?_
  rw [hA]
  refine g_ifne dX10_undo_16 (fun c16 => ?_) (fun c16 => absurd c16 (nI_ne0 (by omega) (by omega)))
  refine g_aL0 dX10_undo_26 ?_
  refine g_dup dX10_undo_27 rfl ?_
  refine g_gI lf_X10_361 (S.l 50 rfl) (S.k 50 rfl rfl) dX10_undo_28 ?_
  rw [hA]
  refine g_iconst dX10_undo_31 ?_
  refine g_isub dX10_undo_32 ?_
  rw [nI_pred]
  refine g_pI0 lf_X10_361 (S.l 50 rfl) (S.k 50 rfl rfl) dX10_undo_33 ?_
  refine g_iconst dX10_undo_36 ?_
  refine g_iS1 dX10_undo_37 rfl rfl ?_
  have loop : ∀ (n i : Nat) (hh : Hp), i + n = 17 → unL A 17 0 (pI h 50 23 (nI A)) = unL A n i hh → SX hh → gI hh 50 23 = nI A → gY 2 0 0 yX10_undo cX10_undo 2 (some .boolean) 0 0 (fun v' h' => v' = (some (.int 1)) ∧ h' = (mR (unL A 17 0 (pI h 50 23 (nI A))) 0)) 38 [.ref 50, .int (nI i)] [] hh := by
    intro n
    induction n with
    | zero =>
      intro i hh hi he S1 m1
      refine g_iL1 dX10_undo_38 ?_
      refine g_bipush dX10_undo_39 ?_
      rw [show (17 : Int32) = nI 17 from rfl]
      refine g_icge dX10_undo_41 (fun c41 => ?_) (fun c41 => absurd (nI_le (by omega) (by omega)) c41)
      refine g_aL0 dX10_undo_70 ?_
      refine e_v0i (d_granted S1) lm_X10_535 dX10_undo_71 (S1.l 50 rfl) (S1.k 50 rfl rfl) rfl rfl rfl rfl ?_
      exact e_zret rfl (by decide) dX10_undo_74 rfl rfl rfl (by rw [he]; rfl)
    | succ n ih =>
      intro i hh hi he S1 m1
      refine g_iL1 dX10_undo_38 ?_
      refine g_bipush dX10_undo_39 ?_
      rw [show (17 : Int32) = nI 17 from rfl]
      refine g_icge dX10_undo_41 (fun c41 => absurd c41 (nI_ge (by omega) (by omega))) (fun c41 => ?_)
      refine g_aL0 dX10_undo_44 ?_
      refine g_getR lf_X10_17 (S1.l 50 rfl) (S1.k 50 rfl rfl) (S1.r 50 20 (b := 52) rfl rfl) dX10_undo_45 ?_
      refine g_iL1 dX10_undo_48 ?_
      refine g_aL0 dX10_undo_49 ?_
      refine g_getR lf_X10_21 (S1.l 50 rfl) (S1.k 50 rfl rfl) (S1.r 50 21 (b := 53) rfl rfl) dX10_undo_50 ?_
      refine g_bipush dX10_undo_53 ?_
      refine g_aL0 dX10_undo_55 ?_
      refine g_gI lf_X10_361 (S1.l 50 rfl) (S1.k 50 rfl rfl) dX10_undo_56 ?_
      refine g_imul dX10_undo_59 ?_
      refine g_iL1 dX10_undo_60 ?_
      refine g_iadd dX10_undo_61 ?_
      rw [m1, show (17 : Int32) = nI 17 from rfl, pk_mul, nI_add]
      refine g_ialoadN (S1.l 53 rfl) (S1.k 53 rfl rfl) (S1.n 53 (n := 272) rfl rfl) (show 17 * A + i < 272 from by omega) (by decide) dX10_undo_62 ?_
      refine g_iastoreN (S1.l 52 rfl) (S1.k 52 rfl rfl) (S1.n 52 (n := 17) rfl rfl) (show i < 17 from by omega) (by decide) dX10_undo_63 ?_
      refine g_ii1 dX10_undo_64 rfl rfl ?_
      refine g_goto dX10_undo_67 ?_
      rw [nI_1]
      exact ih (i + 1) _ (by omega) he S1 ((gIq (by decide)).trans m1)
  exact loop 17 0 _ (by omega) rfl S (gIs _ _ _ _)
theorem n_size15 {h : Hp} (S : SX (mT h)) (f : Int32) (hf : f = 15) : gCi 1 0 0 yX10_size cX10_size 2 (some .int) [.ref 50, .int f] h (some (.int (gI (mT h) 50 6))) (mT h) := by
  refine g_entry (lv := [.ref 50, .int f]) 0 pn_X10 rfl rfl rfl ?_
  refine g_aL0 dX10_size_0 ?_
  refine g_iconst dX10_size_1 ?_
  refine g_pI0 lf_X10_39 (S.l 50 rfl) (S.k 50 rfl rfl) dX10_size_2 ?_
  show gY _ _ _ _ _ _ _ _ _ _ _ _ _ (mT h)
  generalize mT h = h at S ⊢
  refine g_iL1 dX10_size_5 ?_
  refine g_bipush dX10_size_6 ?_
  refine g_icne dX10_size_8 (fun c8 => absurd hf c8) (fun c8 => ?_)
  refine g_aL0 dX10_size_11 ?_
  refine g_gI lf_X10_352 (S.l 50 rfl) (S.k 50 rfl rfl) dX10_size_12 ?_
  exact e_iret rfl dX10_size_15 rfl rfl rfl rfl
theorem n_sizeO {h : Hp} (S : SX (mT h)) (f : Int32) (hf : f.toInt < 0 ∨ 16 ≤ f.toInt) : gCi 1 0 0 yX10_size cX10_size 2 (some .int) [.ref 50, .int f] h (some (.int (-1))) (mT h) := by
  refine g_entry (lv := [.ref 50, .int f]) 0 pn_X10 rfl rfl rfl ?_
  refine g_aL0 dX10_size_0 ?_
  refine g_iconst dX10_size_1 ?_
  refine g_pI0 lf_X10_39 (S.l 50 rfl) (S.k 50 rfl rfl) dX10_size_2 ?_
  show gY _ _ _ _ _ _ _ _ _ _ _ _ _ (mT h)
  generalize mT h = h at S ⊢
  refine g_iL1 dX10_size_5 ?_
  refine g_bipush dX10_size_6 ?_
  refine g_icne dX10_size_8 (fun c8 => ?_) (fun c8 => absurd c8 (fun z => by have := congrArg Int32.toInt z; rw [show (15 : Int32).toInt = 15 from by decide] at this; omega))
  refine g_iL1 dX10_size_16 ?_
  refine g_iconst dX10_size_17 ?_
  refine g_bipush dX10_size_18 ?_
  refine e_s3i (d_in _ _ _) lm_X10_134 dX10_size_20 rfl rfl rfl rfl ?_
  refine g_ifne dX10_size_23 (fun c23 => absurd (in_t c23) (by rw [show (0 : Int32).toInt = 0 from by decide, show (14 : Int32).toInt = 14 from by decide]; omega)) (fun c23 => ?_)
  refine g_iconst dX10_size_26 ?_
  exact e_iret rfl dX10_size_27 rfl rfl rfl rfl
theorem z_size {h : Hp} (S : SX (mT h)) (hz : gR (mT h) 50 3 = none) (f : Int32) (hf : 0 ≤ f.toInt ∧ f.toInt < 15) : gCi 1 0 0 yX10_size cX10_size 2 (some .int) [.ref 50, .int f] h (some (.int 0)) (mT h) := by
  refine g_entry (lv := [.ref 50, .int f]) 0 pn_X10 rfl rfl rfl ?_
  refine g_aL0 dX10_size_0 ?_
  refine g_iconst dX10_size_1 ?_
  refine g_pI0 lf_X10_39 (S.l 50 rfl) (S.k 50 rfl rfl) dX10_size_2 ?_
  show gY _ _ _ _ _ _ _ _ _ _ _ _ _ (mT h)
  generalize mT h = h at S hz ⊢
  refine g_iL1 dX10_size_5 ?_
  refine g_bipush dX10_size_6 ?_
  refine g_icne dX10_size_8 (fun c8 => ?_) (fun c8 => absurd c8 (fun z => by have := congrArg Int32.toInt z; rw [show (15 : Int32).toInt = 15 from by decide] at this; omega))
  refine g_iL1 dX10_size_16 ?_
  refine g_iconst dX10_size_17 ?_
  refine g_bipush dX10_size_18 ?_
  refine e_s3i (d_in _ _ _) lm_X10_134 dX10_size_20 rfl rfl rfl rfl ?_
  refine g_ifne dX10_size_23 (fun c23 => ?_) (fun c23 => absurd (in_f c23) (by rw [show (0 : Int32).toInt = 0 from by decide, show (14 : Int32).toInt = 14 from by decide]; omega))
  refine g_aL0 dX10_size_28 ?_
  refine g_getN0 lf_X10_359 (S.l 50 rfl) (S.k 50 rfl rfl) hz dX10_size_29 ?_
  refine g_ifnonnullZ dX10_size_32 ?_
  refine g_iconst dX10_size_35 ?_
  exact e_iret rfl dX10_size_36 rfl rfl rfl rfl
theorem n_size0 {h : Hp} {c : Nat} {cn : Nat → Nat} (X : MX (mT h) c cn) (f : Int32) (hf : f.toInt = 0) : gCi 1 0 0 yX10_size cX10_size 2 (some .int) [.ref 50, .int f] h (some (.int (gI (mT h) c 0))) (mT h) := by
  refine g_entry (lv := [.ref 50, .int f]) 0 pn_X10 rfl rfl rfl ?_
  refine g_aL0 dX10_size_0 ?_
  refine g_iconst dX10_size_1 ?_
  refine g_pI0 lf_X10_39 (X.S.l 50 rfl) (X.S.k 50 rfl rfl) dX10_size_2 ?_
  show gY _ _ _ _ _ _ _ _ _ _ _ _ _ (mT h)
  generalize mT h = h at X ⊢
  refine g_iL1 dX10_size_5 ?_
  refine g_bipush dX10_size_6 ?_
  refine g_icne dX10_size_8 (fun c8 => ?_) (fun c8 => absurd c8 (fun z => by have := congrArg Int32.toInt z; rw [show (15 : Int32).toInt = 15 from by decide] at this; omega))
  refine g_iL1 dX10_size_16 ?_
  refine g_iconst dX10_size_17 ?_
  refine g_bipush dX10_size_18 ?_
  refine e_s3i (d_in _ _ _) lm_X10_134 dX10_size_20 rfl rfl rfl rfl ?_
  refine g_ifne dX10_size_23 (fun c23 => ?_) (fun c23 => absurd (in_f c23) (by rw [show (0 : Int32).toInt = 0 from by decide, show (14 : Int32).toInt = 14 from by decide]; omega))
  refine g_aL0 dX10_size_28 ?_
  refine g_getR lf_X10_359 (X.S.l 50 rfl) (X.S.k 50 rfl rfl) X.C dX10_size_29 ?_
  refine g_ifnonnullS dX10_size_32 ?_
  refine g_iL1 dX10_size_37 ?_
  refine g_swIn 0 dX10_size_38 hf rfl ?_
  refine g_aL0 dX10_size_108 ?_
  refine g_getR lf_X10_359 (X.S.l 50 rfl) (X.S.k 50 rfl rfl) X.C dX10_size_109 ?_
  refine g_gI lf_X10_171 (X.M.l 0 rfl) (X.M.k 0 rfl rfl) dX10_size_112 ?_
  exact e_iret rfl dX10_size_115 rfl rfl rfl rfl
theorem n_size1 {h : Hp} {c : Nat} {cn : Nat → Nat} (X : MX (mT h) c cn) (f : Int32) (hf : f.toInt = 1) : gCi 1 0 0 yX10_size cX10_size 2 (some .int) [.ref 50, .int f] h (some (.int (gI (mT h) c 1))) (mT h) := by
  refine g_entry (lv := [.ref 50, .int f]) 0 pn_X10 rfl rfl rfl ?_
  refine g_aL0 dX10_size_0 ?_
  refine g_iconst dX10_size_1 ?_
  refine g_pI0 lf_X10_39 (X.S.l 50 rfl) (X.S.k 50 rfl rfl) dX10_size_2 ?_
  show gY _ _ _ _ _ _ _ _ _ _ _ _ _ (mT h)
  generalize mT h = h at X ⊢
  refine g_iL1 dX10_size_5 ?_
  refine g_bipush dX10_size_6 ?_
  refine g_icne dX10_size_8 (fun c8 => ?_) (fun c8 => absurd c8 (fun z => by have := congrArg Int32.toInt z; rw [show (15 : Int32).toInt = 15 from by decide] at this; omega))
  refine g_iL1 dX10_size_16 ?_
  refine g_iconst dX10_size_17 ?_
  refine g_bipush dX10_size_18 ?_
  refine e_s3i (d_in _ _ _) lm_X10_134 dX10_size_20 rfl rfl rfl rfl ?_
  refine g_ifne dX10_size_23 (fun c23 => ?_) (fun c23 => absurd (in_f c23) (by rw [show (0 : Int32).toInt = 0 from by decide, show (14 : Int32).toInt = 14 from by decide]; omega))
  refine g_aL0 dX10_size_28 ?_
  refine g_getR lf_X10_359 (X.S.l 50 rfl) (X.S.k 50 rfl rfl) X.C dX10_size_29 ?_
  refine g_ifnonnullS dX10_size_32 ?_
  refine g_iL1 dX10_size_37 ?_
  refine g_swIn 1 dX10_size_38 hf rfl ?_
  refine g_aL0 dX10_size_116 ?_
  refine g_getR lf_X10_359 (X.S.l 50 rfl) (X.S.k 50 rfl rfl) X.C dX10_size_117 ?_
  refine g_gI lf_X10_206 (X.M.l 0 rfl) (X.M.k 0 rfl rfl) dX10_size_120 ?_
  exact e_iret rfl dX10_size_123 rfl rfl rfl rfl
theorem n_size2 {h : Hp} {c : Nat} {cn : Nat → Nat} (X : MX (mT h) c cn) (f : Int32) (hf : f.toInt = 2) : gCi 1 0 0 yX10_size cX10_size 2 (some .int) [.ref 50, .int f] h (some (.int (gI (mT h) c 2))) (mT h) := by
  refine g_entry (lv := [.ref 50, .int f]) 0 pn_X10 rfl rfl rfl ?_
  refine g_aL0 dX10_size_0 ?_
  refine g_iconst dX10_size_1 ?_
  refine g_pI0 lf_X10_39 (X.S.l 50 rfl) (X.S.k 50 rfl rfl) dX10_size_2 ?_
  show gY _ _ _ _ _ _ _ _ _ _ _ _ _ (mT h)
  generalize mT h = h at X ⊢
  refine g_iL1 dX10_size_5 ?_
  refine g_bipush dX10_size_6 ?_
  refine g_icne dX10_size_8 (fun c8 => ?_) (fun c8 => absurd c8 (fun z => by have := congrArg Int32.toInt z; rw [show (15 : Int32).toInt = 15 from by decide] at this; omega))
  refine g_iL1 dX10_size_16 ?_
  refine g_iconst dX10_size_17 ?_
  refine g_bipush dX10_size_18 ?_
  refine e_s3i (d_in _ _ _) lm_X10_134 dX10_size_20 rfl rfl rfl rfl ?_
  refine g_ifne dX10_size_23 (fun c23 => ?_) (fun c23 => absurd (in_f c23) (by rw [show (0 : Int32).toInt = 0 from by decide, show (14 : Int32).toInt = 14 from by decide]; omega))
  refine g_aL0 dX10_size_28 ?_
  refine g_getR lf_X10_359 (X.S.l 50 rfl) (X.S.k 50 rfl rfl) X.C dX10_size_29 ?_
  refine g_ifnonnullS dX10_size_32 ?_
  refine g_iL1 dX10_size_37 ?_
  refine g_swIn 2 dX10_size_38 hf rfl ?_
  refine g_aL0 dX10_size_124 ?_
  refine g_getR lf_X10_359 (X.S.l 50 rfl) (X.S.k 50 rfl rfl) X.C dX10_size_125 ?_
  refine g_gI lf_X10_261 (X.M.l 0 rfl) (X.M.k 0 rfl rfl) dX10_size_128 ?_
  exact e_iret rfl dX10_size_131 rfl rfl rfl rfl
theorem n_size3 {h : Hp} {c : Nat} {cn : Nat → Nat} (X : MX (mT h) c cn) (f : Int32) (hf : f.toInt = 3) : gCi 1 0 0 yX10_size cX10_size 2 (some .int) [.ref 50, .int f] h (some (.int (gI (mT h) c 3))) (mT h) := by
  refine g_entry (lv := [.ref 50, .int f]) 0 pn_X10 rfl rfl rfl ?_
  refine g_aL0 dX10_size_0 ?_
  refine g_iconst dX10_size_1 ?_
  refine g_pI0 lf_X10_39 (X.S.l 50 rfl) (X.S.k 50 rfl rfl) dX10_size_2 ?_
  show gY _ _ _ _ _ _ _ _ _ _ _ _ _ (mT h)
  generalize mT h = h at X ⊢
  refine g_iL1 dX10_size_5 ?_
  refine g_bipush dX10_size_6 ?_
  refine g_icne dX10_size_8 (fun c8 => ?_) (fun c8 => absurd c8 (fun z => by have := congrArg Int32.toInt z; rw [show (15 : Int32).toInt = 15 from by decide] at this; omega))
  refine g_iL1 dX10_size_16 ?_
  refine g_iconst dX10_size_17 ?_
  refine g_bipush dX10_size_18 ?_
  refine e_s3i (d_in _ _ _) lm_X10_134 dX10_size_20 rfl rfl rfl rfl ?_
  refine g_ifne dX10_size_23 (fun c23 => ?_) (fun c23 => absurd (in_f c23) (by rw [show (0 : Int32).toInt = 0 from by decide, show (14 : Int32).toInt = 14 from by decide]; omega))
  refine g_aL0 dX10_size_28 ?_
  refine g_getR lf_X10_359 (X.S.l 50 rfl) (X.S.k 50 rfl rfl) X.C dX10_size_29 ?_
  refine g_ifnonnullS dX10_size_32 ?_
  refine g_iL1 dX10_size_37 ?_
  refine g_swIn 3 dX10_size_38 hf rfl ?_
  refine g_aL0 dX10_size_132 ?_
  refine g_getR lf_X10_359 (X.S.l 50 rfl) (X.S.k 50 rfl rfl) X.C dX10_size_133 ?_
  refine g_gI lf_X10_263 (X.M.l 0 rfl) (X.M.k 0 rfl rfl) dX10_size_136 ?_
  exact e_iret rfl dX10_size_139 rfl rfl rfl rfl
theorem n_size4 {h : Hp} {c : Nat} {cn : Nat → Nat} (X : MX (mT h) c cn) (f : Int32) (hf : f.toInt = 4) : gCi 1 0 0 yX10_size cX10_size 2 (some .int) [.ref 50, .int f] h (some (.int (nI (cn 1)))) (mT h) := by
  refine g_entry (lv := [.ref 50, .int f]) 0 pn_X10 rfl rfl rfl ?_
  refine g_aL0 dX10_size_0 ?_
  refine g_iconst dX10_size_1 ?_
  refine g_pI0 lf_X10_39 (X.S.l 50 rfl) (X.S.k 50 rfl rfl) dX10_size_2 ?_
  show gY _ _ _ _ _ _ _ _ _ _ _ _ _ (mT h)
  generalize mT h = h at X ⊢
  refine g_iL1 dX10_size_5 ?_
  refine g_bipush dX10_size_6 ?_
  refine g_icne dX10_size_8 (fun c8 => ?_) (fun c8 => absurd c8 (fun z => by have := congrArg Int32.toInt z; rw [show (15 : Int32).toInt = 15 from by decide] at this; omega))
  refine g_iL1 dX10_size_16 ?_
  refine g_iconst dX10_size_17 ?_
  refine g_bipush dX10_size_18 ?_
  refine e_s3i (d_in _ _ _) lm_X10_134 dX10_size_20 rfl rfl rfl rfl ?_
  refine g_ifne dX10_size_23 (fun c23 => ?_) (fun c23 => absurd (in_f c23) (by rw [show (0 : Int32).toInt = 0 from by decide, show (14 : Int32).toInt = 14 from by decide]; omega))
  refine g_aL0 dX10_size_28 ?_
  refine g_getR lf_X10_359 (X.S.l 50 rfl) (X.S.k 50 rfl rfl) X.C dX10_size_29 ?_
  refine g_ifnonnullS dX10_size_32 ?_
  refine g_iL1 dX10_size_37 ?_
  refine g_swIn 4 dX10_size_38 hf rfl ?_
  refine g_aL0 dX10_size_140 ?_
  refine g_getR lf_X10_359 (X.S.l 50 rfl) (X.S.k 50 rfl rfl) X.C dX10_size_141 ?_
  refine g_gI lf_X10_215 (X.M.l 0 rfl) (X.M.k 0 rfl rfl) dX10_size_144 ?_
  exact e_iret rfl dX10_size_147 rfl rfl X.c1 rfl
theorem n_size5 {h : Hp} {c : Nat} {cn : Nat → Nat} (X : MX (mT h) c cn) (f : Int32) (hf : f.toInt = 5) : gCi 1 0 0 yX10_size cX10_size 2 (some .int) [.ref 50, .int f] h (some (.int (nI (cn 2)))) (mT h) := by
  refine g_entry (lv := [.ref 50, .int f]) 0 pn_X10 rfl rfl rfl ?_
  refine g_aL0 dX10_size_0 ?_
  refine g_iconst dX10_size_1 ?_
  refine g_pI0 lf_X10_39 (X.S.l 50 rfl) (X.S.k 50 rfl rfl) dX10_size_2 ?_
  show gY _ _ _ _ _ _ _ _ _ _ _ _ _ (mT h)
  generalize mT h = h at X ⊢
  refine g_iL1 dX10_size_5 ?_
  refine g_bipush dX10_size_6 ?_
  refine g_icne dX10_size_8 (fun c8 => ?_) (fun c8 => absurd c8 (fun z => by have := congrArg Int32.toInt z; rw [show (15 : Int32).toInt = 15 from by decide] at this; omega))
  refine g_iL1 dX10_size_16 ?_
  refine g_iconst dX10_size_17 ?_
  refine g_bipush dX10_size_18 ?_
  refine e_s3i (d_in _ _ _) lm_X10_134 dX10_size_20 rfl rfl rfl rfl ?_
  refine g_ifne dX10_size_23 (fun c23 => ?_) (fun c23 => absurd (in_f c23) (by rw [show (0 : Int32).toInt = 0 from by decide, show (14 : Int32).toInt = 14 from by decide]; omega))
  refine g_aL0 dX10_size_28 ?_
  refine g_getR lf_X10_359 (X.S.l 50 rfl) (X.S.k 50 rfl rfl) X.C dX10_size_29 ?_
  refine g_ifnonnullS dX10_size_32 ?_
  refine g_iL1 dX10_size_37 ?_
  refine g_swIn 5 dX10_size_38 hf rfl ?_
  refine g_aL0 dX10_size_148 ?_
  refine g_getR lf_X10_359 (X.S.l 50 rfl) (X.S.k 50 rfl rfl) X.C dX10_size_149 ?_
  refine g_gI lf_X10_289 (X.M.l 0 rfl) (X.M.k 0 rfl rfl) dX10_size_152 ?_
  exact e_iret rfl dX10_size_155 rfl rfl X.c2 rfl
theorem n_size6 {h : Hp} {c : Nat} {cn : Nat → Nat} (X : MX (mT h) c cn) (f : Int32) (hf : f.toInt = 6) : gCi 1 0 0 yX10_size cX10_size 2 (some .int) [.ref 50, .int f] h (some (.int (nI (cn 3)))) (mT h) := by
  refine g_entry (lv := [.ref 50, .int f]) 0 pn_X10 rfl rfl rfl ?_
  refine g_aL0 dX10_size_0 ?_
  refine g_iconst dX10_size_1 ?_
  refine g_pI0 lf_X10_39 (X.S.l 50 rfl) (X.S.k 50 rfl rfl) dX10_size_2 ?_
  show gY _ _ _ _ _ _ _ _ _ _ _ _ _ (mT h)
  generalize mT h = h at X ⊢
  refine g_iL1 dX10_size_5 ?_
  refine g_bipush dX10_size_6 ?_
  refine g_icne dX10_size_8 (fun c8 => ?_) (fun c8 => absurd c8 (fun z => by have := congrArg Int32.toInt z; rw [show (15 : Int32).toInt = 15 from by decide] at this; omega))
  refine g_iL1 dX10_size_16 ?_
  refine g_iconst dX10_size_17 ?_
  refine g_bipush dX10_size_18 ?_
  refine e_s3i (d_in _ _ _) lm_X10_134 dX10_size_20 rfl rfl rfl rfl ?_
  refine g_ifne dX10_size_23 (fun c23 => ?_) (fun c23 => absurd (in_f c23) (by rw [show (0 : Int32).toInt = 0 from by decide, show (14 : Int32).toInt = 14 from by decide]; omega))
  refine g_aL0 dX10_size_28 ?_
  refine g_getR lf_X10_359 (X.S.l 50 rfl) (X.S.k 50 rfl rfl) X.C dX10_size_29 ?_
  refine g_ifnonnullS dX10_size_32 ?_
  refine g_iL1 dX10_size_37 ?_
  refine g_swIn 6 dX10_size_38 hf rfl ?_
  refine g_aL0 dX10_size_156 ?_
  refine g_getR lf_X10_359 (X.S.l 50 rfl) (X.S.k 50 rfl rfl) X.C dX10_size_157 ?_
  refine g_gI lf_X10_294 (X.M.l 0 rfl) (X.M.k 0 rfl rfl) dX10_size_160 ?_
  exact e_iret rfl dX10_size_163 rfl rfl X.c3 rfl
theorem n_size7 {h : Hp} {c : Nat} {cn : Nat → Nat} (X : MX (mT h) c cn) (f : Int32) (hf : f.toInt = 7) : gCi 1 0 0 yX10_size cX10_size 2 (some .int) [.ref 50, .int f] h (some (.int (nI (cn 4)))) (mT h) := by
  refine g_entry (lv := [.ref 50, .int f]) 0 pn_X10 rfl rfl rfl ?_
  refine g_aL0 dX10_size_0 ?_
  refine g_iconst dX10_size_1 ?_
  refine g_pI0 lf_X10_39 (X.S.l 50 rfl) (X.S.k 50 rfl rfl) dX10_size_2 ?_
  show gY _ _ _ _ _ _ _ _ _ _ _ _ _ (mT h)
  generalize mT h = h at X ⊢
  refine g_iL1 dX10_size_5 ?_
  refine g_bipush dX10_size_6 ?_
  refine g_icne dX10_size_8 (fun c8 => ?_) (fun c8 => absurd c8 (fun z => by have := congrArg Int32.toInt z; rw [show (15 : Int32).toInt = 15 from by decide] at this; omega))
  refine g_iL1 dX10_size_16 ?_
  refine g_iconst dX10_size_17 ?_
  refine g_bipush dX10_size_18 ?_
  refine e_s3i (d_in _ _ _) lm_X10_134 dX10_size_20 rfl rfl rfl rfl ?_
  refine g_ifne dX10_size_23 (fun c23 => ?_) (fun c23 => absurd (in_f c23) (by rw [show (0 : Int32).toInt = 0 from by decide, show (14 : Int32).toInt = 14 from by decide]; omega))
  refine g_aL0 dX10_size_28 ?_
  refine g_getR lf_X10_359 (X.S.l 50 rfl) (X.S.k 50 rfl rfl) X.C dX10_size_29 ?_
  refine g_ifnonnullS dX10_size_32 ?_
  refine g_iL1 dX10_size_37 ?_
  refine g_swIn 7 dX10_size_38 hf rfl ?_
  refine g_aL0 dX10_size_164 ?_
  refine g_getR lf_X10_359 (X.S.l 50 rfl) (X.S.k 50 rfl rfl) X.C dX10_size_165 ?_
  refine g_gI lf_X10_300 (X.M.l 0 rfl) (X.M.k 0 rfl rfl) dX10_size_168 ?_
  exact e_iret rfl dX10_size_171 rfl rfl X.c4 rfl
theorem n_size8 {h : Hp} {c : Nat} {cn : Nat → Nat} (X : MX (mT h) c cn) (f : Int32) (hf : f.toInt = 8) : gCi 1 0 0 yX10_size cX10_size 2 (some .int) [.ref 50, .int f] h (some (.int (gI (mT h) c 8))) (mT h) := by
  refine g_entry (lv := [.ref 50, .int f]) 0 pn_X10 rfl rfl rfl ?_
  refine g_aL0 dX10_size_0 ?_
  refine g_iconst dX10_size_1 ?_
  refine g_pI0 lf_X10_39 (X.S.l 50 rfl) (X.S.k 50 rfl rfl) dX10_size_2 ?_
  show gY _ _ _ _ _ _ _ _ _ _ _ _ _ (mT h)
  generalize mT h = h at X ⊢
  refine g_iL1 dX10_size_5 ?_
  refine g_bipush dX10_size_6 ?_
  refine g_icne dX10_size_8 (fun c8 => ?_) (fun c8 => absurd c8 (fun z => by have := congrArg Int32.toInt z; rw [show (15 : Int32).toInt = 15 from by decide] at this; omega))
  refine g_iL1 dX10_size_16 ?_
  refine g_iconst dX10_size_17 ?_
  refine g_bipush dX10_size_18 ?_
  refine e_s3i (d_in _ _ _) lm_X10_134 dX10_size_20 rfl rfl rfl rfl ?_
  refine g_ifne dX10_size_23 (fun c23 => ?_) (fun c23 => absurd (in_f c23) (by rw [show (0 : Int32).toInt = 0 from by decide, show (14 : Int32).toInt = 14 from by decide]; omega))
  refine g_aL0 dX10_size_28 ?_
  refine g_getR lf_X10_359 (X.S.l 50 rfl) (X.S.k 50 rfl rfl) X.C dX10_size_29 ?_
  refine g_ifnonnullS dX10_size_32 ?_
  refine g_iL1 dX10_size_37 ?_
  refine g_swIn 8 dX10_size_38 hf rfl ?_
  refine g_aL0 dX10_size_172 ?_
  refine g_getR lf_X10_359 (X.S.l 50 rfl) (X.S.k 50 rfl rfl) X.C dX10_size_173 ?_
  refine g_gI lf_X10_309 (X.M.l 0 rfl) (X.M.k 0 rfl rfl) dX10_size_176 ?_
  exact e_iret rfl dX10_size_179 rfl rfl rfl rfl
theorem n_size9 {h : Hp} {c : Nat} {cn : Nat → Nat} (X : MX (mT h) c cn) (f : Int32) (hf : f.toInt = 9) : gCi 1 0 0 yX10_size cX10_size 2 (some .int) [.ref 50, .int f] h (some (.int (nI (pc32 (gI (mT h) c 9))))) (mT h) := by
  refine g_entry (lv := [.ref 50, .int f]) 0 pn_X10 rfl rfl rfl ?_
  refine g_aL0 dX10_size_0 ?_
  refine g_iconst dX10_size_1 ?_
  refine g_pI0 lf_X10_39 (X.S.l 50 rfl) (X.S.k 50 rfl rfl) dX10_size_2 ?_
  show gY _ _ _ _ _ _ _ _ _ _ _ _ _ (mT h)
  generalize mT h = h at X ⊢
  refine g_iL1 dX10_size_5 ?_
  refine g_bipush dX10_size_6 ?_
  refine g_icne dX10_size_8 (fun c8 => ?_) (fun c8 => absurd c8 (fun z => by have := congrArg Int32.toInt z; rw [show (15 : Int32).toInt = 15 from by decide] at this; omega))
  refine g_iL1 dX10_size_16 ?_
  refine g_iconst dX10_size_17 ?_
  refine g_bipush dX10_size_18 ?_
  refine e_s3i (d_in _ _ _) lm_X10_134 dX10_size_20 rfl rfl rfl rfl ?_
  refine g_ifne dX10_size_23 (fun c23 => ?_) (fun c23 => absurd (in_f c23) (by rw [show (0 : Int32).toInt = 0 from by decide, show (14 : Int32).toInt = 14 from by decide]; omega))
  refine g_aL0 dX10_size_28 ?_
  refine g_getR lf_X10_359 (X.S.l 50 rfl) (X.S.k 50 rfl rfl) X.C dX10_size_29 ?_
  refine g_ifnonnullS dX10_size_32 ?_
  refine g_iL1 dX10_size_37 ?_
  refine g_swIn 9 dX10_size_38 hf rfl ?_
  refine g_aL0 dX10_size_180 ?_
  refine g_getR lf_X10_359 (X.S.l 50 rfl) (X.S.k 50 rfl rfl) X.C dX10_size_181 ?_
  refine g_gI lf_X10_322 (X.M.l 0 rfl) (X.M.k 0 rfl rfl) dX10_size_184 ?_
  refine e_s1i (d_bits _) lm_X10_392 dX10_size_187 rfl rfl rfl rfl ?_
  exact e_iret rfl dX10_size_190 rfl rfl rfl rfl
theorem n_size10 {h : Hp} {c : Nat} {cn : Nat → Nat} (X : MX (mT h) c cn) (f : Int32) (hf : f.toInt = 10) : gCi 1 0 0 yX10_size cX10_size 2 (some .int) [.ref 50, .int f] h (some (.int (nI (cn 7)))) (mT h) := by
  refine g_entry (lv := [.ref 50, .int f]) 0 pn_X10 rfl rfl rfl ?_
  refine g_aL0 dX10_size_0 ?_
  refine g_iconst dX10_size_1 ?_
  refine g_pI0 lf_X10_39 (X.S.l 50 rfl) (X.S.k 50 rfl rfl) dX10_size_2 ?_
  show gY _ _ _ _ _ _ _ _ _ _ _ _ _ (mT h)
  generalize mT h = h at X ⊢
  refine g_iL1 dX10_size_5 ?_
  refine g_bipush dX10_size_6 ?_
  refine g_icne dX10_size_8 (fun c8 => ?_) (fun c8 => absurd c8 (fun z => by have := congrArg Int32.toInt z; rw [show (15 : Int32).toInt = 15 from by decide] at this; omega))
  refine g_iL1 dX10_size_16 ?_
  refine g_iconst dX10_size_17 ?_
  refine g_bipush dX10_size_18 ?_
  refine e_s3i (d_in _ _ _) lm_X10_134 dX10_size_20 rfl rfl rfl rfl ?_
  refine g_ifne dX10_size_23 (fun c23 => ?_) (fun c23 => absurd (in_f c23) (by rw [show (0 : Int32).toInt = 0 from by decide, show (14 : Int32).toInt = 14 from by decide]; omega))
  refine g_aL0 dX10_size_28 ?_
  refine g_getR lf_X10_359 (X.S.l 50 rfl) (X.S.k 50 rfl rfl) X.C dX10_size_29 ?_
  refine g_ifnonnullS dX10_size_32 ?_
  refine g_iL1 dX10_size_37 ?_
  refine g_swIn 10 dX10_size_38 hf rfl ?_
  refine g_aL0 dX10_size_191 ?_
  refine g_getR lf_X10_359 (X.S.l 50 rfl) (X.S.k 50 rfl rfl) X.C dX10_size_192 ?_
  refine g_gI lf_X10_325 (X.M.l 0 rfl) (X.M.k 0 rfl rfl) dX10_size_195 ?_
  exact e_iret rfl dX10_size_198 rfl rfl X.c7 rfl
theorem n_size11 {h : Hp} {c : Nat} {cn : Nat → Nat} (X : MX (mT h) c cn) (f : Int32) (hf : f.toInt = 11) : gCi 1 0 0 yX10_size cX10_size 2 (some .int) [.ref 50, .int f] h (some (.int (nI (cn 8)))) (mT h) := by
  refine g_entry (lv := [.ref 50, .int f]) 0 pn_X10 rfl rfl rfl ?_
  refine g_aL0 dX10_size_0 ?_
  refine g_iconst dX10_size_1 ?_
  refine g_pI0 lf_X10_39 (X.S.l 50 rfl) (X.S.k 50 rfl rfl) dX10_size_2 ?_
  show gY _ _ _ _ _ _ _ _ _ _ _ _ _ (mT h)
  generalize mT h = h at X ⊢
  refine g_iL1 dX10_size_5 ?_
  refine g_bipush dX10_size_6 ?_
  refine g_icne dX10_size_8 (fun c8 => ?_) (fun c8 => absurd c8 (fun z => by have := congrArg Int32.toInt z; rw [show (15 : Int32).toInt = 15 from by decide] at this; omega))
  refine g_iL1 dX10_size_16 ?_
  refine g_iconst dX10_size_17 ?_
  refine g_bipush dX10_size_18 ?_
  refine e_s3i (d_in _ _ _) lm_X10_134 dX10_size_20 rfl rfl rfl rfl ?_
  refine g_ifne dX10_size_23 (fun c23 => ?_) (fun c23 => absurd (in_f c23) (by rw [show (0 : Int32).toInt = 0 from by decide, show (14 : Int32).toInt = 14 from by decide]; omega))
  refine g_aL0 dX10_size_28 ?_
  refine g_getR lf_X10_359 (X.S.l 50 rfl) (X.S.k 50 rfl rfl) X.C dX10_size_29 ?_
  refine g_ifnonnullS dX10_size_32 ?_
  refine g_iL1 dX10_size_37 ?_
  refine g_swIn 11 dX10_size_38 hf rfl ?_
  refine g_aL0 dX10_size_199 ?_
  refine g_getR lf_X10_359 (X.S.l 50 rfl) (X.S.k 50 rfl rfl) X.C dX10_size_200 ?_
  refine g_gI lf_X10_335 (X.M.l 0 rfl) (X.M.k 0 rfl rfl) dX10_size_203 ?_
  exact e_iret rfl dX10_size_206 rfl rfl X.c8 rfl
theorem n_size12 {h : Hp} {c : Nat} {cn : Nat → Nat} (X : MX (mT h) c cn) (f : Int32) (hf : f.toInt = 12) : gCi 1 0 0 yX10_size cX10_size 2 (some .int) [.ref 50, .int f] h (some (.int (nI (cn 9)))) (mT h) := by
  refine g_entry (lv := [.ref 50, .int f]) 0 pn_X10 rfl rfl rfl ?_
  refine g_aL0 dX10_size_0 ?_
  refine g_iconst dX10_size_1 ?_
  refine g_pI0 lf_X10_39 (X.S.l 50 rfl) (X.S.k 50 rfl rfl) dX10_size_2 ?_
  show gY _ _ _ _ _ _ _ _ _ _ _ _ _ (mT h)
  generalize mT h = h at X ⊢
  refine g_iL1 dX10_size_5 ?_
  refine g_bipush dX10_size_6 ?_
  refine g_icne dX10_size_8 (fun c8 => ?_) (fun c8 => absurd c8 (fun z => by have := congrArg Int32.toInt z; rw [show (15 : Int32).toInt = 15 from by decide] at this; omega))
  refine g_iL1 dX10_size_16 ?_
  refine g_iconst dX10_size_17 ?_
  refine g_bipush dX10_size_18 ?_
  refine e_s3i (d_in _ _ _) lm_X10_134 dX10_size_20 rfl rfl rfl rfl ?_
  refine g_ifne dX10_size_23 (fun c23 => ?_) (fun c23 => absurd (in_f c23) (by rw [show (0 : Int32).toInt = 0 from by decide, show (14 : Int32).toInt = 14 from by decide]; omega))
  refine g_aL0 dX10_size_28 ?_
  refine g_getR lf_X10_359 (X.S.l 50 rfl) (X.S.k 50 rfl rfl) X.C dX10_size_29 ?_
  refine g_ifnonnullS dX10_size_32 ?_
  refine g_iL1 dX10_size_37 ?_
  refine g_swIn 12 dX10_size_38 hf rfl ?_
  refine g_aL0 dX10_size_207 ?_
  refine g_getR lf_X10_359 (X.S.l 50 rfl) (X.S.k 50 rfl rfl) X.C dX10_size_208 ?_
  refine g_gI lf_X10_338 (X.M.l 0 rfl) (X.M.k 0 rfl rfl) dX10_size_211 ?_
  exact e_iret rfl dX10_size_214 rfl rfl X.c9 rfl
theorem n_size13 {h : Hp} {c : Nat} {cn : Nat → Nat} (X : MX (mT h) c cn) (f : Int32) (hf : f.toInt = 13) : gCi 1 0 0 yX10_size cX10_size 2 (some .int) [.ref 50, .int f] h (some (.int (gI (mT h) 50 23))) (mT h) := by
  refine g_entry (lv := [.ref 50, .int f]) 0 pn_X10 rfl rfl rfl ?_
  refine g_aL0 dX10_size_0 ?_
  refine g_iconst dX10_size_1 ?_
  refine g_pI0 lf_X10_39 (X.S.l 50 rfl) (X.S.k 50 rfl rfl) dX10_size_2 ?_
  show gY _ _ _ _ _ _ _ _ _ _ _ _ _ (mT h)
  generalize mT h = h at X ⊢
  refine g_iL1 dX10_size_5 ?_
  refine g_bipush dX10_size_6 ?_
  refine g_icne dX10_size_8 (fun c8 => ?_) (fun c8 => absurd c8 (fun z => by have := congrArg Int32.toInt z; rw [show (15 : Int32).toInt = 15 from by decide] at this; omega))
  refine g_iL1 dX10_size_16 ?_
  refine g_iconst dX10_size_17 ?_
  refine g_bipush dX10_size_18 ?_
  refine e_s3i (d_in _ _ _) lm_X10_134 dX10_size_20 rfl rfl rfl rfl ?_
  refine g_ifne dX10_size_23 (fun c23 => ?_) (fun c23 => absurd (in_f c23) (by rw [show (0 : Int32).toInt = 0 from by decide, show (14 : Int32).toInt = 14 from by decide]; omega))
  refine g_aL0 dX10_size_28 ?_
  refine g_getR lf_X10_359 (X.S.l 50 rfl) (X.S.k 50 rfl rfl) X.C dX10_size_29 ?_
  refine g_ifnonnullS dX10_size_32 ?_
  refine g_iL1 dX10_size_37 ?_
  refine g_swIn 13 dX10_size_38 hf rfl ?_
  refine g_aL0 dX10_size_215 ?_
  refine g_gI lf_X10_361 (X.S.l 50 rfl) (X.S.k 50 rfl rfl) dX10_size_216 ?_
  exact e_iret rfl dX10_size_219 rfl rfl rfl rfl
theorem n_size14 {h : Hp} {c : Nat} {cn : Nat → Nat} (X : MX (mT h) c cn) (f : Int32) (hf : f.toInt = 14) : gCi 1 0 0 yX10_size cX10_size 2 (some .int) [.ref 50, .int f] h (some (.int (gI (mT h) 50 24))) (mT h) := by
  refine g_entry (lv := [.ref 50, .int f]) 0 pn_X10 rfl rfl rfl ?_
  refine g_aL0 dX10_size_0 ?_
  refine g_iconst dX10_size_1 ?_
  refine g_pI0 lf_X10_39 (X.S.l 50 rfl) (X.S.k 50 rfl rfl) dX10_size_2 ?_
  show gY _ _ _ _ _ _ _ _ _ _ _ _ _ (mT h)
  generalize mT h = h at X ⊢
  refine g_iL1 dX10_size_5 ?_
  refine g_bipush dX10_size_6 ?_
  refine g_icne dX10_size_8 (fun c8 => ?_) (fun c8 => absurd c8 (fun z => by have := congrArg Int32.toInt z; rw [show (15 : Int32).toInt = 15 from by decide] at this; omega))
  refine g_iL1 dX10_size_16 ?_
  refine g_iconst dX10_size_17 ?_
  refine g_bipush dX10_size_18 ?_
  refine e_s3i (d_in _ _ _) lm_X10_134 dX10_size_20 rfl rfl rfl rfl ?_
  refine g_ifne dX10_size_23 (fun c23 => ?_) (fun c23 => absurd (in_f c23) (by rw [show (0 : Int32).toInt = 0 from by decide, show (14 : Int32).toInt = 14 from by decide]; omega))
  refine g_aL0 dX10_size_28 ?_
  refine g_getR lf_X10_359 (X.S.l 50 rfl) (X.S.k 50 rfl rfl) X.C dX10_size_29 ?_
  refine g_ifnonnullS dX10_size_32 ?_
  refine g_iL1 dX10_size_37 ?_
  refine g_swOut dX10_size_38 (Or.inr (show (0 : Int) + 14 ≤ f.toInt from by omega)) ?_
  refine g_aL0 dX10_size_220 ?_
  refine g_gI lf_X10_364 (X.S.l 50 rfl) (X.S.k 50 rfl rfl) dX10_size_221 ?_
  exact e_iret rfl dX10_size_224 rfl rfl rfl rfl

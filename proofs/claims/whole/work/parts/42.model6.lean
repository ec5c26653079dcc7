/-! THE REFERENCE: rests, light, made panes, sizes, what it says of itself -/
theorem d_viewAt {h : Hp} (x : Int32) : gCi 0 0 0 yX10_viewAt cX10_viewAt 1 (some .int) [.int x] h (some (.int (voF x))) h := by
  refine g_entry (lv := [.int x]) 0 pn_X10 rfl rfl rfl ?_
  refine g_iL0 dX10_viewAt_0 ?_
  refine g_ifne dX10_viewAt_1 (fun c1 => ?_) (fun c1 => ?_)
  · refine g_iL0 dX10_viewAt_9 ?_
    refine g_iconst dX10_viewAt_10 ?_
    refine g_isub dX10_viewAt_11 ?_
    exact e_iret rfl dX10_viewAt_12 rfl rfl (if_neg c1).symm rfl
  · refine g_bipush dX10_viewAt_4 ?_
    refine g_goto dX10_viewAt_6 ?_
    exact e_iret rfl dX10_viewAt_12 rfl rfl (if_pos c1).symm rfl
theorem vo_ok {J n : Nat} (hJ : J ≤ n) (hn : n ≤ 6) : ¬ siF (voF (nI J)) (nI n) = 0 := by
  rcases Nat.eq_zero_or_pos J with z | z
  · subst z
    rw [show siF (voF (nI 0)) (nI n) = 1 from if_pos (by decide)]
    decide
  · have e : voF (nI J) = nI (J - 1) := by
      unfold voF
      rw [if_neg (nI_ne0 z (by omega))]
      have := nI_pred (J - 1)
      rw [show J - 1 + 1 = J from by omega] at this
      exact this
    rw [e, show siF (nI (J - 1)) (nI n) = 1 from (if_neg (nI_n2 (by omega))).trans (if_neg (by rw [ip_in (by omega) (by omega)]; decide))]
    decide
theorem d_isRest {h : Hp} {c : Nat} {cn : Nat → Nat} (X : MX h c cn) {P : Nat} (hP8 : P < 8) {J : Nat} (hJ : J ≤ cn 3) : gCi 3 0 0 yX10_isRest cX10_isRest 5 (some .boolean) [.ref 50, .int (nI P), .int (nI J)] h (some (.int (irF (fun q => thF (gI h 52 16) (nI q)) (gnM h c cn) (cn 1) (cn 3) P (nI J)))) h := by
  have hvJ := vo_ok hJ X.b3
  refine g_entry (lv := [.ref 50, .int (nI P), .int (nI J), .retAddr 0, .retAddr 0]) 2 pn_X10 rfl rfl rfl ?_
  refine g_aL0 dX10_isRest_0 ?_
  refine g_iL1 dX10_isRest_1 ?_
  refine e_v1i (d_isBroken X.S _) lm_X10_383 dX10_isRest_2 (X.S.l 50 rfl) (X.S.k 50 rfl rfl) rfl rfl rfl rfl ?_
  refine g_ifeq dX10_isRest_5 (fun c5 => ?_) (fun c5 => ?_)
  · refine g_aL0 dX10_isRest_10 ?_
    refine g_iL1 dX10_isRest_11 ?_
    refine g_iL2 dX10_isRest_12 ?_
    refine e_s1i (d_viewAt _) lm_X10_504 dX10_isRest_13 rfl rfl rfl rfl ?_
    refine e_v2i (d_gainOf X hP8 hvJ) lm_X10_501 dX10_isRest_16 (X.S.l 50 rfl) (X.S.k 50 rfl rfl) rfl rfl rfl rfl ?_
    refine g_iS3 dX10_isRest_19 rfl rfl ?_
    refine g_iconst dX10_isRest_20 ?_
    refine g_iS4 dX10_isRest_21 rfl rfl ?_
    have loop : ∀ (n i : Nat) , i + n = cn 1 → irF (fun q => thF (gI h 52 16) (nI q)) (gnM h c cn) (cn 1) (cn 3) P (nI J) = irA (fun q => thF (gI h 52 16) (nI q)) (fun q => (gnM h c cn) q (voF (nI J))) ((gnM h c cn) P (voF (nI J))) (irB (fun k => (gnM h c cn) P (voF (nI k))) ((gnM h c cn) P (voF (nI J))) (cn 3 + 1) 0) n i → gY 3 0 0 yX10_isRest cX10_isRest 5 (some .boolean) 0 0 (fun v' h' => v' = (some (.int (irF (fun q => thF (gI h 52 16) (nI q)) (gnM h c cn) (cn 1) (cn 3) P (nI J)))) ∧ h' = h) 23 [.ref 50, .int (nI P), .int (nI J), .int ((gnM h c cn) P (voF (nI J))), .int (nI i)] [] h := by
      intro n
      induction n with
      | zero =>
        intro i  hi he 
        refine g_iL4 dX10_isRest_23 ?_
        refine g_aL0 dX10_isRest_25 ?_
        refine g_getR lf_X10_359 (X.S.l 50 rfl) (X.S.k 50 rfl rfl) X.C dX10_isRest_26 ?_
        refine g_gI lf_X10_215 (X.M.l 0 rfl) (X.M.k 0 rfl rfl) dX10_isRest_29 ?_
        rw [X.c1]
        refine g_icge dX10_isRest_32 (fun c32 => ?_) (fun c32 => absurd (nI_le (by omega) (by have := X.b1; omega)) c32)
        refine g_iconst dX10_isRest_66 ?_
        refine g_iS4 dX10_isRest_67 rfl rfl ?_
        have loop2 : ∀ (m k : Nat) , k + m = cn 3 + 1 → irF (fun q => thF (gI h 52 16) (nI q)) (gnM h c cn) (cn 1) (cn 3) P (nI J) = irB (fun k => (gnM h c cn) P (voF (nI k))) ((gnM h c cn) P (voF (nI J))) m k → gY 3 0 0 yX10_isRest cX10_isRest 5 (some .boolean) 0 0 (fun v' h' => v' = (some (.int (irF (fun q => thF (gI h 52 16) (nI q)) (gnM h c cn) (cn 1) (cn 3) P (nI J)))) ∧ h' = h) 69 [.ref 50, .int (nI P), .int (nI J), .int ((gnM h c cn) P (voF (nI J))), .int (nI k)] [] h := by
          intro m
          induction m with
          | zero =>
            intro k  hi2 he2 
            refine g_iL4 dX10_isRest_69 ?_
            refine g_aL0 dX10_isRest_71 ?_
            refine g_getR lf_X10_359 (X.S.l 50 rfl) (X.S.k 50 rfl rfl) X.C dX10_isRest_72 ?_
            refine g_gI lf_X10_294 (X.M.l 0 rfl) (X.M.k 0 rfl rfl) dX10_isRest_75 ?_
            rw [X.c3]
            refine g_icgt dX10_isRest_78 (fun c78 => ?_) (fun c78 => absurd (nI_lt (by omega) (by have := X.b3; omega)) c78)
            refine g_iconst dX10_isRest_103 ?_
            exact e_zret rfl (by decide) dX10_isRest_104 rfl rfl he2.symm rfl
          | succ m ih2 =>
            intro k  hi2 he2 
            refine g_iL4 dX10_isRest_69 ?_
            refine g_aL0 dX10_isRest_71 ?_
            refine g_getR lf_X10_359 (X.S.l 50 rfl) (X.S.k 50 rfl rfl) X.C dX10_isRest_72 ?_
            refine g_gI lf_X10_294 (X.M.l 0 rfl) (X.M.k 0 rfl rfl) dX10_isRest_75 ?_
            rw [X.c3]
            refine g_icgt dX10_isRest_78 (fun c78 => absurd c78 (nI_nlt (by omega) (by have := X.b3; omega))) (fun c78 => ?_)
            have hvk : ¬ siF (voF (nI k)) (nI (cn 3)) = 0 := vo_ok (by omega) X.b3
            refine g_aL0 dX10_isRest_81 ?_
            refine g_iL1 dX10_isRest_82 ?_
            refine g_iL4 dX10_isRest_83 ?_
            refine e_s1i (d_viewAt _) lm_X10_504 dX10_isRest_85 rfl rfl rfl rfl ?_
            refine e_v2i (d_gainOf X hP8 hvk) lm_X10_501 dX10_isRest_88 (X.S.l 50 rfl) (X.S.k 50 rfl rfl) rfl rfl rfl rfl ?_
            refine g_iL3 dX10_isRest_91 ?_
            refine g_icge dX10_isRest_92 (fun c92 => ?_) (fun c92 => ?_)
            · refine g_ii4 dX10_isRest_97 rfl rfl ?_
              refine g_goto dX10_isRest_100 ?_
              rw [nI_1]
              exact ih2 (k + 1)  (by omega) (he2.trans (if_pos c92)) 
            · refine g_iconst dX10_isRest_95 ?_
              exact e_zret rfl (by decide) dX10_isRest_96 rfl rfl (he2.trans (if_neg c92)).symm rfl
        exact loop2 (cn 3 + 1) 0 (by omega) he
      | succ n ih =>
        intro i  hi he 
        refine g_iL4 dX10_isRest_23 ?_
        refine g_aL0 dX10_isRest_25 ?_
        refine g_getR lf_X10_359 (X.S.l 50 rfl) (X.S.k 50 rfl rfl) X.C dX10_isRest_26 ?_
        refine g_gI lf_X10_215 (X.M.l 0 rfl) (X.M.k 0 rfl rfl) dX10_isRest_29 ?_
        rw [X.c1]
        refine g_icge dX10_isRest_32 (fun c32 => absurd c32 (nI_ge (by omega) (by have := X.b1; omega))) (fun c32 => ?_)
        refine g_aL0 dX10_isRest_35 ?_
        refine g_iL4 dX10_isRest_36 ?_
        refine e_v1i (d_isBroken X.S _) lm_X10_383 dX10_isRest_38 (X.S.l 50 rfl) (X.S.k 50 rfl rfl) rfl rfl rfl rfl ?_
        refine g_ifne dX10_isRest_41 (fun c41 => ?_) (fun c41 => ?_)
        · refine g_ii4 dX10_isRest_60 rfl rfl ?_
          refine g_goto dX10_isRest_63 ?_
          rw [nI_1]
          exact ih (i + 1)  (by omega) (he.trans (if_neg c41)) 
        · refine g_aL0 dX10_isRest_44 ?_
          refine g_iL4 dX10_isRest_45 ?_
          refine g_iL2 dX10_isRest_47 ?_
          refine e_s1i (d_viewAt _) lm_X10_504 dX10_isRest_48 rfl rfl rfl rfl ?_
          refine e_v2i (d_gainOf X (show i < 8 from by have := X.b1; omega) hvJ) lm_X10_501 dX10_isRest_51 (X.S.l 50 rfl) (X.S.k 50 rfl rfl) rfl rfl rfl rfl ?_
          refine g_iL3 dX10_isRest_54 ?_
          refine g_icle dX10_isRest_55 (fun c55 => ?_) (fun c55 => ?_)
          · refine g_ii4 dX10_isRest_60 rfl rfl ?_
            refine g_goto dX10_isRest_63 ?_
            rw [nI_1]
            exact ih (i + 1)  (by omega) (he.trans ((if_pos c41).trans (if_pos c55))) 
          · refine g_iconst dX10_isRest_58 ?_
            exact e_zret rfl (by decide) dX10_isRest_59 rfl rfl (he.trans ((if_pos c41).trans (if_neg c55))).symm rfl
    exact loop (cn 1) 0 (by omega) (if_pos c5)
  · refine g_iconst dX10_isRest_8 ?_
    exact e_zret rfl (by decide) dX10_isRest_9 rfl rfl (if_neg c5).symm rfl
def rtBM (ir : Nat → Nat → Int32) (p : Nat) : Nat → Nat → Int32 → Int32
  | 0, _, m => m
  | n + 1, j, m => if ir p j = 0 then rtBM ir p n (j + 1) (m + 0) else rtBM ir p n (j + 1) (m + 1)
def rtAM (ir : Nat → Nat → Int32) (V : Nat) : Nat → Nat → Int32 → Int32
  | 0, _, m => m
  | n + 1, i, m => rtAM ir V n (i + 1) (rtBM ir i (V + 1) 0 m)
theorem n_rests {h : Hp} {c : Nat} {cn : Nat → Nat} (X : MX (mT h) c cn) : gCi 4 0 0 yX10_rests cX10_rests 4 (some .int) [.ref 50] h (some (.int (rtAM (fun p k => irF (fun q => thF (gI (mT h) 52 16) (nI q)) (gnM (mT h) c cn) (cn 1) (cn 3) p (nI k)) (cn 3) (cn 1) 0 0))) (mR (mT h) 0) := by
  refine g_entry (lv := [.ref 50, .retAddr 0, .retAddr 0, .retAddr 0]) 3 pn_X10 rfl rfl rfl ?_
  refine g_aL0 dX10_rests_0 ?_
  refine g_iconst dX10_rests_1 ?_
  refine g_pI0 lf_X10_39 (X.S.l 50 rfl) (X.S.k 50 rfl rfl) dX10_rests_2 ?_
  show gY _ _ _ _ _ _ _ _ _ _ _ _ _ (mT h)
  generalize mT h = h at X ⊢
  refine g_aL0 dX10_rests_5 ?_
  refine g_getR lf_X10_359 (X.S.l 50 rfl) (X.S.k 50 rfl rfl) X.C dX10_rests_6 ?_
  refine g_ifnonnullS dX10_rests_9 ?_
  refine g_iconst dX10_rests_18 ?_
  refine g_iS1 dX10_rests_19 rfl rfl ?_
  refine g_iconst dX10_rests_20 ?_
  refine g_iS2 dX10_rests_21 rfl rfl ?_
  have loop : ∀ (n i : Nat) (m : Int32) (v3 : Value), i + n = cn 1 → rtAM (fun p k => irF (fun q => thF (gI h 52 16) (nI q)) (gnM h c cn) (cn 1) (cn 3) p (nI k)) (cn 3) (cn 1) 0 0 = rtAM (fun p k => irF (fun q => thF (gI h 52 16) (nI q)) (gnM h c cn) (cn 1) (cn 3) p (nI k)) (cn 3) n i m → gY 4 0 0 yX10_rests cX10_rests 4 (some .int) 0 0 (fun v' h' => v' = (some (.int (rtAM (fun p k => irF (fun q => thF (gI h 52 16) (nI q)) (gnM h c cn) (cn 1) (cn 3) p (nI k)) (cn 3) (cn 1) 0 0))) ∧ h' = (mR h 0)) 22 [.ref 50, .int m, .int (nI i), v3] [] h := by
    intro n
    induction n with
    | zero =>
      intro i m v3 hi he 
      refine g_iL2 dX10_rests_22 ?_
      refine g_aL0 dX10_rests_23 ?_
      refine g_getR lf_X10_359 (X.S.l 50 rfl) (X.S.k 50 rfl rfl) X.C dX10_rests_24 ?_
      refine g_gI lf_X10_215 (X.M.l 0 rfl) (X.M.k 0 rfl rfl) dX10_rests_27 ?_
      rw [X.c1]
      refine g_icge dX10_rests_30 (fun c30 => ?_) (fun c30 => absurd (nI_le (by omega) (by have := X.b1; omega)) c30)
      refine g_aL0 dX10_rests_75 ?_
      refine g_iL1 dX10_rests_76 ?_
      refine e_v1i (d_good X.S _) lm_X10_49 dX10_rests_77 (X.S.l 50 rfl) (X.S.k 50 rfl rfl) rfl rfl rfl rfl ?_
      exact e_iret rfl dX10_rests_80 rfl rfl he.symm rfl
    | succ n ih =>
      intro i m v3 hi he 
      refine g_iL2 dX10_rests_22 ?_
      refine g_aL0 dX10_rests_23 ?_
      refine g_getR lf_X10_359 (X.S.l 50 rfl) (X.S.k 50 rfl rfl) X.C dX10_rests_24 ?_
      refine g_gI lf_X10_215 (X.M.l 0 rfl) (X.M.k 0 rfl rfl) dX10_rests_27 ?_
      rw [X.c1]
      refine g_icge dX10_rests_30 (fun c30 => absurd c30 (nI_ge (by omega) (by have := X.b1; omega))) (fun c30 => ?_)
      refine g_iconst dX10_rests_33 ?_
      refine g_iS3 dX10_rests_34 rfl rfl ?_
      have loop2 : ∀ (n2 j : Nat) (m2 : Int32), j + n2 = cn 3 + 1 → rtBM (fun p k => irF (fun q => thF (gI h 52 16) (nI q)) (gnM h c cn) (cn 1) (cn 3) p (nI k)) i (cn 3 + 1) 0 m = rtBM (fun p k => irF (fun q => thF (gI h 52 16) (nI q)) (gnM h c cn) (cn 1) (cn 3) p (nI k)) i n2 j m2 → gY 4 0 0 yX10_rests cX10_rests 4 (some .int) 0 0 (fun v' h' => v' = (some (.int (rtAM (fun p k => irF (fun q => thF (gI h 52 16) (nI q)) (gnM h c cn) (cn 1) (cn 3) p (nI k)) (cn 3) (cn 1) 0 0))) ∧ h' = (mR h 0)) 35 [.ref 50, .int m2, .int (nI i), .int (nI j)] [] h := by
        intro n2
        induction n2 with
        | zero =>
          intro j m2 hi2 he2 
          refine g_iL3 dX10_rests_35 ?_
          refine g_aL0 dX10_rests_36 ?_
          refine g_getR lf_X10_359 (X.S.l 50 rfl) (X.S.k 50 rfl rfl) X.C dX10_rests_37 ?_
          refine g_gI lf_X10_294 (X.M.l 0 rfl) (X.M.k 0 rfl rfl) dX10_rests_40 ?_
          rw [X.c3]
          refine g_icgt dX10_rests_43 (fun c43 => ?_) (fun c43 => absurd (nI_lt (by omega) (by have := X.b3; omega)) c43)
          refine g_ii2 dX10_rests_69 rfl rfl ?_
          refine g_goto dX10_rests_72 ?_
          rw [nI_1]
          exact ih (i + 1) _ _ (by omega) (he.trans (congrArg (rtAM _ (cn 3) n (i + 1)) he2))
        | succ n2 ih2 =>
          intro j m2 hi2 he2 
          refine g_iL3 dX10_rests_35 ?_
          refine g_aL0 dX10_rests_36 ?_
          refine g_getR lf_X10_359 (X.S.l 50 rfl) (X.S.k 50 rfl rfl) X.C dX10_rests_37 ?_
          refine g_gI lf_X10_294 (X.M.l 0 rfl) (X.M.k 0 rfl rfl) dX10_rests_40 ?_
          rw [X.c3]
          refine g_icgt dX10_rests_43 (fun c43 => absurd c43 (nI_nlt (by omega) (by have := X.b3; omega))) (fun c43 => ?_)
          refine g_iL1 dX10_rests_46 ?_
          refine g_aL0 dX10_rests_47 ?_
          refine g_iL2 dX10_rests_48 ?_
          refine g_iL3 dX10_rests_49 ?_
          refine e_v2i (d_isRest X (show i < 8 from by have := X.b1; omega) (show j ≤ cn 3 from by omega)) lm_X10_507 dX10_rests_50 (X.S.l 50 rfl) (X.S.k 50 rfl rfl) rfl rfl rfl rfl ?_
          refine g_ifeq dX10_rests_53 (fun c53 => ?_) (fun c53 => ?_)
          · refine g_iconst dX10_rests_60 ?_
            refine g_iadd dX10_rests_61 ?_
            refine g_iS1 dX10_rests_62 rfl rfl ?_
            refine g_ii3 dX10_rests_63 rfl rfl ?_
            refine g_goto dX10_rests_66 ?_
            rw [nI_1]
            exact ih2 (j + 1) _ (by omega) (he2.trans (if_pos c53)) 
          · refine g_iconst dX10_rests_56 ?_
            refine g_goto dX10_rests_57 ?_
            refine g_iadd dX10_rests_61 ?_
            refine g_iS1 dX10_rests_62 rfl rfl ?_
            refine g_ii3 dX10_rests_63 rfl rfl ?_
            refine g_goto dX10_rests_66 ?_
            rw [nI_1]
            exact ih2 (j + 1) _ (by omega) (he2.trans (if_neg c53)) 
      exact loop2 (cn 3 + 1) 0 _ (by omega) rfl
  exact loop (cn 1) 0 _ _ (by omega) rfl
theorem z_rests {h : Hp} (S : SX (mT h)) (hz : gR (mT h) 50 3 = none) : gCi 4 0 0 yX10_rests cX10_rests 4 (some .int) [.ref 50] h (some (.int (-1))) (mR (mT h) 1) := by
  refine g_entry (lv := [.ref 50, .retAddr 0, .retAddr 0, .retAddr 0]) 3 pn_X10 rfl rfl rfl ?_
  refine g_aL0 dX10_rests_0 ?_
  refine g_iconst dX10_rests_1 ?_
  refine g_pI0 lf_X10_39 (S.l 50 rfl) (S.k 50 rfl rfl) dX10_rests_2 ?_
  show gY _ _ _ _ _ _ _ _ _ _ _ _ _ (mT h)
  generalize mT h = h at S hz ⊢
  refine g_aL0 dX10_rests_5 ?_
  refine g_getN0 lf_X10_359 (S.l 50 rfl) (S.k 50 rfl rfl) hz dX10_rests_6 ?_
  refine g_ifnonnullZ dX10_rests_9 ?_
  refine g_aL0 dX10_rests_12 ?_
  refine g_iconst dX10_rests_13 ?_
  refine e_v1i (d_refused S _) lm_X10_45 dX10_rests_14 (S.l 50 rfl) (S.k 50 rfl rfl) rfl rfl rfl rfl ?_
  exact e_iret rfl dX10_rests_17 rfl rfl rfl rfl
theorem n_rest {h : Hp} {c : Nat} {cn : Nat → Nat} (X : MX (mT h) c cn) : gCi 4 0 0 yX10_rest cX10_rest 3 (some .int) [.ref 50] h (some (.int (rfA (fun p k => irF (fun q => thF (gI (mT h) 52 16) (nI q)) (gnM (mT h) c cn) (cn 1) (cn 3) p (nI k)) (cn 3) (cn 1) 0))) (mR (mT h) 0) := by
  refine g_entry (lv := [.ref 50, .retAddr 0, .retAddr 0]) 2 pn_X10 rfl rfl rfl ?_
  refine g_aL0 dX10_rest_0 ?_
  refine g_iconst dX10_rest_1 ?_
  refine g_pI0 lf_X10_39 (X.S.l 50 rfl) (X.S.k 50 rfl rfl) dX10_rest_2 ?_
  show gY _ _ _ _ _ _ _ _ _ _ _ _ _ (mT h)
  generalize mT h = h at X ⊢
  refine g_aL0 dX10_rest_5 ?_
  refine g_getR lf_X10_359 (X.S.l 50 rfl) (X.S.k 50 rfl rfl) X.C dX10_rest_6 ?_
  refine g_ifnonnullS dX10_rest_9 ?_
  refine g_iconst dX10_rest_18 ?_
  refine g_iS1 dX10_rest_19 rfl rfl ?_
  have loop : ∀ (n i : Nat) (v3 : Value), i + n = cn 1 → rfA (fun p k => irF (fun q => thF (gI h 52 16) (nI q)) (gnM h c cn) (cn 1) (cn 3) p (nI k)) (cn 3) (cn 1) 0 = rfA (fun p k => irF (fun q => thF (gI h 52 16) (nI q)) (gnM h c cn) (cn 1) (cn 3) p (nI k)) (cn 3) n i → gY 4 0 0 yX10_rest cX10_rest 3 (some .int) 0 0 (fun v' h' => v' = (some (.int (rfA (fun p k => irF (fun q => thF (gI h 52 16) (nI q)) (gnM h c cn) (cn 1) (cn 3) p (nI k)) (cn 3) (cn 1) 0))) ∧ h' = (mR h 0)) 20 [.ref 50, .int (nI i), v3] [] h := by
    intro n
    induction n with
    | zero =>
      intro i v3 hi he 
      refine g_iL1 dX10_rest_20 ?_
      refine g_aL0 dX10_rest_21 ?_
      refine g_getR lf_X10_359 (X.S.l 50 rfl) (X.S.k 50 rfl rfl) X.C dX10_rest_22 ?_
      refine g_gI lf_X10_215 (X.M.l 0 rfl) (X.M.k 0 rfl rfl) dX10_rest_25 ?_
      rw [X.c1]
      refine g_icge dX10_rest_28 (fun c28 => ?_) (fun c28 => absurd (nI_le (by omega) (by have := X.b1; omega)) c28)
      refine g_aL0 dX10_rest_76 ?_
      refine g_bipush dX10_rest_77 ?_
      refine e_v1i (d_good X.S _) lm_X10_49 dX10_rest_79 (X.S.l 50 rfl) (X.S.k 50 rfl rfl) rfl rfl rfl rfl ?_
      exact e_iret rfl dX10_rest_82 rfl rfl he.symm rfl
    | succ n ih =>
      intro i v3 hi he 
      refine g_iL1 dX10_rest_20 ?_
      refine g_aL0 dX10_rest_21 ?_
      refine g_getR lf_X10_359 (X.S.l 50 rfl) (X.S.k 50 rfl rfl) X.C dX10_rest_22 ?_
      refine g_gI lf_X10_215 (X.M.l 0 rfl) (X.M.k 0 rfl rfl) dX10_rest_25 ?_
      rw [X.c1]
      refine g_icge dX10_rest_28 (fun c28 => absurd c28 (nI_ge (by omega) (by have := X.b1; omega))) (fun c28 => ?_)
      refine g_iconst dX10_rest_31 ?_
      refine g_iS2 dX10_rest_32 rfl rfl ?_
      have loop2 : ∀ (n2 j : Nat) , j + n2 = cn 3 + 1 → rfB (fun p k => irF (fun q => thF (gI h 52 16) (nI q)) (gnM h c cn) (cn 1) (cn 3) p (nI k)) i (cn 3 + 1) 0 = rfB (fun p k => irF (fun q => thF (gI h 52 16) (nI q)) (gnM h c cn) (cn 1) (cn 3) p (nI k)) i n2 j → gY 4 0 0 yX10_rest cX10_rest 3 (some .int) 0 0 (fun v' h' => v' = (some (.int (rfA (fun p k => irF (fun q => thF (gI h 52 16) (nI q)) (gnM h c cn) (cn 1) (cn 3) p (nI k)) (cn 3) (cn 1) 0))) ∧ h' = (mR h 0)) 33 [.ref 50, .int (nI i), .int (nI j)] [] h := by
        intro n2
        induction n2 with
        | zero =>
          intro j  hi2 he2 
          refine g_iL2 dX10_rest_33 ?_
          refine g_aL0 dX10_rest_34 ?_
          refine g_getR lf_X10_359 (X.S.l 50 rfl) (X.S.k 50 rfl rfl) X.C dX10_rest_35 ?_
          refine g_gI lf_X10_294 (X.M.l 0 rfl) (X.M.k 0 rfl rfl) dX10_rest_38 ?_
          rw [X.c3]
          refine g_icgt dX10_rest_41 (fun c41 => ?_) (fun c41 => absurd (nI_lt (by omega) (by have := X.b3; omega)) c41)
          refine g_ii1 dX10_rest_70 rfl rfl ?_
          refine g_goto dX10_rest_73 ?_
          rw [nI_1]
          exact ih (i + 1) _ (by omega) (he.trans (by rw [rfA, show rfB _ i (cn 3 + 1) 0 = _ from he2]; rfl))
        | succ n2 ih2 =>
          intro j  hi2 he2 
          refine g_iL2 dX10_rest_33 ?_
          refine g_aL0 dX10_rest_34 ?_
          refine g_getR lf_X10_359 (X.S.l 50 rfl) (X.S.k 50 rfl rfl) X.C dX10_rest_35 ?_
          refine g_gI lf_X10_294 (X.M.l 0 rfl) (X.M.k 0 rfl rfl) dX10_rest_38 ?_
          rw [X.c3]
          refine g_icgt dX10_rest_41 (fun c41 => absurd c41 (nI_nlt (by omega) (by have := X.b3; omega))) (fun c41 => ?_)
          refine g_aL0 dX10_rest_44 ?_
          refine g_iL1 dX10_rest_45 ?_
          refine g_iL2 dX10_rest_46 ?_
          refine e_v2i (d_isRest X (show i < 8 from by have := X.b1; omega) (show j ≤ cn 3 from by omega)) lm_X10_507 dX10_rest_47 (X.S.l 50 rfl) (X.S.k 50 rfl rfl) rfl rfl rfl rfl ?_
          refine g_ifeq dX10_rest_50 (fun c50 => ?_) (fun c50 => ?_)
          · refine g_ii2 dX10_rest_64 rfl rfl ?_
            refine g_goto dX10_rest_67 ?_
            rw [nI_1]
            exact ih2 (j + 1)  (by omega) (he2.trans (if_pos c50)) 
          · refine g_aL0 dX10_rest_53 ?_
            refine g_bipush dX10_rest_54 ?_
            refine g_iL1 dX10_rest_56 ?_
            refine g_imul dX10_rest_57 ?_
            refine g_iL2 dX10_rest_58 ?_
            refine g_iadd dX10_rest_59 ?_
            refine e_v1i (d_good X.S _) lm_X10_49 dX10_rest_60 (X.S.l 50 rfl) (X.S.k 50 rfl rfl) rfl rfl rfl rfl ?_
            exact e_iret rfl dX10_rest_63 rfl rfl (by rw [he, rfA, show rfB _ i (cn 3 + 1) 0 = _ from he2.trans (if_neg c50)]) rfl
      exact loop2 (cn 3 + 1) 0 (by omega) rfl
  exact loop (cn 1) 0 _ (by omega) rfl
theorem z_rest {h : Hp} (S : SX (mT h)) (hz : gR (mT h) 50 3 = none) : gCi 4 0 0 yX10_rest cX10_rest 3 (some .int) [.ref 50] h (some (.int (-1))) (mR (mT h) 1) := by
  refine g_entry (lv := [.ref 50, .retAddr 0, .retAddr 0]) 2 pn_X10 rfl rfl rfl ?_
  refine g_aL0 dX10_rest_0 ?_
  refine g_iconst dX10_rest_1 ?_
  refine g_pI0 lf_X10_39 (S.l 50 rfl) (S.k 50 rfl rfl) dX10_rest_2 ?_
  show gY _ _ _ _ _ _ _ _ _ _ _ _ _ (mT h)
  generalize mT h = h at S hz ⊢
  refine g_aL0 dX10_rest_5 ?_
  refine g_getN0 lf_X10_359 (S.l 50 rfl) (S.k 50 rfl rfl) hz dX10_rest_6 ?_
  refine g_ifnonnullZ dX10_rest_9 ?_
  refine g_aL0 dX10_rest_12 ?_
  refine g_iconst dX10_rest_13 ?_
  refine e_v1i (d_refused S _) lm_X10_45 dX10_rest_14 (S.l 50 rfl) (S.k 50 rfl rfl) rfl rfl rfl rfl ?_
  exact e_iret rfl dX10_rest_17 rfl rfl rfl rfl
def loM (lt : Nat → Int32) (set : Int32) : Nat → Nat → Int32 → Int32
  | 0, _, s => s
  | n + 1, i, s => if thF set (nI i) = 0 then loM lt set n (i + 1) (s + 0) else loM lt set n (i + 1) (s + lt i)
abbrev liM (h : Hp) (c p : Nat) : Int32 := gI h c 0 * gI h c 1 - nI (pc32 (gI h 52 p))
theorem d_lightOfAll {h : Hp} {c : Nat} {cn : Nat → Nat} (X : MX h c cn) (set : Int32) : gCi 2 0 0 yX10_lightOfAll cX10_lightOfAll 4 (some .int) [.ref 50, .int set] h (some (.int (loM (liM h c) set (cn 1) 0 0))) h := by
  refine g_entry (lv := [.ref 50, .int set, .retAddr 0, .retAddr 0]) 2 pn_X10 rfl rfl rfl ?_
  have loop : ∀ (n i : Nat) (s : Int32), i + n = cn 1 → loM (liM h c) set (cn 1) 0 0 = loM (liM h c) set n i s → gY 2 0 0 yX10_lightOfAll cX10_lightOfAll 4 (some .int) 0 0 (fun v' h' => v' = (some (.int (loM (liM h c) set (cn 1) 0 0))) ∧ h' = h) 4 [.ref 50, .int set, .int s, .int (nI i)] [] h := by
    intro n
    induction n with
    | zero =>
      intro i s hi he 
      refine g_iL3 dX10_lightOfAll_4 ?_
      refine g_aL0 dX10_lightOfAll_5 ?_
      refine g_getR lf_X10_359 (X.S.l 50 rfl) (X.S.k 50 rfl rfl) X.C dX10_lightOfAll_6 ?_
      refine g_gI lf_X10_215 (X.M.l 0 rfl) (X.M.k 0 rfl rfl) dX10_lightOfAll_9 ?_
      rw [X.c1]
      refine g_icge dX10_lightOfAll_12 (fun c12 => ?_) (fun c12 => absurd (nI_le (by omega) (by have := X.b1; omega)) c12)
      refine g_iL2 dX10_lightOfAll_41 ?_
      exact e_iret rfl dX10_lightOfAll_42 rfl rfl he.symm rfl
    | succ n ih =>
      intro i s hi he 
      refine g_iL3 dX10_lightOfAll_4 ?_
      refine g_aL0 dX10_lightOfAll_5 ?_
      refine g_getR lf_X10_359 (X.S.l 50 rfl) (X.S.k 50 rfl rfl) X.C dX10_lightOfAll_6 ?_
      refine g_gI lf_X10_215 (X.M.l 0 rfl) (X.M.k 0 rfl rfl) dX10_lightOfAll_9 ?_
      rw [X.c1]
      refine g_icge dX10_lightOfAll_12 (fun c12 => absurd c12 (nI_ge (by omega) (by have := X.b1; omega))) (fun c12 => ?_)
      refine g_iL2 dX10_lightOfAll_15 ?_
      refine g_iL1 dX10_lightOfAll_16 ?_
      refine g_iL3 dX10_lightOfAll_17 ?_
      refine e_s2i (d_bit _ _) lm_X10_367 dX10_lightOfAll_18 rfl rfl rfl rfl ?_
      refine g_ifeq dX10_lightOfAll_21 (fun c21 => ?_) (fun c21 => ?_)
      · refine g_iconst dX10_lightOfAll_32 ?_
        refine g_iadd dX10_lightOfAll_33 ?_
        refine g_iS2 dX10_lightOfAll_34 rfl rfl ?_
        refine g_ii3 dX10_lightOfAll_35 rfl rfl ?_
        refine g_goto dX10_lightOfAll_38 ?_
        rw [nI_1]
        exact ih (i + 1) _ (by omega) (he.trans (if_pos c21)) 
      · refine g_aL0 dX10_lightOfAll_24 ?_
        refine g_iL3 dX10_lightOfAll_25 ?_
        refine e_v1i (d_lightOf X (show i < 8 from by have := X.b1; omega)) lm_X10_386 dX10_lightOfAll_26 (X.S.l 50 rfl) (X.S.k 50 rfl rfl) rfl rfl rfl rfl ?_
        refine g_goto dX10_lightOfAll_29 ?_
        refine g_iadd dX10_lightOfAll_33 ?_
        refine g_iS2 dX10_lightOfAll_34 rfl rfl ?_
        refine g_ii3 dX10_lightOfAll_35 rfl rfl ?_
        refine g_goto dX10_lightOfAll_38 ?_
        rw [nI_1]
        exact ih (i + 1) _ (by omega) (he.trans (if_neg c21)) 
  refine g_iconst dX10_lightOfAll_0 ?_
  refine g_iS2 dX10_lightOfAll_1 rfl rfl ?_
  refine g_iconst dX10_lightOfAll_2 ?_
  refine g_iS3 dX10_lightOfAll_3 rfl rfl ?_
  exact loop (cn 1) 0 _ (by omega) rfl
theorem n_trouble {h : Hp} (S : SX (mT h)) : gCi 0 0 0 yX10_trouble cX10_trouble 1 (some .int) [.ref 50] h (some (.int (gI (mT h) 50 1))) (mT h) := by
  refine g_entry (lv := [.ref 50]) 0 pn_X10 rfl rfl rfl ?_
  refine g_aL0 dX10_trouble_0 ?_
  refine g_iconst dX10_trouble_1 ?_
  refine g_pI0 lf_X10_39 (S.l 50 rfl) (S.k 50 rfl rfl) dX10_trouble_2 ?_
  show gY _ _ _ _ _ _ _ _ _ _ _ _ _ (mT h)
  generalize mT h = h at S ⊢
  refine g_aL0 dX10_trouble_5 ?_
  refine g_gI lf_X10_42 (S.l 50 rfl) (S.k 50 rfl rfl) dX10_trouble_6 ?_
  exact e_iret rfl dX10_trouble_9 rfl rfl rfl rfl
theorem n_fault {h : Hp} (S : SX (mT h)) : gCi 0 0 0 yX10_fault cX10_fault 1 (some .int) [.ref 50] h (some (.int (gI (mT h) 50 13))) (mT h) := by
  refine g_entry (lv := [.ref 50]) 0 pn_X10 rfl rfl rfl ?_
  refine g_aL0 dX10_fault_0 ?_
  refine g_iconst dX10_fault_1 ?_
  refine g_pI0 lf_X10_39 (S.l 50 rfl) (S.k 50 rfl rfl) dX10_fault_2 ?_
  show gY _ _ _ _ _ _ _ _ _ _ _ _ _ (mT h)
  generalize mT h = h at S ⊢
  refine g_aL0 dX10_fault_5 ?_
  refine g_gI lf_X10_110 (S.l 50 rfl) (S.k 50 rfl rfl) dX10_fault_6 ?_
  exact e_iret rfl dX10_fault_9 rfl rfl rfl rfl
theorem n_where {h : Hp} (S : SX (mT h)) : gCi 0 0 0 yX10_where cX10_where 1 (some .int) [.ref 50] h (some (.int (gI (mT h) 50 2))) (mT h) := by
  refine g_entry (lv := [.ref 50]) 0 pn_X10 rfl rfl rfl ?_
  refine g_aL0 dX10_where_0 ?_
  refine g_iconst dX10_where_1 ?_
  refine g_pI0 lf_X10_39 (S.l 50 rfl) (S.k 50 rfl rfl) dX10_where_2 ?_
  show gY _ _ _ _ _ _ _ _ _ _ _ _ _ (mT h)
  generalize mT h = h at S ⊢
  refine g_aL0 dX10_where_5 ?_
  refine g_gI lf_X10_9 (S.l 50 rfl) (S.k 50 rfl rfl) dX10_where_6 ?_
  exact e_iret rfl dX10_where_9 rfl rfl rfl rfl
theorem n_thrown {h : Hp} (S : SX h) : gCi 0 0 0 yX10_thrown cX10_thrown 1 (some .int) [.ref 50] h (some (.int (gI h 50 0))) h := by
  refine g_entry (lv := [.ref 50]) 0 pn_X10 rfl rfl rfl ?_
  refine g_aL0 dX10_thrown_0 ?_
  refine g_gI lf_X10_39 (S.l 50 rfl) (S.k 50 rfl rfl) dX10_thrown_1 ?_
  exact e_iret rfl dX10_thrown_4 rfl rfl rfl rfl

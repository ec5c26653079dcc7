/-! THE REFERENCE: ways: who may be where, what refuses a way, a way kept -/
theorem d_isThief {h : Hp} {c : Nat} {cn : Nat → Nat} (X : MX h c cn) (x : Int32) : gCi 0 0 0 yX9_isThief cX9_isThief 2 (some .boolean) [.ref c, .int x] h (some (.int (thF (gI h c 9) x))) h := by
  refine g_entry (lv := [.ref c, .int x]) 0 pn_X9 rfl rfl rfl ?_
  refine g_aL0 dX9_isThief_0 ?_
  refine g_gI lf_X9_74 (X.M.l 0 rfl) (X.M.k 0 rfl rfl) dX9_isThief_1 ?_
  refine g_iL1 dX9_isThief_4 ?_
  refine g_ishr dX9_isThief_5 ?_
  refine g_iconst dX9_isThief_6 ?_
  refine g_iand dX9_isThief_7 ?_
  refine g_iconst dX9_isThief_8 ?_
  refine g_icne dX9_isThief_9 (fun c9 => ?_) (fun c9 => ?_)
  · refine g_iconst dX9_isThief_16 ?_
    exact e_zret rfl (by decide) dX9_isThief_17 rfl rfl (th0 c9).symm rfl
  · refine g_iconst dX9_isThief_12 ?_
    refine g_goto dX9_isThief_13 ?_
    exact e_zret rfl (by decide) dX9_isThief_17 rfl rfl (th1 c9).symm rfl
def rwM (h : Hp) (cn : Nat → Nat) (p a b : Int32) : Int32 := if (ipF p (nI (cn 1))) = 0 then 1 else if (ipF a (nI (cn 4))) = 0 then 1 else if (ipF b (nI (cn 4))) = 0 then 1 else if (thF (gI h 52 16) p) = 0 then 0 else 5
theorem d_refusesWay {h : Hp} {c : Nat} {cn : Nat → Nat} (X : MX h c cn) (p a b : Int32) : gCi 2 0 0 yX10_refusesWay cX10_refusesWay 4 (some .int) [.ref 50, .int p, .int a, .int b] h (some (.int (rwM h cn p a b))) h := by
  refine g_entry (lv := [.ref 50, .int p, .int a, .int b]) 0 pn_X10 rfl rfl rfl ?_
  refine g_aL0 dX10_refusesWay_0 ?_
  refine g_iL1 dX10_refusesWay_1 ?_
  refine e_v1i (d_isPane X _) lm_X10_377 dX10_refusesWay_2 (X.S.l 50 rfl) (X.S.k 50 rfl rfl) rfl rfl rfl rfl ?_
  refine g_ifeq dX10_refusesWay_5 (fun c5 => ?_) (fun c5 => ?_)
  · refine g_iconst dX10_refusesWay_24 ?_
    refine g_goto dX10_refusesWay_25 ?_
    exact e_iret rfl dX10_refusesWay_41 rfl rfl (if_pos c5).symm rfl
  · refine g_aL0 dX10_refusesWay_8 ?_
    refine g_iL2 dX10_refusesWay_9 ?_
    refine e_v1i (d_isCorner X _) lm_X10_435 dX10_refusesWay_10 (X.S.l 50 rfl) (X.S.k 50 rfl rfl) rfl rfl rfl rfl ?_
    refine g_ifeq dX10_refusesWay_13 (fun c13 => ?_) (fun c13 => ?_)
    · refine g_iconst dX10_refusesWay_24 ?_
      refine g_goto dX10_refusesWay_25 ?_
      exact e_iret rfl dX10_refusesWay_41 rfl rfl ((if_neg c5).trans (if_pos c13)).symm rfl
    · refine g_aL0 dX10_refusesWay_16 ?_
      refine g_iL3 dX10_refusesWay_17 ?_
      refine e_v1i (d_isCorner X _) lm_X10_435 dX10_refusesWay_18 (X.S.l 50 rfl) (X.S.k 50 rfl rfl) rfl rfl rfl rfl ?_
      refine g_ifne dX10_refusesWay_21 (fun c21 => ?_) (fun c21 => ?_)
      · refine g_aL0 dX10_refusesWay_28 ?_
        refine g_iL1 dX10_refusesWay_29 ?_
        refine e_v1i (d_isBroken X.S _) lm_X10_383 dX10_refusesWay_30 (X.S.l 50 rfl) (X.S.k 50 rfl rfl) rfl rfl rfl rfl ?_
        refine g_ifeq dX10_refusesWay_33 (fun c33 => ?_) (fun c33 => ?_)
        · refine g_iconst dX10_refusesWay_40 ?_
          exact e_iret rfl dX10_refusesWay_41 rfl rfl ((if_neg c5).trans ((if_neg c13).trans ((if_neg c21).trans (if_pos c33)))).symm rfl
        · refine g_iconst dX10_refusesWay_36 ?_
          refine g_goto dX10_refusesWay_37 ?_
          exact e_iret rfl dX10_refusesWay_41 rfl rfl ((if_neg c5).trans ((if_neg c13).trans ((if_neg c21).trans (if_neg c33)))).symm rfl
      · refine g_iconst dX10_refusesWay_24 ?_
        refine g_goto dX10_refusesWay_25 ?_
        exact e_iret rfl dX10_refusesWay_41 rfl rfl ((if_neg c5).trans ((if_neg c13).trans (if_pos c21))).symm rfl
theorem z_refusesWay {h : Hp} (S : SX h) (hz : gR h 50 3 = none) (p a b : Int32) : gCi 2 0 0 yX10_refusesWay cX10_refusesWay 4 (some .int) [.ref 50, .int p, .int a, .int b] h (some (.int 1)) h := by
  refine g_entry (lv := [.ref 50, .int p, .int a, .int b]) 0 pn_X10 rfl rfl rfl ?_
  refine g_aL0 dX10_refusesWay_0 ?_
  refine g_iL1 dX10_refusesWay_1 ?_
  refine e_v1i (z_isPane S hz _) lm_X10_377 dX10_refusesWay_2 (S.l 50 rfl) (S.k 50 rfl rfl) rfl rfl rfl rfl ?_
  refine g_ifeq dX10_refusesWay_5 (fun c5 => ?_) (fun c5 => absurd rfl c5)
  refine g_iconst dX10_refusesWay_24 ?_
  refine g_goto dX10_refusesWay_25 ?_
  exact e_iret rfl dX10_refusesWay_41 rfl rfl rfl rfl
def mbM (k th rd : Int32) : Int32 := if k = 1 then (if th = 0 then 1 else if rd = -2 then 1 else 0) else 1
theorem d_mayBe1 {h : Hp} {c : Nat} {cn : Nat → Nat} (X : MX h c cn) {P : Nat} (hP8 : P < 8) {x : Nat} (hx : x < 7) (hv : ¬ siF (gI h (c + 5) x) (nI (cn 3)) = 0) : gCi 2 0 0 yX10_mayBe cX10_mayBe 4 (some .boolean) [.ref 50, .int 1, .int (nI P), .int (nI x)] h (some (.int (mbM 1 (thF (gI h c 9) (nI x)) (rdM h c cn P (gI h (c + 5) x))))) h := by
  refine g_entry (lv := [.ref 50, .int 1, .int (nI P), .int (nI x)]) 0 pn_X10 rfl rfl rfl ?_
  refine g_iL1 dX10_mayBe_0 ?_
  refine g_iconst dX10_mayBe_1 ?_
  refine g_icne dX10_mayBe_2 (fun c2 => absurd rfl c2) (fun c2 => ?_)
  refine g_aL0 dX10_mayBe_5 ?_
  refine g_getR lf_X10_359 (X.S.l 50 rfl) (X.S.k 50 rfl rfl) X.C dX10_mayBe_6 ?_
  refine g_iL3 dX10_mayBe_9 ?_
  refine e_v1i (d_isThief X _) lm_X10_319 dX10_mayBe_10 (X.M.l 0 rfl) (X.M.k 0 rfl rfl) rfl rfl rfl rfl ?_
  refine g_ifeq dX10_mayBe_13 (fun c13 => ?_) (fun c13 => ?_)
  · refine g_iconst dX10_mayBe_39 ?_
    refine g_goto dX10_mayBe_40 ?_
    exact e_zret rfl (by decide) dX10_mayBe_44 rfl rfl ((if_pos rfl).trans (if_pos c13)).symm rfl
  · refine g_aL0 dX10_mayBe_16 ?_
    refine g_aL0 dX10_mayBe_17 ?_
    refine g_iL2 dX10_mayBe_18 ?_
    refine g_aL0 dX10_mayBe_19 ?_
    refine g_getR lf_X10_359 (X.S.l 50 rfl) (X.S.k 50 rfl rfl) X.C dX10_mayBe_20 ?_
    refine g_getRn lf_X10_306 (X.M.l 0 rfl) (X.M.k 0 rfl rfl) (X.M.r 19 (j := 5) rfl) dX10_mayBe_23 ?_
    refine g_iL3 dX10_mayBe_26 ?_
    refine g_ialoadN (X.M.l 5 rfl) (X.M.k 5 rfl rfl) (X.M.n 5 (n := 7) rfl rfl) hx (by decide) dX10_mayBe_27 ?_
    refine e_v2i (d_seenOf X hP8 hv) lm_X10_401 dX10_mayBe_28 (X.S.l 50 rfl) (X.S.k 50 rfl rfl) rfl rfl rfl rfl ?_
    refine e_v1i (d_readOf X _) lm_X10_404 dX10_mayBe_31 (X.S.l 50 rfl) (X.S.k 50 rfl rfl) rfl rfl rfl rfl ?_
    refine g_bipush dX10_mayBe_34 ?_
    refine g_icne dX10_mayBe_36 (fun c36 => ?_) (fun c36 => ?_)
    · refine g_iconst dX10_mayBe_43 ?_
      exact e_zret rfl (by decide) dX10_mayBe_44 rfl rfl ((if_pos rfl).trans ((if_neg c13).trans (if_neg c36))).symm rfl
    · refine g_iconst dX10_mayBe_39 ?_
      refine g_goto dX10_mayBe_40 ?_
      exact e_zret rfl (by decide) dX10_mayBe_44 rfl rfl ((if_pos rfl).trans ((if_neg c13).trans (if_pos c36))).symm rfl
theorem d_mayBe0 {h : Hp} {c : Nat} {cn : Nat → Nat} (X : MX h c cn) (k p x : Int32) (hk : ¬ k = 1) : gCi 2 0 0 yX10_mayBe cX10_mayBe 4 (some .boolean) [.ref 50, .int k, .int p, .int x] h (some (.int 1)) h := by
  refine g_entry (lv := [.ref 50, .int k, .int p, .int x]) 0 pn_X10 rfl rfl rfl ?_
  refine g_iL1 dX10_mayBe_0 ?_
  refine g_iconst dX10_mayBe_1 ?_
  refine g_icne dX10_mayBe_2 (fun c2 => ?_) (fun c2 => absurd c2 hk)
  refine g_iconst dX10_mayBe_39 ?_
  refine g_goto dX10_mayBe_40 ?_
  exact e_zret rfl (by decide) dX10_mayBe_44 rfl rfl rfl rfl
theorem z_c16 : ¬ (1 : Int32) ≤ 0 := by decide
theorem z_secretAt {h : Hp} (S : SX (mT h)) (hz : gR (mT h) 50 3 = none) (p a b k : Int32) : gCi 3 0 0 yX10_secretAt cX10_secretAt 6 (some .int) [.ref 50, .int p, .int a, .int b, .int k] h (some (.int (-1))) (mR (mT h) 1) := by
  refine g_entry (lv := [.ref 50, .int p, .int a, .int b, .int k, .retAddr 0]) 1 pn_X10 rfl rfl rfl ?_
  refine g_aL0 dX10_secretAt_0 ?_
  refine g_iconst dX10_secretAt_1 ?_
  refine g_pI0 lf_X10_39 (S.l 50 rfl) (S.k 50 rfl rfl) dX10_secretAt_2 ?_
  show gY _ _ _ _ _ _ _ _ _ _ _ _ _ (mT h)
  generalize mT h = h at S hz ⊢
  refine g_aL0 dX10_secretAt_5 ?_
  refine g_iL1 dX10_secretAt_6 ?_
  refine g_iL2 dX10_secretAt_7 ?_
  refine g_iL3 dX10_secretAt_8 ?_
  refine e_v3i (z_refusesWay S hz _ _ _) lm_X10_441 dX10_secretAt_9 (S.l 50 rfl) (S.k 50 rfl rfl) rfl rfl rfl rfl ?_
  refine g_iS5 dX10_secretAt_12 rfl rfl ?_
  refine g_iL5 dX10_secretAt_14 ?_
  refine g_ifle dX10_secretAt_16 (fun c16 => absurd c16 z_c16) (fun c16 => ?_)
  refine g_aL0 dX10_secretAt_19 ?_
  refine g_iL5 dX10_secretAt_20 ?_
  refine e_v1i (d_refused S _) lm_X10_45 dX10_secretAt_22 (S.l 50 rfl) (S.k 50 rfl rfl) rfl rfl rfl rfl ?_
  exact e_iret rfl dX10_secretAt_25 rfl rfl rfl rfl
theorem z_safestAt {h : Hp} (S : SX (mT h)) (hz : gR (mT h) 50 3 = none) (p a b k : Int32) : gCi 3 0 0 yX10_safestAt cX10_safestAt 7 (some .int) [.ref 50, .int p, .int a, .int b, .int k] h (some (.int (-1))) (mR (mT h) 1) := by
  refine g_entry (lv := [.ref 50, .int p, .int a, .int b, .int k, .retAddr 0, .retAddr 0]) 2 pn_X10 rfl rfl rfl ?_
  refine g_aL0 dX10_safestAt_0 ?_
  refine g_iconst dX10_safestAt_1 ?_
  refine g_pI0 lf_X10_39 (S.l 50 rfl) (S.k 50 rfl rfl) dX10_safestAt_2 ?_
  show gY _ _ _ _ _ _ _ _ _ _ _ _ _ (mT h)
  generalize mT h = h at S hz ⊢
  refine g_aL0 dX10_safestAt_5 ?_
  refine g_iL1 dX10_safestAt_6 ?_
  refine g_iL2 dX10_safestAt_7 ?_
  refine g_iL3 dX10_safestAt_8 ?_
  refine e_v3i (z_refusesWay S hz _ _ _) lm_X10_441 dX10_safestAt_9 (S.l 50 rfl) (S.k 50 rfl rfl) rfl rfl rfl rfl ?_
  refine g_iS5 dX10_safestAt_12 rfl rfl ?_
  refine g_iL5 dX10_safestAt_14 ?_
  refine g_ifle dX10_safestAt_16 (fun c16 => absurd c16 z_c16) (fun c16 => ?_)
  refine g_aL0 dX10_safestAt_19 ?_
  refine g_iL5 dX10_safestAt_20 ?_
  refine e_v1i (d_refused S _) lm_X10_45 dX10_safestAt_22 (S.l 50 rfl) (S.k 50 rfl rfl) rfl rfl rfl rfl ?_
  exact e_iret rfl dX10_safestAt_25 rfl rfl rfl rfl
theorem z_soonest {h : Hp} (S : SX (mT h)) (hz : gR (mT h) 50 3 = none) (a b : Int32) : gCi 3 0 0 yX10_soonest cX10_soonest 3 (some .int) [.ref 50, .int a, .int b] h (some (.int (-1))) (mR (mT h) 1) := by
  refine g_entry (lv := [.ref 50, .int a, .int b]) 0 pn_X10 rfl rfl rfl ?_
  refine g_aL0 dX10_soonest_0 ?_
  refine g_iconst dX10_soonest_1 ?_
  refine g_pI0 lf_X10_39 (S.l 50 rfl) (S.k 50 rfl rfl) dX10_soonest_2 ?_
  show gY _ _ _ _ _ _ _ _ _ _ _ _ _ (mT h)
  generalize mT h = h at S hz ⊢
  refine g_aL0 dX10_soonest_5 ?_
  refine g_iL1 dX10_soonest_6 ?_
  refine e_v1i (z_isCorner S hz _) lm_X10_435 dX10_soonest_7 (S.l 50 rfl) (S.k 50 rfl rfl) rfl rfl rfl rfl ?_
  refine g_ifeq dX10_soonest_10 (fun c10 => ?_) (fun c10 => absurd rfl c10)
  refine g_aL0 dX10_soonest_36 ?_
  refine g_iconst dX10_soonest_37 ?_
  refine e_v1i (d_refused S _) lm_X10_45 dX10_soonest_38 (S.l 50 rfl) (S.k 50 rfl rfl) rfl rfl rfl rfl ?_
  exact e_iret rfl dX10_soonest_41 rfl rfl rfl rfl
theorem z_soonestAt {h : Hp} (S : SX (mT h)) (hz : gR (mT h) 50 3 = none) (a b k : Int32) : gCi 3 0 0 yX10_soonestAt cX10_soonestAt 4 (some .int) [.ref 50, .int a, .int b, .int k] h (some (.int (-1))) (mR (mT h) 1) := by
  refine g_entry (lv := [.ref 50, .int a, .int b, .int k]) 0 pn_X10 rfl rfl rfl ?_
  refine g_aL0 dX10_soonestAt_0 ?_
  refine g_iconst dX10_soonestAt_1 ?_
  refine g_pI0 lf_X10_39 (S.l 50 rfl) (S.k 50 rfl rfl) dX10_soonestAt_2 ?_
  show gY _ _ _ _ _ _ _ _ _ _ _ _ _ (mT h)
  generalize mT h = h at S hz ⊢
  refine g_aL0 dX10_soonestAt_5 ?_
  refine g_iL1 dX10_soonestAt_6 ?_
  refine e_v1i (z_isCorner S hz _) lm_X10_435 dX10_soonestAt_7 (S.l 50 rfl) (S.k 50 rfl rfl) rfl rfl rfl rfl ?_
  refine g_ifeq dX10_soonestAt_10 (fun c10 => ?_) (fun c10 => absurd rfl c10)
  refine g_aL0 dX10_soonestAt_37 ?_
  refine g_iconst dX10_soonestAt_38 ?_
  refine e_v1i (d_refused S _) lm_X10_45 dX10_soonestAt_39 (S.l 50 rfl) (S.k 50 rfl rfl) rfl rfl rfl rfl ?_
  exact e_iret rfl dX10_soonestAt_42 rfl rfl rfl rfl
theorem z_readers {h : Hp} (S : SX (mT h)) (hz : gR (mT h) 50 3 = none) (l : Int32) : gCi 3 0 0 yX10_readers cX10_readers 2 (some .int) [.ref 50, .int l] h (some (.int (-1))) (mR (mT h) 1) := by
  refine g_entry (lv := [.ref 50, .int l]) 0 pn_X10 rfl rfl rfl ?_
  refine g_aL0 dX10_readers_0 ?_
  refine g_iconst dX10_readers_1 ?_
  refine g_pI0 lf_X10_39 (S.l 50 rfl) (S.k 50 rfl rfl) dX10_readers_2 ?_
  show gY _ _ _ _ _ _ _ _ _ _ _ _ _ (mT h)
  generalize mT h = h at S hz ⊢
  refine g_aL0 dX10_readers_5 ?_
  refine g_iL1 dX10_readers_6 ?_
  refine e_v1i (z_isSent S hz _) lm_X10_449 dX10_readers_7 (S.l 50 rfl) (S.k 50 rfl rfl) rfl rfl rfl rfl ?_
  refine g_ifeq dX10_readers_10 (fun c10 => ?_) (fun c10 => absurd rfl c10)
  refine g_aL0 dX10_readers_25 ?_
  refine g_iconst dX10_readers_26 ?_
  refine e_v1i (d_refused S _) lm_X10_45 dX10_readers_27 (S.l 50 rfl) (S.k 50 rfl rfl) rfl rfl rfl rfl ?_
  exact e_iret rfl dX10_readers_30 rfl rfl rfl rfl
theorem z_overheard {h : Hp} (S : SX (mT h)) (hz : gR (mT h) 50 3 = none) (l : Int32) : gCi 3 0 0 yX10_overheard cX10_overheard 2 (some .int) [.ref 50, .int l] h (some (.int (-1))) (mR (mT h) 1) := by
  refine g_entry (lv := [.ref 50, .int l]) 0 pn_X10 rfl rfl rfl ?_
  refine g_aL0 dX10_overheard_0 ?_
  refine g_iconst dX10_overheard_1 ?_
  refine g_pI0 lf_X10_39 (S.l 50 rfl) (S.k 50 rfl rfl) dX10_overheard_2 ?_
  show gY _ _ _ _ _ _ _ _ _ _ _ _ _ (mT h)
  generalize mT h = h at S hz ⊢
  refine g_aL0 dX10_overheard_5 ?_
  refine g_iL1 dX10_overheard_6 ?_
  refine e_v1i (z_isSent S hz _) lm_X10_449 dX10_overheard_7 (S.l 50 rfl) (S.k 50 rfl rfl) rfl rfl rfl rfl ?_
  refine g_ifne dX10_overheard_10 (fun c10 => absurd rfl c10) (fun c10 => ?_)
  refine g_aL0 dX10_overheard_13 ?_
  refine g_iconst dX10_overheard_14 ?_
  refine e_v1i (d_refused S _) lm_X10_45 dX10_overheard_15 (S.l 50 rfl) (S.k 50 rfl rfl) rfl rfl rfl rfl ?_
  exact e_iret rfl dX10_overheard_18 rfl rfl rfl rfl
theorem z_unread {h : Hp} (S : SX (mT h)) (hz : gR (mT h) 50 3 = none) : gCi 3 0 0 yX10_unread cX10_unread 3 (some .int) [.ref 50] h (some (.int (-1))) (mR (mT h) 1) := by
  refine g_entry (lv := [.ref 50, .retAddr 0, .retAddr 0]) 2 pn_X10 rfl rfl rfl ?_
  refine g_aL0 dX10_unread_0 ?_
  refine g_iconst dX10_unread_1 ?_
  refine g_pI0 lf_X10_39 (S.l 50 rfl) (S.k 50 rfl rfl) dX10_unread_2 ?_
  show gY _ _ _ _ _ _ _ _ _ _ _ _ _ (mT h)
  generalize mT h = h at S hz ⊢
  refine g_aL0 dX10_unread_5 ?_
  refine g_getN0 lf_X10_359 (S.l 50 rfl) (S.k 50 rfl rfl) hz dX10_unread_6 ?_
  refine g_ifnonnullZ dX10_unread_9 ?_
  refine g_aL0 dX10_unread_12 ?_
  refine g_iconst dX10_unread_13 ?_
  refine e_v1i (d_refused S _) lm_X10_45 dX10_unread_14 (S.l 50 rfl) (S.k 50 rfl rfl) rfl rfl rfl rfl ?_
  exact e_iret rfl dX10_unread_17 rfl rfl rfl rfl
theorem z_sent {h : Hp} (S : SX (mT h)) (hz : gR (mT h) 50 3 = none) (l f : Int32) : gCi 3 0 0 yX10_sent cX10_sent 3 (some .int) [.ref 50, .int l, .int f] h (some (.int (-1))) (mR (mT h) 1) := by
  refine g_entry (lv := [.ref 50, .int l, .int f]) 0 pn_X10 rfl rfl rfl ?_
  refine g_aL0 dX10_sent_0 ?_
  refine g_iconst dX10_sent_1 ?_
  refine g_pI0 lf_X10_39 (S.l 50 rfl) (S.k 50 rfl rfl) dX10_sent_2 ?_
  show gY _ _ _ _ _ _ _ _ _ _ _ _ _ (mT h)
  generalize mT h = h at S hz ⊢
  refine g_aL0 dX10_sent_5 ?_
  refine g_iL1 dX10_sent_6 ?_
  refine e_v1i (z_isSent S hz _) lm_X10_449 dX10_sent_7 (S.l 50 rfl) (S.k 50 rfl rfl) rfl rfl rfl rfl ?_
  refine g_ifeq dX10_sent_10 (fun c10 => ?_) (fun c10 => absurd rfl c10)
  refine g_aL0 dX10_sent_22 ?_
  refine g_iconst dX10_sent_23 ?_
  refine e_v1i (d_refused S _) lm_X10_45 dX10_sent_24 (S.l 50 rfl) (S.k 50 rfl rfl) rfl rfl rfl rfl ?_
  exact e_iret rfl dX10_sent_27 rfl rfl rfl rfl
theorem z_putty {h : Hp} (S : SX (mT h)) (hz : gR (mT h) 50 3 = none) (p v : Int32) : gCi 3 0 0 yX10_putty cX10_putty 5 (some .int) [.ref 50, .int p, .int v] h (some (.int (-1))) (mR (mT h) 1) := by
  refine g_entry (lv := [.ref 50, .int p, .int v, .retAddr 0, .retAddr 0]) 2 pn_X10 rfl rfl rfl ?_
  refine g_aL0 dX10_putty_0 ?_
  refine g_iconst dX10_putty_1 ?_
  refine g_pI0 lf_X10_39 (S.l 50 rfl) (S.k 50 rfl rfl) dX10_putty_2 ?_
  show gY _ _ _ _ _ _ _ _ _ _ _ _ _ (mT h)
  generalize mT h = h at S hz ⊢
  refine g_aL0 dX10_putty_5 ?_
  refine g_iL1 dX10_putty_6 ?_
  refine g_iL2 dX10_putty_7 ?_
  refine e_v2i (z_refusesSeen S hz _ _) lm_X10_398 dX10_putty_8 (S.l 50 rfl) (S.k 50 rfl rfl) rfl rfl rfl rfl ?_
  refine g_iS3 dX10_putty_11 rfl rfl ?_
  refine g_iL3 dX10_putty_12 ?_
  refine g_ifle dX10_putty_13 (fun c13 => absurd c13 (by decide)) (fun c13 => ?_)
  refine g_aL0 dX10_putty_16 ?_
  refine g_iL3 dX10_putty_17 ?_
  refine e_v1i (d_refused S _) lm_X10_45 dX10_putty_18 (S.l 50 rfl) (S.k 50 rfl rfl) rfl rfl rfl rfl ?_
  exact e_iret rfl dX10_putty_21 rfl rfl rfl rfl
theorem z_puttyOf {h : Hp} (S : SX (mT h)) (hz : gR (mT h) 50 3 = none) (p v : Int32) : gCi 3 0 0 yX10_puttyOf cX10_puttyOf 5 (some .int) [.ref 50, .int p, .int v] h (some (.int (-1))) (mR (mT h) 1) := by
  refine g_entry (lv := [.ref 50, .int p, .int v, .retAddr 0, .retAddr 0]) 2 pn_X10 rfl rfl rfl ?_
  refine g_aL0 dX10_puttyOf_0 ?_
  refine g_iconst dX10_puttyOf_1 ?_
  refine g_pI0 lf_X10_39 (S.l 50 rfl) (S.k 50 rfl rfl) dX10_puttyOf_2 ?_
  show gY _ _ _ _ _ _ _ _ _ _ _ _ _ (mT h)
  generalize mT h = h at S hz ⊢
  refine g_aL0 dX10_puttyOf_5 ?_
  refine g_iL1 dX10_puttyOf_6 ?_
  refine g_iL2 dX10_puttyOf_7 ?_
  refine e_v2i (z_refusesSeen S hz _ _) lm_X10_398 dX10_puttyOf_8 (S.l 50 rfl) (S.k 50 rfl rfl) rfl rfl rfl rfl ?_
  refine g_iS3 dX10_puttyOf_11 rfl rfl ?_
  refine g_iL3 dX10_puttyOf_12 ?_
  refine g_ifle dX10_puttyOf_13 (fun c13 => absurd c13 (by decide)) (fun c13 => ?_)
  refine g_aL0 dX10_puttyOf_16 ?_
  refine g_iL3 dX10_puttyOf_17 ?_
  refine e_v1i (d_refused S _) lm_X10_45 dX10_puttyOf_18 (S.l 50 rfl) (S.k 50 rfl rfl) rfl rfl rfl rfl ?_
  exact e_iret rfl dX10_puttyOf_21 rfl rfl rfl rfl

/-! THE REFERENCE: shards, rests, pairs -/
theorem sh2 {N : Nat} (hN : N ≤ 8) : (1 : Int32) <<< (nI N &&& 31) = nI (2 ^ N) := by
  have : N = 0 ∨ N = 1 ∨ N = 2 ∨ N = 3 ∨ N = 4 ∨ N = 5 ∨ N = 6 ∨ N = 7 ∨ N = 8 := by omega
  rcases this with rfl | rfl | rfl | rfl | rfl | rfl | rfl | rfl | rfl <;> decide
theorem p2_8 {N : Nat} (hN : N ≤ 8) : 2 ^ N ≤ 256 := Nat.le_trans (Nat.pow_le_pow_right (by decide) hN) (by decide)
def iwM (sc : Nat → Int32) (set al : Int32) : Nat → Nat → Int32 → Int32
  | 0, _, hv => if hv = al then 1 else 0
  | n + 1, i, hv => if thF set (nI i) = 0 then iwM sc set al n (i + 1) hv else if hv &&& sc i = 0 then iwM sc set al n (i + 1) (hv ||| sc i) else 0
def waM (iw : Int32 → Int32) (k : Int32) : Nat → Nat → Int32 → Int32
  | 0, _, _ => -1
  | n + 1, i, m => if iw (nI i) = 0 then waM iw k n (i + 1) m else if m = k then nI i else waM iw k n (i + 1) (m + 1)
def cwM (iw : Int32 → Int32) : Nat → Nat → Int32 → Int32
  | 0, _, m => m
  | n + 1, i, m => if iw (nI i) = 0 then cwM iw n (i + 1) (m + 0) else cwM iw n (i + 1) (m + 1)
def orM (sc : Nat → Int32) (set : Int32) : Nat → Nat → Int32 → Int32
  | 0, _, b => b
  | n + 1, i, b => if thF set (nI i) = 0 then orM sc set n (i + 1) (b ||| 0) else orM sc set n (i + 1) (b ||| sc i)
def cpM (sp sc : Nat → Int32) (p set : Int32) : Nat → Nat → Int32 → Int32
  | 0, _, m => m
  | n + 1, i, m => if thF set (nI i) = 0 then cpM sp sc p set n (i + 1) (m + 0) else if sp i = p then cpM sp sc p set n (i + 1) (m + pcI (sc i)) else cpM sp sc p set n (i + 1) (m + 0)
def owM (cp : Int32 → Int32) : Nat → Nat → Int32 → Int32
  | 0, _, o => o
  | n + 1, i, o => if cp (nI i) ≤ cp o then owM cp n (i + 1) o else owM cp n (i + 1) (nI i)
theorem d_all {h : Hp} {c : Nat} {cn : Nat → Nat} (X : MX h c cn) : gCi 0 0 0 yX9_all cX9_all 1 (some .int) [.ref c] h (some (.int (allF (gI h c 0) (gI h c 1)))) h := by
  refine g_entry (lv := [.ref c]) 0 pn_X9 rfl rfl rfl ?_
  refine g_iconst dX9_all_0 ?_
  refine g_aL0 dX9_all_1 ?_
  refine g_gI lf_X9_68 (X.M.l 0 rfl) (X.M.k 0 rfl rfl) dX9_all_2 ?_
  refine g_aL0 dX9_all_5 ?_
  refine g_gI lf_X9_71 (X.M.l 0 rfl) (X.M.k 0 rfl rfl) dX9_all_6 ?_
  refine g_imul dX9_all_9 ?_
  refine g_ishl dX9_all_10 ?_
  refine g_iconst dX9_all_11 ?_
  refine g_isub dX9_all_12 ?_
  exact e_iret rfl dX9_all_13 rfl rfl rfl rfl
theorem d_isWhole {h : Hp} {c : Nat} {cn : Nat → Nat} (X : MX h c cn) (set : Int32) : gCi 1 0 0 yX10_isWhole cX10_isWhole 4 (some .boolean) [.ref 50, .int set] h (some (.int (iwM (gI h (c + 12)) set (allF (gI h c 0) (gI h c 1)) (cn 9) 0 0))) h := by
  refine g_entry (lv := [.ref 50, .int set, .retAddr 0, .retAddr 0]) 2 pn_X10 rfl rfl rfl ?_
  have loop : ∀ (n i : Nat) (hv : Int32), i + n = cn 9 → iwM (gI h (c + 12)) set (allF (gI h c 0) (gI h c 1)) (cn 9) 0 0 = iwM (gI h (c + 12)) set (allF (gI h c 0) (gI h c 1)) n i hv → gY 1 0 0 yX10_isWhole cX10_isWhole 4 (some .boolean) 0 0 (fun v' h' => v' = (some (.int (iwM (gI h (c + 12)) set (allF (gI h c 0) (gI h c 1)) (cn 9) 0 0))) ∧ h' = h) 4 [.ref 50, .int set, .int hv, .int (nI i)] [] h := by
    intro n
    induction n with
    | zero =>
      intro i hv hi he 
      refine g_iL3 dX10_isWhole_4 ?_
      refine g_aL0 dX10_isWhole_5 ?_
      refine g_getR lf_X10_359 (X.S.l 50 rfl) (X.S.k 50 rfl rfl) X.C dX10_isWhole_6 ?_
      refine g_gI lf_X10_338 (X.M.l 0 rfl) (X.M.k 0 rfl rfl) dX10_isWhole_9 ?_
      rw [X.c9]
      refine g_icge dX10_isWhole_12 (fun c12 => ?_) (fun c12 => absurd (nI_le (by omega) (by have := X.b9; omega)) c12)
      refine g_iL2 dX10_isWhole_60 ?_
      refine g_aL0 dX10_isWhole_61 ?_
      refine g_getR lf_X10_359 (X.S.l 50 rfl) (X.S.k 50 rfl rfl) X.C dX10_isWhole_62 ?_
      refine e_v0i (d_all X) lm_X10_480 dX10_isWhole_65 (X.M.l 0 rfl) (X.M.k 0 rfl rfl) rfl rfl rfl rfl ?_
      refine g_icne dX10_isWhole_68 (fun c68 => ?_) (fun c68 => ?_)
      · refine g_iconst dX10_isWhole_75 ?_
        exact e_zret rfl (by decide) dX10_isWhole_76 rfl rfl (he.trans (if_neg c68)).symm rfl
      · refine g_iconst dX10_isWhole_71 ?_
        refine g_goto dX10_isWhole_72 ?_
        exact e_zret rfl (by decide) dX10_isWhole_76 rfl rfl (he.trans (if_pos c68)).symm rfl
    | succ n ih =>
      intro i hv hi he 
      refine g_iL3 dX10_isWhole_4 ?_
      refine g_aL0 dX10_isWhole_5 ?_
      refine g_getR lf_X10_359 (X.S.l 50 rfl) (X.S.k 50 rfl rfl) X.C dX10_isWhole_6 ?_
      refine g_gI lf_X10_338 (X.M.l 0 rfl) (X.M.k 0 rfl rfl) dX10_isWhole_9 ?_
      rw [X.c9]
      refine g_icge dX10_isWhole_12 (fun c12 => absurd c12 (nI_ge (by omega) (by have := X.b9; omega))) (fun c12 => ?_)
      refine g_iL1 dX10_isWhole_15 ?_
      refine g_iL3 dX10_isWhole_16 ?_
      refine e_s2i (d_bit _ _) lm_X10_367 dX10_isWhole_17 rfl rfl rfl rfl ?_
      refine g_ifne dX10_isWhole_20 (fun c20 => ?_) (fun c20 => ?_)
      · refine g_iL2 dX10_isWhole_26 ?_
        refine g_aL0 dX10_isWhole_27 ?_
        refine g_getR lf_X10_359 (X.S.l 50 rfl) (X.S.k 50 rfl rfl) X.C dX10_isWhole_28 ?_
        refine g_getRn lf_X10_344 (X.M.l 0 rfl) (X.M.k 0 rfl rfl) (X.M.r 26 (j := 12) rfl) dX10_isWhole_31 ?_
        refine g_iL3 dX10_isWhole_34 ?_
        refine g_ialoadN (X.M.l 12 rfl) (X.M.k 12 rfl rfl) (X.M.n 12 (n := 8) rfl rfl) (show i < 8 from by have := X.b9; omega) (by decide) dX10_isWhole_35 ?_
        refine g_iand dX10_isWhole_36 ?_
        refine g_ifeq dX10_isWhole_37 (fun c37 => ?_) (fun c37 => ?_)
        · refine g_iL2 dX10_isWhole_42 ?_
          refine g_aL0 dX10_isWhole_43 ?_
          refine g_getR lf_X10_359 (X.S.l 50 rfl) (X.S.k 50 rfl rfl) X.C dX10_isWhole_44 ?_
          refine g_getRn lf_X10_344 (X.M.l 0 rfl) (X.M.k 0 rfl rfl) (X.M.r 26 (j := 12) rfl) dX10_isWhole_47 ?_
          refine g_iL3 dX10_isWhole_50 ?_
          refine g_ialoadN (X.M.l 12 rfl) (X.M.k 12 rfl rfl) (X.M.n 12 (n := 8) rfl rfl) (show i < 8 from by have := X.b9; omega) (by decide) dX10_isWhole_51 ?_
          refine g_ior dX10_isWhole_52 ?_
          refine g_iS2 dX10_isWhole_53 rfl rfl ?_
          refine g_ii3 dX10_isWhole_54 rfl rfl ?_
          refine g_goto dX10_isWhole_57 ?_
          rw [nI_1]
          exact ih (i + 1) _ (by omega) (he.trans ((if_neg c20).trans (if_pos c37))) 
        · refine g_iconst dX10_isWhole_40 ?_
          exact e_zret rfl (by decide) dX10_isWhole_41 rfl rfl (he.trans ((if_neg c20).trans (if_neg c37))).symm rfl
      · refine g_goto dX10_isWhole_23 ?_
        refine g_ii3 dX10_isWhole_54 rfl rfl ?_
        refine g_goto dX10_isWhole_57 ?_
        rw [nI_1]
        exact ih (i + 1) _ (by omega) (he.trans (if_pos c20)) 
  refine g_iconst dX10_isWhole_0 ?_
  refine g_iS2 dX10_isWhole_1 rfl rfl ?_
  refine g_iconst dX10_isWhole_2 ?_
  refine g_iS3 dX10_isWhole_3 rfl rfl ?_
  exact loop (cn 9) 0 _ (by omega) rfl
theorem d_wholeAt {h : Hp} {c : Nat} {cn : Nat → Nat} (X : MX h c cn) (k : Int32) : gCi 2 0 0 yX10_wholeAt cX10_wholeAt 4 (some .int) [.ref 50, .int k] h (some (.int (waM (fun set => iwM (gI h (c + 12)) set (allF (gI h c 0) (gI h c 1)) (cn 9) 0 0) k (2 ^ cn 9) 0 0))) h := by
  refine g_entry (lv := [.ref 50, .int k, .retAddr 0, .retAddr 0]) 2 pn_X10 rfl rfl rfl ?_
  have loop : ∀ (n i : Nat) (m : Int32), i + n = 2 ^ cn 9 → waM (fun set => iwM (gI h (c + 12)) set (allF (gI h c 0) (gI h c 1)) (cn 9) 0 0) k (2 ^ cn 9) 0 0 = waM (fun set => iwM (gI h (c + 12)) set (allF (gI h c 0) (gI h c 1)) (cn 9) 0 0) k n i m → gY 2 0 0 yX10_wholeAt cX10_wholeAt 4 (some .int) 0 0 (fun v' h' => v' = (some (.int (waM (fun set => iwM (gI h (c + 12)) set (allF (gI h c 0) (gI h c 1)) (cn 9) 0 0) k (2 ^ cn 9) 0 0))) ∧ h' = h) 4 [.ref 50, .int k, .int m, .int (nI i)] [] h := by
    intro n
    induction n with
    | zero =>
      intro i m hi he 
      refine g_aL0 dX10_wholeAt_4 ?_
      refine g_getR lf_X10_359 (X.S.l 50 rfl) (X.S.k 50 rfl rfl) X.C dX10_wholeAt_5 ?_
      refine g_ifnullS dX10_wholeAt_8 ?_
      refine g_iL3 dX10_wholeAt_11 ?_
      refine g_iconst dX10_wholeAt_12 ?_
      refine g_aL0 dX10_wholeAt_13 ?_
      refine g_getR lf_X10_359 (X.S.l 50 rfl) (X.S.k 50 rfl rfl) X.C dX10_wholeAt_14 ?_
      refine g_gI lf_X10_338 (X.M.l 0 rfl) (X.M.k 0 rfl rfl) dX10_wholeAt_17 ?_
      refine g_ishl dX10_wholeAt_20 ?_
      rw [X.c9, sh2 X.b9]
      refine g_icge dX10_wholeAt_21 (fun c21 => ?_) (fun c21 => absurd (nI_le (by omega) (by have := p2_8 X.b9; omega)) c21)
      refine g_iconst dX10_wholeAt_51 ?_
      exact e_iret rfl dX10_wholeAt_52 rfl rfl he.symm rfl
    | succ n ih =>
      intro i m hi he 
      refine g_aL0 dX10_wholeAt_4 ?_
      refine g_getR lf_X10_359 (X.S.l 50 rfl) (X.S.k 50 rfl rfl) X.C dX10_wholeAt_5 ?_
      refine g_ifnullS dX10_wholeAt_8 ?_
      refine g_iL3 dX10_wholeAt_11 ?_
      refine g_iconst dX10_wholeAt_12 ?_
      refine g_aL0 dX10_wholeAt_13 ?_
      refine g_getR lf_X10_359 (X.S.l 50 rfl) (X.S.k 50 rfl rfl) X.C dX10_wholeAt_14 ?_
      refine g_gI lf_X10_338 (X.M.l 0 rfl) (X.M.k 0 rfl rfl) dX10_wholeAt_17 ?_
      refine g_ishl dX10_wholeAt_20 ?_
      rw [X.c9, sh2 X.b9]
      refine g_icge dX10_wholeAt_21 (fun c21 => absurd c21 (nI_ge (by omega) (by have := p2_8 X.b9; omega))) (fun c21 => ?_)
      refine g_aL0 dX10_wholeAt_24 ?_
      refine g_iL3 dX10_wholeAt_25 ?_
      refine e_v1i (d_isWhole X _) lm_X10_483 dX10_wholeAt_26 (X.S.l 50 rfl) (X.S.k 50 rfl rfl) rfl rfl rfl rfl ?_
      refine g_ifne dX10_wholeAt_29 (fun c29 => ?_) (fun c29 => ?_)
      · refine g_iL2 dX10_wholeAt_35 ?_
        refine g_iL1 dX10_wholeAt_36 ?_
        refine g_icne dX10_wholeAt_37 (fun c37 => ?_) (fun c37 => ?_)
        · refine g_ii2 dX10_wholeAt_42 rfl rfl ?_
          refine g_ii3 dX10_wholeAt_45 rfl rfl ?_
          refine g_goto dX10_wholeAt_48 ?_
          rw [nI_1]
          exact ih (i + 1) _ (by omega) (he.trans ((if_neg c29).trans (if_neg c37))) 
        · refine g_iL3 dX10_wholeAt_40 ?_
          exact e_iret rfl dX10_wholeAt_41 rfl rfl (he.trans ((if_neg c29).trans (if_pos c37))).symm rfl
      · refine g_goto dX10_wholeAt_32 ?_
        refine g_ii3 dX10_wholeAt_45 rfl rfl ?_
        refine g_goto dX10_wholeAt_48 ?_
        rw [nI_1]
        exact ih (i + 1) _ (by omega) (he.trans (if_pos c29)) 
  refine g_iconst dX10_wholeAt_0 ?_
  refine g_iS2 dX10_wholeAt_1 rfl rfl ?_
  refine g_iconst dX10_wholeAt_2 ?_
  refine g_iS3 dX10_wholeAt_3 rfl rfl ?_
  exact loop (2 ^ cn 9) 0 _ (by omega) rfl
theorem z_wholeAt {h : Hp} (S : SX h) (hz : gR h 50 3 = none) (k : Int32) : gCi 2 0 0 yX10_wholeAt cX10_wholeAt 4 (some .int) [.ref 50, .int k] h (some (.int (-1))) h := by
  refine g_entry (lv := [.ref 50, .int k, .retAddr 0, .retAddr 0]) 2 pn_X10 rfl rfl rfl ?_
  refine g_iconst dX10_wholeAt_0 ?_
  refine g_iS2 dX10_wholeAt_1 rfl rfl ?_
  refine g_iconst dX10_wholeAt_2 ?_
  refine g_iS3 dX10_wholeAt_3 rfl rfl ?_
  refine g_aL0 dX10_wholeAt_4 ?_
  refine g_getN0 lf_X10_359 (S.l 50 rfl) (S.k 50 rfl rfl) hz dX10_wholeAt_5 ?_
  refine g_ifnullZ dX10_wholeAt_8 ?_
  refine g_iconst dX10_wholeAt_51 ?_
  exact e_iret rfl dX10_wholeAt_52 rfl rfl rfl rfl
theorem n_wholes {h : Hp} {c : Nat} {cn : Nat → Nat} (X : MX (mT h) c cn) : gCi 3 0 0 yX10_wholes cX10_wholes 3 (some .int) [.ref 50] h (some (.int (cwM (fun set => iwM (gI (mT h) (c + 12)) set (allF (gI (mT h) c 0) (gI (mT h) c 1)) (cn 9) 0 0) (2 ^ cn 9) 0 0))) (mR (mT h) 0) := by
  refine g_entry (lv := [.ref 50, .retAddr 0, .retAddr 0]) 2 pn_X10 rfl rfl rfl ?_
  refine g_aL0 dX10_wholes_0 ?_
  refine g_iconst dX10_wholes_1 ?_
  refine g_pI0 lf_X10_39 (X.S.l 50 rfl) (X.S.k 50 rfl rfl) dX10_wholes_2 ?_
  show gY _ _ _ _ _ _ _ _ _ _ _ _ _ (mT h)
  generalize mT h = h at X ⊢
  refine g_aL0 dX10_wholes_5 ?_
  refine g_getR lf_X10_359 (X.S.l 50 rfl) (X.S.k 50 rfl rfl) X.C dX10_wholes_6 ?_
  refine g_ifnonnullS dX10_wholes_9 ?_
  refine g_iconst dX10_wholes_18 ?_
  refine g_iS1 dX10_wholes_19 rfl rfl ?_
  refine g_iconst dX10_wholes_20 ?_
  refine g_iS2 dX10_wholes_21 rfl rfl ?_
  have loop : ∀ (n i : Nat) (m : Int32), i + n = 2 ^ cn 9 → cwM (fun set => iwM (gI h (c + 12)) set (allF (gI h c 0) (gI h c 1)) (cn 9) 0 0) (2 ^ cn 9) 0 0 = cwM (fun set => iwM (gI h (c + 12)) set (allF (gI h c 0) (gI h c 1)) (cn 9) 0 0) n i m → gY 3 0 0 yX10_wholes cX10_wholes 3 (some .int) 0 0 (fun v' h' => v' = (some (.int (cwM (fun set => iwM (gI h (c + 12)) set (allF (gI h c 0) (gI h c 1)) (cn 9) 0 0) (2 ^ cn 9) 0 0))) ∧ h' = (mR h 0)) 22 [.ref 50, .int m, .int (nI i)] [] h := by
    intro n
    induction n with
    | zero =>
      intro i m hi he 
      refine g_iL2 dX10_wholes_22 ?_
      refine g_iconst dX10_wholes_23 ?_
      refine g_aL0 dX10_wholes_24 ?_
      refine g_getR lf_X10_359 (X.S.l 50 rfl) (X.S.k 50 rfl rfl) X.C dX10_wholes_25 ?_
      refine g_gI lf_X10_338 (X.M.l 0 rfl) (X.M.k 0 rfl rfl) dX10_wholes_28 ?_
      refine g_ishl dX10_wholes_31 ?_
      rw [X.c9, sh2 X.b9]
      refine g_icge dX10_wholes_32 (fun c32 => ?_) (fun c32 => absurd (nI_le (by omega) (by have := p2_8 X.b9; omega)) c32)
      refine g_aL0 dX10_wholes_57 ?_
      refine g_iL1 dX10_wholes_58 ?_
      refine e_v1i (d_good X.S _) lm_X10_49 dX10_wholes_59 (X.S.l 50 rfl) (X.S.k 50 rfl rfl) rfl rfl rfl rfl ?_
      exact e_iret rfl dX10_wholes_62 rfl rfl he.symm rfl
    | succ n ih =>
      intro i m hi he 
      refine g_iL2 dX10_wholes_22 ?_
      refine g_iconst dX10_wholes_23 ?_
      refine g_aL0 dX10_wholes_24 ?_
      refine g_getR lf_X10_359 (X.S.l 50 rfl) (X.S.k 50 rfl rfl) X.C dX10_wholes_25 ?_
      refine g_gI lf_X10_338 (X.M.l 0 rfl) (X.M.k 0 rfl rfl) dX10_wholes_28 ?_
      refine g_ishl dX10_wholes_31 ?_
      rw [X.c9, sh2 X.b9]
      refine g_icge dX10_wholes_32 (fun c32 => absurd c32 (nI_ge (by omega) (by have := p2_8 X.b9; omega))) (fun c32 => ?_)
      refine g_iL1 dX10_wholes_35 ?_
      refine g_aL0 dX10_wholes_36 ?_
      refine g_iL2 dX10_wholes_37 ?_
      refine e_v1i (d_isWhole X _) lm_X10_483 dX10_wholes_38 (X.S.l 50 rfl) (X.S.k 50 rfl rfl) rfl rfl rfl rfl ?_
      refine g_ifeq dX10_wholes_41 (fun c41 => ?_) (fun c41 => ?_)
      · refine g_iconst dX10_wholes_48 ?_
        refine g_iadd dX10_wholes_49 ?_
        refine g_iS1 dX10_wholes_50 rfl rfl ?_
        refine g_ii2 dX10_wholes_51 rfl rfl ?_
        refine g_goto dX10_wholes_54 ?_
        rw [nI_1]
        exact ih (i + 1) _ (by omega) (he.trans (if_pos c41)) 
      · refine g_iconst dX10_wholes_44 ?_
        refine g_goto dX10_wholes_45 ?_
        refine g_iadd dX10_wholes_49 ?_
        refine g_iS1 dX10_wholes_50 rfl rfl ?_
        refine g_ii2 dX10_wholes_51 rfl rfl ?_
        refine g_goto dX10_wholes_54 ?_
        rw [nI_1]
        exact ih (i + 1) _ (by omega) (he.trans (if_neg c41)) 
  exact loop (2 ^ cn 9) 0 _ (by omega) rfl
theorem z_wholes {h : Hp} (S : SX (mT h)) (hz : gR (mT h) 50 3 = none) : gCi 3 0 0 yX10_wholes cX10_wholes 3 (some .int) [.ref 50] h (some (.int (-1))) (mR (mT h) 1) := by
  refine g_entry (lv := [.ref 50, .retAddr 0, .retAddr 0]) 2 pn_X10 rfl rfl rfl ?_
  refine g_aL0 dX10_wholes_0 ?_
  refine g_iconst dX10_wholes_1 ?_
  refine g_pI0 lf_X10_39 (S.l 50 rfl) (S.k 50 rfl rfl) dX10_wholes_2 ?_
  show gY _ _ _ _ _ _ _ _ _ _ _ _ _ (mT h)
  generalize mT h = h at S hz ⊢
  refine g_aL0 dX10_wholes_5 ?_
  refine g_getN0 lf_X10_359 (S.l 50 rfl) (S.k 50 rfl rfl) hz dX10_wholes_6 ?_
  refine g_ifnonnullZ dX10_wholes_9 ?_
  refine g_aL0 dX10_wholes_12 ?_
  refine g_iconst dX10_wholes_13 ?_
  refine e_v1i (d_refused S _) lm_X10_45 dX10_wholes_14 (S.l 50 rfl) (S.k 50 rfl rfl) rfl rfl rfl rfl ?_
  exact e_iret rfl dX10_wholes_17 rfl rfl rfl rfl
theorem d_writtenBy {h : Hp} {c : Nat} {cn : Nat → Nat} (X : MX h c cn) (set : Int32) : gCi 1 0 0 yX10_writtenBy cX10_writtenBy 4 (some .int) [.ref 50, .int set] h (some (.int (orM (gI h (c + 13)) set (cn 9) 0 0))) h := by
  refine g_entry (lv := [.ref 50, .int set, .retAddr 0, .retAddr 0]) 2 pn_X10 rfl rfl rfl ?_
  have loop : ∀ (n i : Nat) (b : Int32), i + n = cn 9 → orM (gI h (c + 13)) set (cn 9) 0 0 = orM (gI h (c + 13)) set n i b → gY 1 0 0 yX10_writtenBy cX10_writtenBy 4 (some .int) 0 0 (fun v' h' => v' = (some (.int (orM (gI h (c + 13)) set (cn 9) 0 0))) ∧ h' = h) 4 [.ref 50, .int set, .int b, .int (nI i)] [] h := by
    intro n
    induction n with
    | zero =>
      intro i b hi he 
      refine g_iL3 dX10_writtenBy_4 ?_
      refine g_aL0 dX10_writtenBy_5 ?_
      refine g_getR lf_X10_359 (X.S.l 50 rfl) (X.S.k 50 rfl rfl) X.C dX10_writtenBy_6 ?_
      refine g_gI lf_X10_338 (X.M.l 0 rfl) (X.M.k 0 rfl rfl) dX10_writtenBy_9 ?_
      rw [X.c9]
      refine g_icge dX10_writtenBy_12 (fun c12 => ?_) (fun c12 => absurd (nI_le (by omega) (by have := X.b9; omega)) c12)
      refine g_iL2 dX10_writtenBy_45 ?_
      exact e_iret rfl dX10_writtenBy_46 rfl rfl he.symm rfl
    | succ n ih =>
      intro i b hi he 
      refine g_iL3 dX10_writtenBy_4 ?_
      refine g_aL0 dX10_writtenBy_5 ?_
      refine g_getR lf_X10_359 (X.S.l 50 rfl) (X.S.k 50 rfl rfl) X.C dX10_writtenBy_6 ?_
      refine g_gI lf_X10_338 (X.M.l 0 rfl) (X.M.k 0 rfl rfl) dX10_writtenBy_9 ?_
      rw [X.c9]
      refine g_icge dX10_writtenBy_12 (fun c12 => absurd c12 (nI_ge (by omega) (by have := X.b9; omega))) (fun c12 => ?_)
      refine g_iL2 dX10_writtenBy_15 ?_
      refine g_iL1 dX10_writtenBy_16 ?_
      refine g_iL3 dX10_writtenBy_17 ?_
      refine e_s2i (d_bit _ _) lm_X10_367 dX10_writtenBy_18 rfl rfl rfl rfl ?_
      refine g_ifeq dX10_writtenBy_21 (fun c21 => ?_) (fun c21 => ?_)
      · refine g_iconst dX10_writtenBy_36 ?_
        refine g_ior dX10_writtenBy_37 ?_
        refine g_iS2 dX10_writtenBy_38 rfl rfl ?_
        refine g_ii3 dX10_writtenBy_39 rfl rfl ?_
        refine g_goto dX10_writtenBy_42 ?_
        rw [nI_1]
        exact ih (i + 1) _ (by omega) (he.trans (if_pos c21)) 
      · refine g_aL0 dX10_writtenBy_24 ?_
        refine g_getR lf_X10_359 (X.S.l 50 rfl) (X.S.k 50 rfl rfl) X.C dX10_writtenBy_25 ?_
        refine g_getRn lf_X10_347 (X.M.l 0 rfl) (X.M.k 0 rfl rfl) (X.M.r 27 (j := 13) rfl) dX10_writtenBy_28 ?_
        refine g_iL3 dX10_writtenBy_31 ?_
        refine g_ialoadN (X.M.l 13 rfl) (X.M.k 13 rfl rfl) (X.M.n 13 (n := 8) rfl rfl) (show i < 8 from by have := X.b9; omega) (by decide) dX10_writtenBy_32 ?_
        refine g_goto dX10_writtenBy_33 ?_
        refine g_ior dX10_writtenBy_37 ?_
        refine g_iS2 dX10_writtenBy_38 rfl rfl ?_
        refine g_ii3 dX10_writtenBy_39 rfl rfl ?_
        refine g_goto dX10_writtenBy_42 ?_
        rw [nI_1]
        exact ih (i + 1) _ (by omega) (he.trans (if_neg c21)) 
  refine g_iconst dX10_writtenBy_0 ?_
  refine g_iS2 dX10_writtenBy_1 rfl rfl ?_
  refine g_iconst dX10_writtenBy_2 ?_
  refine g_iS3 dX10_writtenBy_3 rfl rfl ?_
  exact loop (cn 9) 0 _ (by omega) rfl
theorem d_cellsOf {h : Hp} {c : Nat} {cn : Nat → Nat} (X : MX h c cn) (p set : Int32) : gCi 1 0 0 yX10_cellsOf cX10_cellsOf 5 (some .int) [.ref 50, .int p, .int set] h (some (.int (cpM (gI h (c + 11)) (gI h (c + 12)) p set (cn 9) 0 0))) h := by
  refine g_entry (lv := [.ref 50, .int p, .int set, .retAddr 0, .retAddr 0]) 2 pn_X10 rfl rfl rfl ?_
  have loop : ∀ (n i : Nat) (m : Int32), i + n = cn 9 → cpM (gI h (c + 11)) (gI h (c + 12)) p set (cn 9) 0 0 = cpM (gI h (c + 11)) (gI h (c + 12)) p set n i m → gY 1 0 0 yX10_cellsOf cX10_cellsOf 5 (some .int) 0 0 (fun v' h' => v' = (some (.int (cpM (gI h (c + 11)) (gI h (c + 12)) p set (cn 9) 0 0))) ∧ h' = h) 5 [.ref 50, .int p, .int set, .int m, .int (nI i)] [] h := by
    intro n
    induction n with
    | zero =>
      intro i m hi he 
      refine g_iL4 dX10_cellsOf_5 ?_
      refine g_aL0 dX10_cellsOf_7 ?_
      refine g_getR lf_X10_359 (X.S.l 50 rfl) (X.S.k 50 rfl rfl) X.C dX10_cellsOf_8 ?_
      refine g_gI lf_X10_338 (X.M.l 0 rfl) (X.M.k 0 rfl rfl) dX10_cellsOf_11 ?_
      rw [X.c9]
      refine g_icge dX10_cellsOf_14 (fun c14 => ?_) (fun c14 => absurd (nI_le (by omega) (by have := X.b9; omega)) c14)
      refine g_iL3 dX10_cellsOf_66 ?_
      exact e_iret rfl dX10_cellsOf_67 rfl rfl he.symm rfl
    | succ n ih =>
      intro i m hi he 
      refine g_iL4 dX10_cellsOf_5 ?_
      refine g_aL0 dX10_cellsOf_7 ?_
      refine g_getR lf_X10_359 (X.S.l 50 rfl) (X.S.k 50 rfl rfl) X.C dX10_cellsOf_8 ?_
      refine g_gI lf_X10_338 (X.M.l 0 rfl) (X.M.k 0 rfl rfl) dX10_cellsOf_11 ?_
      rw [X.c9]
      refine g_icge dX10_cellsOf_14 (fun c14 => absurd c14 (nI_ge (by omega) (by have := X.b9; omega))) (fun c14 => ?_)
      refine g_iL3 dX10_cellsOf_17 ?_
      refine g_iL2 dX10_cellsOf_18 ?_
      refine g_iL4 dX10_cellsOf_19 ?_
      refine e_s2i (d_bit _ _) lm_X10_367 dX10_cellsOf_21 rfl rfl rfl rfl ?_
      refine g_ifeq dX10_cellsOf_24 (fun c24 => ?_) (fun c24 => ?_)
      · refine g_iconst dX10_cellsOf_57 ?_
        refine g_iadd dX10_cellsOf_58 ?_
        refine g_iS3 dX10_cellsOf_59 rfl rfl ?_
        refine g_ii4 dX10_cellsOf_60 rfl rfl ?_
        refine g_goto dX10_cellsOf_63 ?_
        rw [nI_1]
        exact ih (i + 1) _ (by omega) (he.trans (if_pos c24)) 
      · refine g_aL0 dX10_cellsOf_27 ?_
        refine g_getR lf_X10_359 (X.S.l 50 rfl) (X.S.k 50 rfl rfl) X.C dX10_cellsOf_28 ?_
        refine g_getRn lf_X10_341 (X.M.l 0 rfl) (X.M.k 0 rfl rfl) (X.M.r 25 (j := 11) rfl) dX10_cellsOf_31 ?_
        refine g_iL4 dX10_cellsOf_34 ?_
        refine g_ialoadN (X.M.l 11 rfl) (X.M.k 11 rfl rfl) (X.M.n 11 (n := 8) rfl rfl) (show i < 8 from by have := X.b9; omega) (by decide) dX10_cellsOf_36 ?_
        refine g_iL1 dX10_cellsOf_37 ?_
        refine g_icne dX10_cellsOf_38 (fun c38 => ?_) (fun c38 => ?_)
        · refine g_iconst dX10_cellsOf_57 ?_
          refine g_iadd dX10_cellsOf_58 ?_
          refine g_iS3 dX10_cellsOf_59 rfl rfl ?_
          refine g_ii4 dX10_cellsOf_60 rfl rfl ?_
          refine g_goto dX10_cellsOf_63 ?_
          rw [nI_1]
          exact ih (i + 1) _ (by omega) (he.trans ((if_neg c24).trans (if_neg c38))) 
        · refine g_aL0 dX10_cellsOf_41 ?_
          refine g_getR lf_X10_359 (X.S.l 50 rfl) (X.S.k 50 rfl rfl) X.C dX10_cellsOf_42 ?_
          refine g_getRn lf_X10_344 (X.M.l 0 rfl) (X.M.k 0 rfl rfl) (X.M.r 26 (j := 12) rfl) dX10_cellsOf_45 ?_
          refine g_iL4 dX10_cellsOf_48 ?_
          refine g_ialoadN (X.M.l 12 rfl) (X.M.k 12 rfl rfl) (X.M.n 12 (n := 8) rfl rfl) (show i < 8 from by have := X.b9; omega) (by decide) dX10_cellsOf_50 ?_
          refine e_s1i (d_bits _) lm_X10_392 dX10_cellsOf_51 rfl rfl rfl rfl ?_
          refine g_goto dX10_cellsOf_54 ?_
          refine g_iadd dX10_cellsOf_58 ?_
          refine g_iS3 dX10_cellsOf_59 rfl rfl ?_
          refine g_ii4 dX10_cellsOf_60 rfl rfl ?_
          refine g_goto dX10_cellsOf_63 ?_
          rw [nI_1]
          exact ih (i + 1) _ (by omega) (he.trans ((if_neg c24).trans (if_pos c38))) 
  refine g_iconst dX10_cellsOf_0 ?_
  refine g_iS3 dX10_cellsOf_1 rfl rfl ?_
  refine g_iconst dX10_cellsOf_2 ?_
  refine g_iS4 dX10_cellsOf_3 rfl rfl ?_
  exact loop (cn 9) 0 _ (by omega) rfl
theorem n_whole {h : Hp} {c : Nat} {cn : Nat → Nat} (X : MX (mT h) c cn) (k : Int32) : gCi 3 0 0 yX10_whole cX10_whole 3 (some .int) [.ref 50, .int k] h (some (.int (if (waM (fun set => iwM (gI (mT h) (c + 12)) set (allF (gI (mT h) c 0) (gI (mT h) c 1)) (cn 9) 0 0) k (2 ^ cn 9) 0 0) = -1 then -1 else (waM (fun set => iwM (gI (mT h) (c + 12)) set (allF (gI (mT h) c 0) (gI (mT h) c 1)) (cn 9) 0 0) k (2 ^ cn 9) 0 0)))) (mR (mT h) (if (waM (fun set => iwM (gI (mT h) (c + 12)) set (allF (gI (mT h) c 0) (gI (mT h) c 1)) (cn 9) 0 0) k (2 ^ cn 9) 0 0) = -1 then 1 else 0)) := by
  refine g_entry (lv := [.ref 50, .int k, .retAddr 0]) 1 pn_X10 rfl rfl rfl ?_
  refine g_aL0 dX10_whole_0 ?_
  refine g_iconst dX10_whole_1 ?_
  refine g_pI0 lf_X10_39 (X.S.l 50 rfl) (X.S.k 50 rfl rfl) dX10_whole_2 ?_
  show gY _ _ _ _ _ _ _ _ _ _ _ _ _ (mT h)
  generalize mT h = h at X ⊢
  refine g_aL0 dX10_whole_5 ?_
  refine g_iL1 dX10_whole_6 ?_
  refine e_v1i (d_wholeAt X _) lm_X10_486 dX10_whole_7 (X.S.l 50 rfl) (X.S.k 50 rfl rfl) rfl rfl rfl rfl ?_
  refine g_iS2 dX10_whole_10 rfl rfl ?_
  refine g_iL2 dX10_whole_11 ?_
  refine g_iconst dX10_whole_12 ?_
  refine g_icne dX10_whole_13 (fun c13 => ?_) (fun c13 => ?_)
  · refine g_aL0 dX10_whole_24 ?_
    refine g_iL2 dX10_whole_25 ?_
    refine e_v1i (d_good X.S _) lm_X10_49 dX10_whole_26 (X.S.l 50 rfl) (X.S.k 50 rfl rfl) rfl rfl rfl rfl ?_
    exact e_iret rfl dX10_whole_29 rfl rfl (if_neg c13).symm (by rw [if_neg c13])
  · refine g_aL0 dX10_whole_16 ?_
    refine g_iconst dX10_whole_17 ?_
    refine e_v1i (d_refused X.S _) lm_X10_45 dX10_whole_18 (X.S.l 50 rfl) (X.S.k 50 rfl rfl) rfl rfl rfl rfl ?_
    refine g_goto dX10_whole_21 ?_
    exact e_iret rfl dX10_whole_29 rfl rfl (if_pos c13).symm (by rw [if_pos c13])
theorem z_whole {h : Hp} (S : SX (mT h)) (hz : gR (mT h) 50 3 = none) (k : Int32) : gCi 3 0 0 yX10_whole cX10_whole 3 (some .int) [.ref 50, .int k] h (some (.int (-1))) (mR (mT h) 1) := by
  refine g_entry (lv := [.ref 50, .int k, .retAddr 0]) 1 pn_X10 rfl rfl rfl ?_
  refine g_aL0 dX10_whole_0 ?_
  refine g_iconst dX10_whole_1 ?_
  refine g_pI0 lf_X10_39 (S.l 50 rfl) (S.k 50 rfl rfl) dX10_whole_2 ?_
  show gY _ _ _ _ _ _ _ _ _ _ _ _ _ (mT h)
  generalize mT h = h at S hz ⊢
  refine g_aL0 dX10_whole_5 ?_
  refine g_iL1 dX10_whole_6 ?_
  refine e_v1i (z_wholeAt S hz _) lm_X10_486 dX10_whole_7 (S.l 50 rfl) (S.k 50 rfl rfl) rfl rfl rfl rfl ?_
  refine g_iS2 dX10_whole_10 rfl rfl ?_
  refine g_iL2 dX10_whole_11 ?_
  refine g_iconst dX10_whole_12 ?_
  refine g_icne dX10_whole_13 (fun c13 => absurd rfl c13) (fun c13 => ?_)
  refine g_aL0 dX10_whole_16 ?_
  refine g_iconst dX10_whole_17 ?_
  refine e_v1i (d_refused S _) lm_X10_45 dX10_whole_18 (S.l 50 rfl) (S.k 50 rfl rfl) rfl rfl rfl rfl ?_
  refine g_goto dX10_whole_21 ?_
  exact e_iret rfl dX10_whole_29 rfl rfl rfl rfl
theorem n_written {h : Hp} {c : Nat} {cn : Nat → Nat} (X : MX (mT h) c cn) (k : Int32) : gCi 3 0 0 yX10_written cX10_written 3 (some .int) [.ref 50, .int k] h (some (.int (if (waM (fun set => iwM (gI (mT h) (c + 12)) set (allF (gI (mT h) c 0) (gI (mT h) c 1)) (cn 9) 0 0) k (2 ^ cn 9) 0 0) = -1 then -1 else (orM (gI (mT h) (c + 13)) (waM (fun set => iwM (gI (mT h) (c + 12)) set (allF (gI (mT h) c 0) (gI (mT h) c 1)) (cn 9) 0 0) k (2 ^ cn 9) 0 0) (cn 9) 0 0)))) (mR (mT h) (if (waM (fun set => iwM (gI (mT h) (c + 12)) set (allF (gI (mT h) c 0) (gI (mT h) c 1)) (cn 9) 0 0) k (2 ^ cn 9) 0 0) = -1 then 1 else 0)) := by
  refine g_entry (lv := [.ref 50, .int k, .retAddr 0]) 1 pn_X10 rfl rfl rfl ?_
  refine g_aL0 dX10_written_0 ?_
  refine g_iconst dX10_written_1 ?_
  refine g_pI0 lf_X10_39 (X.S.l 50 rfl) (X.S.k 50 rfl rfl) dX10_written_2 ?_
  show gY _ _ _ _ _ _ _ _ _ _ _ _ _ (mT h)
  generalize mT h = h at X ⊢
  refine g_aL0 dX10_written_5 ?_
  refine g_iL1 dX10_written_6 ?_
  refine e_v1i (d_wholeAt X _) lm_X10_486 dX10_written_7 (X.S.l 50 rfl) (X.S.k 50 rfl rfl) rfl rfl rfl rfl ?_
  refine g_iS2 dX10_written_10 rfl rfl ?_
  refine g_iL2 dX10_written_11 ?_
  refine g_iconst dX10_written_12 ?_
  refine g_icne dX10_written_13 (fun c13 => ?_) (fun c13 => ?_)
  · refine g_aL0 dX10_written_24 ?_
    refine g_aL0 dX10_written_25 ?_
    refine g_iL2 dX10_written_26 ?_
    refine e_v1i (d_writtenBy X _) lm_X10_489 dX10_written_27 (X.S.l 50 rfl) (X.S.k 50 rfl rfl) rfl rfl rfl rfl ?_
    refine e_v1i (d_good X.S _) lm_X10_49 dX10_written_30 (X.S.l 50 rfl) (X.S.k 50 rfl rfl) rfl rfl rfl rfl ?_
    exact e_iret rfl dX10_written_33 rfl rfl (if_neg c13).symm (by rw [if_neg c13])
  · refine g_aL0 dX10_written_16 ?_
    refine g_iconst dX10_written_17 ?_
    refine e_v1i (d_refused X.S _) lm_X10_45 dX10_written_18 (X.S.l 50 rfl) (X.S.k 50 rfl rfl) rfl rfl rfl rfl ?_
    refine g_goto dX10_written_21 ?_
    exact e_iret rfl dX10_written_33 rfl rfl (if_pos c13).symm (by rw [if_pos c13])
theorem z_written {h : Hp} (S : SX (mT h)) (hz : gR (mT h) 50 3 = none) (k : Int32) : gCi 3 0 0 yX10_written cX10_written 3 (some .int) [.ref 50, .int k] h (some (.int (-1))) (mR (mT h) 1) := by
  refine g_entry (lv := [.ref 50, .int k, .retAddr 0]) 1 pn_X10 rfl rfl rfl ?_
  refine g_aL0 dX10_written_0 ?_
  refine g_iconst dX10_written_1 ?_
  refine g_pI0 lf_X10_39 (S.l 50 rfl) (S.k 50 rfl rfl) dX10_written_2 ?_
  show gY _ _ _ _ _ _ _ _ _ _ _ _ _ (mT h)
  generalize mT h = h at S hz ⊢
  refine g_aL0 dX10_written_5 ?_
  refine g_iL1 dX10_written_6 ?_
  refine e_v1i (z_wholeAt S hz _) lm_X10_486 dX10_written_7 (S.l 50 rfl) (S.k 50 rfl rfl) rfl rfl rfl rfl ?_
  refine g_iS2 dX10_written_10 rfl rfl ?_
  refine g_iL2 dX10_written_11 ?_
  refine g_iconst dX10_written_12 ?_
  refine g_icne dX10_written_13 (fun c13 => absurd rfl c13) (fun c13 => ?_)
  refine g_aL0 dX10_written_16 ?_
  refine g_iconst dX10_written_17 ?_
  refine e_v1i (d_refused S _) lm_X10_45 dX10_written_18 (S.l 50 rfl) (S.k 50 rfl rfl) rfl rfl rfl rfl ?_
  refine g_goto dX10_written_21 ?_
  exact e_iret rfl dX10_written_33 rfl rfl rfl rfl
theorem n_wordOf {h : Hp} {c : Nat} {cn : Nat → Nat} (X : MX (mT h) c cn) (k : Int32) : gCi 3 0 0 yX10_wordOf cX10_wordOf 3 (some .int) [.ref 50, .int k] h (some (.int (if (waM (fun set => iwM (gI (mT h) (c + 12)) set (allF (gI (mT h) c 0) (gI (mT h) c 1)) (cn 9) 0 0) k (2 ^ cn 9) 0 0) = -1 then -1 else fwF (gI (mT h) (c + 3)) (orM (gI (mT h) (c + 13)) (waM (fun set => iwM (gI (mT h) (c + 12)) set (allF (gI (mT h) c 0) (gI (mT h) c 1)) (cn 9) 0 0) k (2 ^ cn 9) 0 0) (cn 9) 0 0) (cn 2) 0))) (mR (mT h) (if (waM (fun set => iwM (gI (mT h) (c + 12)) set (allF (gI (mT h) c 0) (gI (mT h) c 1)) (cn 9) 0 0) k (2 ^ cn 9) 0 0) = -1 then 1 else 0)) := by
  refine g_entry (lv := [.ref 50, .int k, .retAddr 0]) 1 pn_X10 rfl rfl rfl ?_
  refine g_aL0 dX10_wordOf_0 ?_
  refine g_iconst dX10_wordOf_1 ?_
  refine g_pI0 lf_X10_39 (X.S.l 50 rfl) (X.S.k 50 rfl rfl) dX10_wordOf_2 ?_
  show gY _ _ _ _ _ _ _ _ _ _ _ _ _ (mT h)
  generalize mT h = h at X ⊢
  refine g_aL0 dX10_wordOf_5 ?_
  refine g_iL1 dX10_wordOf_6 ?_
  refine e_v1i (d_wholeAt X _) lm_X10_486 dX10_wordOf_7 (X.S.l 50 rfl) (X.S.k 50 rfl rfl) rfl rfl rfl rfl ?_
  refine g_iS2 dX10_wordOf_10 rfl rfl ?_
  refine g_iL2 dX10_wordOf_11 ?_
  refine g_iconst dX10_wordOf_12 ?_
  refine g_icne dX10_wordOf_13 (fun c13 => ?_) (fun c13 => ?_)
  · refine g_aL0 dX10_wordOf_24 ?_
    refine g_aL0 dX10_wordOf_25 ?_
    refine g_aL0 dX10_wordOf_26 ?_
    refine g_iL2 dX10_wordOf_27 ?_
    refine e_v1i (d_writtenBy X _) lm_X10_489 dX10_wordOf_28 (X.S.l 50 rfl) (X.S.k 50 rfl rfl) rfl rfl rfl rfl ?_
    refine e_v1i (d_readOf X _) lm_X10_404 dX10_wordOf_31 (X.S.l 50 rfl) (X.S.k 50 rfl rfl) rfl rfl rfl rfl ?_
    refine e_v1i (d_good X.S _) lm_X10_49 dX10_wordOf_34 (X.S.l 50 rfl) (X.S.k 50 rfl rfl) rfl rfl rfl rfl ?_
    exact e_iret rfl dX10_wordOf_37 rfl rfl (if_neg c13).symm (by rw [if_neg c13])
  · refine g_aL0 dX10_wordOf_16 ?_
    refine g_iconst dX10_wordOf_17 ?_
    refine e_v1i (d_refused X.S _) lm_X10_45 dX10_wordOf_18 (X.S.l 50 rfl) (X.S.k 50 rfl rfl) rfl rfl rfl rfl ?_
    refine g_goto dX10_wordOf_21 ?_
    exact e_iret rfl dX10_wordOf_37 rfl rfl (if_pos c13).symm (by rw [if_pos c13])
theorem z_wordOf {h : Hp} (S : SX (mT h)) (hz : gR (mT h) 50 3 = none) (k : Int32) : gCi 3 0 0 yX10_wordOf cX10_wordOf 3 (some .int) [.ref 50, .int k] h (some (.int (-1))) (mR (mT h) 1) := by
  refine g_entry (lv := [.ref 50, .int k, .retAddr 0]) 1 pn_X10 rfl rfl rfl ?_
  refine g_aL0 dX10_wordOf_0 ?_
  refine g_iconst dX10_wordOf_1 ?_
  refine g_pI0 lf_X10_39 (S.l 50 rfl) (S.k 50 rfl rfl) dX10_wordOf_2 ?_
  show gY _ _ _ _ _ _ _ _ _ _ _ _ _ (mT h)
  generalize mT h = h at S hz ⊢
  refine g_aL0 dX10_wordOf_5 ?_
  refine g_iL1 dX10_wordOf_6 ?_
  refine e_v1i (z_wholeAt S hz _) lm_X10_486 dX10_wordOf_7 (S.l 50 rfl) (S.k 50 rfl rfl) rfl rfl rfl rfl ?_
  refine g_iS2 dX10_wordOf_10 rfl rfl ?_
  refine g_iL2 dX10_wordOf_11 ?_
  refine g_iconst dX10_wordOf_12 ?_
  refine g_icne dX10_wordOf_13 (fun c13 => absurd rfl c13) (fun c13 => ?_)
  refine g_aL0 dX10_wordOf_16 ?_
  refine g_iconst dX10_wordOf_17 ?_
  refine e_v1i (d_refused S _) lm_X10_45 dX10_wordOf_18 (S.l 50 rfl) (S.k 50 rfl rfl) rfl rfl rfl rfl ?_
  refine g_goto dX10_wordOf_21 ?_
  exact e_iret rfl dX10_wordOf_37 rfl rfl rfl rfl
theorem n_owner {h : Hp} {c : Nat} {cn : Nat → Nat} (X : MX (mT h) c cn) (h8 : 0 < cn 8) (k : Int32) : gCi 3 0 0 yX10_owner cX10_owner 5 (some .int) [.ref 50, .int k] h (some (.int (if (waM (fun set => iwM (gI (mT h) (c + 12)) set (allF (gI (mT h) c 0) (gI (mT h) c 1)) (cn 9) 0 0) k (2 ^ cn 9) 0 0) = -1 then -1 else owM (fun p => cpM (gI (mT h) (c + 11)) (gI (mT h) (c + 12)) p (waM (fun set => iwM (gI (mT h) (c + 12)) set (allF (gI (mT h) c 0) (gI (mT h) c 1)) (cn 9) 0 0) k (2 ^ cn 9) 0 0) (cn 9) 0 0) (cn 8 - 1) 1 0))) (mR (mT h) (if (waM (fun set => iwM (gI (mT h) (c + 12)) set (allF (gI (mT h) c 0) (gI (mT h) c 1)) (cn 9) 0 0) k (2 ^ cn 9) 0 0) = -1 then 1 else 0)) := by
  refine g_entry (lv := [.ref 50, .int k, .retAddr 0, .retAddr 0, .retAddr 0]) 3 pn_X10 rfl rfl rfl ?_
  refine g_aL0 dX10_owner_0 ?_
  refine g_iconst dX10_owner_1 ?_
  refine g_pI0 lf_X10_39 (X.S.l 50 rfl) (X.S.k 50 rfl rfl) dX10_owner_2 ?_
  show gY _ _ _ _ _ _ _ _ _ _ _ _ _ (mT h)
  generalize mT h = h at X ⊢
  refine g_aL0 dX10_owner_5 ?_
  refine g_iL1 dX10_owner_6 ?_
  refine e_v1i (d_wholeAt X _) lm_X10_486 dX10_owner_7 (X.S.l 50 rfl) (X.S.k 50 rfl rfl) rfl rfl rfl rfl ?_
  refine g_iS2 dX10_owner_10 rfl rfl ?_
  refine g_iL2 dX10_owner_11 ?_
  refine g_iconst dX10_owner_12 ?_
  refine g_icne dX10_owner_13 (fun c13 => ?_) (fun c13 => ?_)
  · refine g_iconst dX10_owner_22 ?_
    refine g_iS3 dX10_owner_23 rfl rfl ?_
    refine g_iconst dX10_owner_24 ?_
    refine g_iS4 dX10_owner_25 rfl rfl ?_
    have loop : ∀ (n i : Nat) (o : Int32), i + n = cn 8 → owM (fun p => cpM (gI h (c + 11)) (gI h (c + 12)) p (waM (fun set => iwM (gI h (c + 12)) set (allF (gI h c 0) (gI h c 1)) (cn 9) 0 0) k (2 ^ cn 9) 0 0) (cn 9) 0 0) (cn 8 - 1) 1 0 = owM (fun p => cpM (gI h (c + 11)) (gI h (c + 12)) p (waM (fun set => iwM (gI h (c + 12)) set (allF (gI h c 0) (gI h c 1)) (cn 9) 0 0) k (2 ^ cn 9) 0 0) (cn 9) 0 0) n i o → gY 3 0 0 yX10_owner cX10_owner 5 (some .int) 0 0 (fun v' h' => v' = (some (.int (if (waM (fun set => iwM (gI h (c + 12)) set (allF (gI h c 0) (gI h c 1)) (cn 9) 0 0) k (2 ^ cn 9) 0 0) = -1 then -1 else owM (fun p => cpM (gI h (c + 11)) (gI h (c + 12)) p (waM (fun set => iwM (gI h (c + 12)) set (allF (gI h c 0) (gI h c 1)) (cn 9) 0 0) k (2 ^ cn 9) 0 0) (cn 9) 0 0) (cn 8 - 1) 1 0))) ∧ h' = (mR h (if (waM (fun set => iwM (gI h (c + 12)) set (allF (gI h c 0) (gI h c 1)) (cn 9) 0 0) k (2 ^ cn 9) 0 0) = -1 then 1 else 0))) 27 [.ref 50, .int k, .int (waM (fun set => iwM (gI h (c + 12)) set (allF (gI h c 0) (gI h c 1)) (cn 9) 0 0) k (2 ^ cn 9) 0 0), .int o, .int (nI i)] [] h := by
      intro n
      induction n with
      | zero =>
        intro i o hi he 
        refine g_iL4 dX10_owner_27 ?_
        refine g_aL0 dX10_owner_29 ?_
        refine g_getR lf_X10_359 (X.S.l 50 rfl) (X.S.k 50 rfl rfl) X.C dX10_owner_30 ?_
        refine g_gI lf_X10_335 (X.M.l 0 rfl) (X.M.k 0 rfl rfl) dX10_owner_33 ?_
        rw [X.c8]
        refine g_icge dX10_owner_36 (fun c36 => ?_) (fun c36 => absurd (nI_le (by omega) (by have := X.b8; omega)) c36)
        refine g_aL0 dX10_owner_64 ?_
        refine g_iL3 dX10_owner_65 ?_
        refine e_v1i (d_good X.S _) lm_X10_49 dX10_owner_66 (X.S.l 50 rfl) (X.S.k 50 rfl rfl) rfl rfl rfl rfl ?_
        exact e_iret rfl dX10_owner_69 rfl rfl (by rw [if_neg c13]; exact he.symm) (by rw [if_neg c13])
      | succ n ih =>
        intro i o hi he 
        refine g_iL4 dX10_owner_27 ?_
        refine g_aL0 dX10_owner_29 ?_
        refine g_getR lf_X10_359 (X.S.l 50 rfl) (X.S.k 50 rfl rfl) X.C dX10_owner_30 ?_
        refine g_gI lf_X10_335 (X.M.l 0 rfl) (X.M.k 0 rfl rfl) dX10_owner_33 ?_
        rw [X.c8]
        refine g_icge dX10_owner_36 (fun c36 => absurd c36 (nI_ge (by omega) (by have := X.b8; omega))) (fun c36 => ?_)
        refine g_aL0 dX10_owner_39 ?_
        refine g_iL4 dX10_owner_40 ?_
        refine g_iL2 dX10_owner_42 ?_
        refine e_v2i (d_cellsOf X _ _) lm_X10_492 dX10_owner_43 (X.S.l 50 rfl) (X.S.k 50 rfl rfl) rfl rfl rfl rfl ?_
        refine g_aL0 dX10_owner_46 ?_
        refine g_iL3 dX10_owner_47 ?_
        refine g_iL2 dX10_owner_48 ?_
        refine e_v2i (d_cellsOf X _ _) lm_X10_492 dX10_owner_49 (X.S.l 50 rfl) (X.S.k 50 rfl rfl) rfl rfl rfl rfl ?_
        refine g_icle dX10_owner_52 (fun c52 => ?_) (fun c52 => ?_)
        · refine g_ii4 dX10_owner_58 rfl rfl ?_
          refine g_goto dX10_owner_61 ?_
          rw [nI_1]
          exact ih (i + 1) _ (by omega) (he.trans (if_pos c52)) 
        · refine g_iL4 dX10_owner_55 ?_
          refine g_iS3 dX10_owner_57 rfl rfl ?_
          refine g_ii4 dX10_owner_58 rfl rfl ?_
          refine g_goto dX10_owner_61 ?_
          rw [nI_1]
          exact ih (i + 1) _ (by omega) (he.trans (if_neg c52)) 
    exact loop (cn 8 - 1) 1 _ (by omega) rfl
  · refine g_aL0 dX10_owner_16 ?_
    refine g_iconst dX10_owner_17 ?_
    refine e_v1i (d_refused X.S _) lm_X10_45 dX10_owner_18 (X.S.l 50 rfl) (X.S.k 50 rfl rfl) rfl rfl rfl rfl ?_
    exact e_iret rfl dX10_owner_21 rfl rfl (if_pos c13).symm (by rw [if_pos c13])
theorem z_owner {h : Hp} (S : SX (mT h)) (hz : gR (mT h) 50 3 = none) (k : Int32) : gCi 3 0 0 yX10_owner cX10_owner 5 (some .int) [.ref 50, .int k] h (some (.int (-1))) (mR (mT h) 1) := by
  refine g_entry (lv := [.ref 50, .int k, .retAddr 0, .retAddr 0, .retAddr 0]) 3 pn_X10 rfl rfl rfl ?_
  refine g_aL0 dX10_owner_0 ?_
  refine g_iconst dX10_owner_1 ?_
  refine g_pI0 lf_X10_39 (S.l 50 rfl) (S.k 50 rfl rfl) dX10_owner_2 ?_
  show gY _ _ _ _ _ _ _ _ _ _ _ _ _ (mT h)
  generalize mT h = h at S hz ⊢
  refine g_aL0 dX10_owner_5 ?_
  refine g_iL1 dX10_owner_6 ?_
  refine e_v1i (z_wholeAt S hz _) lm_X10_486 dX10_owner_7 (S.l 50 rfl) (S.k 50 rfl rfl) rfl rfl rfl rfl ?_
  refine g_iS2 dX10_owner_10 rfl rfl ?_
  refine g_iL2 dX10_owner_11 ?_
  refine g_iconst dX10_owner_12 ?_
  refine g_icne dX10_owner_13 (fun c13 => absurd rfl c13) (fun c13 => ?_)
  refine g_aL0 dX10_owner_16 ?_
  refine g_iconst dX10_owner_17 ?_
  refine e_v1i (d_refused S _) lm_X10_45 dX10_owner_18 (S.l 50 rfl) (S.k 50 rfl rfl) rfl rfl rfl rfl ?_
  exact e_iret rfl dX10_owner_21 rfl rfl rfl rfl
theorem n_missing {h : Hp} {c : Nat} {cn : Nat → Nat} (X : MX (mT h) c cn) : gCi 3 0 0 yX10_missing cX10_missing 3 (some .int) [.ref 50] h (some (.int ((allF (gI (mT h) c 0) (gI (mT h) c 1)) &&& (oaF (gI (mT h) (c + 12)) (cn 9) 0 0 ^^^ (-1))))) (mR (mT h) 0) := by
  refine g_entry (lv := [.ref 50, .retAddr 0, .retAddr 0]) 2 pn_X10 rfl rfl rfl ?_
  refine g_aL0 dX10_missing_0 ?_
  refine g_iconst dX10_missing_1 ?_
  refine g_pI0 lf_X10_39 (X.S.l 50 rfl) (X.S.k 50 rfl rfl) dX10_missing_2 ?_
  show gY _ _ _ _ _ _ _ _ _ _ _ _ _ (mT h)
  generalize mT h = h at X ⊢
  refine g_aL0 dX10_missing_5 ?_
  refine g_getR lf_X10_359 (X.S.l 50 rfl) (X.S.k 50 rfl rfl) X.C dX10_missing_6 ?_
  refine g_ifnonnullS dX10_missing_9 ?_
  refine g_iconst dX10_missing_18 ?_
  refine g_iS1 dX10_missing_19 rfl rfl ?_
  refine g_iconst dX10_missing_20 ?_
  refine g_iS2 dX10_missing_21 rfl rfl ?_
  have loop : ∀ (n i : Nat) (b : Int32), i + n = cn 9 → oaF (gI h (c + 12)) (cn 9) 0 0 = oaF (gI h (c + 12)) n i b → gY 3 0 0 yX10_missing cX10_missing 3 (some .int) 0 0 (fun v' h' => v' = (some (.int ((allF (gI h c 0) (gI h c 1)) &&& (oaF (gI h (c + 12)) (cn 9) 0 0 ^^^ (-1))))) ∧ h' = (mR h 0)) 22 [.ref 50, .int b, .int (nI i)] [] h := by
    intro n
    induction n with
    | zero =>
      intro i b hi he 
      refine g_iL2 dX10_missing_22 ?_
      refine g_aL0 dX10_missing_23 ?_
      refine g_getR lf_X10_359 (X.S.l 50 rfl) (X.S.k 50 rfl rfl) X.C dX10_missing_24 ?_
      refine g_gI lf_X10_338 (X.M.l 0 rfl) (X.M.k 0 rfl rfl) dX10_missing_27 ?_
      rw [X.c9]
      refine g_icge dX10_missing_30 (fun c30 => ?_) (fun c30 => absurd (nI_le (by omega) (by have := X.b9; omega)) c30)
      refine g_aL0 dX10_missing_51 ?_
      refine g_aL0 dX10_missing_52 ?_
      refine g_getR lf_X10_359 (X.S.l 50 rfl) (X.S.k 50 rfl rfl) X.C dX10_missing_53 ?_
      refine e_v0i (d_all X) lm_X10_480 dX10_missing_56 (X.M.l 0 rfl) (X.M.k 0 rfl rfl) rfl rfl rfl rfl ?_
      refine g_iL1 dX10_missing_59 ?_
      refine g_iconst dX10_missing_60 ?_
      refine g_ixor dX10_missing_61 ?_
      refine g_iand dX10_missing_62 ?_
      refine e_v1i (d_good X.S _) lm_X10_49 dX10_missing_63 (X.S.l 50 rfl) (X.S.k 50 rfl rfl) rfl rfl rfl rfl ?_
      exact e_iret rfl dX10_missing_66 rfl rfl (by rw [he]; rfl) rfl
    | succ n ih =>
      intro i b hi he 
      refine g_iL2 dX10_missing_22 ?_
      refine g_aL0 dX10_missing_23 ?_
      refine g_getR lf_X10_359 (X.S.l 50 rfl) (X.S.k 50 rfl rfl) X.C dX10_missing_24 ?_
      refine g_gI lf_X10_338 (X.M.l 0 rfl) (X.M.k 0 rfl rfl) dX10_missing_27 ?_
      rw [X.c9]
      refine g_icge dX10_missing_30 (fun c30 => absurd c30 (nI_ge (by omega) (by have := X.b9; omega))) (fun c30 => ?_)
      refine g_iL1 dX10_missing_33 ?_
      refine g_aL0 dX10_missing_34 ?_
      refine g_getR lf_X10_359 (X.S.l 50 rfl) (X.S.k 50 rfl rfl) X.C dX10_missing_35 ?_
      refine g_getRn lf_X10_344 (X.M.l 0 rfl) (X.M.k 0 rfl rfl) (X.M.r 26 (j := 12) rfl) dX10_missing_38 ?_
      refine g_iL2 dX10_missing_41 ?_
      refine g_ialoadN (X.M.l 12 rfl) (X.M.k 12 rfl rfl) (X.M.n 12 (n := 8) rfl rfl) (show i < 8 from by have := X.b9; omega) (by decide) dX10_missing_42 ?_
      refine g_ior dX10_missing_43 ?_
      refine g_iS1 dX10_missing_44 rfl rfl ?_
      refine g_ii2 dX10_missing_45 rfl rfl ?_
      refine g_goto dX10_missing_48 ?_
      rw [nI_1]
      exact ih (i + 1) _ (by omega) he 
  exact loop (cn 9) 0 _ (by omega) rfl
theorem z_missing {h : Hp} (S : SX (mT h)) (hz : gR (mT h) 50 3 = none) : gCi 3 0 0 yX10_missing cX10_missing 3 (some .int) [.ref 50] h (some (.int (-1))) (mR (mT h) 1) := by
  refine g_entry (lv := [.ref 50, .retAddr 0, .retAddr 0]) 2 pn_X10 rfl rfl rfl ?_
  refine g_aL0 dX10_missing_0 ?_
  refine g_iconst dX10_missing_1 ?_
  refine g_pI0 lf_X10_39 (S.l 50 rfl) (S.k 50 rfl rfl) dX10_missing_2 ?_
  show gY _ _ _ _ _ _ _ _ _ _ _ _ _ (mT h)
  generalize mT h = h at S hz ⊢
  refine g_aL0 dX10_missing_5 ?_
  refine g_getN0 lf_X10_359 (S.l 50 rfl) (S.k 50 rfl rfl) hz dX10_missing_6 ?_
  refine g_ifnonnullZ dX10_missing_9 ?_
  refine g_aL0 dX10_missing_12 ?_
  refine g_iconst dX10_missing_13 ?_
  refine e_v1i (d_refused S _) lm_X10_45 dX10_missing_14 (S.l 50 rfl) (S.k 50 rfl rfl) rfl rfl rfl rfl ?_
  exact e_iret rfl dX10_missing_17 rfl rfl rfl rfl
theorem n_pairFor {h : Hp} {c : Nat} {cn : Nat → Nat} (X : MX (mT h) c cn) (wd : Int32) : gCi 3 0 0 yX10_pairFor cX10_pairFor 4 (some .int) [.ref 50, .int wd] h (some (.int (if (ipF wd (nI (cn 2))) = 0 then -1 else fpO (fun p => thF (gI (mT h) 52 16) (nI p)) (fun p q => shM (mT h) p ||| shM (mT h) q) (gI (mT h) (c + 3) (pn wd)) (cn 1) (cn 1) 0))) (mR (mT h) (if (ipF wd (nI (cn 2))) = 0 then 1 else 0)) := by
  refine g_entry (lv := [.ref 50, .int wd, .retAddr 0, .retAddr 0]) 2 pn_X10 rfl rfl rfl ?_
  refine g_aL0 dX10_pairFor_0 ?_
  refine g_iconst dX10_pairFor_1 ?_
  refine g_pI0 lf_X10_39 (X.S.l 50 rfl) (X.S.k 50 rfl rfl) dX10_pairFor_2 ?_
  show gY _ _ _ _ _ _ _ _ _ _ _ _ _ (mT h)
  generalize mT h = h at X ⊢
  refine g_aL0 dX10_pairFor_5 ?_
  refine g_iL1 dX10_pairFor_6 ?_
  refine e_v1i (d_isWordOf X _) lm_X10_395 dX10_pairFor_7 (X.S.l 50 rfl) (X.S.k 50 rfl rfl) rfl rfl rfl rfl ?_
  refine g_ifne dX10_pairFor_10 (fun c10 => ?_) (fun c10 => ?_)
  · refine g_iconst dX10_pairFor_19 ?_
    refine g_iS2 dX10_pairFor_20 rfl rfl ?_
    obtain ⟨W, hW, rfl⟩ := ip1 (by have := X.b2; omega) c10
    have hW8 : W < 8 := by have := X.b2; omega
    have eW := pn_nI (n := W) (by omega)
    have loop : ∀ (n i : Nat) (v3 : Value), i + n = cn 1 → fpO (fun p => thF (gI h 52 16) (nI p)) (fun p q => shM h p ||| shM h q) (gI h (c + 3) W) (cn 1) (cn 1) 0 = fpO (fun p => thF (gI h 52 16) (nI p)) (fun p q => shM h p ||| shM h q) (gI h (c + 3) W) (cn 1) n i → gY 3 0 0 yX10_pairFor cX10_pairFor 4 (some .int) 0 0 (fun v' h' => v' = (some (.int (if (ipF (nI W) (nI (cn 2))) = 0 then -1 else fpO (fun p => thF (gI h 52 16) (nI p)) (fun p q => shM h p ||| shM h q) (gI h (c + 3) (pn (nI W))) (cn 1) (cn 1) 0))) ∧ h' = (mR h (if (ipF (nI W) (nI (cn 2))) = 0 then 1 else 0))) 21 [.ref 50, .int (nI W), .int (nI i), v3] [] h := by
      intro n
      induction n with
      | zero =>
        intro i v3 hi he 
        refine g_iL2 dX10_pairFor_21 ?_
        refine g_aL0 dX10_pairFor_22 ?_
        refine g_getR lf_X10_359 (X.S.l 50 rfl) (X.S.k 50 rfl rfl) X.C dX10_pairFor_23 ?_
        refine g_gI lf_X10_215 (X.M.l 0 rfl) (X.M.k 0 rfl rfl) dX10_pairFor_26 ?_
        rw [X.c1]
        refine g_icge dX10_pairFor_29 (fun c29 => ?_) (fun c29 => absurd (nI_le (by omega) (by have := X.b1; omega)) c29)
        refine g_aL0 dX10_pairFor_109 ?_
        refine g_bipush dX10_pairFor_110 ?_
        refine e_v1i (d_good X.S _) lm_X10_49 dX10_pairFor_112 (X.S.l 50 rfl) (X.S.k 50 rfl rfl) rfl rfl rfl rfl ?_
        exact e_iret rfl dX10_pairFor_115 rfl rfl (by rw [if_neg c10, eW]; exact he.symm) (by rw [if_neg c10])
      | succ n ih =>
        intro i v3 hi he 
        refine g_iL2 dX10_pairFor_21 ?_
        refine g_aL0 dX10_pairFor_22 ?_
        refine g_getR lf_X10_359 (X.S.l 50 rfl) (X.S.k 50 rfl rfl) X.C dX10_pairFor_23 ?_
        refine g_gI lf_X10_215 (X.M.l 0 rfl) (X.M.k 0 rfl rfl) dX10_pairFor_26 ?_
        rw [X.c1]
        refine g_icge dX10_pairFor_29 (fun c29 => absurd c29 (nI_ge (by omega) (by have := X.b1; omega))) (fun c29 => ?_)
        refine g_iL2 dX10_pairFor_32 ?_
        refine g_iconst dX10_pairFor_33 ?_
        refine g_iadd dX10_pairFor_34 ?_
        refine g_iS3 dX10_pairFor_35 rfl rfl ?_
        rw [nI_1]
        have loop2 : ∀ (m q : Nat) , q + m = cn 1 → fpO (fun p => thF (gI h 52 16) (nI p)) (fun p q => shM h p ||| shM h q) (gI h (c + 3) W) (cn 1) (cn 1) 0 = fpI (fun p => thF (gI h 52 16) (nI p)) (fun p q => shM h p ||| shM h q) (gI h (c + 3) W) (fpO (fun p => thF (gI h 52 16) (nI p)) (fun p q => shM h p ||| shM h q) (gI h (c + 3) W) (cn 1) n (i + 1)) i m q → gY 3 0 0 yX10_pairFor cX10_pairFor 4 (some .int) 0 0 (fun v' h' => v' = (some (.int (if (ipF (nI W) (nI (cn 2))) = 0 then -1 else fpO (fun p => thF (gI h 52 16) (nI p)) (fun p q => shM h p ||| shM h q) (gI h (c + 3) (pn (nI W))) (cn 1) (cn 1) 0))) ∧ h' = (mR h (if (ipF (nI W) (nI (cn 2))) = 0 then 1 else 0))) 36 [.ref 50, .int (nI W), .int (nI i), .int (nI q)] [] h := by
          intro m
          induction m with
          | zero =>
            intro q  hi2 he2 
            refine g_iL3 dX10_pairFor_36 ?_
            refine g_aL0 dX10_pairFor_37 ?_
            refine g_getR lf_X10_359 (X.S.l 50 rfl) (X.S.k 50 rfl rfl) X.C dX10_pairFor_38 ?_
            refine g_gI lf_X10_215 (X.M.l 0 rfl) (X.M.k 0 rfl rfl) dX10_pairFor_41 ?_
            rw [X.c1]
            refine g_icge dX10_pairFor_44 (fun c44 => ?_) (fun c44 => absurd (nI_le (by omega) (by have := X.b1; omega)) c44)
            refine g_ii2 dX10_pairFor_103 rfl rfl ?_
            refine g_goto dX10_pairFor_106 ?_
            rw [nI_1]
            exact ih (i + 1) _ (by omega) he2
          | succ m ih2 =>
            intro q  hi2 he2 
            refine g_iL3 dX10_pairFor_36 ?_
            refine g_aL0 dX10_pairFor_37 ?_
            refine g_getR lf_X10_359 (X.S.l 50 rfl) (X.S.k 50 rfl rfl) X.C dX10_pairFor_38 ?_
            refine g_gI lf_X10_215 (X.M.l 0 rfl) (X.M.k 0 rfl rfl) dX10_pairFor_41 ?_
            rw [X.c1]
            refine g_icge dX10_pairFor_44 (fun c44 => absurd c44 (nI_ge (by omega) (by have := X.b1; omega))) (fun c44 => ?_)
            refine g_aL0 dX10_pairFor_47 ?_
            refine g_iL2 dX10_pairFor_48 ?_
            refine e_v1i (d_isBroken X.S _) lm_X10_383 dX10_pairFor_49 (X.S.l 50 rfl) (X.S.k 50 rfl rfl) rfl rfl rfl rfl ?_
            refine g_ifne dX10_pairFor_52 (fun c52 => ?_) (fun c52 => ?_)
            · refine g_ii3 dX10_pairFor_97 rfl rfl ?_
              refine g_goto dX10_pairFor_100 ?_
              rw [nI_1]
              exact ih2 (q + 1)  (by omega) (he2.trans (if_neg c52)) 
            · refine g_aL0 dX10_pairFor_55 ?_
              refine g_iL3 dX10_pairFor_56 ?_
              refine e_v1i (d_isBroken X.S _) lm_X10_383 dX10_pairFor_57 (X.S.l 50 rfl) (X.S.k 50 rfl rfl) rfl rfl rfl rfl ?_
              refine g_ifne dX10_pairFor_60 (fun c60 => ?_) (fun c60 => ?_)
              · refine g_ii3 dX10_pairFor_97 rfl rfl ?_
                refine g_goto dX10_pairFor_100 ?_
                rw [nI_1]
                exact ih2 (q + 1)  (by omega) (he2.trans ((if_pos c52).trans (if_neg c60))) 
              · refine g_aL0 dX10_pairFor_63 ?_
                refine g_iL2 dX10_pairFor_64 ?_
                refine e_v1i (d_shownBy X.S (show i < 8 from by have := X.b1; omega)) lm_X10_371 dX10_pairFor_65 (X.S.l 50 rfl) (X.S.k 50 rfl rfl) rfl rfl rfl rfl ?_
                refine g_aL0 dX10_pairFor_68 ?_
                refine g_iL3 dX10_pairFor_69 ?_
                refine e_v1i (d_shownBy X.S (show q < 8 from by have := X.b1; omega)) lm_X10_371 dX10_pairFor_70 (X.S.l 50 rfl) (X.S.k 50 rfl rfl) rfl rfl rfl rfl ?_
                refine g_ior dX10_pairFor_73 ?_
                refine g_aL0 dX10_pairFor_74 ?_
                refine g_getR lf_X10_359 (X.S.l 50 rfl) (X.S.k 50 rfl rfl) X.C dX10_pairFor_75 ?_
                refine g_getRn lf_X10_292 (X.M.l 0 rfl) (X.M.k 0 rfl rfl) (X.M.r 17 (j := 3) rfl) dX10_pairFor_78 ?_
                refine g_iL1 dX10_pairFor_81 ?_
                refine g_ialoadN (X.M.l 3 rfl) (X.M.k 3 rfl rfl) (X.M.n 3 (n := 8) rfl rfl) hW8 (by decide) dX10_pairFor_82 ?_
                refine g_icne dX10_pairFor_83 (fun c83 => ?_) (fun c83 => ?_)
                · refine g_ii3 dX10_pairFor_97 rfl rfl ?_
                  refine g_goto dX10_pairFor_100 ?_
                  rw [nI_1]
                  exact ih2 (q + 1)  (by omega) (he2.trans ((if_pos c52).trans ((if_pos c60).trans (if_neg c83)))) 
                · refine g_aL0 dX10_pairFor_86 ?_
                  refine g_bipush dX10_pairFor_87 ?_
                  refine g_iL2 dX10_pairFor_89 ?_
                  refine g_imul dX10_pairFor_90 ?_
                  refine g_iL3 dX10_pairFor_91 ?_
                  refine g_iadd dX10_pairFor_92 ?_
                  refine e_v1i (d_good X.S _) lm_X10_49 dX10_pairFor_93 (X.S.l 50 rfl) (X.S.k 50 rfl rfl) rfl rfl rfl rfl ?_
                  exact e_iret rfl dX10_pairFor_96 rfl rfl (by rw [if_neg c10, eW]; exact (he2.trans ((if_pos c52).trans ((if_pos c60).trans (if_pos c83)))).symm) (by rw [if_neg c10])
        exact loop2 (cn 1 - (i + 1)) (i + 1) (by omega) he
    exact loop (cn 1) 0 _ (by omega) rfl
  · refine g_aL0 dX10_pairFor_13 ?_
    refine g_iconst dX10_pairFor_14 ?_
    refine e_v1i (d_refused X.S _) lm_X10_45 dX10_pairFor_15 (X.S.l 50 rfl) (X.S.k 50 rfl rfl) rfl rfl rfl rfl ?_
    exact e_iret rfl dX10_pairFor_18 rfl rfl (if_pos c10).symm (by rw [if_pos c10])
theorem z_pairFor {h : Hp} (S : SX (mT h)) (hz : gR (mT h) 50 3 = none) (wd : Int32) : gCi 3 0 0 yX10_pairFor cX10_pairFor 4 (some .int) [.ref 50, .int wd] h (some (.int (-1))) (mR (mT h) 1) := by
  refine g_entry (lv := [.ref 50, .int wd, .retAddr 0, .retAddr 0]) 2 pn_X10 rfl rfl rfl ?_
  refine g_aL0 dX10_pairFor_0 ?_
  refine g_iconst dX10_pairFor_1 ?_
  refine g_pI0 lf_X10_39 (S.l 50 rfl) (S.k 50 rfl rfl) dX10_pairFor_2 ?_
  show gY _ _ _ _ _ _ _ _ _ _ _ _ _ (mT h)
  generalize mT h = h at S hz ⊢
  refine g_aL0 dX10_pairFor_5 ?_
  refine g_iL1 dX10_pairFor_6 ?_
  refine e_v1i (z_isWordOf S hz _) lm_X10_395 dX10_pairFor_7 (S.l 50 rfl) (S.k 50 rfl rfl) rfl rfl rfl rfl ?_
  refine g_ifne dX10_pairFor_10 (fun c10 => absurd rfl c10) (fun c10 => ?_)
  refine g_aL0 dX10_pairFor_13 ?_
  refine g_iconst dX10_pairFor_14 ?_
  refine e_v1i (d_refused S _) lm_X10_45 dX10_pairFor_15 (S.l 50 rfl) (S.k 50 rfl rfl) rfl rfl rfl rfl ?_
  exact e_iret rfl dX10_pairFor_18 rfl rfl rfl rfl

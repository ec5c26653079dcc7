/-! THE REFERENCE: made, madeOf, scratch, cover, breaks, led -/
theorem mkMH_S {h : Hp} (S : SX h) (f fd s sd th : Int32) : SX (mkMH h f fd s sd th) := by
  unfold mkMH
  repeat' split
  all_goals exact S
theorem n_made {h : Hp} {c0 : Nat} {cn : Nat → Nat} (X : MX (mT h) c0 cn) (a b c d e : Int32) : gCi 3 0 0 yX10_made cX10_made 6 (some .int) [.ref 50, .int a, .int b, .int c, .int d, .int e] h (some (.int (if imF cn a b c d e = 0 then -1 else if (mkMF (gI (mT h) (c0 + 3) (pn a)) (dkF (gI (mT h) (c0 + 4)) b) (gI (mT h) (c0 + 3) (pn c)) (dkF (gI (mT h) (c0 + 4)) d) (gI (mT h) (c0 + 3) (pn e))) = 0 then -2 else pcI (gI (mkMH (mT h) (gI (mT h) (c0 + 3) (pn a)) (dkF (gI (mT h) (c0 + 4)) b) (gI (mT h) (c0 + 3) (pn c)) (dkF (gI (mT h) (c0 + 4)) d) (gI (mT h) (c0 + 3) (pn e))) 50 30) + pcI (gI (mkMH (mT h) (gI (mT h) (c0 + 3) (pn a)) (dkF (gI (mT h) (c0 + 4)) b) (gI (mT h) (c0 + 3) (pn c)) (dkF (gI (mT h) (c0 + 4)) d) (gI (mT h) (c0 + 3) (pn e))) 50 31)))) (if imF cn a b c d e = 0 then mR (mT h) 1 else mR (mkMH (mT h) (gI (mT h) (c0 + 3) (pn a)) (dkF (gI (mT h) (c0 + 4)) b) (gI (mT h) (c0 + 3) (pn c)) (dkF (gI (mT h) (c0 + 4)) d) (gI (mT h) (c0 + 3) (pn e))) 0) := by
  refine g_entry (lv := [.ref 50, .int a, .int b, .int c, .int d, .int e]) 0 pn_X10 rfl rfl rfl ?_
  refine g_aL0 dX10_made_0 ?_
  refine g_iconst dX10_made_1 ?_
  refine g_pI0 lf_X10_39 (X.S.l 50 rfl) (X.S.k 50 rfl rfl) dX10_made_2 ?_
  show gY _ _ _ _ _ _ _ _ _ _ _ _ _ (mT h)
  generalize mT h = h at X ⊢
  refine g_aL0 dX10_made_5 ?_
  refine g_iL1 dX10_made_6 ?_
  refine g_iL2 dX10_made_7 ?_
  refine g_iL3 dX10_made_8 ?_
  refine g_iL4 dX10_made_9 ?_
  refine g_iL5 dX10_made_11 ?_
  refine e_v5i (d_isMade X _ _ _ _ _) lm_X10_464 dX10_made_13 (X.S.l 50 rfl) (X.S.k 50 rfl rfl) rfl rfl rfl rfl ?_
  refine g_ifne dX10_made_16 (fun c16 => ?_) (fun c16 => ?_)
  · obtain ⟨i1, i2, i3, i4, i5⟩ := im1 c16
    obtain ⟨Pa, ha, rfl⟩ := ip1 (by have := X.b2; omega) i1
    have ga : Pa < 8 := by have := X.b2; omega
    have qa := pn_nI (n := Pa) (by omega)
    obtain ⟨Pc, hc, rfl⟩ := ip1 (by have := X.b2; omega) i2
    have gc : Pc < 8 := by have := X.b2; omega
    have qc := pn_nI (n := Pc) (by omega)
    obtain ⟨Pe, he, rfl⟩ := ip1 (by have := X.b2; omega) i3
    have ge : Pe < 8 := by have := X.b2; omega
    have qe := pn_nI (n := Pe) (by omega)
    refine g_aL0 dX10_made_25 ?_
    refine g_aL0 dX10_made_26 ?_
    refine g_iL1 dX10_made_27 ?_
    refine g_iL2 dX10_made_28 ?_
    refine g_iL3 dX10_made_29 ?_
    refine g_iL4 dX10_made_30 ?_
    refine g_iL5 dX10_made_32 ?_
    refine e_v5i (d_makes X ga gc ge i4 i5) lm_X10_468 dX10_made_34 (X.S.l 50 rfl) (X.S.k 50 rfl rfl) rfl rfl rfl rfl ?_
    have S1 : SX (mkMH h (gI h (c0 + 3) Pa) (dkF (gI h (c0 + 4)) b) (gI h (c0 + 3) Pc) (dkF (gI h (c0 + 4)) d) (gI h (c0 + 3) Pe)) := mkMH_S X.S _ _ _ _ _
    refine g_ifeq dX10_made_37 (fun c37 => ?_) (fun c37 => ?_)
    · refine g_bipush dX10_made_58 ?_
      refine e_v1i (d_good S1 _) lm_X10_49 dX10_made_60 (S1.l 50 rfl) (S1.k 50 rfl rfl) rfl rfl rfl rfl ?_
      exact e_iret rfl dX10_made_63 rfl rfl (by rw [if_neg c16, qa, qc, qe]; exact (if_pos c37).symm) (by rw [if_neg c16, qa, qc, qe])
    · refine g_aL0 dX10_made_40 ?_
      refine g_gI lf_X10_458 (S1.l 50 rfl) (S1.k 50 rfl rfl) dX10_made_41 ?_
      refine e_s1i (d_bits _) lm_X10_392 dX10_made_44 rfl rfl rfl rfl ?_
      refine g_aL0 dX10_made_47 ?_
      refine g_gI lf_X10_461 (S1.l 50 rfl) (S1.k 50 rfl rfl) dX10_made_48 ?_
      refine e_s1i (d_bits _) lm_X10_392 dX10_made_51 rfl rfl rfl rfl ?_
      refine g_iadd dX10_made_54 ?_
      refine g_goto dX10_made_55 ?_
      refine e_v1i (d_good S1 _) lm_X10_49 dX10_made_60 (S1.l 50 rfl) (S1.k 50 rfl rfl) rfl rfl rfl rfl ?_
      exact e_iret rfl dX10_made_63 rfl rfl (by rw [if_neg c16, qa, qc, qe]; exact (if_neg c37).symm) (by rw [if_neg c16, qa, qc, qe])
  · refine g_aL0 dX10_made_19 ?_
    refine g_iconst dX10_made_20 ?_
    refine e_v1i (d_refused X.S _) lm_X10_45 dX10_made_21 (X.S.l 50 rfl) (X.S.k 50 rfl rfl) rfl rfl rfl rfl ?_
    exact e_iret rfl dX10_made_24 rfl rfl (if_pos c16).symm (if_pos c16).symm
theorem z_made {h : Hp} (S : SX (mT h)) (hz : gR (mT h) 50 3 = none) (a b c d e : Int32) : gCi 3 0 0 yX10_made cX10_made 6 (some .int) [.ref 50, .int a, .int b, .int c, .int d, .int e] h (some (.int (-1))) (mR (mT h) 1) := by
  refine g_entry (lv := [.ref 50, .int a, .int b, .int c, .int d, .int e]) 0 pn_X10 rfl rfl rfl ?_
  refine g_aL0 dX10_made_0 ?_
  refine g_iconst dX10_made_1 ?_
  refine g_pI0 lf_X10_39 (S.l 50 rfl) (S.k 50 rfl rfl) dX10_made_2 ?_
  show gY _ _ _ _ _ _ _ _ _ _ _ _ _ (mT h)
  generalize mT h = h at S hz ⊢
  refine g_aL0 dX10_made_5 ?_
  refine g_iL1 dX10_made_6 ?_
  refine g_iL2 dX10_made_7 ?_
  refine g_iL3 dX10_made_8 ?_
  refine g_iL4 dX10_made_9 ?_
  refine g_iL5 dX10_made_11 ?_
  refine e_v5i (z_isMade S hz _ _ _ _ _) lm_X10_464 dX10_made_13 (S.l 50 rfl) (S.k 50 rfl rfl) rfl rfl rfl rfl ?_
  refine g_ifne dX10_made_16 (fun c16 => absurd rfl c16) (fun c16 => ?_)
  refine g_aL0 dX10_made_19 ?_
  refine g_iconst dX10_made_20 ?_
  refine e_v1i (d_refused S _) lm_X10_45 dX10_made_21 (S.l 50 rfl) (S.k 50 rfl rfl) rfl rfl rfl rfl ?_
  exact e_iret rfl dX10_made_24 rfl rfl rfl rfl
theorem n_madeOf {h : Hp} {c0 : Nat} {cn : Nat → Nat} (X : MX (mT h) c0 cn) (a b c d e o : Int32) : gCi 3 0 0 yX10_madeOf cX10_madeOf 7 (some .int) [.ref 50, .int a, .int b, .int c, .int d, .int e, .int o] h (some (.int (if imF cn a b c d e = 0 then -1 else if (mkMF (gI (mT h) (c0 + 3) (pn a)) (dkF (gI (mT h) (c0 + 4)) b) (gI (mT h) (c0 + 3) (pn c)) (dkF (gI (mT h) (c0 + 4)) d) (gI (mT h) (c0 + 3) (pn e))) = 0 then -1 else if o = 0 then gI (mkMH (mT h) (gI (mT h) (c0 + 3) (pn a)) (dkF (gI (mT h) (c0 + 4)) b) (gI (mT h) (c0 + 3) (pn c)) (dkF (gI (mT h) (c0 + 4)) d) (gI (mT h) (c0 + 3) (pn e))) 50 30 else gI (mkMH (mT h) (gI (mT h) (c0 + 3) (pn a)) (dkF (gI (mT h) (c0 + 4)) b) (gI (mT h) (c0 + 3) (pn c)) (dkF (gI (mT h) (c0 + 4)) d) (gI (mT h) (c0 + 3) (pn e))) 50 31))) (if imF cn a b c d e = 0 then mR (mT h) 1 else mR (mkMH (mT h) (gI (mT h) (c0 + 3) (pn a)) (dkF (gI (mT h) (c0 + 4)) b) (gI (mT h) (c0 + 3) (pn c)) (dkF (gI (mT h) (c0 + 4)) d) (gI (mT h) (c0 + 3) (pn e))) (if (mkMF (gI (mT h) (c0 + 3) (pn a)) (dkF (gI (mT h) (c0 + 4)) b) (gI (mT h) (c0 + 3) (pn c)) (dkF (gI (mT h) (c0 + 4)) d) (gI (mT h) (c0 + 3) (pn e))) = 0 then 6 else 0)) := by
  refine g_entry (lv := [.ref 50, .int a, .int b, .int c, .int d, .int e, .int o]) 0 pn_X10 rfl rfl rfl ?_
  refine g_aL0 dX10_madeOf_0 ?_
  refine g_iconst dX10_madeOf_1 ?_
  refine g_pI0 lf_X10_39 (X.S.l 50 rfl) (X.S.k 50 rfl rfl) dX10_madeOf_2 ?_
  show gY _ _ _ _ _ _ _ _ _ _ _ _ _ (mT h)
  generalize mT h = h at X ⊢
  refine g_aL0 dX10_madeOf_5 ?_
  refine g_iL1 dX10_madeOf_6 ?_
  refine g_iL2 dX10_madeOf_7 ?_
  refine g_iL3 dX10_madeOf_8 ?_
  refine g_iL4 dX10_madeOf_9 ?_
  refine g_iL5 dX10_madeOf_11 ?_
  refine e_v5i (d_isMade X _ _ _ _ _) lm_X10_464 dX10_madeOf_13 (X.S.l 50 rfl) (X.S.k 50 rfl rfl) rfl rfl rfl rfl ?_
  refine g_ifne dX10_madeOf_16 (fun c16 => ?_) (fun c16 => ?_)
  · obtain ⟨i1, i2, i3, i4, i5⟩ := im1 c16
    obtain ⟨Pa, ha, rfl⟩ := ip1 (by have := X.b2; omega) i1
    have ga : Pa < 8 := by have := X.b2; omega
    have qa := pn_nI (n := Pa) (by omega)
    obtain ⟨Pc, hc, rfl⟩ := ip1 (by have := X.b2; omega) i2
    have gc : Pc < 8 := by have := X.b2; omega
    have qc := pn_nI (n := Pc) (by omega)
    obtain ⟨Pe, he, rfl⟩ := ip1 (by have := X.b2; omega) i3
    have ge : Pe < 8 := by have := X.b2; omega
    have qe := pn_nI (n := Pe) (by omega)
    refine g_aL0 dX10_madeOf_25 ?_
    refine g_iL1 dX10_madeOf_26 ?_
    refine g_iL2 dX10_madeOf_27 ?_
    refine g_iL3 dX10_madeOf_28 ?_
    refine g_iL4 dX10_madeOf_29 ?_
    refine g_iL5 dX10_madeOf_31 ?_
    refine e_v5i (d_makes X ga gc ge i4 i5) lm_X10_468 dX10_madeOf_33 (X.S.l 50 rfl) (X.S.k 50 rfl rfl) rfl rfl rfl rfl ?_
    have S1 : SX (mkMH h (gI h (c0 + 3) Pa) (dkF (gI h (c0 + 4)) b) (gI h (c0 + 3) Pc) (dkF (gI h (c0 + 4)) d) (gI h (c0 + 3) Pe)) := mkMH_S X.S _ _ _ _ _
    refine g_ifeq dX10_madeOf_36 (fun c36 => ?_) (fun c36 => ?_)
    · refine g_aL0 dX10_madeOf_62 ?_
      refine g_bipush dX10_madeOf_63 ?_
      refine e_v1i (d_refused S1 _) lm_X10_45 dX10_madeOf_65 (S1.l 50 rfl) (S1.k 50 rfl rfl) rfl rfl rfl rfl ?_
      exact e_iret rfl dX10_madeOf_68 rfl rfl (by rw [if_neg c16, qa, qc, qe]; exact (if_pos c36).symm) (by rw [if_neg c16, qa, qc, qe, if_pos c36])
    · refine g_aL0 dX10_madeOf_39 ?_
      refine g_iL6 dX10_madeOf_40 ?_
      refine g_ifeq dX10_madeOf_42 (fun c42 => ?_) (fun c42 => ?_)
      · refine g_aL0 dX10_madeOf_52 ?_
        refine g_gI lf_X10_458 (S1.l 50 rfl) (S1.k 50 rfl rfl) dX10_madeOf_53 ?_
        refine e_v1i (d_good S1 _) lm_X10_49 dX10_madeOf_56 (S1.l 50 rfl) (S1.k 50 rfl rfl) rfl rfl rfl rfl ?_
        refine g_goto dX10_madeOf_59 ?_
        exact e_iret rfl dX10_madeOf_68 rfl rfl (by rw [if_neg c16, qa, qc, qe]; exact ((if_neg c36).trans (if_pos c42)).symm) (by rw [if_neg c16, qa, qc, qe, if_neg c36])
      · refine g_aL0 dX10_madeOf_45 ?_
        refine g_gI lf_X10_461 (S1.l 50 rfl) (S1.k 50 rfl rfl) dX10_madeOf_46 ?_
        refine g_goto dX10_madeOf_49 ?_
        refine e_v1i (d_good S1 _) lm_X10_49 dX10_madeOf_56 (S1.l 50 rfl) (S1.k 50 rfl rfl) rfl rfl rfl rfl ?_
        refine g_goto dX10_madeOf_59 ?_
        exact e_iret rfl dX10_madeOf_68 rfl rfl (by rw [if_neg c16, qa, qc, qe]; exact ((if_neg c36).trans (if_neg c42)).symm) (by rw [if_neg c16, qa, qc, qe, if_neg c36])
  · refine g_aL0 dX10_madeOf_19 ?_
    refine g_iconst dX10_madeOf_20 ?_
    refine e_v1i (d_refused X.S _) lm_X10_45 dX10_madeOf_21 (X.S.l 50 rfl) (X.S.k 50 rfl rfl) rfl rfl rfl rfl ?_
    exact e_iret rfl dX10_madeOf_24 rfl rfl (if_pos c16).symm (if_pos c16).symm
theorem z_madeOf {h : Hp} (S : SX (mT h)) (hz : gR (mT h) 50 3 = none) (a b c d e o : Int32) : gCi 3 0 0 yX10_madeOf cX10_madeOf 7 (some .int) [.ref 50, .int a, .int b, .int c, .int d, .int e, .int o] h (some (.int (-1))) (mR (mT h) 1) := by
  refine g_entry (lv := [.ref 50, .int a, .int b, .int c, .int d, .int e, .int o]) 0 pn_X10 rfl rfl rfl ?_
  refine g_aL0 dX10_madeOf_0 ?_
  refine g_iconst dX10_madeOf_1 ?_
  refine g_pI0 lf_X10_39 (S.l 50 rfl) (S.k 50 rfl rfl) dX10_madeOf_2 ?_
  show gY _ _ _ _ _ _ _ _ _ _ _ _ _ (mT h)
  generalize mT h = h at S hz ⊢
  refine g_aL0 dX10_madeOf_5 ?_
  refine g_iL1 dX10_madeOf_6 ?_
  refine g_iL2 dX10_madeOf_7 ?_
  refine g_iL3 dX10_madeOf_8 ?_
  refine g_iL4 dX10_madeOf_9 ?_
  refine g_iL5 dX10_madeOf_11 ?_
  refine e_v5i (z_isMade S hz _ _ _ _ _) lm_X10_464 dX10_madeOf_13 (S.l 50 rfl) (S.k 50 rfl rfl) rfl rfl rfl rfl ?_
  refine g_ifne dX10_madeOf_16 (fun c16 => absurd rfl c16) (fun c16 => ?_)
  refine g_aL0 dX10_madeOf_19 ?_
  refine g_iconst dX10_madeOf_20 ?_
  refine e_v1i (d_refused S _) lm_X10_45 dX10_madeOf_21 (S.l 50 rfl) (S.k 50 rfl rfl) rfl rfl rfl rfl ?_
  exact e_iret rfl dX10_madeOf_24 rfl rfl rfl rfl
def ldR (o : Option Nat) : Int32 := match o with | none => 0 | some P => nI P
def ldH (h : Hp) (o : Option Nat) : Hp := match o with | none => pI h 50 0 1 | some _ => h
theorem n_led {h : Hp} {c : Nat} {cn : Nat → Nat} (X : MX (mT h) c cn) (k : Int32) : gCi 2 0 0 yX10_led cX10_led 4 (some .int) [.ref 50, .int k] h (some (.int (ldR (ldF (fun i => thF (gI (mT h) 52 16) (nI i)) (fun i => fwF (gI (mT h) (c + 3)) (shM (mT h) i) (cn 2) 0) k (cn 1) 0 0)))) (ldH (mT h) (ldF (fun i => thF (gI (mT h) 52 16) (nI i)) (fun i => fwF (gI (mT h) (c + 3)) (shM (mT h) i) (cn 2) 0) k (cn 1) 0 0)) := by
  refine g_entry (lv := [.ref 50, .int k, .retAddr 0, .retAddr 0]) 2 pn_X10 rfl rfl rfl ?_
  refine g_aL0 dX10_led_0 ?_
  refine g_iconst dX10_led_1 ?_
  refine g_pI0 lf_X10_39 (X.S.l 50 rfl) (X.S.k 50 rfl rfl) dX10_led_2 ?_
  show gY _ _ _ _ _ _ _ _ _ _ _ _ _ (mT h)
  generalize mT h = h at X ⊢
  refine g_iconst dX10_led_5 ?_
  refine g_iS2 dX10_led_6 rfl rfl ?_
  refine g_iconst dX10_led_7 ?_
  refine g_iS3 dX10_led_8 rfl rfl ?_
  have loop : ∀ (n i : Nat) (m : Int32), i + n = cn 1 → ldF (fun i => thF (gI h 52 16) (nI i)) (fun i => fwF (gI h (c + 3)) (shM h i) (cn 2) 0) k (cn 1) 0 0 = ldF (fun i => thF (gI h 52 16) (nI i)) (fun i => fwF (gI h (c + 3)) (shM h i) (cn 2) 0) k n i m → gY 2 0 0 yX10_led cX10_led 4 (some .int) 0 0 (fun v' h' => v' = (some (.int (ldR (ldF (fun i => thF (gI h 52 16) (nI i)) (fun i => fwF (gI h (c + 3)) (shM h i) (cn 2) 0) k (cn 1) 0 0)))) ∧ h' = (ldH h (ldF (fun i => thF (gI h 52 16) (nI i)) (fun i => fwF (gI h (c + 3)) (shM h i) (cn 2) 0) k (cn 1) 0 0))) 9 [.ref 50, .int k, .int m, .int (nI i)] [] h := by
    intro n
    induction n with
    | zero =>
      intro i m hi he 
      refine g_aL0 dX10_led_9 ?_
      refine g_getR lf_X10_359 (X.S.l 50 rfl) (X.S.k 50 rfl rfl) X.C dX10_led_10 ?_
      refine g_ifnullS dX10_led_13 ?_
      refine g_iL3 dX10_led_16 ?_
      refine g_aL0 dX10_led_17 ?_
      refine g_getR lf_X10_359 (X.S.l 50 rfl) (X.S.k 50 rfl rfl) X.C dX10_led_18 ?_
      refine g_gI lf_X10_215 (X.M.l 0 rfl) (X.M.k 0 rfl rfl) dX10_led_21 ?_
      rw [X.c1]
      refine g_icge dX10_led_24 (fun c24 => ?_) (fun c24 => absurd (nI_le (by omega) (by have := X.b1; omega)) c24)
      refine g_aL0 dX10_led_68 ?_
      refine g_iconst dX10_led_69 ?_
      refine g_pI0 lf_X10_39 (X.S.l 50 rfl) (X.S.k 50 rfl rfl) dX10_led_70 ?_
      refine g_iconst dX10_led_73 ?_
      exact e_iret rfl dX10_led_74 rfl rfl (by rw [he]; rfl) (by rw [he]; rfl)
    | succ n ih =>
      intro i m hi he 
      refine g_aL0 dX10_led_9 ?_
      refine g_getR lf_X10_359 (X.S.l 50 rfl) (X.S.k 50 rfl rfl) X.C dX10_led_10 ?_
      refine g_ifnullS dX10_led_13 ?_
      refine g_iL3 dX10_led_16 ?_
      refine g_aL0 dX10_led_17 ?_
      refine g_getR lf_X10_359 (X.S.l 50 rfl) (X.S.k 50 rfl rfl) X.C dX10_led_18 ?_
      refine g_gI lf_X10_215 (X.M.l 0 rfl) (X.M.k 0 rfl rfl) dX10_led_21 ?_
      rw [X.c1]
      refine g_icge dX10_led_24 (fun c24 => absurd c24 (nI_ge (by omega) (by have := X.b1; omega))) (fun c24 => ?_)
      refine g_aL0 dX10_led_27 ?_
      refine g_iL3 dX10_led_28 ?_
      refine e_v1i (d_isBroken X.S _) lm_X10_383 dX10_led_29 (X.S.l 50 rfl) (X.S.k 50 rfl rfl) rfl rfl rfl rfl ?_
      refine g_ifne dX10_led_32 (fun c32 => ?_) (fun c32 => ?_)
      · refine g_ii3 dX10_led_62 rfl rfl ?_
        refine g_goto dX10_led_65 ?_
        rw [nI_1]
        exact ih (i + 1) _ (by omega) (he.trans (if_neg c32)) 
      · refine g_aL0 dX10_led_35 ?_
        refine g_aL0 dX10_led_36 ?_
        refine g_iL3 dX10_led_37 ?_
        refine e_v1i (d_shownBy X.S (show i < 8 from by have := X.b1; omega)) lm_X10_371 dX10_led_38 (X.S.l 50 rfl) (X.S.k 50 rfl rfl) rfl rfl rfl rfl ?_
        refine e_v1i (d_readOf X _) lm_X10_404 dX10_led_41 (X.S.l 50 rfl) (X.S.k 50 rfl rfl) rfl rfl rfl rfl ?_
        refine g_bipush dX10_led_44 ?_
        refine g_icne dX10_led_46 (fun c46 => ?_) (fun c46 => ?_)
        · refine g_iL2 dX10_led_52 ?_
          refine g_iL1 dX10_led_53 ?_
          refine g_icne dX10_led_54 (fun c54 => ?_) (fun c54 => ?_)
          · refine g_ii2 dX10_led_59 rfl rfl ?_
            refine g_ii3 dX10_led_62 rfl rfl ?_
            refine g_goto dX10_led_65 ?_
            rw [nI_1]
            exact ih (i + 1) _ (by omega) (he.trans ((if_pos c32).trans ((if_neg c46).trans (if_neg c54)))) 
          · refine g_iL3 dX10_led_57 ?_
            exact e_iret rfl dX10_led_58 rfl rfl (by rw [show ldF (fun i => thF (gI h 52 16) (nI i)) (fun i => fwF (gI h (c + 3)) (shM h i) (cn 2) 0) k (cn 1) 0 0 = _ from he.trans ((if_pos c32).trans ((if_neg c46).trans (if_pos c54)))]; rfl) (by rw [show ldF (fun i => thF (gI h 52 16) (nI i)) (fun i => fwF (gI h (c + 3)) (shM h i) (cn 2) 0) k (cn 1) 0 0 = _ from he.trans ((if_pos c32).trans ((if_neg c46).trans (if_pos c54)))]; rfl)
        · refine g_goto dX10_led_49 ?_
          refine g_ii3 dX10_led_62 rfl rfl ?_
          refine g_goto dX10_led_65 ?_
          rw [nI_1]
          exact ih (i + 1) _ (by omega) (he.trans ((if_pos c32).trans (if_pos c46))) 
  exact loop (cn 1) 0 _ (by omega) rfl
theorem z_led {h : Hp} (S : SX (mT h)) (hz : gR (mT h) 50 3 = none) (k : Int32) : gCi 2 0 0 yX10_led cX10_led 4 (some .int) [.ref 50, .int k] h (some (.int 0)) (pI (mT h) 50 0 1) := by
  refine g_entry (lv := [.ref 50, .int k, .retAddr 0, .retAddr 0]) 2 pn_X10 rfl rfl rfl ?_
  refine g_aL0 dX10_led_0 ?_
  refine g_iconst dX10_led_1 ?_
  refine g_pI0 lf_X10_39 (S.l 50 rfl) (S.k 50 rfl rfl) dX10_led_2 ?_
  show gY _ _ _ _ _ _ _ _ _ _ _ _ _ (mT h)
  generalize mT h = h at S hz ⊢
  refine g_iconst dX10_led_5 ?_
  refine g_iS2 dX10_led_6 rfl rfl ?_
  refine g_iconst dX10_led_7 ?_
  refine g_iS3 dX10_led_8 rfl rfl ?_
  refine g_aL0 dX10_led_9 ?_
  refine g_getN0 lf_X10_359 (S.l 50 rfl) (S.k 50 rfl rfl) hz dX10_led_10 ?_
  refine g_ifnullZ dX10_led_13 ?_
  refine g_aL0 dX10_led_68 ?_
  refine g_iconst dX10_led_69 ?_
  refine g_pI0 lf_X10_39 (S.l 50 rfl) (S.k 50 rfl rfl) dX10_led_70 ?_
  refine g_iconst dX10_led_73 ?_
  exact e_iret rfl dX10_led_74 rfl rfl rfl rfl
theorem n_breaks0 {h : Hp} {c : Nat} {cn : Nat → Nat} (X : MX (mT h) c cn) (p : Int32) (hp : ipF p (nI (cn 1)) = 0) : gCi 3 0 0 yX10_breaks cX10_breaks 2 (some .boolean) [.ref 50, .int p] h (some (.int 0)) (mR (mT h) 1) := by
  refine g_entry (lv := [.ref 50, .int p]) 0 pn_X10 rfl rfl rfl ?_
  refine g_aL0 dX10_breaks_0 ?_
  refine g_iconst dX10_breaks_1 ?_
  refine g_pI0 lf_X10_39 (X.S.l 50 rfl) (X.S.k 50 rfl rfl) dX10_breaks_2 ?_
  show gY _ _ _ _ _ _ _ _ _ _ _ _ _ (mT h)
  generalize mT h = h at X ⊢
  refine g_aL0 dX10_breaks_5 ?_
  refine g_iL1 dX10_breaks_6 ?_
  refine e_v1i (d_isPane X _) lm_X10_377 dX10_breaks_7 (X.S.l 50 rfl) (X.S.k 50 rfl rfl) rfl rfl rfl rfl ?_
  refine g_ifne dX10_breaks_10 (fun c10 => absurd hp c10) (fun c10 => ?_)
  refine g_aL0 dX10_breaks_13 ?_
  refine g_iconst dX10_breaks_14 ?_
  refine e_v1i (d_denied X.S _) lm_X10_529 dX10_breaks_15 (X.S.l 50 rfl) (X.S.k 50 rfl rfl) rfl rfl rfl rfl ?_
  exact e_zret rfl (by decide) dX10_breaks_18 rfl rfl rfl rfl
theorem z_breaks {h : Hp} (S : SX (mT h)) (hz : gR (mT h) 50 3 = none) (p : Int32) : gCi 3 0 0 yX10_breaks cX10_breaks 2 (some .boolean) [.ref 50, .int p] h (some (.int (0))) (mR (mT h) 1) := by
  refine g_entry (lv := [.ref 50, .int p]) 0 pn_X10 rfl rfl rfl ?_
  refine g_aL0 dX10_breaks_0 ?_
  refine g_iconst dX10_breaks_1 ?_
  refine g_pI0 lf_X10_39 (S.l 50 rfl) (S.k 50 rfl rfl) dX10_breaks_2 ?_
  show gY _ _ _ _ _ _ _ _ _ _ _ _ _ (mT h)
  generalize mT h = h at S hz ⊢
  refine g_aL0 dX10_breaks_5 ?_
  refine g_iL1 dX10_breaks_6 ?_
  refine e_v1i (z_isPane S hz _) lm_X10_377 dX10_breaks_7 (S.l 50 rfl) (S.k 50 rfl rfl) rfl rfl rfl rfl ?_
  refine g_ifne dX10_breaks_10 (fun c10 => absurd rfl c10) (fun c10 => ?_)
  refine g_aL0 dX10_breaks_13 ?_
  refine g_iconst dX10_breaks_14 ?_
  refine e_v1i (d_denied S _) lm_X10_529 dX10_breaks_15 (S.l 50 rfl) (S.k 50 rfl rfl) rfl rfl rfl rfl ?_
  exact e_zret rfl (by decide) dX10_breaks_18 rfl rfl rfl rfl
theorem n_breaks5 {h : Hp} {c : Nat} {cn : Nat → Nat} (X : MX (mT h) c cn) {P : Nat} (hP : P < cn 1) (h5 : ¬ thF (gI (mT h) 52 16) (nI P) = 0 ∨ gI (mT h) (c + 1) P = 1) : gCi 3 0 0 yX10_breaks cX10_breaks 2 (some .boolean) [.ref 50, .int (nI P)] h (some (.int 0)) (mR (mT h) 5) := by
  have hP8 : P < 8 := by have := X.b1; omega
  refine g_entry (lv := [.ref 50, .int (nI P)]) 0 pn_X10 rfl rfl rfl ?_
  refine g_aL0 dX10_breaks_0 ?_
  refine g_iconst dX10_breaks_1 ?_
  refine g_pI0 lf_X10_39 (X.S.l 50 rfl) (X.S.k 50 rfl rfl) dX10_breaks_2 ?_
  show gY _ _ _ _ _ _ _ _ _ _ _ _ _ (mT h)
  generalize mT h = h at X h5 ⊢
  refine g_aL0 dX10_breaks_5 ?_
  refine g_iL1 dX10_breaks_6 ?_
  refine e_v1i (d_isPane X _) lm_X10_377 dX10_breaks_7 (X.S.l 50 rfl) (X.S.k 50 rfl rfl) rfl rfl rfl rfl ?_
  rw [ip_in hP (by have := X.b1; omega)]
  refine g_ifne dX10_breaks_10 (fun c10 => ?_) (fun c10 => absurd c10 (by decide))
  refine g_aL0 dX10_breaks_19 ?_
  refine g_iL1 dX10_breaks_20 ?_
  refine e_v1i (d_isBroken X.S _) lm_X10_383 dX10_breaks_21 (X.S.l 50 rfl) (X.S.k 50 rfl rfl) rfl rfl rfl rfl ?_
  refine g_ifne dX10_breaks_24 (fun c24 => ?_) (fun c24 => ?_)
  · refine g_aL0 dX10_breaks_40 ?_
    refine g_iconst dX10_breaks_41 ?_
    refine e_v1i (d_denied X.S _) lm_X10_529 dX10_breaks_42 (X.S.l 50 rfl) (X.S.k 50 rfl rfl) rfl rfl rfl rfl ?_
    exact e_zret rfl (by decide) dX10_breaks_45 rfl rfl rfl rfl
  · refine g_aL0 dX10_breaks_27 ?_
    refine g_getR lf_X10_359 (X.S.l 50 rfl) (X.S.k 50 rfl rfl) X.C dX10_breaks_28 ?_
    refine g_getRn lf_X10_283 (X.M.l 0 rfl) (X.M.k 0 rfl rfl) (X.M.r 15 (j := 1) rfl) dX10_breaks_31 ?_
    refine g_iL1 dX10_breaks_34 ?_
    refine g_ialoadN (X.M.l 1 rfl) (X.M.k 1 rfl rfl) (X.M.n 1 (n := 8) rfl rfl) hP8 (by decide) dX10_breaks_35 ?_
    refine g_iconst dX10_breaks_36 ?_
    refine g_icne dX10_breaks_37 (fun c37 => absurd h5 (fun z => z.elim (fun y => y c24) (fun y => c37 y))) (fun c37 => ?_)
    refine g_aL0 dX10_breaks_40 ?_
    refine g_iconst dX10_breaks_41 ?_
    refine e_v1i (d_denied X.S _) lm_X10_529 dX10_breaks_42 (X.S.l 50 rfl) (X.S.k 50 rfl rfl) rfl rfl rfl rfl ?_
    exact e_zret rfl (by decide) dX10_breaks_45 rfl rfl rfl rfl
theorem n_breaks1 {h : Hp} {c : Nat} {cn : Nat → Nat} (X : MX (mT h) c cn) {P : Nat} (hP : P < cn 1) (h4 : thF (gI (mT h) 52 16) (nI P) = 0) (h5 : ¬ gI (mT h) (c + 1) P = 1) {hr : Hp} (Sr : SX hr) (W : gCi 0 0 0 yX10_remembers cX10_remembers 2 none [.ref 50] (mT h) none hr) : gCi 3 0 0 yX10_breaks cX10_breaks 2 (some .boolean) [.ref 50, .int (nI P)] h (some (.int 1)) (mR (pI hr 52 16 (gI hr 52 16 ||| ((1 : Int32) <<< (nI P &&& 31)))) 0) := by
  have hP8 : P < 8 := by have := X.b1; omega
  refine g_entry (lv := [.ref 50, .int (nI P)]) 0 pn_X10 rfl rfl rfl ?_
  refine g_aL0 dX10_breaks_0 ?_
  refine g_iconst dX10_breaks_1 ?_
  refine g_pI0 lf_X10_39 (X.S.l 50 rfl) (X.S.k 50 rfl rfl) dX10_breaks_2 ?_
  show gY _ _ _ _ _ _ _ _ _ _ _ _ _ (mT h)
  generalize mT h = h at X h4 h5 W ⊢
  refine g_aL0 dX10_breaks_5 ?_
  refine g_iL1 dX10_breaks_6 ?_
  refine e_v1i (d_isPane X _) lm_X10_377 dX10_breaks_7 (X.S.l 50 rfl) (X.S.k 50 rfl rfl) rfl rfl rfl rfl ?_
  rw [ip_in hP (by have := X.b1; omega)]
  refine g_ifne dX10_breaks_10 (fun c10 => ?_) (fun c10 => absurd c10 (by decide))
  refine g_aL0 dX10_breaks_19 ?_
  refine g_iL1 dX10_breaks_20 ?_
  refine e_v1i (d_isBroken X.S _) lm_X10_383 dX10_breaks_21 (X.S.l 50 rfl) (X.S.k 50 rfl rfl) rfl rfl rfl rfl ?_
  refine g_ifne dX10_breaks_24 (fun c24 => absurd h4 c24) (fun c24 => ?_)
  refine g_aL0 dX10_breaks_27 ?_
  refine g_getR lf_X10_359 (X.S.l 50 rfl) (X.S.k 50 rfl rfl) X.C dX10_breaks_28 ?_
  refine g_getRn lf_X10_283 (X.M.l 0 rfl) (X.M.k 0 rfl rfl) (X.M.r 15 (j := 1) rfl) dX10_breaks_31 ?_
  refine g_iL1 dX10_breaks_34 ?_
  refine g_ialoadN (X.M.l 1 rfl) (X.M.k 1 rfl rfl) (X.M.n 1 (n := 8) rfl rfl) hP8 (by decide) dX10_breaks_35 ?_
  refine g_iconst dX10_breaks_36 ?_
  refine g_icne dX10_breaks_37 (fun c37 => ?_) (fun c37 => absurd c37 h5)
  refine g_aL0 dX10_breaks_46 ?_
  refine e_v0u W lm_X10_532 dX10_breaks_47 (X.S.l 50 rfl) (X.S.k 50 rfl rfl) rfl rfl rfl rfl ?_
  refine g_aL0 dX10_breaks_50 ?_
  refine g_getR lf_X10_17 (Sr.l 50 rfl) (Sr.k 50 rfl rfl) (Sr.r 50 20 (b := 52) rfl rfl) dX10_breaks_51 ?_
  refine g_bipush dX10_breaks_54 ?_
  refine g_dup2 dX10_breaks_56 rfl rfl ?_
  refine g_ialoadK (Sr.l 52 rfl) (Sr.k 52 rfl rfl) (Sr.n 52 (n := 17) rfl rfl) rfl (j := 16) rfl dX10_breaks_57 ?_
  refine g_iconst dX10_breaks_58 ?_
  refine g_iL1 dX10_breaks_59 ?_
  refine g_ishl dX10_breaks_60 ?_
  refine g_ior dX10_breaks_61 ?_
  refine g_iastoreK (Sr.l 52 rfl) (Sr.k 52 rfl rfl) (Sr.n 52 (n := 17) rfl rfl) rfl (j := 16) rfl dX10_breaks_62 ?_
  refine g_aL0 dX10_breaks_63 ?_
  refine e_v0i (d_granted (h := pI hr 52 16 (gI hr 52 16 ||| ((1 : Int32) <<< (nI P &&& 31)))) Sr) lm_X10_535 dX10_breaks_64 (Sr.l 50 rfl) (Sr.k 50 rfl rfl) rfl rfl rfl rfl ?_
  exact e_zret rfl (by decide) dX10_breaks_67 rfl rfl rfl rfl

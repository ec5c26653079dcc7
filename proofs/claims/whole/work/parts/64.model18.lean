/-! THE REFERENCE: soonest, secret, safest, and their corners -/
/-- a public call that walked: its answer, its trouble; only the ways' own cells have changed besides -/
def mQ (h : Hp) (r : Value) (y : Int32) (v : Option Value) (h' : Hp) : Prop := v = some r ∧ ∃ h1, wmK h1 h ∧ h' = mR h1 y
abbrev wy0 (h : Hp) (c : Nat) (cn : Nat → Nat) (F : Nat) (to : Int32) : PW := wyF (gI h (c + 6)) (gI h (c + 7)) 0 0 (cn 4) F to (fun _ => false)
abbrev wy1 (h : Hp) (c : Nat) (cn : Nat → Nat) (P F : Nat) (to : Int32) : PW := wyF (gI h (c + 6)) (gI h (c + 7)) 0 0 (cn 4) F to (shF h c cn P)
abbrev wy2 (h : Hp) (c : Nat) (cn : Nat → Nat) (P F : Nat) (to : Int32) : PW := wyF (gI h (c + 6)) (gI h (c + 7)) 1 (tkF (gI h (c + 1) P)) (cn 4) F to (fun _ => false)
theorem rw_le {h : Hp} {cn : Nat → Nat} {p a b : Int32} (z : rwM h cn p a b ≤ 0) : rwM h cn p a b = 0 ∧ ¬ ipF p (nI (cn 1)) = 0 ∧ ¬ ipF a (nI (cn 4)) = 0 ∧ ¬ ipF b (nI (cn 4)) = 0 := by
  unfold rwM at z ⊢
  by_cases x1 : ipF p (nI (cn 1)) = 0
  · rw [if_pos x1] at z; exact absurd z (by decide)
  · by_cases x2 : ipF a (nI (cn 4)) = 0
    · rw [if_neg x1, if_pos x2] at z; exact absurd z (by decide)
    · by_cases x3 : ipF b (nI (cn 4)) = 0
      · rw [if_neg x1, if_neg x2, if_pos x3] at z; exact absurd z (by decide)
      · by_cases x4 : thF (gI h 52 16) p = 0
        · rw [if_neg x1, if_neg x2, if_neg x3, if_pos x4]; exact ⟨rfl, x1, x2, x3⟩
        · rw [if_neg x1, if_neg x2, if_neg x3, if_neg x4] at z; exact absurd z (by decide)
theorem rw_gt {h : Hp} {cn : Nat → Nat} {p a b : Int32} (z : ¬ rwM h cn p a b ≤ 0) : ¬ rwM h cn p a b = 0 := fun e => z (by rw [e]; decide)
theorem cwY_1 {s : PW} {k : Int32} (h : k < 0 ∨ nI s.1.length ≤ k) : cwY s k = 1 := by
  unfold cwY
  by_cases z : k < 0
  · exact if_pos z
  · rw [if_neg z]; exact if_pos (h.resolve_left z)
theorem cwY_0 {s : PW} {k : Int32} (h0 : ¬ k < 0) (h1 : ¬ nI s.1.length ≤ k) : cwY s k = 0 := (if_neg h0).trans (if_neg h1)
theorem an_0 {a b : Int32} (h : a = 0 ∨ b = 0) : anF a b = 0 := by
  unfold anF
  by_cases z : a = 0
  · exact if_pos z
  · rw [if_neg z]; exact if_pos (h.resolve_left z)
theorem an_1 {a b : Int32} (h : ¬ a = 0) (h2 : ¬ b = 0) : ¬ anF a b = 0 := by
  unfold anF
  rw [if_neg h, if_neg h2]; decide
theorem n_soonest {h : Hp} {c : Nat} {cn : Nat → Nat} (X : MX (mT h) c cn) (B : MB (mT h) c cn) (a b : Int32) : gC 5 0 0 yX10_soonest cX10_soonest 3 (some .int) [.ref 50, .int a, .int b] h (mQ (mT h) (.int (if anF (ipF a (nI (cn 4))) (ipF b (nI (cn 4))) = 0 then -1 else smF (wy0 (mT h) c cn (pn a) b))) (if anF (ipF a (nI (cn 4))) (ipF b (nI (cn 4))) = 0 then 1 else 0)) := by
  refine g_entry (lv := [.ref 50, .int a, .int b]) 0 pn_X10 rfl rfl rfl ?_
  refine g_aL0 dX10_soonest_0 ?_
  refine g_iconst dX10_soonest_1 ?_
  refine g_pI0 lf_X10_39 (X.S.l 50 rfl) (X.S.k 50 rfl rfl) dX10_soonest_2 ?_
  show gY _ _ _ _ _ _ _ _ _ _ _ _ _ (mT h)
  generalize mT h = h at X B ⊢
  refine g_aL0 dX10_soonest_5 ?_
  refine g_iL1 dX10_soonest_6 ?_
  refine e_v1i (d_isCorner X _) lm_X10_435 dX10_soonest_7 (X.S.l 50 rfl) (X.S.k 50 rfl rfl) rfl rfl rfl rfl ?_
  refine g_ifeq dX10_soonest_10 (fun c10 => ?_) (fun c10 => ?_)
  · refine g_aL0 dX10_soonest_36 ?_
    refine g_iconst dX10_soonest_37 ?_
    refine e_v1i (d_refused X.S _) lm_X10_45 dX10_soonest_38 (X.S.l 50 rfl) (X.S.k 50 rfl rfl) rfl rfl rfl rfl ?_
    have hz : anF (ipF a (nI (cn 4))) (ipF b (nI (cn 4))) = 0 := an_0 (Or.inl c10)
    exact g_iret rfl dX10_soonest_41 rfl rfl ⟨by rw [if_pos hz], h, wmK.refl h, by rw [if_pos hz]⟩
  · refine g_aL0 dX10_soonest_13 ?_
    refine g_iL2 dX10_soonest_14 ?_
    refine e_v1i (d_isCorner X _) lm_X10_435 dX10_soonest_15 (X.S.l 50 rfl) (X.S.k 50 rfl rfl) rfl rfl rfl rfl ?_
    refine g_ifeq dX10_soonest_18 (fun c18 => ?_) (fun c18 => ?_)
    · refine g_aL0 dX10_soonest_36 ?_
      refine g_iconst dX10_soonest_37 ?_
      refine e_v1i (d_refused X.S _) lm_X10_45 dX10_soonest_38 (X.S.l 50 rfl) (X.S.k 50 rfl rfl) rfl rfl rfl rfl ?_
      have hz : anF (ipF a (nI (cn 4))) (ipF b (nI (cn 4))) = 0 := an_0 (Or.inr c18)
      exact g_iret rfl dX10_soonest_41 rfl rfl ⟨by rw [if_pos hz], h, wmK.refl h, by rw [if_pos hz]⟩
    · have hz : ¬ anF (ipF a (nI (cn 4))) (ipF b (nI (cn 4))) = 0 := an_1 c10 c18
      obtain ⟨A, hA, rfl⟩ := ip1 (by have := X.b4; omega) c10
      have qA := pn_nI (n := A) (by have := X.b4; omega)
      refine g_aL0 dX10_soonest_21 ?_
      refine g_aL0 dX10_soonest_22 ?_
      refine g_iconst dX10_soonest_23 ?_
      refine g_iconst dX10_soonest_24 ?_
      refine g_iL1 dX10_soonest_25 ?_
      refine g_iL2 dX10_soonest_26 ?_
      refine r_v4i (d_minutesOf X (d_wk0 X B _ hA)) lm_X10_438 dX10_soonest_27 (X.S.l 50 rfl) (X.S.k 50 rfl rfl) rfl rfl rfl rfl (fun v h' e => ⟨_, e.1⟩) (fun r h1 e => ?_)
      obtain ⟨e1, k1⟩ := e
      obtain rfl := Value.int.inj (Option.some.inj e1)
      have Sk := k1.S X.S
      refine e_v1i (d_good Sk _) lm_X10_49 dX10_soonest_30 (Sk.l 50 rfl) (Sk.k 50 rfl rfl) rfl rfl rfl rfl ?_
      refine g_goto dX10_soonest_33 ?_
      exact g_iret rfl dX10_soonest_41 rfl rfl ⟨by rw [if_neg hz, qA], h1, k1, by rw [if_neg hz]⟩
theorem n_soonestAt {h : Hp} {c : Nat} {cn : Nat → Nat} (X : MX (mT h) c cn) (B : MB (mT h) c cn) (a b k : Int32) : gC 4 0 0 yX10_soonestAt cX10_soonestAt 4 (some .int) [.ref 50, .int a, .int b, .int k] h (mQ (mT h) (.int (if anF (ipF a (nI (cn 4))) (ipF b (nI (cn 4))) = 0 then -1 else if cwY (wy0 (mT h) c cn (pn a) b) k = 0 then wpG (wy0 (mT h) c cn (pn a) b) k else -1)) (if anF (ipF a (nI (cn 4))) (ipF b (nI (cn 4))) = 0 then 1 else cwY (wy0 (mT h) c cn (pn a) b) k)) := by
  refine g_entry (lv := [.ref 50, .int a, .int b, .int k]) 0 pn_X10 rfl rfl rfl ?_
  refine g_aL0 dX10_soonestAt_0 ?_
  refine g_iconst dX10_soonestAt_1 ?_
  refine g_pI0 lf_X10_39 (X.S.l 50 rfl) (X.S.k 50 rfl rfl) dX10_soonestAt_2 ?_
  show gY _ _ _ _ _ _ _ _ _ _ _ _ _ (mT h)
  generalize mT h = h at X B ⊢
  refine g_aL0 dX10_soonestAt_5 ?_
  refine g_iL1 dX10_soonestAt_6 ?_
  refine e_v1i (d_isCorner X _) lm_X10_435 dX10_soonestAt_7 (X.S.l 50 rfl) (X.S.k 50 rfl rfl) rfl rfl rfl rfl ?_
  refine g_ifeq dX10_soonestAt_10 (fun c10 => ?_) (fun c10 => ?_)
  · refine g_aL0 dX10_soonestAt_37 ?_
    refine g_iconst dX10_soonestAt_38 ?_
    refine e_v1i (d_refused X.S _) lm_X10_45 dX10_soonestAt_39 (X.S.l 50 rfl) (X.S.k 50 rfl rfl) rfl rfl rfl rfl ?_
    have hz : anF (ipF a (nI (cn 4))) (ipF b (nI (cn 4))) = 0 := an_0 (Or.inl c10)
    exact g_iret rfl dX10_soonestAt_42 rfl rfl ⟨by rw [if_pos hz], h, wmK.refl h, by rw [if_pos hz]⟩
  · refine g_aL0 dX10_soonestAt_13 ?_
    refine g_iL2 dX10_soonestAt_14 ?_
    refine e_v1i (d_isCorner X _) lm_X10_435 dX10_soonestAt_15 (X.S.l 50 rfl) (X.S.k 50 rfl rfl) rfl rfl rfl rfl ?_
    refine g_ifeq dX10_soonestAt_18 (fun c18 => ?_) (fun c18 => ?_)
    · refine g_aL0 dX10_soonestAt_37 ?_
      refine g_iconst dX10_soonestAt_38 ?_
      refine e_v1i (d_refused X.S _) lm_X10_45 dX10_soonestAt_39 (X.S.l 50 rfl) (X.S.k 50 rfl rfl) rfl rfl rfl rfl ?_
      have hz : anF (ipF a (nI (cn 4))) (ipF b (nI (cn 4))) = 0 := an_0 (Or.inr c18)
      exact g_iret rfl dX10_soonestAt_42 rfl rfl ⟨by rw [if_pos hz], h, wmK.refl h, by rw [if_pos hz]⟩
    · have hz : ¬ anF (ipF a (nI (cn 4))) (ipF b (nI (cn 4))) = 0 := an_1 c10 c18
      refine g_iL3 dX10_soonestAt_21 ?_
      refine g_iflt dX10_soonestAt_22 (fun c22 => ?_) (fun c22 => ?_)
      · refine g_aL0 dX10_soonestAt_37 ?_
        refine g_iconst dX10_soonestAt_38 ?_
        refine e_v1i (d_refused X.S _) lm_X10_45 dX10_soonestAt_39 (X.S.l 50 rfl) (X.S.k 50 rfl rfl) rfl rfl rfl rfl ?_
        have hy : cwY (wy0 h c cn (pn a) b) k = 1 := cwY_1 (Or.inl c22)
        exact g_iret rfl dX10_soonestAt_42 rfl rfl ⟨by rw [if_neg hz, if_neg (show ¬ cwY (wy0 h c cn (pn a) b) k = 0 by rw [hy]; decide)], h, wmK.refl h, by rw [if_neg hz, hy]⟩
      · obtain ⟨A, hA, rfl⟩ := ip1 (by have := X.b4; omega) c10
        have qA := pn_nI (n := A) (by have := X.b4; omega)
        refine g_iL3 dX10_soonestAt_25 ?_
        refine g_aL0 dX10_soonestAt_26 ?_
        refine g_iconst dX10_soonestAt_27 ?_
        refine g_iconst dX10_soonestAt_28 ?_
        refine g_iL1 dX10_soonestAt_29 ?_
        refine g_iL2 dX10_soonestAt_30 ?_
        refine r_v4i (d_wk0 X B _ hA) lm_X10_431 dX10_soonestAt_31 (X.S.l 50 rfl) (X.S.k 50 rfl rfl) rfl rfl rfl rfl (fun v h' e => ⟨_, e.1⟩) (fun r h1 e => ?_)
        obtain ⟨e1, r1, k1⟩ := e
        obtain rfl := Value.int.inj (Option.some.inj e1)
        have Sk := k1.S X.S
        refine g_iclt dX10_soonestAt_34 (fun c34 => ?_) (fun c34 => ?_)
        · have h8 : ¬ nI (wy0 h c cn A b).1.length ≤ k := fun z => Int32.not_lt.mpr z c34
          have hy : cwY (wy0 h c cn A b) k = 0 := cwY_0 c22 h8
          obtain ⟨Kk, hK1, rfl, hK2⟩ := cw_in r1.1 c22 h8
          have hK7 : Kk < 7 := Nat.lt_of_lt_of_le hK1 r1.1
          refine g_aL0 dX10_soonestAt_43 ?_
          refine g_aL0 dX10_soonestAt_44 ?_
          refine g_getR lf_X10_30 (Sk.l 50 rfl) (Sk.k 50 rfl rfl) (Sk.r 50 26 (b := 56) rfl rfl) dX10_soonestAt_45 ?_
          refine g_iL3 dX10_soonestAt_48 ?_
          refine g_ialoadN (Sk.l 56 rfl) (Sk.k 56 rfl rfl) (Sk.n 56 (n := 7) rfl rfl) hK7 (by decide) dX10_soonestAt_49 ?_
          rw [r1.2.2.2.1 _ _ hK2]
          refine e_v1i (d_good Sk _) lm_X10_49 dX10_soonestAt_50 (Sk.l 50 rfl) (Sk.k 50 rfl rfl) rfl rfl rfl rfl ?_
          exact g_iret rfl dX10_soonestAt_53 rfl rfl ⟨by rw [if_neg hz, qA, if_pos hy]; rfl, h1, k1, by rw [if_neg hz, qA, hy]⟩
        · refine g_aL0 dX10_soonestAt_37 ?_
          refine g_iconst dX10_soonestAt_38 ?_
          refine e_v1i (d_refused Sk _) lm_X10_45 dX10_soonestAt_39 (Sk.l 50 rfl) (Sk.k 50 rfl rfl) rfl rfl rfl rfl ?_
          have hy : cwY (wy0 h c cn A b) k = 1 := cwY_1 (Or.inr (Int32.not_lt.mp c34))
          exact g_iret rfl dX10_soonestAt_42 rfl rfl ⟨by rw [if_neg hz, qA, if_neg (show ¬ cwY (wy0 h c cn A b) k = 0 by rw [hy]; decide)], h1, k1, by rw [if_neg hz, qA, hy]⟩
theorem n_secret {h : Hp} {c : Nat} {cn : Nat → Nat} (X : MX (mT h) c cn) (B : MB (mT h) c cn) (p a b : Int32) : gC 5 0 0 yX10_secret cX10_secret 5 (some .int) [.ref 50, .int p, .int a, .int b] h (mQ (mT h) (.int (if rwM (mT h) cn p a b = 0 then smF (wy1 (mT h) c cn (pn p) (pn a) b) else -1)) (if rwM (mT h) cn p a b = 0 then 0 else rwM (mT h) cn p a b)) := by
  refine g_entry (lv := [.ref 50, .int p, .int a, .int b, .retAddr 0]) 1 pn_X10 rfl rfl rfl ?_
  refine g_aL0 dX10_secret_0 ?_
  refine g_iconst dX10_secret_1 ?_
  refine g_pI0 lf_X10_39 (X.S.l 50 rfl) (X.S.k 50 rfl rfl) dX10_secret_2 ?_
  show gY _ _ _ _ _ _ _ _ _ _ _ _ _ (mT h)
  generalize mT h = h at X B ⊢
  refine g_aL0 dX10_secret_5 ?_
  refine g_iL1 dX10_secret_6 ?_
  refine g_iL2 dX10_secret_7 ?_
  refine g_iL3 dX10_secret_8 ?_
  refine e_v3i (d_refusesWay X _ _ _) lm_X10_441 dX10_secret_9 (X.S.l 50 rfl) (X.S.k 50 rfl rfl) rfl rfl rfl rfl ?_
  refine g_iS4 dX10_secret_12 rfl rfl ?_
  refine g_iL4 dX10_secret_14 ?_
  refine g_ifle dX10_secret_16 (fun c16 => ?_) (fun c16 => ?_)
  · obtain ⟨hw0, i1, i2, i3⟩ := rw_le c16
    obtain ⟨P, hP, rfl⟩ := ip1 (by have := X.b1; omega) i1
    have qP := pn_nI (n := P) (by have := X.b1; omega)
    have hP8 : P < 8 := by have := X.b1; omega
    obtain ⟨A, hA, rfl⟩ := ip1 (by have := X.b4; omega) i2
    have qA := pn_nI (n := A) (by have := X.b4; omega)
    refine g_aL0 dX10_secret_28 ?_
    refine g_aL0 dX10_secret_29 ?_
    refine g_iconst dX10_secret_30 ?_
    refine g_iL1 dX10_secret_31 ?_
    refine g_iL2 dX10_secret_32 ?_
    refine g_iL3 dX10_secret_33 ?_
    refine r_v4i (d_minutesOf X (d_wk1 X B hP8 _ hA)) lm_X10_438 dX10_secret_34 (X.S.l 50 rfl) (X.S.k 50 rfl rfl) rfl rfl rfl rfl (fun v h' e => ⟨_, e.1⟩) (fun r h1 e => ?_)
    obtain ⟨e1, k1⟩ := e
    obtain rfl := Value.int.inj (Option.some.inj e1)
    have Sk := k1.S X.S
    refine e_v1i (d_good Sk _) lm_X10_49 dX10_secret_37 (Sk.l 50 rfl) (Sk.k 50 rfl rfl) rfl rfl rfl rfl ?_
    exact g_iret rfl dX10_secret_40 rfl rfl ⟨by rw [if_pos hw0, qA, qP], h1, k1, by rw [if_pos hw0]⟩
  · refine g_aL0 dX10_secret_19 ?_
    refine g_iL4 dX10_secret_20 ?_
    refine e_v1i (d_refused X.S _) lm_X10_45 dX10_secret_22 (X.S.l 50 rfl) (X.S.k 50 rfl rfl) rfl rfl rfl rfl ?_
    refine g_goto dX10_secret_25 ?_
    exact g_iret rfl dX10_secret_40 rfl rfl ⟨by rw [if_neg (rw_gt c16)], h, wmK.refl h, by rw [if_neg (rw_gt c16)]⟩
theorem n_secretAt {h : Hp} {c : Nat} {cn : Nat → Nat} (X : MX (mT h) c cn) (B : MB (mT h) c cn) (p a b k : Int32) : gC 4 0 0 yX10_secretAt cX10_secretAt 6 (some .int) [.ref 50, .int p, .int a, .int b, .int k] h (mQ (mT h) (.int (if rwM (mT h) cn p a b = 0 then if cwY (wy1 (mT h) c cn (pn p) (pn a) b) k = 0 then wpG (wy1 (mT h) c cn (pn p) (pn a) b) k else -1 else -1)) (if rwM (mT h) cn p a b = 0 then cwY (wy1 (mT h) c cn (pn p) (pn a) b) k else rwM (mT h) cn p a b)) := by
  refine g_entry (lv := [.ref 50, .int p, .int a, .int b, .int k, .retAddr 0]) 1 pn_X10 rfl rfl rfl ?_
  refine g_aL0 dX10_secretAt_0 ?_
  refine g_iconst dX10_secretAt_1 ?_
  refine g_pI0 lf_X10_39 (X.S.l 50 rfl) (X.S.k 50 rfl rfl) dX10_secretAt_2 ?_
  show gY _ _ _ _ _ _ _ _ _ _ _ _ _ (mT h)
  generalize mT h = h at X B ⊢
  refine g_aL0 dX10_secretAt_5 ?_
  refine g_iL1 dX10_secretAt_6 ?_
  refine g_iL2 dX10_secretAt_7 ?_
  refine g_iL3 dX10_secretAt_8 ?_
  refine e_v3i (d_refusesWay X _ _ _) lm_X10_441 dX10_secretAt_9 (X.S.l 50 rfl) (X.S.k 50 rfl rfl) rfl rfl rfl rfl ?_
  refine g_iS5 dX10_secretAt_12 rfl rfl ?_
  refine g_iL5 dX10_secretAt_14 ?_
  refine g_ifle dX10_secretAt_16 (fun c16 => ?_) (fun c16 => ?_)
  · obtain ⟨hw0, i1, i2, i3⟩ := rw_le c16
    obtain ⟨P, hP, rfl⟩ := ip1 (by have := X.b1; omega) i1
    have qP := pn_nI (n := P) (by have := X.b1; omega)
    have hP8 : P < 8 := by have := X.b1; omega
    obtain ⟨A, hA, rfl⟩ := ip1 (by have := X.b4; omega) i2
    have qA := pn_nI (n := A) (by have := X.b4; omega)
    refine g_iL4 dX10_secretAt_26 ?_
    refine g_iflt dX10_secretAt_28 (fun c28 => ?_) (fun c28 => ?_)
    · refine g_aL0 dX10_secretAt_58 ?_
      refine g_iconst dX10_secretAt_59 ?_
      refine e_v1i (d_refused X.S _) lm_X10_45 dX10_secretAt_60 (X.S.l 50 rfl) (X.S.k 50 rfl rfl) rfl rfl rfl rfl ?_
      have hy : cwY (wy1 h c cn P A b) k = 1 := cwY_1 (Or.inl c28)
      exact g_iret rfl dX10_secretAt_63 rfl rfl ⟨by rw [if_pos hw0, qA, qP, if_neg (show ¬ cwY (wy1 h c cn P A b) k = 0 by rw [hy]; decide)], h, wmK.refl h, by rw [if_pos hw0, qA, qP, hy]⟩
    · refine g_iL4 dX10_secretAt_31 ?_
      refine g_aL0 dX10_secretAt_33 ?_
      refine g_iconst dX10_secretAt_34 ?_
      refine g_iL1 dX10_secretAt_35 ?_
      refine g_iL2 dX10_secretAt_36 ?_
      refine g_iL3 dX10_secretAt_37 ?_
      refine r_v4i (d_wk1 X B hP8 _ hA) lm_X10_431 dX10_secretAt_38 (X.S.l 50 rfl) (X.S.k 50 rfl rfl) rfl rfl rfl rfl (fun v h' e => ⟨_, e.1⟩) (fun r h1 e => ?_)
      obtain ⟨e1, r1, k1⟩ := e
      obtain rfl := Value.int.inj (Option.some.inj e1)
      have Sk := k1.S X.S
      refine g_icge dX10_secretAt_41 (fun c41 => ?_) (fun c41 => ?_)
      · refine g_aL0 dX10_secretAt_58 ?_
        refine g_iconst dX10_secretAt_59 ?_
        refine e_v1i (d_refused Sk _) lm_X10_45 dX10_secretAt_60 (Sk.l 50 rfl) (Sk.k 50 rfl rfl) rfl rfl rfl rfl ?_
        have hy : cwY (wy1 h c cn P A b) k = 1 := cwY_1 (Or.inr c41)
        exact g_iret rfl dX10_secretAt_63 rfl rfl ⟨by rw [if_pos hw0, qA, qP, if_neg (show ¬ cwY (wy1 h c cn P A b) k = 0 by rw [hy]; decide)], h1, k1, by rw [if_pos hw0, qA, qP, hy]⟩
      · have hy : cwY (wy1 h c cn P A b) k = 0 := cwY_0 c28 c41
        obtain ⟨Kk, hK1, rfl, hK2⟩ := cw_in r1.1 c28 c41
        have hK7 : Kk < 7 := Nat.lt_of_lt_of_le hK1 r1.1
        refine g_aL0 dX10_secretAt_44 ?_
        refine g_aL0 dX10_secretAt_45 ?_
        refine g_getR lf_X10_30 (Sk.l 50 rfl) (Sk.k 50 rfl rfl) (Sk.r 50 26 (b := 56) rfl rfl) dX10_secretAt_46 ?_
        refine g_iL4 dX10_secretAt_49 ?_
        refine g_ialoadN (Sk.l 56 rfl) (Sk.k 56 rfl rfl) (Sk.n 56 (n := 7) rfl rfl) hK7 (by decide) dX10_secretAt_51 ?_
        rw [r1.2.2.2.1 _ _ hK2]
        refine e_v1i (d_good Sk _) lm_X10_49 dX10_secretAt_52 (Sk.l 50 rfl) (Sk.k 50 rfl rfl) rfl rfl rfl rfl ?_
        refine g_goto dX10_secretAt_55 ?_
        exact g_iret rfl dX10_secretAt_63 rfl rfl ⟨by rw [if_pos hw0, qA, qP, if_pos hy]; rfl, h1, k1, by rw [if_pos hw0, qA, qP, hy]⟩
  · refine g_aL0 dX10_secretAt_19 ?_
    refine g_iL5 dX10_secretAt_20 ?_
    refine e_v1i (d_refused X.S _) lm_X10_45 dX10_secretAt_22 (X.S.l 50 rfl) (X.S.k 50 rfl rfl) rfl rfl rfl rfl ?_
    exact g_iret rfl dX10_secretAt_25 rfl rfl ⟨by rw [if_neg (rw_gt c16)], h, wmK.refl h, by rw [if_neg (rw_gt c16)]⟩
theorem n_safestAt {h : Hp} {c : Nat} {cn : Nat → Nat} (X : MX (mT h) c cn) (B : MB (mT h) c cn) (p a b k : Int32) : gC 4 0 0 yX10_safestAt cX10_safestAt 7 (some .int) [.ref 50, .int p, .int a, .int b, .int k] h (mQ (mT h) (.int (if rwM (mT h) cn p a b = 0 then (if nI (wy2 (mT h) c cn (pn p) (pn a) b).1.length = 0 then -1 else if cwY (wy2 (mT h) c cn (pn p) (pn a) b) k = 0 then wpG (wy2 (mT h) c cn (pn p) (pn a) b) k else -1) else -1)) (if rwM (mT h) cn p a b = 0 then (if nI (wy2 (mT h) c cn (pn p) (pn a) b).1.length = 0 then 6 else cwY (wy2 (mT h) c cn (pn p) (pn a) b) k) else rwM (mT h) cn p a b)) := by
  refine g_entry (lv := [.ref 50, .int p, .int a, .int b, .int k, .retAddr 0, .retAddr 0]) 2 pn_X10 rfl rfl rfl ?_
  refine g_aL0 dX10_safestAt_0 ?_
  refine g_iconst dX10_safestAt_1 ?_
  refine g_pI0 lf_X10_39 (X.S.l 50 rfl) (X.S.k 50 rfl rfl) dX10_safestAt_2 ?_
  show gY _ _ _ _ _ _ _ _ _ _ _ _ _ (mT h)
  generalize mT h = h at X B ⊢
  refine g_aL0 dX10_safestAt_5 ?_
  refine g_iL1 dX10_safestAt_6 ?_
  refine g_iL2 dX10_safestAt_7 ?_
  refine g_iL3 dX10_safestAt_8 ?_
  refine e_v3i (d_refusesWay X _ _ _) lm_X10_441 dX10_safestAt_9 (X.S.l 50 rfl) (X.S.k 50 rfl rfl) rfl rfl rfl rfl ?_
  refine g_iS5 dX10_safestAt_12 rfl rfl ?_
  refine g_iL5 dX10_safestAt_14 ?_
  refine g_ifle dX10_safestAt_16 (fun c16 => ?_) (fun c16 => ?_)
  · obtain ⟨hw0, i1, i2, i3⟩ := rw_le c16
    obtain ⟨P, hP, rfl⟩ := ip1 (by have := X.b1; omega) i1
    have qP := pn_nI (n := P) (by have := X.b1; omega)
    have hP8 : P < 8 := by have := X.b1; omega
    obtain ⟨A, hA, rfl⟩ := ip1 (by have := X.b4; omega) i2
    have qA := pn_nI (n := A) (by have := X.b4; omega)
    refine g_aL0 dX10_safestAt_26 ?_
    refine g_iconst dX10_safestAt_27 ?_
    refine g_iL1 dX10_safestAt_28 ?_
    refine g_iL2 dX10_safestAt_29 ?_
    refine g_iL3 dX10_safestAt_30 ?_
    refine r_v4i (d_wkF X B hP8 _ hA) lm_X10_431 dX10_safestAt_31 (X.S.l 50 rfl) (X.S.k 50 rfl rfl) rfl rfl rfl rfl (fun v h' e => ⟨_, e.1⟩) (fun r h1 e => ?_)
    obtain ⟨e1, r1, k1⟩ := e
    obtain rfl := Value.int.inj (Option.some.inj e1)
    have Sk := k1.S X.S
    refine g_iS6 dX10_safestAt_34 rfl rfl ?_
    refine g_iL6 dX10_safestAt_36 ?_
    refine g_ifne dX10_safestAt_38 (fun c38 => ?_) (fun c38 => ?_)
    · refine g_iL4 dX10_safestAt_48 ?_
      refine g_iflt dX10_safestAt_50 (fun c50 => ?_) (fun c50 => ?_)
      · refine g_aL0 dX10_safestAt_74 ?_
        refine g_iconst dX10_safestAt_75 ?_
        refine e_v1i (d_refused Sk _) lm_X10_45 dX10_safestAt_76 (Sk.l 50 rfl) (Sk.k 50 rfl rfl) rfl rfl rfl rfl ?_
        have hy : cwY (wy2 h c cn P A b) k = 1 := cwY_1 (Or.inl c50)
        exact g_iret rfl dX10_safestAt_79 rfl rfl ⟨by rw [if_pos hw0, qA, qP, if_neg c38, if_neg (show ¬ cwY (wy2 h c cn P A b) k = 0 by rw [hy]; decide)], h1, k1, by rw [if_pos hw0, qA, qP, if_neg c38, hy]⟩
      · refine g_iL4 dX10_safestAt_53 ?_
        refine g_iL6 dX10_safestAt_55 ?_
        refine g_icge dX10_safestAt_57 (fun c57 => ?_) (fun c57 => ?_)
        · refine g_aL0 dX10_safestAt_74 ?_
          refine g_iconst dX10_safestAt_75 ?_
          refine e_v1i (d_refused Sk _) lm_X10_45 dX10_safestAt_76 (Sk.l 50 rfl) (Sk.k 50 rfl rfl) rfl rfl rfl rfl ?_
          have hy : cwY (wy2 h c cn P A b) k = 1 := cwY_1 (Or.inr c57)
          exact g_iret rfl dX10_safestAt_79 rfl rfl ⟨by rw [if_pos hw0, qA, qP, if_neg c38, if_neg (show ¬ cwY (wy2 h c cn P A b) k = 0 by rw [hy]; decide)], h1, k1, by rw [if_pos hw0, qA, qP, if_neg c38, hy]⟩
        · have hy : cwY (wy2 h c cn P A b) k = 0 := cwY_0 c50 c57
          obtain ⟨Kk, hK1, rfl, hK2⟩ := cw_in r1.1 c50 c57
          have hK7 : Kk < 7 := Nat.lt_of_lt_of_le hK1 r1.1
          refine g_aL0 dX10_safestAt_60 ?_
          refine g_aL0 dX10_safestAt_61 ?_
          refine g_getR lf_X10_30 (Sk.l 50 rfl) (Sk.k 50 rfl rfl) (Sk.r 50 26 (b := 56) rfl rfl) dX10_safestAt_62 ?_
          refine g_iL4 dX10_safestAt_65 ?_
          refine g_ialoadN (Sk.l 56 rfl) (Sk.k 56 rfl rfl) (Sk.n 56 (n := 7) rfl rfl) hK7 (by decide) dX10_safestAt_67 ?_
          rw [r1.2.2.2.1 _ _ hK2]
          refine e_v1i (d_good Sk _) lm_X10_49 dX10_safestAt_68 (Sk.l 50 rfl) (Sk.k 50 rfl rfl) rfl rfl rfl rfl ?_
          refine g_goto dX10_safestAt_71 ?_
          exact g_iret rfl dX10_safestAt_79 rfl rfl ⟨by rw [if_pos hw0, qA, qP, if_neg c38, if_pos hy]; rfl, h1, k1, by rw [if_pos hw0, qA, qP, if_neg c38, hy]⟩
    · refine g_aL0 dX10_safestAt_41 ?_
      refine g_bipush dX10_safestAt_42 ?_
      refine e_v1i (d_refused Sk _) lm_X10_45 dX10_safestAt_44 (Sk.l 50 rfl) (Sk.k 50 rfl rfl) rfl rfl rfl rfl ?_
      exact g_iret rfl dX10_safestAt_47 rfl rfl ⟨by rw [if_pos hw0, qA, qP, if_pos c38], h1, k1, by rw [if_pos hw0, qA, qP, if_pos c38]⟩
  · refine g_aL0 dX10_safestAt_19 ?_
    refine g_iL5 dX10_safestAt_20 ?_
    refine e_v1i (d_refused X.S _) lm_X10_45 dX10_safestAt_22 (X.S.l 50 rfl) (X.S.k 50 rfl rfl) rfl rfl rfl rfl ?_
    exact g_iret rfl dX10_safestAt_25 rfl rfl ⟨by rw [if_neg (rw_gt c16)], h, wmK.refl h, by rw [if_neg (rw_gt c16)]⟩
def okW (w : Int64) : Prop := ∃ W : Nat, W ≤ 1000000000000 ∧ w = lN W
theorem okW_wb {ri : Int32} {r : Nat} (hr : ri = nI r) (h5 : r ≤ 50) (nb mi : Int32) {w : Int64} (h : okW w) : okW (wbF 1 nb mi ri w) := by
  obtain ⟨W, h1, rfl⟩ := h
  unfold wbF
  rw [if_neg (by decide)]
  split
  · rw [hr, show (100 : Int32) = nI 100 from rfl, pk_sub (by omega), nI_l (by omega), show (100 : Int64) = lN 100 from rfl, pk_lDiv (by omega) (by decide) (by decide), lN_mul]
    refine ⟨_, ?_, rfl⟩
    have h2 : W / 100 * (100 - r) ≤ W / 100 * 100 := Nat.mul_le_mul_left _ (by omega)
    have h3 := Nat.div_mul_le_self W 100
    omega
  · exact ⟨W, h1, rfl⟩
theorem okW_K {s : PW} {p : List Nat} {w : Int64} (h1 : okW s.2) (h2 : okW w) : okW (pwK s p w).2 := by
  unfold pwK
  repeat' split
  all_goals assumption
theorem okW_L {mi : Nat → Int32} {wb : Nat → Int64 → Int64} {rc : PW → Nat → (Nat → Bool) → Int64 → PW} {C a : Nat} (hwb : ∀ i, i < C → ∀ w, okW w → okW (wb (a * 7 + i) w)) (hrc : ∀ i, i < C → ∀ s bl w, okW s.2 → okW w → okW (rc s i bl w).2) (bl : Nat → Bool) {w : Int64} (hw : okW w) : ∀ (n i : Nat) (s : PW), i + n ≤ C → okW s.2 → okW (pwL mi wb rc a bl w n i s).2
  | 0, _, _, _, h => h
  | n + 1, i, s, hi, h => by
    rw [pwL]
    split
    · split
      · exact okW_L hwb hrc bl hw n (i + 1) s (by omega) h
      · exact okW_L hwb hrc bl hw n (i + 1) _ (by omega) (hrc i (by omega) _ _ _ h (hwb i (by omega) _ hw))
    · exact okW_L hwb hrc bl hw n (i + 1) s (by omega) h
theorem okW_F {mi : Nat → Int32} {wb : Nat → Int64 → Int64} {to : Int32} {C : Nat} (hwb : ∀ a i, a < C → i < C → ∀ w, okW w → okW (wb (a * 7 + i) w)) : ∀ (f : Nat) (s : PW) (a : Nat) (p : List Nat) (bl : Nat → Bool) (w : Int64), a < C → okW s.2 → okW w → okW (pwF mi wb to C f s a p bl w).2
  | 0, _, _, _, _, _, _, h, _ => h
  | f + 1, s, a, p, bl, w, ha, h, hw => by
    rw [pwF]
    split
    · exact okW_K h hw
    · exact okW_L (fun i hi w h => hwb a i ha hi w h) (fun i hi s bl w h1 h2 => okW_F hwb f s i (p ++ [a]) bl w hi h1 h2) bl hw C 0 s (by omega) h
theorem okW_y {mi ri : Nat → Int32} {nb : Int32} {C F : Nat} (hC : C ≤ 7) (hF : F < C) {rn : Nat → Nat} (hr : ∀ j, j < 49 → ri j = nI (rn j) ∧ rn j ≤ 50) (to : Int32) (sh : Nat → Bool) : okW (wyF mi ri 1 nb C F to sh).2 := by
  unfold wyF
  rw [if_neg (show ¬ (1 : Int32) = 0 by decide)]
  split
  · exact okW_F (fun a i ha hi w h => okW_wb (hr _ (by omega)).1 (hr _ (by omega)).2 _ _ h) 7 _ _ _ _ _ hF ⟨0, by decide, rfl⟩ ⟨1000000000000, by decide, rfl⟩
  · exact ⟨0, by decide, rfl⟩
theorem n_safest {h : Hp} {c : Nat} {cn : Nat → Nat} (X : MX (mT h) c cn) (B : MB (mT h) c cn) (p a b o : Int32) : gC 4 0 0 yX10_safest cX10_safest 6 (some .long) [.ref 50, .int p, .int a, .int b, .int o] h (mQ (mT h) (.long (if rwM (mT h) cn p a b = 0 then (if nI (wy2 (mT h) c cn (pn p) (pn a) b).1.length = 0 then -1 else ((if o = 0 then (wy2 (mT h) c cn (pn p) (pn a) b).2 else 1000000000000) / gdE (gdF 100 (wy2 (mT h) c cn (pn p) (pn a) b).2 1000000000000))) else -1)) (if rwM (mT h) cn p a b = 0 then (if nI (wy2 (mT h) c cn (pn p) (pn a) b).1.length = 0 then 6 else 0) else rwM (mT h) cn p a b)) := by
  refine g_entry (lv := [.ref 50, .int p, .int a, .int b, .int o, .retAddr 0]) 1 pn_X10 rfl rfl rfl ?_
  refine g_aL0 dX10_safest_0 ?_
  refine g_iconst dX10_safest_1 ?_
  refine g_pI0 lf_X10_39 (X.S.l 50 rfl) (X.S.k 50 rfl rfl) dX10_safest_2 ?_
  show gY _ _ _ _ _ _ _ _ _ _ _ _ _ (mT h)
  generalize mT h = h at X B ⊢
  refine g_aL0 dX10_safest_5 ?_
  refine g_iL1 dX10_safest_6 ?_
  refine g_iL2 dX10_safest_7 ?_
  refine g_iL3 dX10_safest_8 ?_
  refine e_v3i (d_refusesWay X _ _ _) lm_X10_441 dX10_safest_9 (X.S.l 50 rfl) (X.S.k 50 rfl rfl) rfl rfl rfl rfl ?_
  refine g_iS5 dX10_safest_12 rfl rfl ?_
  refine g_iL5 dX10_safest_14 ?_
  refine g_ifle dX10_safest_16 (fun c16 => ?_) (fun c16 => ?_)
  · obtain ⟨hw0, i1, i2, i3⟩ := rw_le c16
    obtain ⟨P, hP, rfl⟩ := ip1 (by have := X.b1; omega) i1
    have qP := pn_nI (n := P) (by have := X.b1; omega)
    have hP8 : P < 8 := by have := X.b1; omega
    obtain ⟨A, hA, rfl⟩ := ip1 (by have := X.b4; omega) i2
    have qA := pn_nI (n := A) (by have := X.b4; omega)
    refine g_aL0 dX10_safest_27 ?_
    refine g_iconst dX10_safest_28 ?_
    refine g_iL1 dX10_safest_29 ?_
    refine g_iL2 dX10_safest_30 ?_
    refine g_iL3 dX10_safest_31 ?_
    refine r_v4i (d_wkF X B hP8 _ hA) lm_X10_431 dX10_safest_32 (X.S.l 50 rfl) (X.S.k 50 rfl rfl) rfl rfl rfl rfl (fun v h' e => ⟨_, e.1⟩) (fun r h1 e => ?_)
    obtain ⟨e1, r1, k1⟩ := e
    obtain rfl := Value.int.inj (Option.some.inj e1)
    have Sk := k1.S X.S
    refine g_ifne dX10_safest_35 (fun c35 => ?_) (fun c35 => ?_)
    · have hne : (wy2 h c cn P A b).1 ≠ [] := fun z => c35 (by rw [z]; rfl)
      obtain ⟨rn, hr⟩ := B.2.1
      obtain ⟨W9, hW9, e9⟩ := okW_y (mi := gI h (c + 6)) (nb := tkF (gI h (c + 1) P)) X.b4 hA hr b (fun _ => false)
      refine g_aL0 dX10_safest_48 ?_
      refine g_aL0 dX10_safest_49 ?_
      refine g_getJ lf_X10_428 (Sk.l 50 rfl) (Sk.k 50 rfl rfl) dX10_safest_50 ?_
      rw [r1.2.2.1 hne, e9]
      refine g_ldc2 dX10_safest_53 lc_X10_412 ?_
      refine g_iL4 dX10_safest_56 ?_
      refine e_v3l (d_fraction Sk (by omega) _) lm_X10_445 dX10_safest_58 (Sk.l 50 rfl) (Sk.k 50 rfl rfl) rfl rfl rfl rfl ?_
      exact g_lret rfl dX10_safest_61 rfl rfl ⟨by rw [if_pos hw0, qA, qP, if_neg c35, e9], h1, k1, by rw [if_pos hw0, qA, qP, if_neg c35]⟩
    · refine g_aL0 dX10_safest_38 ?_
      refine g_bipush dX10_safest_39 ?_
      refine e_v1i (d_refused Sk _) lm_X10_45 dX10_safest_41 (Sk.l 50 rfl) (Sk.k 50 rfl rfl) rfl rfl rfl rfl ?_
      refine g_i2l dX10_safest_44 ?_
      refine g_goto dX10_safest_45 ?_
      exact g_lret rfl dX10_safest_61 rfl rfl ⟨by rw [if_pos hw0, qA, qP, if_pos c35]; rfl, h1, k1, by rw [if_pos hw0, qA, qP, if_pos c35]⟩
  · refine g_aL0 dX10_safest_19 ?_
    refine g_iL5 dX10_safest_20 ?_
    refine e_v1i (d_refused X.S _) lm_X10_45 dX10_safest_22 (X.S.l 50 rfl) (X.S.k 50 rfl rfl) rfl rfl rfl rfl ?_
    refine g_i2l dX10_safest_25 ?_
    exact g_lret rfl dX10_safest_26 rfl rfl ⟨by rw [if_neg (rw_gt c16)]; rfl, h, wmK.refl h, by rw [if_neg (rw_gt c16)]⟩
theorem z_secret {h : Hp} (S : SX (mT h)) (hz : gR (mT h) 50 3 = none) (p a b : Int32) : gCi 3 0 0 yX10_secret cX10_secret 5 (some .int) [.ref 50, .int p, .int a, .int b] h (some (.int (-1))) (mR (mT h) 1) := by
  refine g_entry (lv := [.ref 50, .int p, .int a, .int b, .retAddr 0]) 1 pn_X10 rfl rfl rfl ?_
  refine g_aL0 dX10_secret_0 ?_
  refine g_iconst dX10_secret_1 ?_
  refine g_pI0 lf_X10_39 (S.l 50 rfl) (S.k 50 rfl rfl) dX10_secret_2 ?_
  show gY _ _ _ _ _ _ _ _ _ _ _ _ _ (mT h)
  generalize mT h = h at S hz ⊢
  refine g_aL0 dX10_secret_5 ?_
  refine g_iL1 dX10_secret_6 ?_
  refine g_iL2 dX10_secret_7 ?_
  refine g_iL3 dX10_secret_8 ?_
  refine e_v3i (z_refusesWay S hz _ _ _) lm_X10_441 dX10_secret_9 (S.l 50 rfl) (S.k 50 rfl rfl) rfl rfl rfl rfl ?_
  refine g_iS4 dX10_secret_12 rfl rfl ?_
  refine g_iL4 dX10_secret_14 ?_
  refine g_ifle dX10_secret_16 (fun c16 => absurd c16 z_c16) (fun c16 => ?_)
  refine g_aL0 dX10_secret_19 ?_
  refine g_iL4 dX10_secret_20 ?_
  refine e_v1i (d_refused S _) lm_X10_45 dX10_secret_22 (S.l 50 rfl) (S.k 50 rfl rfl) rfl rfl rfl rfl ?_
  refine g_goto dX10_secret_25 ?_
  exact e_iret rfl dX10_secret_40 rfl rfl rfl rfl
theorem z_safest {h : Hp} (S : SX (mT h)) (hz : gR (mT h) 50 3 = none) (p a b o : Int32) : gCi 3 0 0 yX10_safest cX10_safest 6 (some .long) [.ref 50, .int p, .int a, .int b, .int o] h (some (.long (-1))) (mR (mT h) 1) := by
  refine g_entry (lv := [.ref 50, .int p, .int a, .int b, .int o, .retAddr 0]) 1 pn_X10 rfl rfl rfl ?_
  refine g_aL0 dX10_safest_0 ?_
  refine g_iconst dX10_safest_1 ?_
  refine g_pI0 lf_X10_39 (S.l 50 rfl) (S.k 50 rfl rfl) dX10_safest_2 ?_
  show gY _ _ _ _ _ _ _ _ _ _ _ _ _ (mT h)
  generalize mT h = h at S hz ⊢
  refine g_aL0 dX10_safest_5 ?_
  refine g_iL1 dX10_safest_6 ?_
  refine g_iL2 dX10_safest_7 ?_
  refine g_iL3 dX10_safest_8 ?_
  refine e_v3i (z_refusesWay S hz _ _ _) lm_X10_441 dX10_safest_9 (S.l 50 rfl) (S.k 50 rfl rfl) rfl rfl rfl rfl ?_
  refine g_iS5 dX10_safest_12 rfl rfl ?_
  refine g_iL5 dX10_safest_14 ?_
  refine g_ifle dX10_safest_16 (fun c16 => absurd c16 z_c16) (fun c16 => ?_)
  refine g_aL0 dX10_safest_19 ?_
  refine g_iL5 dX10_safest_20 ?_
  refine e_v1i (d_refused S _) lm_X10_45 dX10_safest_22 (S.l 50 rfl) (S.k 50 rfl rfl) rfl rfl rfl rfl ?_
  refine g_i2l dX10_safest_25 ?_
  exact e_lret rfl dX10_safest_26 rfl rfl rfl rfl

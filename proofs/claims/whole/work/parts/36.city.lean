/-! THE CLASS: GlassPost.city, led -/
theorem c_refuseS {h : Hp} (S : SX h) (y : Int32) : gCi 0 0 0 yX8_refuse cX8_refuse 2 (some .int) [.ref 0, .int y] h (some (.int (-1))) (pI h 0 8 y) := by
  refine g_entry (lv := [.ref 0, .int y]) 0 pn_X8 rfl rfl rfl ?_
  refine g_aL0 dX8_refuse_0 ?_
  refine g_iL1 dX8_refuse_1 ?_
  refine g_pI0 lf_X8_65 (S.l 0 rfl) (S.k 0 rfl rfl) dX8_refuse_2 ?_
  refine g_iconst dX8_refuse_5 ?_
  exact e_iret rfl dX8_refuse_6 rfl rfl rfl rfl
theorem c_answerS {h : Hp} (S : SX h) (y : Int32) : gCi 0 0 0 yX8_answer cX8_answer 2 (some .int) [.ref 0, .int y] h (some (.int y)) (pI h 0 8 0) := by
  refine g_entry (lv := [.ref 0, .int y]) 0 pn_X8 rfl rfl rfl ?_
  refine g_aL0 dX8_answer_0 ?_
  refine g_iconst dX8_answer_1 ?_
  refine g_pI0 lf_X8_65 (S.l 0 rfl) (S.k 0 rfl rfl) dX8_answer_2 ?_
  refine g_iL1 dX8_answer_5 ?_
  exact e_iret rfl dX8_answer_6 rfl rfl rfl rfl
theorem bgL_S (t : Nat) : ∀ (n i : Nat) (h : Hp), SX h → SX (bgL t n i h)
  | 0, _, _, S => S
  | n + 1, i, h, S => bgL_S t n (i + 1) (bgS t h i) S
theorem bgE_S {h : Hp} (S : SX h) : SX (bgE h) := S
theorem bgH_S {h : Hp} (S : SX h) (t : Nat) : SX (bgH h t) := bgE_S (bgL_S t 8 0 _ (S.pR (a := 38) (k := 0) (some t) rfl))
theorem bgS_I (t : Nat) (h : Hp) (i : Nat) {b j : Nat} (h1 : b ≠ 39) (h2 : b ≠ 40) : gI (bgS t h i) b j = gI h b j := (gIq h2).trans (gIq h1)
theorem bgL_I (t : Nat) : ∀ (n i : Nat) (h : Hp) (b j : Nat), b ≠ 39 → b ≠ 40 → gI (bgL t n i h) b j = gI h b j
  | 0, _, _, _, _, _, _ => rfl
  | n + 1, i, h, b, j, h1, h2 => (bgL_I t n (i + 1) _ b j h1 h2).trans (bgS_I t h i h1 h2)
theorem bgE_I (h : Hp) {b j : Nat} (h1 : b ≠ 38) : gI (bgE h) b j = gI h b j := (gIq h1).trans ((gIq h1).trans (gIq h1))
theorem bgH_I (h : Hp) (t : Nat) {b j : Nat} (h1 : b ≠ 38) (h2 : b ≠ 39) (h3 : b ≠ 40) : gI (bgH h t) b j = gI h b j := (bgE_I _ h1).trans (bgL_I t 8 0 _ b j h2 h3)
theorem bgL_R (t : Nat) : ∀ (n i : Nat) (h : Hp), gR (bgL t n i h) = gR h
  | 0, _, _ => rfl
  | n + 1, i, h => bgL_R t n (i + 1) (bgS t h i)
theorem bgE_R (h : Hp) : gR (bgE h) = gR h := rfl
theorem bgH_R (h : Hp) (t : Nat) : gR (bgH h t) = gR (pR h 38 0 (some t)) := (bgE_R _).trans (bgL_R t 8 0 _)
/-- the class's cells after a text was parsed in vain; after it was told -/
def cyF (h1 : Hp) (a b : Int32) : Hp := pI (pI (pI h1 1 1 0) 0 9 a) 0 10 b
def cyT (h1 : Hp) (s t : Nat) : Hp := pI (bgH (pR (pR (cyF h1 0 (-1)) 0 6 (some s)) 0 7 (some t)) s) 0 8 0
theorem m_city0 {h : Hp} (S : SX h) {L : Nat} (hL : gI h 1 1 = nI L) (n : Int32) (hn : n < 0 ∨ nI L < n) : gCi 1 0 0 yX8_city cX8_city 4 (some .int) [.ref 0, .int n] h (some (.int (-1))) (pI h 0 8 2) := by
  refine g_entry (lv := [.ref 0, .int n, .retAddr 0, .retAddr 0]) 2 pn_X8 rfl rfl rfl ?_
  refine g_iL1 dX8_city_0 ?_
  refine g_iflt dX8_city_1 (fun c1 => ?_) (fun c1 => ?_)
  · refine g_aL0 dX8_city_15 ?_
    refine g_iconst dX8_city_16 ?_
    refine e_v1i (c_refuseS S _) lm_X8_86 dX8_city_17 (S.l 0 rfl) (S.k 0 rfl rfl) rfl rfl rfl rfl ?_
    exact e_iret rfl dX8_city_20 rfl rfl rfl rfl
  · refine g_iL1 dX8_city_4 ?_
    refine g_aL0 dX8_city_5 ?_
    refine g_getR lf_X8_10 (S.l 0 rfl) (S.k 0 rfl rfl) (S.r 0 0 (b := 1) rfl rfl) dX8_city_6 ?_
    refine g_gI lf_X8_83 (S.l 1 rfl) (S.k 1 rfl rfl) dX8_city_9 ?_
    rw [hL]
    refine g_icle dX8_city_12 (fun c12 => ?_) (fun c12 => ?_)
    · exact absurd hn (by rintro (z | z); exact c1 z; exact absurd z (Int32.not_lt.mpr c12))
    · refine g_aL0 dX8_city_15 ?_
      refine g_iconst dX8_city_16 ?_
      refine e_v1i (c_refuseS S _) lm_X8_86 dX8_city_17 (S.l 0 rfl) (S.k 0 rfl rfl) rfl rfl rfl rfl ?_
      exact e_iret rfl dX8_city_20 rfl rfl rfl rfl
theorem m_city1 {tx : Nat → Int32} {h hc : Hp} (S : SX h) (hx : gI h 2 = tx) {L : Nat} (hL : gI h 1 1 = nI L) (hL2 : L ≤ 1100) {s t : Nat} (hs : s = 3 ∨ s = 18) (ht : t = 3 ∨ t = 18) (h6 : gR h 0 6 = some t) (h7 : gR h 0 7 = some s) (eh : clH (pR h 33 5 (some s)) s = hc) {n : Nat} (hn : n ≤ L) (I : CT → List Nm → Prop) (hI0 : ∀ C x, ZC C → firP tx n C 0 [] = .ok x → I x.2.1 x.2.2) (hI1 : ∀ C q K x, I C K → lnP tx n C q K = .ok x → I x.2.1 x.2.2) (hI2 : ∀ C K, I C K → CB C K) : gC 10 0 0 yX8_city cX8_city 4 (some .int) [.ref 0, .int (nI n)] h (fun v h' => ∃ h1, PQ s h1 (pR h 33 5 (some s)) ∧ ((∃ e, parP tx n (CC hc s) = .error e ∧ v = some (.int (-1)) ∧ h' = pI (cyF h1 e.1 (nI e.2)) 0 8 4) ∨ (∃ x, parP tx n (CC hc s) = .ok x ∧ v = some (.int (x.2.1 1 1)) ∧ CE h1 s x.2.1 ∧ h' = cyT h1 s t))) := by
  refine g_entry (lv := [.ref 0, .int (nI n), .retAddr 0, .retAddr 0]) 2 pn_X8 rfl rfl rfl ?_
  refine g_iL1 dX8_city_0 ?_
  refine g_iflt dX8_city_1 (fun c1 => absurd c1 (show ¬ nI n < nI 0 from nI_nlt (by omega) (by omega))) (fun c1 => ?_)
  refine g_iL1 dX8_city_4 ?_
  refine g_aL0 dX8_city_5 ?_
  refine g_getR lf_X8_10 (S.l 0 rfl) (S.k 0 rfl rfl) (S.r 0 0 (b := 1) rfl rfl) dX8_city_6 ?_
  refine g_gI lf_X8_83 (S.l 1 rfl) (S.k 1 rfl rfl) dX8_city_9 ?_
  rw [hL]
  refine g_icle dX8_city_12 (fun c12 => ?_) (fun c12 => absurd (nI_le hn (by omega)) c12)
  refine g_aL0 dX8_city_21 ?_
  refine g_getR lf_X8_31 (S.l 0 rfl) (S.k 0 rfl rfl) (S.r 0 1 (b := 33) rfl rfl) dX8_city_22 ?_
  refine g_iL1 dX8_city_25 ?_
  refine g_aL0 dX8_city_26 ?_
  refine g_getR lf_X8_23 (S.l 0 rfl) (S.k 0 rfl rfl) h7 dX8_city_27 ?_
  refine g_v2 (c_parse S hx hs eh (Nat.le_trans hn hL2) I hI0 hI1 hI2) lm_X8_90 dX8_city_30 (S.l 33 rfl) (S.k 33 rfl rfl) rfl rfl rfl rfl (fun v h1 hq => ?_)
  obtain ⟨p1, hq⟩ := hq
  have S1 : SX h1 := p1.S (S.pR (a := 33) (k := 5) (some s) rfl)
  have g6 : gR h1 0 6 = some t := by rw [p1.R]; exact h6
  have g7 : gR h1 0 7 = some s := by rw [p1.R]; exact h7
  rcases hq with ⟨e, ho, rfl, fe⟩ | ⟨x, ho, rfl, f10, f11, D1⟩
  · refine g_iS2 dX8_city_33 rfl rfl ?_
    refine g_aL0 dX8_city_34 ?_
    refine g_getR lf_X8_10 (S1.l 0 rfl) (S1.k 0 rfl rfl) (S1.r 0 0 (b := 1) rfl rfl) dX8_city_35 ?_
    refine g_iconst dX8_city_38 ?_
    refine g_pI0 lf_X8_83 (S1.l 1 rfl) (S1.k 1 rfl rfl) dX8_city_39 ?_
    refine g_aL0 dX8_city_42 ?_
    refine g_aL0 dX8_city_43 ?_
    refine g_getR lf_X8_31 (S1.l 0 rfl) (S1.k 0 rfl rfl) (S1.r 0 1 (b := 33) rfl rfl) dX8_city_44 ?_
    refine g_gI lf_X8_94 (S1.l 33 rfl) (S1.k 33 rfl rfl) dX8_city_47 ?_
    rw [show gI (pI h1 1 1 0) 33 10 = _ from (gIq (by decide)).trans fe.1]
    refine g_pI0 lf_X8_69 (S1.l 0 rfl) (S1.k 0 rfl rfl) dX8_city_50 ?_
    refine g_aL0 dX8_city_53 ?_
    refine g_aL0 dX8_city_54 ?_
    refine g_getR lf_X8_31 (S1.l 0 rfl) (S1.k 0 rfl rfl) (S1.r 0 1 (b := 33) rfl rfl) dX8_city_55 ?_
    refine g_gI lf_X8_97 (S1.l 33 rfl) (S1.k 33 rfl rfl) dX8_city_58 ?_
    rw [show gI (pI (pI h1 1 1 0) 0 9 _) 33 11 = _ from (gIq (by decide)).trans ((gIq (by decide)).trans fe.2)]
    refine g_pI0 lf_X8_72 (S1.l 0 rfl) (S1.k 0 rfl rfl) dX8_city_61 ?_
    refine g_iL2 dX8_city_64 ?_
    refine g_ifne dX8_city_65 (fun c65 => absurd rfl c65) (fun c65 => ?_)
    refine g_aL0 dX8_city_68 ?_
    refine g_iconst dX8_city_69 ?_
    refine e_v1i (c_refuseS (h := cyF h1 e.1 (nI e.2)) S1 _) lm_X8_86 dX8_city_70 (S1.l 0 rfl) (S1.k 0 rfl rfl) rfl rfl rfl rfl ?_
    exact g_iret rfl dX8_city_73 rfl rfl ⟨h1, p1, Or.inl ⟨e, ho, rfl, rfl⟩⟩
  · refine g_iS2 dX8_city_33 rfl rfl ?_
    refine g_aL0 dX8_city_34 ?_
    refine g_getR lf_X8_10 (S1.l 0 rfl) (S1.k 0 rfl rfl) (S1.r 0 0 (b := 1) rfl rfl) dX8_city_35 ?_
    refine g_iconst dX8_city_38 ?_
    refine g_pI0 lf_X8_83 (S1.l 1 rfl) (S1.k 1 rfl rfl) dX8_city_39 ?_
    refine g_aL0 dX8_city_42 ?_
    refine g_aL0 dX8_city_43 ?_
    refine g_getR lf_X8_31 (S1.l 0 rfl) (S1.k 0 rfl rfl) (S1.r 0 1 (b := 33) rfl rfl) dX8_city_44 ?_
    refine g_gI lf_X8_94 (S1.l 33 rfl) (S1.k 33 rfl rfl) dX8_city_47 ?_
    rw [show gI (pI h1 1 1 0) 33 10 = _ from (gIq (by decide)).trans f10]
    refine g_pI0 lf_X8_69 (S1.l 0 rfl) (S1.k 0 rfl rfl) dX8_city_50 ?_
    refine g_aL0 dX8_city_53 ?_
    refine g_aL0 dX8_city_54 ?_
    refine g_getR lf_X8_31 (S1.l 0 rfl) (S1.k 0 rfl rfl) (S1.r 0 1 (b := 33) rfl rfl) dX8_city_55 ?_
    refine g_gI lf_X8_97 (S1.l 33 rfl) (S1.k 33 rfl rfl) dX8_city_58 ?_
    rw [show gI (pI (pI h1 1 1 0) 0 9 _) 33 11 = _ from (gIq (by decide)).trans ((gIq (by decide)).trans f11)]
    refine g_pI0 lf_X8_72 (S1.l 0 rfl) (S1.k 0 rfl rfl) dX8_city_61 ?_
    refine g_iL2 dX8_city_64 ?_
    refine g_ifne dX8_city_65 (fun c65 => ?_) (fun c65 => absurd c65 (by decide))
    refine g_aL0 dX8_city_74 ?_
    refine g_getR lf_X8_19 (S1.l 0 rfl) (S1.k 0 rfl rfl) g6 dX8_city_75 ?_
    refine g_aS3 dX8_city_78 rfl rfl ?_
    refine g_aL0 dX8_city_79 ?_
    refine g_aL0 dX8_city_80 ?_
    refine g_getR lf_X8_23 (S1.l 0 rfl) (S1.k 0 rfl rfl) g7 dX8_city_81 ?_
    have S2 : SX (pR (cyF h1 0 (-1)) 0 6 (some s)) := SX.pR (h := (cyF h1 0 (-1))) S1 (a := 0) (k := 6) (some s) rfl
    have S3 : SX (pR (pR (cyF h1 0 (-1)) 0 6 (some s)) 0 7 (some t)) := S2.pR (a := 0) (k := 7) (some t) rfl
    have k6 : gR (pR (pR (cyF h1 0 (-1)) 0 6 (some s)) 0 7 (some t)) 0 6 = some s := rfl
    refine g_pR0 lf_X8_19 (S1.l 0 rfl) (S1.k 0 rfl rfl) dX8_city_84 ?_
    refine g_aL0 dX8_city_87 ?_
    refine g_aL3 dX8_city_88 ?_
    refine g_pR0 lf_X8_23 (S2.l 0 rfl) (S2.k 0 rfl rfl) dX8_city_89 ?_
    refine g_aL0 dX8_city_92 ?_
    refine g_getR lf_X8_40 (S3.l 0 rfl) (S3.k 0 rfl rfl) (S3.r 0 2 (b := 38) rfl rfl) dX8_city_93 ?_
    refine g_aL0 dX8_city_96 ?_
    refine g_getR lf_X8_19 (S3.l 0 rfl) (S3.k 0 rfl rfl) k6 dX8_city_97 ?_
    refine e_v1u (c_begin S3 hs) lm_X8_100 dX8_city_100 (S3.l 38 rfl) (S3.k 38 rfl rfl) rfl rfl rfl rfl ?_
    show gY _ _ _ _ _ _ _ _ _ _ _ _ _ (bgH (pR (pR (cyF h1 0 (-1)) 0 6 (some s)) 0 7 (some t)) s)
    have S4 : SX (bgH (pR (pR (cyF h1 0 (-1)) 0 6 (some s)) 0 7 (some t)) s) := bgH_S S3 s
    have k7 : gR (bgH (pR (pR (cyF h1 0 (-1)) 0 6 (some s)) 0 7 (some t)) s) 0 6 = some s := by rw [bgH_R]; exact k6
    have kc : gI (bgH (pR (pR (cyF h1 0 (-1)) 0 6 (some s)) 0 7 (some t)) s) (s + 1) 1 = x.2.1 1 1 := (bgH_I _ _ (by omega) (by omega) (by omega)).trans ((gIq (by omega)).trans ((gIq (by omega)).trans ((gIq (by omega)).trans (D1 1 1 (by decide)))))
    refine g_aL0 dX8_city_103 ?_
    refine g_aL0 dX8_city_104 ?_
    refine g_getR lf_X8_19 (S4.l 0 rfl) (S4.k 0 rfl rfl) k7 dX8_city_105 ?_
    refine g_getR lf_X8_103 (S4.cl hs 0 rfl) (S4.ck hs) (S4.cr hs 0 (j := 1) rfl rfl) dX8_city_108 ?_
    refine g_iconst dX8_city_111 ?_
    refine g_ialoadK (S4.cl hs 1 rfl) (S4.cka hs 1 rfl rfl) (S4.cn hs 1 (n := 11) rfl rfl rfl) rfl (j := 1) rfl dX8_city_112 ?_
    rw [kc]
    refine e_v1i (c_answerS S4 _) lm_X8_107 dX8_city_113 (S4.l 0 rfl) (S4.k 0 rfl rfl) rfl rfl rfl rfl ?_
    exact g_iret rfl dX8_city_116 rfl rfl ⟨h1, p1, Or.inr ⟨x, ho, rfl, D1, rfl⟩⟩
def ldF (br wr : Nat → Int32) (k : Int32) : Nat → Nat → Int32 → Option Nat
  | 0, _, _ => none
  | n + 1, i, m => if br i = 0 then (if wr i = -2 then ldF br wr k n (i + 1) m else if m = k then some i else ldF br wr k n (i + 1) (m + 1)) else ldF br wr k n (i + 1) m
theorem g_led {h : Hp} {t : Nat} {cn : Nat → Nat} (X : CX h t cn) (k : Int32) {d RC RS : Nat} (hd : Nat.ble 4 d = true) {Q : Option Value → Hp → Prop} (hY : ∀ P, ldF (fun i => thF (gI h 38 3) (nI i)) (fun i => wrF h t (cn 2) i (-2)) k (cn 1) 0 0 = some P → Q (some (.int (nI P))) h) (hN : ldF (fun i => thF (gI h 38 3) (nI i)) (fun i => wrF h t (cn 2) i (-2)) k (cn 1) 0 0 = none → ∀ v2 v3, gY d RC RS yX8_led cX8_led 4 (some .int) 0 0 Q 59 [.ref 0, .int k, v2, v3] [] h) : gY d RC RS yX8_led cX8_led 4 (some .int) 0 0 Q 0 [.ref 0, .int k, .retAddr 0, .retAddr 0] [] h := by
  have loop : ∀ (n i : Nat) (m : Int32), i + n = cn 1 → ldF (fun i => thF (gI h 38 3) (nI i)) (fun i => wrF h t (cn 2) i (-2)) k (cn 1) 0 0 = ldF (fun i => thF (gI h 38 3) (nI i)) (fun i => wrF h t (cn 2) i (-2)) k n i m → gY d RC RS yX8_led cX8_led 4 (some .int) 0 0 Q 4 [.ref 0, .int k, .int m, .int (nI i)] [] h := by
    intro n
    induction n with
    | zero =>
      intro i m hi he
      refine g_iL3 dX8_led_4 ?_
      refine g_aL0 dX8_led_5 ?_
      refine g_getR lf_X8_19 (X.S.l 0 rfl) (X.S.k 0 rfl rfl) X.T dX8_led_6 ?_
      refine g_getR lf_X8_103 (X.S.cl X.hc 0 rfl) (X.S.ck X.hc) (X.S.cr X.hc 0 (j := 1) rfl rfl) dX8_led_9 ?_
      refine g_iconst dX8_led_12 ?_
      refine g_ialoadK (X.S.cl X.hc 1 rfl) (X.S.cka X.hc 1 rfl rfl) (X.S.cn X.hc 1 (n := 11) rfl rfl rfl) rfl (j := 1) rfl dX8_led_13 ?_
      rw [X.c 1 rfl]
      refine g_icge dX8_led_14 (fun c14 => ?_) (fun c14 => absurd (nI_le (by omega) (by have := X.b1; omega)) c14)
      exact hN he _ _
    | succ n ih =>
      intro i m hi he
      refine g_iL3 dX8_led_4 ?_
      refine g_aL0 dX8_led_5 ?_
      refine g_getR lf_X8_19 (X.S.l 0 rfl) (X.S.k 0 rfl rfl) X.T dX8_led_6 ?_
      refine g_getR lf_X8_103 (X.S.cl X.hc 0 rfl) (X.S.ck X.hc) (X.S.cr X.hc 0 (j := 1) rfl rfl) dX8_led_9 ?_
      refine g_iconst dX8_led_12 ?_
      refine g_ialoadK (X.S.cl X.hc 1 rfl) (X.S.cka X.hc 1 rfl rfl) (X.S.cn X.hc 1 (n := 11) rfl rfl rfl) rfl (j := 1) rfl dX8_led_13 ?_
      rw [X.c 1 rfl]
      refine g_icge dX8_led_14 (fun c14 => absurd c14 (nI_ge (by omega) (by have := X.b1; omega))) (fun c14 => ?_)
      refine g_aL0 dX8_led_17 ?_
      refine g_getR lf_X8_40 (X.S.l 0 rfl) (X.S.k 0 rfl rfl) (X.S.r 0 2 (b := 38) rfl rfl) dX8_led_18 ?_
      refine g_iL3 dX8_led_21 ?_
      refine e_v1i (c_isBroken X.S _) lm_X8_123 dX8_led_22 (X.S.l 38 rfl) (X.S.k 38 rfl rfl) (Nat.ble_eq_true_of_le (Nat.le_trans (by decide) (Nat.le_of_ble_eq_true hd))) rfl rfl rfl ?_
      refine g_ifne dX8_led_25 (fun c25 => ?_) (fun c25 => ?_)
      · refine g_ii3 dX8_led_53 rfl rfl ?_
        refine g_goto dX8_led_56 ?_
        rw [nI_1]
        exact ih (i + 1) _ (by omega) (he.trans (if_neg c25))
      · refine g_aL0 dX8_led_28 ?_
        refine g_getR lf_X8_40 (X.S.l 0 rfl) (X.S.k 0 rfl rfl) (X.S.r 0 2 (b := 38) rfl rfl) dX8_led_29 ?_
        refine g_iL3 dX8_led_32 ?_
        refine g_bipush dX8_led_33 ?_
        refine e_v2i (c_wordRead X.S X.hc X.P (X.c 2 rfl) X.b2 (show i < 8 from by have := X.b1; omega) _) lm_X8_152 dX8_led_35 (X.S.l 38 rfl) (X.S.k 38 rfl rfl) (Nat.ble_eq_true_of_le (Nat.le_trans (by decide) (Nat.le_of_ble_eq_true hd))) rfl rfl rfl ?_
        refine g_bipush dX8_led_38 ?_
        refine g_iceq dX8_led_40 (fun c40 => ?_) (fun c40 => ?_)
        · refine g_ii3 dX8_led_53 rfl rfl ?_
          refine g_goto dX8_led_56 ?_
          rw [nI_1]
          exact ih (i + 1) _ (by omega) (he.trans ((if_pos c25).trans (if_pos c40)))
        · refine g_iL2 dX8_led_43 ?_
          refine g_iL1 dX8_led_44 ?_
          refine g_icne dX8_led_45 (fun c45 => ?_) (fun c45 => ?_)
          · refine g_ii2 dX8_led_50 rfl rfl ?_
            refine g_ii3 dX8_led_53 rfl rfl ?_
            refine g_goto dX8_led_56 ?_
            rw [nI_1]
            exact ih (i + 1) _ (by omega) (he.trans ((if_pos c25).trans ((if_neg c40).trans (if_neg c45))))
          · refine g_iL3 dX8_led_48 ?_
            exact g_iret rfl dX8_led_49 (Nat.ble_eq_true_of_le (Nat.zero_le _)) (Nat.ble_eq_true_of_le (Nat.zero_le _)) (hY i (he.trans ((if_pos c25).trans ((if_neg c40).trans (if_pos c45)))))
  refine g_iconst dX8_led_0 ?_
  refine g_iS2 dX8_led_1 rfl rfl ?_
  refine g_iconst dX8_led_2 ?_
  refine g_iS3 dX8_led_3 rfl rfl ?_
  exact loop (cn 1) 0 _ (by omega) rfl

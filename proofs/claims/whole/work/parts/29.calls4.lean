/-! THE CLASS: GlassPost: calls that find ways -/
/-- what finding a way leaves as it was -/
def wyK (h' h : Hp) : Prop := h'.1 = h.1 ∧ h'.2.1 = h.2.1 ∧ h'.2.2.1 = h.2.2.1 ∧ (SX h → SX h') ∧ (∀ b j, ¬ (b = 45 ∧ j = 0) → gR h' b j = gR h b j) ∧ (∀ b j, b ≠ 45 → b ≠ 46 → b ≠ 47 → gI h' b j = gI h b j) ∧ (∀ b j, b ≠ 45 → gJ h' b j = gJ h b j)
theorem wyK.refl (h : Hp) : wyK h h := ⟨rfl, rfl, rfl, id, fun _ _ _ => rfl, fun _ _ _ _ _ => rfl, fun _ _ _ => rfl⟩
theorem wyK.trans {a b c : Hp} (x : wyK a b) (y : wyK b c) : wyK a c := ⟨x.1.trans y.1, x.2.1.trans y.2.1, x.2.2.1.trans y.2.2.1, fun s => x.2.2.2.1 (y.2.2.2.1 s), fun p q r => (x.2.2.2.2.1 p q r).trans (y.2.2.2.2.1 p q r), fun p q r s u => (x.2.2.2.2.2.1 p q r s u).trans (y.2.2.2.2.2.1 p q r s u), fun p q r => (x.2.2.2.2.2.2 p q r).trans (y.2.2.2.2.2.2 p q r)⟩
theorem wkK.wy {h' h : Hp} (k : wkK h' h) : wyK h' h := ⟨k.1, k.2.1, k.2.2.1, k.S, fun b j _ => congrFun (congrFun k.2.2.2.1 b) j, fun b j x y z => k.2.2.2.2.1 b j y z (by omega), fun b j x => k.2.2.2.2.2 b j (by omega)⟩
theorem goS_wy (h : Hp) (t : Nat) (to : Int32) : wyK (goS h t to) h := ⟨rfl, rfl, rfl, fun S => SX.pR S (a := 45) (k := 0) (some t) rfl, fun b j x => u2_n _ _ x, fun b j x _ _ => (gIq x).trans (gIq x), fun b j x => u2_n _ _ (fun z => x z.1)⟩
theorem goH_wy (h : Hp) (t C fr : Nat) (to sh : Int32) : wyK (goH h t C fr to sh) h := by
  unfold goH
  split
  · split
    · exact (wkK.wy (wkK_F _ _ _ _ _ _ _ _)).trans (goS_wy h t to)
    · exact (wkK.wy (wkK_F _ _ _ _ _ _ _ _)).trans (goS_wy h t to)
  · exact goS_wy h t to
theorem o2_wy (h : Hp) (x y : Int32) : wyK (pI (pI h 45 2 x) 45 3 y) h := ⟨rfl, rfl, rfl, id, fun _ _ _ => rfl, fun b j x _ _ => (gIq x).trans (gIq x), fun _ _ _ => rfl⟩
theorem CX.wy {h h' : Hp} {t : Nat} {cn : Nat → Nat} (X : CX h t cn) (k : wyK h' h) : CX h' t cn := X.fr (k.2.2.2.1 X.S) (k.2.2.2.2.1 _ _ (by decide)) (k.2.2.2.2.1 _ _ (by decide)) (fun j => by have := X.hc; exact k.2.2.2.2.2.1 _ _ (by omega) (by omega) (by omega))
/-- the soonest way is found -/
def gsH (h : Hp) (t C fr : Nat) (to sh : Int32) : Hp := goH (pI (pI h 45 2 0) 45 3 0) t C fr to sh
def gfH (h : Hp) (t C fr : Nat) (to tk : Int32) : Hp := goH (pI (pI h 45 2 1) 45 3 tk) t C fr to 0
theorem gsH_wy (h : Hp) (t C fr : Nat) (to sh : Int32) : wyK (gsH h t C fr to sh) h := (goH_wy _ _ _ _ _ _).trans (o2_wy h 0 0)
theorem gfH_wy (h : Hp) (t C fr : Nat) (to tk : Int32) : wyK (gfH h t C fr to tk) h := (goH_wy _ _ _ _ _ _).trans (o2_wy h 1 tk)
/-- the soonest way, the safest way -/
def swF (h : Hp) (t C fr : Nat) (to : Int32) (sh : Nat → Bool) : PW := wyF (gI h (t + 7)) (gI h (t + 8)) 0 0 C fr to sh
def fwyF (h : Hp) (t C fr : Nat) (to tk : Int32) : PW := wyF (gI h (t + 7)) (gI h (t + 8)) 1 tk C fr to (fun _ => false)
theorem gsH_w {h : Hp} {t C fr : Nat} (hc : t = 3 ∨ t = 18) (hC : C ≤ 7) (hfr : fr < 7) (to sh : Int32) : WR (gsH h t C fr to sh) (swF h t C fr to (bt sh)) [] := by
  have e := go_wy (h := pI (pI h 45 2 0) 45 3 0) hc hC hfr to sh
  have e7 : gI (pI (pI h 45 2 0) 45 3 0) (t + 7) = gI h (t + 7) := funext fun j => (gIq (by omega)).trans (gIq (by omega))
  have e8 : gI (pI (pI h 45 2 0) 45 3 0) (t + 8) = gI h (t + 8) := funext fun j => (gIq (by omega)).trans (gIq (by omega))
  rw [e7, e8, show gI (pI (pI h 45 2 0) 45 3 0) 45 2 = 0 from rfl, show gI (pI (pI h 45 2 0) 45 3 0) 45 3 = 0 from rfl] at e
  exact e
theorem gfH_w {h : Hp} {t C fr : Nat} (hc : t = 3 ∨ t = 18) (hC : C ≤ 7) (hfr : fr < 7) (to tk : Int32) : WR (gfH h t C fr to tk) (fwyF h t C fr to tk) [] := by
  have e := go_wy (h := pI (pI h 45 2 1) 45 3 tk) hc hC hfr to 0
  have e7 : gI (pI (pI h 45 2 1) 45 3 tk) (t + 7) = gI h (t + 7) := funext fun j => (gIq (by omega)).trans (gIq (by omega))
  have e8 : gI (pI (pI h 45 2 1) 45 3 tk) (t + 8) = gI h (t + 8) := funext fun j => (gIq (by omega)).trans (gIq (by omega))
  rw [e7, e8, show gI (pI (pI h 45 2 1) 45 3 tk) 45 2 = 1 from rfl, show gI (pI (pI h 45 2 1) 45 3 tk) 45 3 = tk from gIs _ _ _ _, show bt 0 = (fun _ => false) from funext bt_0] at e
  exact e
/-- its minutes -/
def smF (s : PW) : Int32 := if nI s.1.length = 0 then -2 else (-(s.2)).toInt32
def wpG (s : PW) (k : Int32) : Int32 := nI (s.1.getD (pn k) 0)
theorem bt_tk : True := trivial
theorem c_soonestMinutes {h : Hp} {t : Nat} {cn : Nat → Nat} (X : CX h t cn) {F : Nat} (hF : F < 7) (to sh : Int32) : gCi 11 0 0 yX8_soonestMinutes cX8_soonestMinutes 4 (some .int) [.ref 0, .int (nI F), .int to, .int sh] h (some (.int (smF (swF h t (cn 4) F to (bt sh))))) (gsH h t (cn 4) F to sh) := by
  refine g_entry (lv := [.ref 0, .int (nI F), .int to, .int sh]) 0 pn_X8 rfl rfl rfl ?_
  refine g_aL0 dX8_soonestMinutes_0 ?_
  refine g_getR lf_X8_47 (X.S.l 0 rfl) (X.S.k 0 rfl rfl) (X.S.r 0 3 (b := 45) rfl rfl) dX8_soonestMinutes_1 ?_
  refine g_aL0 dX8_soonestMinutes_4 ?_
  refine g_getR lf_X8_19 (X.S.l 0 rfl) (X.S.k 0 rfl rfl) X.T dX8_soonestMinutes_5 ?_
  refine g_iL1 dX8_soonestMinutes_8 ?_
  refine g_iL2 dX8_soonestMinutes_9 ?_
  refine g_iL3 dX8_soonestMinutes_10 ?_
  refine e_v4u (c_goSoonest X.S X.hc (X.c 4 rfl) X.b4 hF _ _) lm_X8_174 dX8_soonestMinutes_11 (X.S.l 45 rfl) (X.S.k 45 rfl rfl) rfl rfl rfl rfl ?_
  show gY _ _ _ _ _ _ _ _ _ _ _ _ _ (gsH h t (cn 4) F to sh)
  have X1 : CX (gsH h t (cn 4) F to sh) t cn := X.wy (gsH_wy _ _ _ _ _ _)
  have r := gsH_w (h := h) X.hc X.b4 hF to sh
  refine g_aL0 dX8_soonestMinutes_14 ?_
  refine g_getR lf_X8_47 (X1.S.l 0 rfl) (X1.S.k 0 rfl rfl) (X1.S.r 0 3 (b := 45) rfl rfl) dX8_soonestMinutes_15 ?_
  refine g_gI lf_X8_326 (X1.S.l 45 rfl) (X1.S.k 45 rfl rfl) dX8_soonestMinutes_18 ?_
  rw [r.2.1]
  refine g_ifne dX8_soonestMinutes_21 (fun c21 => ?_) (fun c21 => ?_)
  · refine g_aL0 dX8_soonestMinutes_29 ?_
    refine g_getR lf_X8_47 (X1.S.l 0 rfl) (X1.S.k 0 rfl rfl) (X1.S.r 0 3 (b := 45) rfl rfl) dX8_soonestMinutes_30 ?_
    refine e_v0i (c_minutes X1.S) lm_X8_339 dX8_soonestMinutes_33 (X1.S.l 45 rfl) (X1.S.k 45 rfl rfl) rfl rfl rfl rfl ?_
    exact e_iret rfl dX8_soonestMinutes_36 rfl rfl (by rw [r.2.2.1]; exact (if_neg c21).symm) rfl
  · refine g_bipush dX8_soonestMinutes_24 ?_
    refine g_goto dX8_soonestMinutes_26 ?_
    exact e_iret rfl dX8_soonestMinutes_36 rfl rfl (if_pos c21).symm rfl
def cwY (s : PW) (k : Int32) : Int32 := if k < 0 then 1 else if nI s.1.length ≤ k then 1 else 0
theorem cw_in {s : PW} {k : Int32} (h7 : s.1.length ≤ 7) (h0 : ¬ k < 0) (h1 : ¬ nI s.1.length ≤ k) : ∃ K, K < s.1.length ∧ k = nI K ∧ s.1[K]? = some (s.1.getD (pn k) 0) := by
  rcases pk_ix k (n := s.1.length) (by omega) with z | z | ⟨K, hK, e⟩
  · exact absurd z h0
  · exact absurd z h1
  · refine ⟨K, hK, e, ?_⟩
    rw [e, pn_nI (by omega), List.getD_eq_getElem?_getD, List.getElem?_eq_getElem hK]; rfl
theorem c_cornerOfWay {h : Hp} {t : Nat} {cn : Nat → Nat} (X : CX h t cn) {s : PW} {p : List Nat} (r : WR h s p) (k : Int32) : gCi 1 0 0 yX8_cornerOfWay cX8_cornerOfWay 2 (some .int) [.ref 0, .int k] h (some (.int (if cwY s k = 0 then wpG s k else -1))) (pI h 0 8 (cwY s k)) := by
  refine g_entry (lv := [.ref 0, .int k]) 0 pn_X8 rfl rfl rfl ?_
  refine g_iL1 dX8_cornerOfWay_0 ?_
  refine g_iflt dX8_cornerOfWay_1 (fun c1 => ?_) (fun c1 => ?_)
  · refine g_aL0 dX8_cornerOfWay_31 ?_
    refine g_iconst dX8_cornerOfWay_32 ?_
    refine e_v1i (c_refuse X _) lm_X8_86 dX8_cornerOfWay_33 (X.S.l 0 rfl) (X.S.k 0 rfl rfl) rfl rfl rfl rfl ?_
    exact e_iret rfl dX8_cornerOfWay_36 rfl rfl (by rw [show cwY s k = 1 from (if_pos c1)]; rfl) (by rw [show cwY s k = 1 from (if_pos c1)])
  · refine g_iL1 dX8_cornerOfWay_4 ?_
    refine g_aL0 dX8_cornerOfWay_5 ?_
    refine g_getR lf_X8_47 (X.S.l 0 rfl) (X.S.k 0 rfl rfl) (X.S.r 0 3 (b := 45) rfl rfl) dX8_cornerOfWay_6 ?_
    refine g_gI lf_X8_326 (X.S.l 45 rfl) (X.S.k 45 rfl rfl) dX8_cornerOfWay_9 ?_
    rw [r.2.1]
    refine g_icge dX8_cornerOfWay_12 (fun c12 => ?_) (fun c12 => ?_)
    · refine g_aL0 dX8_cornerOfWay_31 ?_
      refine g_iconst dX8_cornerOfWay_32 ?_
      refine e_v1i (c_refuse X _) lm_X8_86 dX8_cornerOfWay_33 (X.S.l 0 rfl) (X.S.k 0 rfl rfl) rfl rfl rfl rfl ?_
      exact e_iret rfl dX8_cornerOfWay_36 rfl rfl (by rw [show cwY s k = 1 from ((if_neg c1).trans (if_pos c12))]; rfl) (by rw [show cwY s k = 1 from ((if_neg c1).trans (if_pos c12))])
    · obtain ⟨N, hN, rfl, hg⟩ := cw_in r.1 c1 c12
      have h7 := r.1
      have e0 : cwY s (nI N) = 0 := (if_neg c1).trans (if_neg c12)
      refine g_aL0 dX8_cornerOfWay_15 ?_
      refine g_aL0 dX8_cornerOfWay_16 ?_
      refine g_getR lf_X8_47 (X.S.l 0 rfl) (X.S.k 0 rfl rfl) (X.S.r 0 3 (b := 45) rfl rfl) dX8_cornerOfWay_17 ?_
      refine g_getR lf_X8_342 (X.S.l 45 rfl) (X.S.k 45 rfl rfl) (X.S.r 45 5 (b := 47) rfl rfl) dX8_cornerOfWay_20 ?_
      refine g_iL1 dX8_cornerOfWay_23 ?_
      refine g_ialoadN (X.S.l 47 rfl) (X.S.k 47 rfl rfl) (X.S.n 47 (n := 7) rfl rfl) (show N < 7 from by omega) (by decide) dX8_cornerOfWay_24 ?_
      rw [r.2.2.2.1 N _ hg]
      refine e_v1i (c_answer X _) lm_X8_107 dX8_cornerOfWay_25 (X.S.l 0 rfl) (X.S.k 0 rfl rfl) rfl rfl rfl rfl ?_
      refine g_goto dX8_cornerOfWay_28 ?_
      exact e_iret rfl dX8_cornerOfWay_36 rfl rfl (if_pos e0).symm (by rw [e0])
theorem m_soonest {h : Hp} {t : Nat} {cn : Nat → Nat} (X : CX h t cn) (a b : Int32) : gCi 12 0 0 yX8_soonest cX8_soonest 3 (some .int) [.ref 0, .int a, .int b] h (some (.int (if anF (ipF a (nI (cn 4))) (ipF b (nI (cn 4))) = 0 then -1 else smF (swF h t (cn 4) (pn a) b (bt 0))))) (if anF (ipF a (nI (cn 4))) (ipF b (nI (cn 4))) = 0 then pI h 0 8 1 else pI (gsH h t (cn 4) (pn a) b 0) 0 8 0) := by
  refine g_entry (lv := [.ref 0, .int a, .int b]) 0 pn_X8 rfl rfl rfl ?_
  refine g_aL0 dX8_soonest_0 ?_
  refine g_iL1 dX8_soonest_1 ?_
  refine e_v1i (c_isCorner X _) lm_X8_167 dX8_soonest_2 (X.S.l 0 rfl) (X.S.k 0 rfl rfl) rfl rfl rfl rfl ?_
  refine g_ifeq dX8_soonest_5 (fun c5 => ?_) (fun c5 => ?_)
  · refine g_aL0 dX8_soonest_16 ?_
    refine g_iconst dX8_soonest_17 ?_
    refine e_v1i (c_refuse X _) lm_X8_86 dX8_soonest_18 (X.S.l 0 rfl) (X.S.k 0 rfl rfl) rfl rfl rfl rfl ?_
    exact e_iret rfl dX8_soonest_21 rfl rfl (if_pos (show anF _ _ = 0 from (if_pos c5))).symm (if_pos (show anF _ _ = 0 from (if_pos c5))).symm
  · refine g_aL0 dX8_soonest_8 ?_
    refine g_iL2 dX8_soonest_9 ?_
    refine e_v1i (c_isCorner X _) lm_X8_167 dX8_soonest_10 (X.S.l 0 rfl) (X.S.k 0 rfl rfl) rfl rfl rfl rfl ?_
    refine g_ifne dX8_soonest_13 (fun c13 => ?_) (fun c13 => ?_)
    · have e1 : ¬ anF (ipF a (nI (cn 4))) (ipF b (nI (cn 4))) = 0 := by rw [show anF _ _ = 1 from (if_neg c5).trans (if_neg c13)]; decide
      obtain ⟨F, hF, rfl⟩ := ip1 (by have := X.b4; omega) c5
      have hF7 : F < 7 := by have := X.b4; omega
      have eF := pn_nI (n := F) (by omega)
      refine g_aL0 dX8_soonest_22 ?_
      refine g_aL0 dX8_soonest_23 ?_
      refine g_iL1 dX8_soonest_24 ?_
      refine g_iL2 dX8_soonest_25 ?_
      refine g_iconst dX8_soonest_26 ?_
      refine e_v3i (c_soonestMinutes X hF7 _ _) lm_X8_170 dX8_soonest_27 (X.S.l 0 rfl) (X.S.k 0 rfl rfl) rfl rfl rfl rfl ?_
      have X1 : CX (gsH h t (cn 4) F b 0) t cn := X.wy (gsH_wy _ _ _ _ _ _)
      have r := gsH_w (h := h) X.hc X.b4 hF7 b 0
      refine e_v1i (c_answer X1 _) lm_X8_107 dX8_soonest_30 (X1.S.l 0 rfl) (X1.S.k 0 rfl rfl) rfl rfl rfl rfl ?_
      exact e_iret rfl dX8_soonest_33 rfl rfl (by rw [if_neg e1, eF]) (by rw [if_neg e1, eF])
    · refine g_aL0 dX8_soonest_16 ?_
      refine g_iconst dX8_soonest_17 ?_
      refine e_v1i (c_refuse X _) lm_X8_86 dX8_soonest_18 (X.S.l 0 rfl) (X.S.k 0 rfl rfl) rfl rfl rfl rfl ?_
      exact e_iret rfl dX8_soonest_21 rfl rfl (if_pos (show anF _ _ = 0 from ((if_neg c5).trans (if_pos c13)))).symm (if_pos (show anF _ _ = 0 from ((if_neg c5).trans (if_pos c13)))).symm
theorem m_soonestAt {h : Hp} {t : Nat} {cn : Nat → Nat} (X : CX h t cn) (a b k : Int32) : gCi 11 0 0 yX8_soonestAt cX8_soonestAt 4 (some .int) [.ref 0, .int a, .int b, .int k] h (some (.int (if anF (ipF a (nI (cn 4))) (ipF b (nI (cn 4))) = 0 then -1 else if cwY (swF h t (cn 4) (pn a) b (bt 0)) k = 0 then wpG (swF h t (cn 4) (pn a) b (bt 0)) k else -1))) (if anF (ipF a (nI (cn 4))) (ipF b (nI (cn 4))) = 0 then pI h 0 8 1 else pI (gsH h t (cn 4) (pn a) b 0) 0 8 (cwY (swF h t (cn 4) (pn a) b (bt 0)) k)) := by
  refine g_entry (lv := [.ref 0, .int a, .int b, .int k]) 0 pn_X8 rfl rfl rfl ?_
  refine g_aL0 dX8_soonestAt_0 ?_
  refine g_iL1 dX8_soonestAt_1 ?_
  refine e_v1i (c_isCorner X _) lm_X8_167 dX8_soonestAt_2 (X.S.l 0 rfl) (X.S.k 0 rfl rfl) rfl rfl rfl rfl ?_
  refine g_ifeq dX8_soonestAt_5 (fun c5 => ?_) (fun c5 => ?_)
  · refine g_aL0 dX8_soonestAt_16 ?_
    refine g_iconst dX8_soonestAt_17 ?_
    refine e_v1i (c_refuse X _) lm_X8_86 dX8_soonestAt_18 (X.S.l 0 rfl) (X.S.k 0 rfl rfl) rfl rfl rfl rfl ?_
    exact e_iret rfl dX8_soonestAt_21 rfl rfl (if_pos (show anF _ _ = 0 from (if_pos c5))).symm (if_pos (show anF _ _ = 0 from (if_pos c5))).symm
  · refine g_aL0 dX8_soonestAt_8 ?_
    refine g_iL2 dX8_soonestAt_9 ?_
    refine e_v1i (c_isCorner X _) lm_X8_167 dX8_soonestAt_10 (X.S.l 0 rfl) (X.S.k 0 rfl rfl) rfl rfl rfl rfl ?_
    refine g_ifne dX8_soonestAt_13 (fun c13 => ?_) (fun c13 => ?_)
    · have e1 : ¬ anF (ipF a (nI (cn 4))) (ipF b (nI (cn 4))) = 0 := by rw [show anF _ _ = 1 from (if_neg c5).trans (if_neg c13)]; decide
      obtain ⟨F, hF, rfl⟩ := ip1 (by have := X.b4; omega) c5
      have hF7 : F < 7 := by have := X.b4; omega
      have eF := pn_nI (n := F) (by omega)
      refine g_aL0 dX8_soonestAt_22 ?_
      refine g_getR lf_X8_47 (X.S.l 0 rfl) (X.S.k 0 rfl rfl) (X.S.r 0 3 (b := 45) rfl rfl) dX8_soonestAt_23 ?_
      refine g_aL0 dX8_soonestAt_26 ?_
      refine g_getR lf_X8_19 (X.S.l 0 rfl) (X.S.k 0 rfl rfl) X.T dX8_soonestAt_27 ?_
      refine g_iL1 dX8_soonestAt_30 ?_
      refine g_iL2 dX8_soonestAt_31 ?_
      refine g_iconst dX8_soonestAt_32 ?_
      refine e_v4u (c_goSoonest X.S X.hc (X.c 4 rfl) X.b4 hF7 _ _) lm_X8_174 dX8_soonestAt_33 (X.S.l 45 rfl) (X.S.k 45 rfl rfl) rfl rfl rfl rfl ?_
      show gY _ _ _ _ _ _ _ _ _ _ _ _ _ (gsH h t (cn 4) F b 0)
      have X1 : CX (gsH h t (cn 4) F b 0) t cn := X.wy (gsH_wy _ _ _ _ _ _)
      have r := gsH_w (h := h) X.hc X.b4 hF7 b 0
      refine g_aL0 dX8_soonestAt_36 ?_
      refine g_iL3 dX8_soonestAt_37 ?_
      refine e_v1i (c_cornerOfWay X1 r _) lm_X8_178 dX8_soonestAt_38 (X1.S.l 0 rfl) (X1.S.k 0 rfl rfl) rfl rfl rfl rfl ?_
      exact e_iret rfl dX8_soonestAt_41 rfl rfl (by rw [if_neg e1, eF]) (by rw [if_neg e1, eF])
    · refine g_aL0 dX8_soonestAt_16 ?_
      refine g_iconst dX8_soonestAt_17 ?_
      refine e_v1i (c_refuse X _) lm_X8_86 dX8_soonestAt_18 (X.S.l 0 rfl) (X.S.k 0 rfl rfl) rfl rfl rfl rfl ?_
      exact e_iret rfl dX8_soonestAt_21 rfl rfl (if_pos (show anF _ _ = 0 from ((if_neg c5).trans (if_pos c13)))).symm (if_pos (show anF _ _ = 0 from ((if_neg c5).trans (if_pos c13)))).symm
theorem m_secret {h : Hp} {t : Nat} {cn : Nat → Nat} (X : CX h t cn) (p a b : Int32) : gCi 12 0 0 yX8_secret cX8_secret 5 (some .int) [.ref 0, .int p, .int a, .int b] h (some (.int (if (wnF (ipF p (nI (cn 1))) (anF (ipF a (nI (cn 4))) (ipF b (nI (cn 4)))) (thF (gI h 38 3) p)) = 0 then smF (swF h t (cn 4) (pn a) b (bt (rcF (gI h t 13) (fun c => wrF h t (cn 2) (pn p) (gI h (t + 6) c)) (cn 4) 0 0))) else -1))) (if (wnF (ipF p (nI (cn 1))) (anF (ipF a (nI (cn 4))) (ipF b (nI (cn 4)))) (thF (gI h 38 3) p)) = 0 then pI (gsH h t (cn 4) (pn a) b (rcF (gI h t 13) (fun c => wrF h t (cn 2) (pn p) (gI h (t + 6) c)) (cn 4) 0 0)) 0 8 0 else pI h 0 8 (wnF (ipF p (nI (cn 1))) (anF (ipF a (nI (cn 4))) (ipF b (nI (cn 4)))) (thF (gI h 38 3) p))) := by
  refine g_entry (lv := [.ref 0, .int p, .int a, .int b, .retAddr 0]) 1 pn_X8 rfl rfl rfl ?_
  refine g_aL0 dX8_secret_0 ?_
  refine g_iL1 dX8_secret_1 ?_
  refine g_aL0 dX8_secret_2 ?_
  refine g_iL2 dX8_secret_3 ?_
  refine e_v1i (c_isCorner X _) lm_X8_167 dX8_secret_4 (X.S.l 0 rfl) (X.S.k 0 rfl rfl) rfl rfl rfl rfl ?_
  refine g_ifeq dX8_secret_7 (fun c7 => ?_) (fun c7 => ?_)
  · refine g_iconst dX8_secret_22 ?_
    have ef : (anF (ipF a (nI (cn 4))) (ipF b (nI (cn 4)))) = 0 := (if_pos c7)
    have W  : gCi 1 0 0 yX8_whyNot cX8_whyNot 3 (some .int) [.ref 0, .int p, .int 0] h (some (.int (wnF (ipF p (nI (cn 1))) (anF (ipF a (nI (cn 4))) (ipF b (nI (cn 4)))) (thF (gI h 38 3) p)))) h := by rw [ef]; exact c_whyNot X p _
    refine e_v2i W lm_X8_144 dX8_secret_23 (X.S.l 0 rfl) (X.S.k 0 rfl rfl) rfl rfl rfl rfl ?_
    refine g_iS4 dX8_secret_26 rfl rfl ?_
    refine g_iL4 dX8_secret_28 ?_
    refine g_ifne dX8_secret_30 (fun c30 => ?_) (fun c30 => ?_)
    · refine g_aL0 dX8_secret_54 ?_
      refine g_iL4 dX8_secret_55 ?_
      refine e_v1i (c_refuse X _) lm_X8_86 dX8_secret_57 (X.S.l 0 rfl) (X.S.k 0 rfl rfl) rfl rfl rfl rfl ?_
      exact e_iret rfl dX8_secret_60 rfl rfl (if_neg c30).symm (if_neg c30).symm
    · obtain ⟨P, hP, rfl⟩ := ip1 (by have := X.b1; omega) (wn0 c30).1
      have hP8 : P < 8 := by have := X.b1; omega
      obtain ⟨F, hF, rfl⟩ := ip1 (by have := X.b4; omega) (an1 (wn0 c30).2.1).1
      have hF7 : F < 7 := by have := X.b4; omega
      have eF := pn_nI (n := F) (by omega)
      have eP := pn_nI (n := P) (by omega)
      refine g_aL0 dX8_secret_33 ?_
      refine g_aL0 dX8_secret_34 ?_
      refine g_iL2 dX8_secret_35 ?_
      refine g_iL3 dX8_secret_36 ?_
      refine g_aL0 dX8_secret_37 ?_
      refine g_getR lf_X8_40 (X.S.l 0 rfl) (X.S.k 0 rfl rfl) (X.S.r 0 2 (b := 38) rfl rfl) dX8_secret_38 ?_
      refine g_iL1 dX8_secret_41 ?_
      refine e_v1i (c_readingCorners X.S X.hc X.P (X.c 2 rfl) X.b2 (X.c 4 rfl) X.b4 hP8) lm_X8_181 dX8_secret_42 (X.S.l 38 rfl) (X.S.k 38 rfl rfl) rfl rfl rfl rfl ?_
      refine e_v3i (c_soonestMinutes X hF7 _ _) lm_X8_170 dX8_secret_45 (X.S.l 0 rfl) (X.S.k 0 rfl rfl) rfl rfl rfl rfl ?_
      have X1 : CX (gsH h t (cn 4) F b (rcF (gI h t 13) (fun c => wrF h t (cn 2) P (gI h (t + 6) c)) (cn 4) 0 0)) t cn := X.wy (gsH_wy _ _ _ _ _ _)
      have r := gsH_w (h := h) X.hc X.b4 hF7 b (rcF (gI h t 13) (fun c => wrF h t (cn 2) P (gI h (t + 6) c)) (cn 4) 0 0)
      refine e_v1i (c_answer X1 _) lm_X8_107 dX8_secret_48 (X1.S.l 0 rfl) (X1.S.k 0 rfl rfl) rfl rfl rfl rfl ?_
      refine g_goto dX8_secret_51 ?_
      exact e_iret rfl dX8_secret_60 rfl rfl (by rw [if_pos c30, eF, eP]) (by rw [if_pos c30, eF, eP])
  · refine g_aL0 dX8_secret_10 ?_
    refine g_iL3 dX8_secret_11 ?_
    refine e_v1i (c_isCorner X _) lm_X8_167 dX8_secret_12 (X.S.l 0 rfl) (X.S.k 0 rfl rfl) rfl rfl rfl rfl ?_
    refine g_ifeq dX8_secret_15 (fun c15 => ?_) (fun c15 => ?_)
    · refine g_iconst dX8_secret_22 ?_
      have ef : (anF (ipF a (nI (cn 4))) (ipF b (nI (cn 4)))) = 0 := ((if_neg c7).trans (if_pos c15))
      have W  : gCi 1 0 0 yX8_whyNot cX8_whyNot 3 (some .int) [.ref 0, .int p, .int 0] h (some (.int (wnF (ipF p (nI (cn 1))) (anF (ipF a (nI (cn 4))) (ipF b (nI (cn 4)))) (thF (gI h 38 3) p)))) h := by rw [ef]; exact c_whyNot X p _
      refine e_v2i W lm_X8_144 dX8_secret_23 (X.S.l 0 rfl) (X.S.k 0 rfl rfl) rfl rfl rfl rfl ?_
      refine g_iS4 dX8_secret_26 rfl rfl ?_
      refine g_iL4 dX8_secret_28 ?_
      refine g_ifne dX8_secret_30 (fun c30 => ?_) (fun c30 => ?_)
      · refine g_aL0 dX8_secret_54 ?_
        refine g_iL4 dX8_secret_55 ?_
        refine e_v1i (c_refuse X _) lm_X8_86 dX8_secret_57 (X.S.l 0 rfl) (X.S.k 0 rfl rfl) rfl rfl rfl rfl ?_
        exact e_iret rfl dX8_secret_60 rfl rfl (if_neg c30).symm (if_neg c30).symm
      · obtain ⟨P, hP, rfl⟩ := ip1 (by have := X.b1; omega) (wn0 c30).1
        have hP8 : P < 8 := by have := X.b1; omega
        obtain ⟨F, hF, rfl⟩ := ip1 (by have := X.b4; omega) (an1 (wn0 c30).2.1).1
        have hF7 : F < 7 := by have := X.b4; omega
        have eF := pn_nI (n := F) (by omega)
        have eP := pn_nI (n := P) (by omega)
        refine g_aL0 dX8_secret_33 ?_
        refine g_aL0 dX8_secret_34 ?_
        refine g_iL2 dX8_secret_35 ?_
        refine g_iL3 dX8_secret_36 ?_
        refine g_aL0 dX8_secret_37 ?_
        refine g_getR lf_X8_40 (X.S.l 0 rfl) (X.S.k 0 rfl rfl) (X.S.r 0 2 (b := 38) rfl rfl) dX8_secret_38 ?_
        refine g_iL1 dX8_secret_41 ?_
        refine e_v1i (c_readingCorners X.S X.hc X.P (X.c 2 rfl) X.b2 (X.c 4 rfl) X.b4 hP8) lm_X8_181 dX8_secret_42 (X.S.l 38 rfl) (X.S.k 38 rfl rfl) rfl rfl rfl rfl ?_
        refine e_v3i (c_soonestMinutes X hF7 _ _) lm_X8_170 dX8_secret_45 (X.S.l 0 rfl) (X.S.k 0 rfl rfl) rfl rfl rfl rfl ?_
        have X1 : CX (gsH h t (cn 4) F b (rcF (gI h t 13) (fun c => wrF h t (cn 2) P (gI h (t + 6) c)) (cn 4) 0 0)) t cn := X.wy (gsH_wy _ _ _ _ _ _)
        have r := gsH_w (h := h) X.hc X.b4 hF7 b (rcF (gI h t 13) (fun c => wrF h t (cn 2) P (gI h (t + 6) c)) (cn 4) 0 0)
        refine e_v1i (c_answer X1 _) lm_X8_107 dX8_secret_48 (X1.S.l 0 rfl) (X1.S.k 0 rfl rfl) rfl rfl rfl rfl ?_
        refine g_goto dX8_secret_51 ?_
        exact e_iret rfl dX8_secret_60 rfl rfl (by rw [if_pos c30, eF, eP]) (by rw [if_pos c30, eF, eP])
    · refine g_iconst dX8_secret_18 ?_
      refine g_goto dX8_secret_19 ?_
      have ef : (anF (ipF a (nI (cn 4))) (ipF b (nI (cn 4)))) = 1 := ((if_neg c7).trans (if_neg c15))
      have W  : gCi 1 0 0 yX8_whyNot cX8_whyNot 3 (some .int) [.ref 0, .int p, .int 1] h (some (.int (wnF (ipF p (nI (cn 1))) (anF (ipF a (nI (cn 4))) (ipF b (nI (cn 4)))) (thF (gI h 38 3) p)))) h := by rw [ef]; exact c_whyNot X p _
      refine e_v2i W lm_X8_144 dX8_secret_23 (X.S.l 0 rfl) (X.S.k 0 rfl rfl) rfl rfl rfl rfl ?_
      refine g_iS4 dX8_secret_26 rfl rfl ?_
      refine g_iL4 dX8_secret_28 ?_
      refine g_ifne dX8_secret_30 (fun c30 => ?_) (fun c30 => ?_)
      · refine g_aL0 dX8_secret_54 ?_
        refine g_iL4 dX8_secret_55 ?_
        refine e_v1i (c_refuse X _) lm_X8_86 dX8_secret_57 (X.S.l 0 rfl) (X.S.k 0 rfl rfl) rfl rfl rfl rfl ?_
        exact e_iret rfl dX8_secret_60 rfl rfl (if_neg c30).symm (if_neg c30).symm
      · obtain ⟨P, hP, rfl⟩ := ip1 (by have := X.b1; omega) (wn0 c30).1
        have hP8 : P < 8 := by have := X.b1; omega
        obtain ⟨F, hF, rfl⟩ := ip1 (by have := X.b4; omega) (an1 (wn0 c30).2.1).1
        have hF7 : F < 7 := by have := X.b4; omega
        have eF := pn_nI (n := F) (by omega)
        have eP := pn_nI (n := P) (by omega)
        refine g_aL0 dX8_secret_33 ?_
        refine g_aL0 dX8_secret_34 ?_
        refine g_iL2 dX8_secret_35 ?_
        refine g_iL3 dX8_secret_36 ?_
        refine g_aL0 dX8_secret_37 ?_
        refine g_getR lf_X8_40 (X.S.l 0 rfl) (X.S.k 0 rfl rfl) (X.S.r 0 2 (b := 38) rfl rfl) dX8_secret_38 ?_
        refine g_iL1 dX8_secret_41 ?_
        refine e_v1i (c_readingCorners X.S X.hc X.P (X.c 2 rfl) X.b2 (X.c 4 rfl) X.b4 hP8) lm_X8_181 dX8_secret_42 (X.S.l 38 rfl) (X.S.k 38 rfl rfl) rfl rfl rfl rfl ?_
        refine e_v3i (c_soonestMinutes X hF7 _ _) lm_X8_170 dX8_secret_45 (X.S.l 0 rfl) (X.S.k 0 rfl rfl) rfl rfl rfl rfl ?_
        have X1 : CX (gsH h t (cn 4) F b (rcF (gI h t 13) (fun c => wrF h t (cn 2) P (gI h (t + 6) c)) (cn 4) 0 0)) t cn := X.wy (gsH_wy _ _ _ _ _ _)
        have r := gsH_w (h := h) X.hc X.b4 hF7 b (rcF (gI h t 13) (fun c => wrF h t (cn 2) P (gI h (t + 6) c)) (cn 4) 0 0)
        refine e_v1i (c_answer X1 _) lm_X8_107 dX8_secret_48 (X1.S.l 0 rfl) (X1.S.k 0 rfl rfl) rfl rfl rfl rfl ?_
        refine g_goto dX8_secret_51 ?_
        exact e_iret rfl dX8_secret_60 rfl rfl (by rw [if_pos c30, eF, eP]) (by rw [if_pos c30, eF, eP])
theorem m_secretAt {h : Hp} {t : Nat} {cn : Nat → Nat} (X : CX h t cn) (p a b k : Int32) : gCi 11 0 0 yX8_secretAt cX8_secretAt 6 (some .int) [.ref 0, .int p, .int a, .int b, .int k] h (some (.int (if (wnF (ipF p (nI (cn 1))) (anF (ipF a (nI (cn 4))) (ipF b (nI (cn 4)))) (thF (gI h 38 3) p)) = 0 then (if cwY (swF h t (cn 4) (pn a) b (bt (rcF (gI h t 13) (fun c => wrF h t (cn 2) (pn p) (gI h (t + 6) c)) (cn 4) 0 0))) k = 0 then wpG (swF h t (cn 4) (pn a) b (bt (rcF (gI h t 13) (fun c => wrF h t (cn 2) (pn p) (gI h (t + 6) c)) (cn 4) 0 0))) k else -1) else -1))) (if (wnF (ipF p (nI (cn 1))) (anF (ipF a (nI (cn 4))) (ipF b (nI (cn 4)))) (thF (gI h 38 3) p)) = 0 then pI (gsH h t (cn 4) (pn a) b (rcF (gI h t 13) (fun c => wrF h t (cn 2) (pn p) (gI h (t + 6) c)) (cn 4) 0 0)) 0 8 (cwY (swF h t (cn 4) (pn a) b (bt (rcF (gI h t 13) (fun c => wrF h t (cn 2) (pn p) (gI h (t + 6) c)) (cn 4) 0 0))) k) else pI h 0 8 (wnF (ipF p (nI (cn 1))) (anF (ipF a (nI (cn 4))) (ipF b (nI (cn 4)))) (thF (gI h 38 3) p))) := by
  refine g_entry (lv := [.ref 0, .int p, .int a, .int b, .int k, .retAddr 0]) 1 pn_X8 rfl rfl rfl ?_
  refine g_aL0 dX8_secretAt_0 ?_
  refine g_iL1 dX8_secretAt_1 ?_
  refine g_aL0 dX8_secretAt_2 ?_
  refine g_iL2 dX8_secretAt_3 ?_
  refine e_v1i (c_isCorner X _) lm_X8_167 dX8_secretAt_4 (X.S.l 0 rfl) (X.S.k 0 rfl rfl) rfl rfl rfl rfl ?_
  refine g_ifeq dX8_secretAt_7 (fun c7 => ?_) (fun c7 => ?_)
  · refine g_iconst dX8_secretAt_22 ?_
    have ef : (anF (ipF a (nI (cn 4))) (ipF b (nI (cn 4)))) = 0 := (if_pos c7)
    have W  : gCi 1 0 0 yX8_whyNot cX8_whyNot 3 (some .int) [.ref 0, .int p, .int 0] h (some (.int (wnF (ipF p (nI (cn 1))) (anF (ipF a (nI (cn 4))) (ipF b (nI (cn 4)))) (thF (gI h 38 3) p)))) h := by rw [ef]; exact c_whyNot X p _
    refine e_v2i W lm_X8_144 dX8_secretAt_23 (X.S.l 0 rfl) (X.S.k 0 rfl rfl) rfl rfl rfl rfl ?_
    refine g_iS5 dX8_secretAt_26 rfl rfl ?_
    refine g_iL5 dX8_secretAt_28 ?_
    refine g_ifeq dX8_secretAt_30 (fun c30 => ?_) (fun c30 => ?_)
    · obtain ⟨P, hP, rfl⟩ := ip1 (by have := X.b1; omega) (wn0 c30).1
      have hP8 : P < 8 := by have := X.b1; omega
      obtain ⟨F, hF, rfl⟩ := ip1 (by have := X.b4; omega) (an1 (wn0 c30).2.1).1
      have hF7 : F < 7 := by have := X.b4; omega
      have eF := pn_nI (n := F) (by omega)
      have eP := pn_nI (n := P) (by omega)
      refine g_aL0 dX8_secretAt_40 ?_
      refine g_getR lf_X8_47 (X.S.l 0 rfl) (X.S.k 0 rfl rfl) (X.S.r 0 3 (b := 45) rfl rfl) dX8_secretAt_41 ?_
      refine g_aL0 dX8_secretAt_44 ?_
      refine g_getR lf_X8_19 (X.S.l 0 rfl) (X.S.k 0 rfl rfl) X.T dX8_secretAt_45 ?_
      refine g_iL2 dX8_secretAt_48 ?_
      refine g_iL3 dX8_secretAt_49 ?_
      refine g_aL0 dX8_secretAt_50 ?_
      refine g_getR lf_X8_40 (X.S.l 0 rfl) (X.S.k 0 rfl rfl) (X.S.r 0 2 (b := 38) rfl rfl) dX8_secretAt_51 ?_
      refine g_iL1 dX8_secretAt_54 ?_
      refine e_v1i (c_readingCorners X.S X.hc X.P (X.c 2 rfl) X.b2 (X.c 4 rfl) X.b4 hP8) lm_X8_181 dX8_secretAt_55 (X.S.l 38 rfl) (X.S.k 38 rfl rfl) rfl rfl rfl rfl ?_
      refine e_v4u (c_goSoonest X.S X.hc (X.c 4 rfl) X.b4 hF7 _ _) lm_X8_174 dX8_secretAt_58 (X.S.l 45 rfl) (X.S.k 45 rfl rfl) rfl rfl rfl rfl ?_
      show gY _ _ _ _ _ _ _ _ _ _ _ _ _ (gsH h t (cn 4) F b (rcF (gI h t 13) (fun c => wrF h t (cn 2) P (gI h (t + 6) c)) (cn 4) 0 0))
      have X1 : CX (gsH h t (cn 4) F b (rcF (gI h t 13) (fun c => wrF h t (cn 2) P (gI h (t + 6) c)) (cn 4) 0 0)) t cn := X.wy (gsH_wy _ _ _ _ _ _)
      have r := gsH_w (h := h) X.hc X.b4 hF7 b (rcF (gI h t 13) (fun c => wrF h t (cn 2) P (gI h (t + 6) c)) (cn 4) 0 0)
      refine g_aL0 dX8_secretAt_61 ?_
      refine g_iL4 dX8_secretAt_62 ?_
      refine e_v1i (c_cornerOfWay X1 r _) lm_X8_178 dX8_secretAt_64 (X1.S.l 0 rfl) (X1.S.k 0 rfl rfl) rfl rfl rfl rfl ?_
      exact e_iret rfl dX8_secretAt_67 rfl rfl (by rw [if_pos c30, eF, eP]) (by rw [if_pos c30, eF, eP])
    · refine g_aL0 dX8_secretAt_33 ?_
      refine g_iL5 dX8_secretAt_34 ?_
      refine e_v1i (c_refuse X _) lm_X8_86 dX8_secretAt_36 (X.S.l 0 rfl) (X.S.k 0 rfl rfl) rfl rfl rfl rfl ?_
      exact e_iret rfl dX8_secretAt_39 rfl rfl (if_neg c30).symm (if_neg c30).symm
  · refine g_aL0 dX8_secretAt_10 ?_
    refine g_iL3 dX8_secretAt_11 ?_
    refine e_v1i (c_isCorner X _) lm_X8_167 dX8_secretAt_12 (X.S.l 0 rfl) (X.S.k 0 rfl rfl) rfl rfl rfl rfl ?_
    refine g_ifeq dX8_secretAt_15 (fun c15 => ?_) (fun c15 => ?_)
    · refine g_iconst dX8_secretAt_22 ?_
      have ef : (anF (ipF a (nI (cn 4))) (ipF b (nI (cn 4)))) = 0 := ((if_neg c7).trans (if_pos c15))
      have W  : gCi 1 0 0 yX8_whyNot cX8_whyNot 3 (some .int) [.ref 0, .int p, .int 0] h (some (.int (wnF (ipF p (nI (cn 1))) (anF (ipF a (nI (cn 4))) (ipF b (nI (cn 4)))) (thF (gI h 38 3) p)))) h := by rw [ef]; exact c_whyNot X p _
      refine e_v2i W lm_X8_144 dX8_secretAt_23 (X.S.l 0 rfl) (X.S.k 0 rfl rfl) rfl rfl rfl rfl ?_
      refine g_iS5 dX8_secretAt_26 rfl rfl ?_
      refine g_iL5 dX8_secretAt_28 ?_
      refine g_ifeq dX8_secretAt_30 (fun c30 => ?_) (fun c30 => ?_)
      · obtain ⟨P, hP, rfl⟩ := ip1 (by have := X.b1; omega) (wn0 c30).1
        have hP8 : P < 8 := by have := X.b1; omega
        obtain ⟨F, hF, rfl⟩ := ip1 (by have := X.b4; omega) (an1 (wn0 c30).2.1).1
        have hF7 : F < 7 := by have := X.b4; omega
        have eF := pn_nI (n := F) (by omega)
        have eP := pn_nI (n := P) (by omega)
        refine g_aL0 dX8_secretAt_40 ?_
        refine g_getR lf_X8_47 (X.S.l 0 rfl) (X.S.k 0 rfl rfl) (X.S.r 0 3 (b := 45) rfl rfl) dX8_secretAt_41 ?_
        refine g_aL0 dX8_secretAt_44 ?_
        refine g_getR lf_X8_19 (X.S.l 0 rfl) (X.S.k 0 rfl rfl) X.T dX8_secretAt_45 ?_
        refine g_iL2 dX8_secretAt_48 ?_
        refine g_iL3 dX8_secretAt_49 ?_
        refine g_aL0 dX8_secretAt_50 ?_
        refine g_getR lf_X8_40 (X.S.l 0 rfl) (X.S.k 0 rfl rfl) (X.S.r 0 2 (b := 38) rfl rfl) dX8_secretAt_51 ?_
        refine g_iL1 dX8_secretAt_54 ?_
        refine e_v1i (c_readingCorners X.S X.hc X.P (X.c 2 rfl) X.b2 (X.c 4 rfl) X.b4 hP8) lm_X8_181 dX8_secretAt_55 (X.S.l 38 rfl) (X.S.k 38 rfl rfl) rfl rfl rfl rfl ?_
        refine e_v4u (c_goSoonest X.S X.hc (X.c 4 rfl) X.b4 hF7 _ _) lm_X8_174 dX8_secretAt_58 (X.S.l 45 rfl) (X.S.k 45 rfl rfl) rfl rfl rfl rfl ?_
        show gY _ _ _ _ _ _ _ _ _ _ _ _ _ (gsH h t (cn 4) F b (rcF (gI h t 13) (fun c => wrF h t (cn 2) P (gI h (t + 6) c)) (cn 4) 0 0))
        have X1 : CX (gsH h t (cn 4) F b (rcF (gI h t 13) (fun c => wrF h t (cn 2) P (gI h (t + 6) c)) (cn 4) 0 0)) t cn := X.wy (gsH_wy _ _ _ _ _ _)
        have r := gsH_w (h := h) X.hc X.b4 hF7 b (rcF (gI h t 13) (fun c => wrF h t (cn 2) P (gI h (t + 6) c)) (cn 4) 0 0)
        refine g_aL0 dX8_secretAt_61 ?_
        refine g_iL4 dX8_secretAt_62 ?_
        refine e_v1i (c_cornerOfWay X1 r _) lm_X8_178 dX8_secretAt_64 (X1.S.l 0 rfl) (X1.S.k 0 rfl rfl) rfl rfl rfl rfl ?_
        exact e_iret rfl dX8_secretAt_67 rfl rfl (by rw [if_pos c30, eF, eP]) (by rw [if_pos c30, eF, eP])
      · refine g_aL0 dX8_secretAt_33 ?_
        refine g_iL5 dX8_secretAt_34 ?_
        refine e_v1i (c_refuse X _) lm_X8_86 dX8_secretAt_36 (X.S.l 0 rfl) (X.S.k 0 rfl rfl) rfl rfl rfl rfl ?_
        exact e_iret rfl dX8_secretAt_39 rfl rfl (if_neg c30).symm (if_neg c30).symm
    · refine g_iconst dX8_secretAt_18 ?_
      refine g_goto dX8_secretAt_19 ?_
      have ef : (anF (ipF a (nI (cn 4))) (ipF b (nI (cn 4)))) = 1 := ((if_neg c7).trans (if_neg c15))
      have W  : gCi 1 0 0 yX8_whyNot cX8_whyNot 3 (some .int) [.ref 0, .int p, .int 1] h (some (.int (wnF (ipF p (nI (cn 1))) (anF (ipF a (nI (cn 4))) (ipF b (nI (cn 4)))) (thF (gI h 38 3) p)))) h := by rw [ef]; exact c_whyNot X p _
      refine e_v2i W lm_X8_144 dX8_secretAt_23 (X.S.l 0 rfl) (X.S.k 0 rfl rfl) rfl rfl rfl rfl ?_
      refine g_iS5 dX8_secretAt_26 rfl rfl ?_
      refine g_iL5 dX8_secretAt_28 ?_
      refine g_ifeq dX8_secretAt_30 (fun c30 => ?_) (fun c30 => ?_)
      · obtain ⟨P, hP, rfl⟩ := ip1 (by have := X.b1; omega) (wn0 c30).1
        have hP8 : P < 8 := by have := X.b1; omega
        obtain ⟨F, hF, rfl⟩ := ip1 (by have := X.b4; omega) (an1 (wn0 c30).2.1).1
        have hF7 : F < 7 := by have := X.b4; omega
        have eF := pn_nI (n := F) (by omega)
        have eP := pn_nI (n := P) (by omega)
        refine g_aL0 dX8_secretAt_40 ?_
        refine g_getR lf_X8_47 (X.S.l 0 rfl) (X.S.k 0 rfl rfl) (X.S.r 0 3 (b := 45) rfl rfl) dX8_secretAt_41 ?_
        refine g_aL0 dX8_secretAt_44 ?_
        refine g_getR lf_X8_19 (X.S.l 0 rfl) (X.S.k 0 rfl rfl) X.T dX8_secretAt_45 ?_
        refine g_iL2 dX8_secretAt_48 ?_
        refine g_iL3 dX8_secretAt_49 ?_
        refine g_aL0 dX8_secretAt_50 ?_
        refine g_getR lf_X8_40 (X.S.l 0 rfl) (X.S.k 0 rfl rfl) (X.S.r 0 2 (b := 38) rfl rfl) dX8_secretAt_51 ?_
        refine g_iL1 dX8_secretAt_54 ?_
        refine e_v1i (c_readingCorners X.S X.hc X.P (X.c 2 rfl) X.b2 (X.c 4 rfl) X.b4 hP8) lm_X8_181 dX8_secretAt_55 (X.S.l 38 rfl) (X.S.k 38 rfl rfl) rfl rfl rfl rfl ?_
        refine e_v4u (c_goSoonest X.S X.hc (X.c 4 rfl) X.b4 hF7 _ _) lm_X8_174 dX8_secretAt_58 (X.S.l 45 rfl) (X.S.k 45 rfl rfl) rfl rfl rfl rfl ?_
        show gY _ _ _ _ _ _ _ _ _ _ _ _ _ (gsH h t (cn 4) F b (rcF (gI h t 13) (fun c => wrF h t (cn 2) P (gI h (t + 6) c)) (cn 4) 0 0))
        have X1 : CX (gsH h t (cn 4) F b (rcF (gI h t 13) (fun c => wrF h t (cn 2) P (gI h (t + 6) c)) (cn 4) 0 0)) t cn := X.wy (gsH_wy _ _ _ _ _ _)
        have r := gsH_w (h := h) X.hc X.b4 hF7 b (rcF (gI h t 13) (fun c => wrF h t (cn 2) P (gI h (t + 6) c)) (cn 4) 0 0)
        refine g_aL0 dX8_secretAt_61 ?_
        refine g_iL4 dX8_secretAt_62 ?_
        refine e_v1i (c_cornerOfWay X1 r _) lm_X8_178 dX8_secretAt_64 (X1.S.l 0 rfl) (X1.S.k 0 rfl rfl) rfl rfl rfl rfl ?_
        exact e_iret rfl dX8_secretAt_67 rfl rfl (by rw [if_pos c30, eF, eP]) (by rw [if_pos c30, eF, eP])
      · refine g_aL0 dX8_secretAt_33 ?_
        refine g_iL5 dX8_secretAt_34 ?_
        refine e_v1i (c_refuse X _) lm_X8_86 dX8_secretAt_36 (X.S.l 0 rfl) (X.S.k 0 rfl rfl) rfl rfl rfl rfl ?_
        exact e_iret rfl dX8_secretAt_39 rfl rfl (if_neg c30).symm (if_neg c30).symm
def tkF (k : Int32) : Int32 := if k = 1 then 1 else 0
def wsF (y : Int32) (s : PW) : Int32 := if y = 0 then (if nI s.1.length = 0 then 6 else 0) else y
theorem c_whyNotSafest {h : Hp} {t : Nat} {cn : Nat → Nat} (X : CX h t cn) (p a b : Int32) : gCi 11 0 0 yX8_whyNotSafest cX8_whyNotSafest 5 (some .int) [.ref 0, .int p, .int a, .int b] h (some (.int (wsF (wnF (ipF p (nI (cn 1))) (anF (ipF a (nI (cn 4))) (ipF b (nI (cn 4)))) (thF (gI h 38 3) p)) (fwyF h t (cn 4) (pn a) b (tkF (gI h (t + 2) (pn p))))))) (if (wnF (ipF p (nI (cn 1))) (anF (ipF a (nI (cn 4))) (ipF b (nI (cn 4)))) (thF (gI h 38 3) p)) = 0 then (gfH h t (cn 4) (pn a) b (tkF (gI h (t + 2) (pn p)))) else h) := by
  refine g_entry (lv := [.ref 0, .int p, .int a, .int b, .retAddr 0]) 1 pn_X8 rfl rfl rfl ?_
  refine g_aL0 dX8_whyNotSafest_0 ?_
  refine g_iL1 dX8_whyNotSafest_1 ?_
  refine g_aL0 dX8_whyNotSafest_2 ?_
  refine g_iL2 dX8_whyNotSafest_3 ?_
  refine e_v1i (c_isCorner X _) lm_X8_167 dX8_whyNotSafest_4 (X.S.l 0 rfl) (X.S.k 0 rfl rfl) rfl rfl rfl rfl ?_
  refine g_ifeq dX8_whyNotSafest_7 (fun c7 => ?_) (fun c7 => ?_)
  · refine g_iconst dX8_whyNotSafest_22 ?_
    have ef : (anF (ipF a (nI (cn 4))) (ipF b (nI (cn 4)))) = 0 := (if_pos c7)
    have W  : gCi 1 0 0 yX8_whyNot cX8_whyNot 3 (some .int) [.ref 0, .int p, .int 0] h (some (.int (wnF (ipF p (nI (cn 1))) (anF (ipF a (nI (cn 4))) (ipF b (nI (cn 4)))) (thF (gI h 38 3) p)))) h := by rw [ef]; exact c_whyNot X p _
    refine e_v2i W lm_X8_144 dX8_whyNotSafest_23 (X.S.l 0 rfl) (X.S.k 0 rfl rfl) rfl rfl rfl rfl ?_
    refine g_iS4 dX8_whyNotSafest_26 rfl rfl ?_
    refine g_iL4 dX8_whyNotSafest_28 ?_
    refine g_ifeq dX8_whyNotSafest_30 (fun c30 => ?_) (fun c30 => ?_)
    · obtain ⟨P, hP, rfl⟩ := ip1 (by have := X.b1; omega) (wn0 c30).1
      have hP8 : P < 8 := by have := X.b1; omega
      obtain ⟨F, hF, rfl⟩ := ip1 (by have := X.b4; omega) (an1 (wn0 c30).2.1).1
      have hF7 : F < 7 := by have := X.b4; omega
      have eF := pn_nI (n := F) (by omega)
      have eP := pn_nI (n := P) (by omega)
      refine g_aL0 dX8_whyNotSafest_36 ?_
      refine g_getR lf_X8_47 (X.S.l 0 rfl) (X.S.k 0 rfl rfl) (X.S.r 0 3 (b := 45) rfl rfl) dX8_whyNotSafest_37 ?_
      refine g_aL0 dX8_whyNotSafest_40 ?_
      refine g_getR lf_X8_19 (X.S.l 0 rfl) (X.S.k 0 rfl rfl) X.T dX8_whyNotSafest_41 ?_
      refine g_iL2 dX8_whyNotSafest_44 ?_
      refine g_iL3 dX8_whyNotSafest_45 ?_
      refine g_aL0 dX8_whyNotSafest_46 ?_
      refine g_getR lf_X8_19 (X.S.l 0 rfl) (X.S.k 0 rfl rfl) X.T dX8_whyNotSafest_47 ?_
      refine g_getR lf_X8_114 (X.S.cl X.hc 0 rfl) (X.S.ck X.hc) (X.S.cr X.hc 6 (j := 2) rfl rfl) dX8_whyNotSafest_50 ?_
      refine g_iL1 dX8_whyNotSafest_53 ?_
      refine g_ialoadN (X.S.cl X.hc 2 rfl) (X.S.cka X.hc 2 rfl rfl) (X.S.cn X.hc 2 (n := 8) rfl rfl rfl) hP8 (by decide) dX8_whyNotSafest_54 ?_
      refine g_iconst dX8_whyNotSafest_55 ?_
      refine g_icne dX8_whyNotSafest_56 (fun c56 => ?_) (fun c56 => ?_)
      · refine g_iconst dX8_whyNotSafest_63 ?_
        have ek : (tkF (gI h (t + 2) P)) = 0 := if_neg c56
        have W  : gCi 10 0 0 yX7_goSafest cX7_goSafest 5 none [.ref 45, .ref t, .int (nI F), .int b, .int 0] h none (gfH h t (cn 4) F b (tkF (gI h (t + 2) P))) := by rw [ek]; exact c_goSafest X.S X.hc (X.c 4 rfl) X.b4 hF7 b 0 (by decide)
        refine e_v4u W lm_X8_322 dX8_whyNotSafest_64 (X.S.l 45 rfl) (X.S.k 45 rfl rfl) rfl rfl rfl rfl ?_
        have X1 : CX (gfH h t (cn 4) F b (tkF (gI h (t + 2) P))) t cn := X.wy (gfH_wy _ _ _ _ _ _)
        have r := gfH_w (h := h) X.hc X.b4 hF7 b (tkF (gI h (t + 2) P))
        refine g_aL0 dX8_whyNotSafest_67 ?_
        refine g_getR lf_X8_47 (X1.S.l 0 rfl) (X1.S.k 0 rfl rfl) (X1.S.r 0 3 (b := 45) rfl rfl) dX8_whyNotSafest_68 ?_
        refine g_gI lf_X8_326 (X1.S.l 45 rfl) (X1.S.k 45 rfl rfl) dX8_whyNotSafest_71 ?_
        rw [r.2.1]
        refine g_ifne dX8_whyNotSafest_74 (fun c74 => ?_) (fun c74 => ?_)
        · refine g_iconst dX8_whyNotSafest_82 ?_
          exact e_iret rfl dX8_whyNotSafest_83 rfl rfl (by unfold wsF; rw [if_pos c30, eF, eP]; exact (if_neg c74).symm) (by rw [if_pos c30, eF, eP])
        · refine g_bipush dX8_whyNotSafest_77 ?_
          refine g_goto dX8_whyNotSafest_79 ?_
          exact e_iret rfl dX8_whyNotSafest_83 rfl rfl (by unfold wsF; rw [if_pos c30, eF, eP]; exact (if_pos c74).symm) (by rw [if_pos c30, eF, eP])
      · refine g_iconst dX8_whyNotSafest_59 ?_
        refine g_goto dX8_whyNotSafest_60 ?_
        have ek : (tkF (gI h (t + 2) P)) = 1 := if_pos c56
        have W  : gCi 10 0 0 yX7_goSafest cX7_goSafest 5 none [.ref 45, .ref t, .int (nI F), .int b, .int 1] h none (gfH h t (cn 4) F b (tkF (gI h (t + 2) P))) := by rw [ek]; exact c_goSafest X.S X.hc (X.c 4 rfl) X.b4 hF7 b 1 (by decide)
        refine e_v4u W lm_X8_322 dX8_whyNotSafest_64 (X.S.l 45 rfl) (X.S.k 45 rfl rfl) rfl rfl rfl rfl ?_
        have X1 : CX (gfH h t (cn 4) F b (tkF (gI h (t + 2) P))) t cn := X.wy (gfH_wy _ _ _ _ _ _)
        have r := gfH_w (h := h) X.hc X.b4 hF7 b (tkF (gI h (t + 2) P))
        refine g_aL0 dX8_whyNotSafest_67 ?_
        refine g_getR lf_X8_47 (X1.S.l 0 rfl) (X1.S.k 0 rfl rfl) (X1.S.r 0 3 (b := 45) rfl rfl) dX8_whyNotSafest_68 ?_
        refine g_gI lf_X8_326 (X1.S.l 45 rfl) (X1.S.k 45 rfl rfl) dX8_whyNotSafest_71 ?_
        rw [r.2.1]
        refine g_ifne dX8_whyNotSafest_74 (fun c74 => ?_) (fun c74 => ?_)
        · refine g_iconst dX8_whyNotSafest_82 ?_
          exact e_iret rfl dX8_whyNotSafest_83 rfl rfl (by unfold wsF; rw [if_pos c30, eF, eP]; exact (if_neg c74).symm) (by rw [if_pos c30, eF, eP])
        · refine g_bipush dX8_whyNotSafest_77 ?_
          refine g_goto dX8_whyNotSafest_79 ?_
          exact e_iret rfl dX8_whyNotSafest_83 rfl rfl (by unfold wsF; rw [if_pos c30, eF, eP]; exact (if_pos c74).symm) (by rw [if_pos c30, eF, eP])
    · refine g_iL4 dX8_whyNotSafest_33 ?_
      exact e_iret rfl dX8_whyNotSafest_35 rfl rfl (if_neg c30).symm (if_neg c30).symm
  · refine g_aL0 dX8_whyNotSafest_10 ?_
    refine g_iL3 dX8_whyNotSafest_11 ?_
    refine e_v1i (c_isCorner X _) lm_X8_167 dX8_whyNotSafest_12 (X.S.l 0 rfl) (X.S.k 0 rfl rfl) rfl rfl rfl rfl ?_
    refine g_ifeq dX8_whyNotSafest_15 (fun c15 => ?_) (fun c15 => ?_)
    · refine g_iconst dX8_whyNotSafest_22 ?_
      have ef : (anF (ipF a (nI (cn 4))) (ipF b (nI (cn 4)))) = 0 := ((if_neg c7).trans (if_pos c15))
      have W  : gCi 1 0 0 yX8_whyNot cX8_whyNot 3 (some .int) [.ref 0, .int p, .int 0] h (some (.int (wnF (ipF p (nI (cn 1))) (anF (ipF a (nI (cn 4))) (ipF b (nI (cn 4)))) (thF (gI h 38 3) p)))) h := by rw [ef]; exact c_whyNot X p _
      refine e_v2i W lm_X8_144 dX8_whyNotSafest_23 (X.S.l 0 rfl) (X.S.k 0 rfl rfl) rfl rfl rfl rfl ?_
      refine g_iS4 dX8_whyNotSafest_26 rfl rfl ?_
      refine g_iL4 dX8_whyNotSafest_28 ?_
      refine g_ifeq dX8_whyNotSafest_30 (fun c30 => ?_) (fun c30 => ?_)
      · obtain ⟨P, hP, rfl⟩ := ip1 (by have := X.b1; omega) (wn0 c30).1
        have hP8 : P < 8 := by have := X.b1; omega
        obtain ⟨F, hF, rfl⟩ := ip1 (by have := X.b4; omega) (an1 (wn0 c30).2.1).1
        have hF7 : F < 7 := by have := X.b4; omega
        have eF := pn_nI (n := F) (by omega)
        have eP := pn_nI (n := P) (by omega)
        refine g_aL0 dX8_whyNotSafest_36 ?_
        refine g_getR lf_X8_47 (X.S.l 0 rfl) (X.S.k 0 rfl rfl) (X.S.r 0 3 (b := 45) rfl rfl) dX8_whyNotSafest_37 ?_
        refine g_aL0 dX8_whyNotSafest_40 ?_
        refine g_getR lf_X8_19 (X.S.l 0 rfl) (X.S.k 0 rfl rfl) X.T dX8_whyNotSafest_41 ?_
        refine g_iL2 dX8_whyNotSafest_44 ?_
        refine g_iL3 dX8_whyNotSafest_45 ?_
        refine g_aL0 dX8_whyNotSafest_46 ?_
        refine g_getR lf_X8_19 (X.S.l 0 rfl) (X.S.k 0 rfl rfl) X.T dX8_whyNotSafest_47 ?_
        refine g_getR lf_X8_114 (X.S.cl X.hc 0 rfl) (X.S.ck X.hc) (X.S.cr X.hc 6 (j := 2) rfl rfl) dX8_whyNotSafest_50 ?_
        refine g_iL1 dX8_whyNotSafest_53 ?_
        refine g_ialoadN (X.S.cl X.hc 2 rfl) (X.S.cka X.hc 2 rfl rfl) (X.S.cn X.hc 2 (n := 8) rfl rfl rfl) hP8 (by decide) dX8_whyNotSafest_54 ?_
        refine g_iconst dX8_whyNotSafest_55 ?_
        refine g_icne dX8_whyNotSafest_56 (fun c56 => ?_) (fun c56 => ?_)
        · refine g_iconst dX8_whyNotSafest_63 ?_
          have ek : (tkF (gI h (t + 2) P)) = 0 := if_neg c56
          have W  : gCi 10 0 0 yX7_goSafest cX7_goSafest 5 none [.ref 45, .ref t, .int (nI F), .int b, .int 0] h none (gfH h t (cn 4) F b (tkF (gI h (t + 2) P))) := by rw [ek]; exact c_goSafest X.S X.hc (X.c 4 rfl) X.b4 hF7 b 0 (by decide)
          refine e_v4u W lm_X8_322 dX8_whyNotSafest_64 (X.S.l 45 rfl) (X.S.k 45 rfl rfl) rfl rfl rfl rfl ?_
          have X1 : CX (gfH h t (cn 4) F b (tkF (gI h (t + 2) P))) t cn := X.wy (gfH_wy _ _ _ _ _ _)
          have r := gfH_w (h := h) X.hc X.b4 hF7 b (tkF (gI h (t + 2) P))
          refine g_aL0 dX8_whyNotSafest_67 ?_
          refine g_getR lf_X8_47 (X1.S.l 0 rfl) (X1.S.k 0 rfl rfl) (X1.S.r 0 3 (b := 45) rfl rfl) dX8_whyNotSafest_68 ?_
          refine g_gI lf_X8_326 (X1.S.l 45 rfl) (X1.S.k 45 rfl rfl) dX8_whyNotSafest_71 ?_
          rw [r.2.1]
          refine g_ifne dX8_whyNotSafest_74 (fun c74 => ?_) (fun c74 => ?_)
          · refine g_iconst dX8_whyNotSafest_82 ?_
            exact e_iret rfl dX8_whyNotSafest_83 rfl rfl (by unfold wsF; rw [if_pos c30, eF, eP]; exact (if_neg c74).symm) (by rw [if_pos c30, eF, eP])
          · refine g_bipush dX8_whyNotSafest_77 ?_
            refine g_goto dX8_whyNotSafest_79 ?_
            exact e_iret rfl dX8_whyNotSafest_83 rfl rfl (by unfold wsF; rw [if_pos c30, eF, eP]; exact (if_pos c74).symm) (by rw [if_pos c30, eF, eP])
        · refine g_iconst dX8_whyNotSafest_59 ?_
          refine g_goto dX8_whyNotSafest_60 ?_
          have ek : (tkF (gI h (t + 2) P)) = 1 := if_pos c56
          have W  : gCi 10 0 0 yX7_goSafest cX7_goSafest 5 none [.ref 45, .ref t, .int (nI F), .int b, .int 1] h none (gfH h t (cn 4) F b (tkF (gI h (t + 2) P))) := by rw [ek]; exact c_goSafest X.S X.hc (X.c 4 rfl) X.b4 hF7 b 1 (by decide)
          refine e_v4u W lm_X8_322 dX8_whyNotSafest_64 (X.S.l 45 rfl) (X.S.k 45 rfl rfl) rfl rfl rfl rfl ?_
          have X1 : CX (gfH h t (cn 4) F b (tkF (gI h (t + 2) P))) t cn := X.wy (gfH_wy _ _ _ _ _ _)
          have r := gfH_w (h := h) X.hc X.b4 hF7 b (tkF (gI h (t + 2) P))
          refine g_aL0 dX8_whyNotSafest_67 ?_
          refine g_getR lf_X8_47 (X1.S.l 0 rfl) (X1.S.k 0 rfl rfl) (X1.S.r 0 3 (b := 45) rfl rfl) dX8_whyNotSafest_68 ?_
          refine g_gI lf_X8_326 (X1.S.l 45 rfl) (X1.S.k 45 rfl rfl) dX8_whyNotSafest_71 ?_
          rw [r.2.1]
          refine g_ifne dX8_whyNotSafest_74 (fun c74 => ?_) (fun c74 => ?_)
          · refine g_iconst dX8_whyNotSafest_82 ?_
            exact e_iret rfl dX8_whyNotSafest_83 rfl rfl (by unfold wsF; rw [if_pos c30, eF, eP]; exact (if_neg c74).symm) (by rw [if_pos c30, eF, eP])
          · refine g_bipush dX8_whyNotSafest_77 ?_
            refine g_goto dX8_whyNotSafest_79 ?_
            exact e_iret rfl dX8_whyNotSafest_83 rfl rfl (by unfold wsF; rw [if_pos c30, eF, eP]; exact (if_pos c74).symm) (by rw [if_pos c30, eF, eP])
      · refine g_iL4 dX8_whyNotSafest_33 ?_
        exact e_iret rfl dX8_whyNotSafest_35 rfl rfl (if_neg c30).symm (if_neg c30).symm
    · refine g_iconst dX8_whyNotSafest_18 ?_
      refine g_goto dX8_whyNotSafest_19 ?_
      have ef : (anF (ipF a (nI (cn 4))) (ipF b (nI (cn 4)))) = 1 := ((if_neg c7).trans (if_neg c15))
      have W  : gCi 1 0 0 yX8_whyNot cX8_whyNot 3 (some .int) [.ref 0, .int p, .int 1] h (some (.int (wnF (ipF p (nI (cn 1))) (anF (ipF a (nI (cn 4))) (ipF b (nI (cn 4)))) (thF (gI h 38 3) p)))) h := by rw [ef]; exact c_whyNot X p _
      refine e_v2i W lm_X8_144 dX8_whyNotSafest_23 (X.S.l 0 rfl) (X.S.k 0 rfl rfl) rfl rfl rfl rfl ?_
      refine g_iS4 dX8_whyNotSafest_26 rfl rfl ?_
      refine g_iL4 dX8_whyNotSafest_28 ?_
      refine g_ifeq dX8_whyNotSafest_30 (fun c30 => ?_) (fun c30 => ?_)
      · obtain ⟨P, hP, rfl⟩ := ip1 (by have := X.b1; omega) (wn0 c30).1
        have hP8 : P < 8 := by have := X.b1; omega
        obtain ⟨F, hF, rfl⟩ := ip1 (by have := X.b4; omega) (an1 (wn0 c30).2.1).1
        have hF7 : F < 7 := by have := X.b4; omega
        have eF := pn_nI (n := F) (by omega)
        have eP := pn_nI (n := P) (by omega)
        refine g_aL0 dX8_whyNotSafest_36 ?_
        refine g_getR lf_X8_47 (X.S.l 0 rfl) (X.S.k 0 rfl rfl) (X.S.r 0 3 (b := 45) rfl rfl) dX8_whyNotSafest_37 ?_
        refine g_aL0 dX8_whyNotSafest_40 ?_
        refine g_getR lf_X8_19 (X.S.l 0 rfl) (X.S.k 0 rfl rfl) X.T dX8_whyNotSafest_41 ?_
        refine g_iL2 dX8_whyNotSafest_44 ?_
        refine g_iL3 dX8_whyNotSafest_45 ?_
        refine g_aL0 dX8_whyNotSafest_46 ?_
        refine g_getR lf_X8_19 (X.S.l 0 rfl) (X.S.k 0 rfl rfl) X.T dX8_whyNotSafest_47 ?_
        refine g_getR lf_X8_114 (X.S.cl X.hc 0 rfl) (X.S.ck X.hc) (X.S.cr X.hc 6 (j := 2) rfl rfl) dX8_whyNotSafest_50 ?_
        refine g_iL1 dX8_whyNotSafest_53 ?_
        refine g_ialoadN (X.S.cl X.hc 2 rfl) (X.S.cka X.hc 2 rfl rfl) (X.S.cn X.hc 2 (n := 8) rfl rfl rfl) hP8 (by decide) dX8_whyNotSafest_54 ?_
        refine g_iconst dX8_whyNotSafest_55 ?_
        refine g_icne dX8_whyNotSafest_56 (fun c56 => ?_) (fun c56 => ?_)
        · refine g_iconst dX8_whyNotSafest_63 ?_
          have ek : (tkF (gI h (t + 2) P)) = 0 := if_neg c56
          have W  : gCi 10 0 0 yX7_goSafest cX7_goSafest 5 none [.ref 45, .ref t, .int (nI F), .int b, .int 0] h none (gfH h t (cn 4) F b (tkF (gI h (t + 2) P))) := by rw [ek]; exact c_goSafest X.S X.hc (X.c 4 rfl) X.b4 hF7 b 0 (by decide)
          refine e_v4u W lm_X8_322 dX8_whyNotSafest_64 (X.S.l 45 rfl) (X.S.k 45 rfl rfl) rfl rfl rfl rfl ?_
          have X1 : CX (gfH h t (cn 4) F b (tkF (gI h (t + 2) P))) t cn := X.wy (gfH_wy _ _ _ _ _ _)
          have r := gfH_w (h := h) X.hc X.b4 hF7 b (tkF (gI h (t + 2) P))
          refine g_aL0 dX8_whyNotSafest_67 ?_
          refine g_getR lf_X8_47 (X1.S.l 0 rfl) (X1.S.k 0 rfl rfl) (X1.S.r 0 3 (b := 45) rfl rfl) dX8_whyNotSafest_68 ?_
          refine g_gI lf_X8_326 (X1.S.l 45 rfl) (X1.S.k 45 rfl rfl) dX8_whyNotSafest_71 ?_
          rw [r.2.1]
          refine g_ifne dX8_whyNotSafest_74 (fun c74 => ?_) (fun c74 => ?_)
          · refine g_iconst dX8_whyNotSafest_82 ?_
            exact e_iret rfl dX8_whyNotSafest_83 rfl rfl (by unfold wsF; rw [if_pos c30, eF, eP]; exact (if_neg c74).symm) (by rw [if_pos c30, eF, eP])
          · refine g_bipush dX8_whyNotSafest_77 ?_
            refine g_goto dX8_whyNotSafest_79 ?_
            exact e_iret rfl dX8_whyNotSafest_83 rfl rfl (by unfold wsF; rw [if_pos c30, eF, eP]; exact (if_pos c74).symm) (by rw [if_pos c30, eF, eP])
        · refine g_iconst dX8_whyNotSafest_59 ?_
          refine g_goto dX8_whyNotSafest_60 ?_
          have ek : (tkF (gI h (t + 2) P)) = 1 := if_pos c56
          have W  : gCi 10 0 0 yX7_goSafest cX7_goSafest 5 none [.ref 45, .ref t, .int (nI F), .int b, .int 1] h none (gfH h t (cn 4) F b (tkF (gI h (t + 2) P))) := by rw [ek]; exact c_goSafest X.S X.hc (X.c 4 rfl) X.b4 hF7 b 1 (by decide)
          refine e_v4u W lm_X8_322 dX8_whyNotSafest_64 (X.S.l 45 rfl) (X.S.k 45 rfl rfl) rfl rfl rfl rfl ?_
          have X1 : CX (gfH h t (cn 4) F b (tkF (gI h (t + 2) P))) t cn := X.wy (gfH_wy _ _ _ _ _ _)
          have r := gfH_w (h := h) X.hc X.b4 hF7 b (tkF (gI h (t + 2) P))
          refine g_aL0 dX8_whyNotSafest_67 ?_
          refine g_getR lf_X8_47 (X1.S.l 0 rfl) (X1.S.k 0 rfl rfl) (X1.S.r 0 3 (b := 45) rfl rfl) dX8_whyNotSafest_68 ?_
          refine g_gI lf_X8_326 (X1.S.l 45 rfl) (X1.S.k 45 rfl rfl) dX8_whyNotSafest_71 ?_
          rw [r.2.1]
          refine g_ifne dX8_whyNotSafest_74 (fun c74 => ?_) (fun c74 => ?_)
          · refine g_iconst dX8_whyNotSafest_82 ?_
            exact e_iret rfl dX8_whyNotSafest_83 rfl rfl (by unfold wsF; rw [if_pos c30, eF, eP]; exact (if_neg c74).symm) (by rw [if_pos c30, eF, eP])
          · refine g_bipush dX8_whyNotSafest_77 ?_
            refine g_goto dX8_whyNotSafest_79 ?_
            exact e_iret rfl dX8_whyNotSafest_83 rfl rfl (by unfold wsF; rw [if_pos c30, eF, eP]; exact (if_pos c74).symm) (by rw [if_pos c30, eF, eP])
      · refine g_iL4 dX8_whyNotSafest_33 ?_
        exact e_iret rfl dX8_whyNotSafest_35 rfl rfl (if_neg c30).symm (if_neg c30).symm

/-! THE CLASS: GlassPost: safest ways, letters, readers -/
theorem ws0 {y : Int32} {s : PW} (h : wsF y s = 0) : y = 0 := by
  unfold wsF at h
  split at h
  · assumption
  · exact h
theorem pn7 {a : Int32} {n : Nat} (hn : n ≤ 7) (h : ¬ ipF a (nI n) = 0) : pn a < 7 := by
  obtain ⟨F, hF, rfl⟩ := ip1 (by omega) h
  rw [pn_nI (by omega)]; omega
theorem gdE_0 (g : Int64) : ¬ gdE g = 0 := by
  unfold gdE
  split
  · decide
  · rename_i z
    intro y
    rw [y] at z
    exact z (by decide)
theorem m_safest {h : Hp} {t : Nat} {cn : Nat → Nat} (X : CX h t cn) (p a b o : Int32) : gCi 12 0 0 yX8_safest cX8_safest 8 (some .long) [.ref 0, .int p, .int a, .int b, .int o] h (some (.long (if (wsF (wnF (ipF p (nI (cn 1))) (anF (ipF a (nI (cn 4))) (ipF b (nI (cn 4)))) (thF (gI h 38 3) p)) (fwyF h t (cn 4) (pn a) b (tkF (gI h (t + 2) (pn p))))) = 0 then (if o = 0 then (fwyF h t (cn 4) (pn a) b (tkF (gI h (t + 2) (pn p)))).2 / (gdE (gdF 100 (fwyF h t (cn 4) (pn a) b (tkF (gI h (t + 2) (pn p)))).2 1000000000000)) else 1000000000000 / (gdE (gdF 100 (fwyF h t (cn 4) (pn a) b (tkF (gI h (t + 2) (pn p)))).2 1000000000000))) else (-1 : Int32).toInt64))) (pI (if (wnF (ipF p (nI (cn 1))) (anF (ipF a (nI (cn 4))) (ipF b (nI (cn 4)))) (thF (gI h 38 3) p)) = 0 then (gfH h t (cn 4) (pn a) b (tkF (gI h (t + 2) (pn p)))) else h) 0 8 (wsF (wnF (ipF p (nI (cn 1))) (anF (ipF a (nI (cn 4))) (ipF b (nI (cn 4)))) (thF (gI h 38 3) p)) (fwyF h t (cn 4) (pn a) b (tkF (gI h (t + 2) (pn p)))))) := by
  refine g_entry (lv := [.ref 0, .int p, .int a, .int b, .int o, .retAddr 0, .retAddr 0, .retAddr 0]) 3 pn_X8 rfl rfl rfl ?_
  refine g_aL0 dX8_safest_0 ?_
  refine g_iL1 dX8_safest_1 ?_
  refine g_iL2 dX8_safest_2 ?_
  refine g_iL3 dX8_safest_3 ?_
  refine e_v3i (c_whyNotSafest X _ _ _) lm_X8_184 dX8_safest_4 (X.S.l 0 rfl) (X.S.k 0 rfl rfl) rfl rfl rfl rfl ?_
  have X1 : CX (if (wnF (ipF p (nI (cn 1))) (anF (ipF a (nI (cn 4))) (ipF b (nI (cn 4)))) (thF (gI h 38 3) p)) = 0 then (gfH h t (cn 4) (pn a) b (tkF (gI h (t + 2) (pn p)))) else h) t cn := by
    split
    · exact X.wy (gfH_wy _ _ _ _ _ _)
    · exact X
  refine g_iS5 dX8_safest_7 rfl rfl ?_
  refine g_iL5 dX8_safest_9 ?_
  refine g_ifeq dX8_safest_11 (fun c11 => ?_) (fun c11 => ?_)
  · have e0 := ws0 c11
    have ha7 := pn7 X.b4 (an1 (wn0 e0).2.1).1
    have r : WR (if (wnF (ipF p (nI (cn 1))) (anF (ipF a (nI (cn 4))) (ipF b (nI (cn 4)))) (thF (gI h 38 3) p)) = 0 then (gfH h t (cn 4) (pn a) b (tkF (gI h (t + 2) (pn p)))) else h) (fwyF h t (cn 4) (pn a) b (tkF (gI h (t + 2) (pn p)))) [] := by rw [if_pos e0]; exact gfH_w X.hc X.b4 ha7 _ _
    refine g_aL0 dX8_safest_22 ?_
    refine g_iconst dX8_safest_23 ?_
    refine g_pI0 lf_X8_65 (X1.S.l 0 rfl) (X1.S.k 0 rfl rfl) dX8_safest_24 ?_
    refine g_aL0 dX8_safest_27 ?_
    refine g_getR lf_X8_47 (X1.S.l 0 rfl) (X1.S.k 0 rfl rfl) (X1.S.r 0 3 (b := 45) rfl rfl) dX8_safest_28 ?_
    refine g_getJ lf_X8_187 (X1.S.l 45 rfl) (X1.S.k 45 rfl rfl) dX8_safest_31 ?_
    rw [show gJ (pI (if (wnF (ipF p (nI (cn 1))) (anF (ipF a (nI (cn 4))) (ipF b (nI (cn 4)))) (thF (gI h 38 3) p)) = 0 then (gfH h t (cn 4) (pn a) b (tkF (gI h (t + 2) (pn p)))) else h) 0 8 0) 45 7 = _ from r.2.2.1]
    refine g_ldc2 dX8_safest_34 lc_X8_191 ?_
    refine e_s2l (c_greatestDivisor _ _) lm_X8_193 dX8_safest_37 rfl rfl rfl rfl ?_
    refine g_lS6 dX8_safest_40 rfl rfl ?_
    refine g_iL4 dX8_safest_42 ?_
    refine g_ifeq dX8_safest_44 (fun c44 => ?_) (fun c44 => ?_)
    · refine g_aL0 dX8_safest_53 ?_
      refine g_getR lf_X8_47 (X1.S.l 0 rfl) (X1.S.k 0 rfl rfl) (X1.S.r 0 3 (b := 45) rfl rfl) dX8_safest_54 ?_
      refine g_getJ lf_X8_187 (X1.S.l 45 rfl) (X1.S.k 45 rfl rfl) dX8_safest_57 ?_
      first | rw [show gJ (pI (if (wnF (ipF p (nI (cn 1))) (anF (ipF a (nI (cn 4))) (ipF b (nI (cn 4)))) (thF (gI h 38 3) p)) = 0 then (gfH h t (cn 4) (pn a) b (tkF (gI h (t + 2) (pn p)))) else h) 0 8 0) 45 7 = _ from r.2.2.1] | skip
      refine g_lL6 dX8_safest_60 ?_
      refine g_ldiv dX8_safest_62 (gdE_0 _) ?_
      exact e_lret rfl dX8_safest_63 rfl rfl (by rw [if_pos c11, if_pos c44]) (by rw [c11])
    · refine g_ldc2 dX8_safest_47 lc_X8_191 ?_
      refine g_goto dX8_safest_50 ?_
      first | rw [show gJ (pI (if (wnF (ipF p (nI (cn 1))) (anF (ipF a (nI (cn 4))) (ipF b (nI (cn 4)))) (thF (gI h 38 3) p)) = 0 then (gfH h t (cn 4) (pn a) b (tkF (gI h (t + 2) (pn p)))) else h) 0 8 0) 45 7 = _ from r.2.2.1] | skip
      refine g_lL6 dX8_safest_60 ?_
      refine g_ldiv dX8_safest_62 (gdE_0 _) ?_
      exact e_lret rfl dX8_safest_63 rfl rfl (by rw [if_pos c11, if_neg c44]) (by rw [c11])
  · refine g_aL0 dX8_safest_14 ?_
    refine g_iL5 dX8_safest_15 ?_
    refine e_v1i (c_refuse X1 _) lm_X8_86 dX8_safest_17 (X1.S.l 0 rfl) (X1.S.k 0 rfl rfl) rfl rfl rfl rfl ?_
    refine g_i2l dX8_safest_20 ?_
    exact e_lret rfl dX8_safest_21 rfl rfl (if_neg c11).symm rfl
theorem m_safestAt {h : Hp} {t : Nat} {cn : Nat → Nat} (X : CX h t cn) (p a b k : Int32) : gCi 12 0 0 yX8_safestAt cX8_safestAt 6 (some .int) [.ref 0, .int p, .int a, .int b, .int k] h (some (.int (if (wsF (wnF (ipF p (nI (cn 1))) (anF (ipF a (nI (cn 4))) (ipF b (nI (cn 4)))) (thF (gI h 38 3) p)) (fwyF h t (cn 4) (pn a) b (tkF (gI h (t + 2) (pn p))))) = 0 then (if cwY (fwyF h t (cn 4) (pn a) b (tkF (gI h (t + 2) (pn p)))) k = 0 then wpG (fwyF h t (cn 4) (pn a) b (tkF (gI h (t + 2) (pn p)))) k else -1) else -1))) (pI (if (wnF (ipF p (nI (cn 1))) (anF (ipF a (nI (cn 4))) (ipF b (nI (cn 4)))) (thF (gI h 38 3) p)) = 0 then (gfH h t (cn 4) (pn a) b (tkF (gI h (t + 2) (pn p)))) else h) 0 8 (if (wsF (wnF (ipF p (nI (cn 1))) (anF (ipF a (nI (cn 4))) (ipF b (nI (cn 4)))) (thF (gI h 38 3) p)) (fwyF h t (cn 4) (pn a) b (tkF (gI h (t + 2) (pn p))))) = 0 then cwY (fwyF h t (cn 4) (pn a) b (tkF (gI h (t + 2) (pn p)))) k else (wsF (wnF (ipF p (nI (cn 1))) (anF (ipF a (nI (cn 4))) (ipF b (nI (cn 4)))) (thF (gI h 38 3) p)) (fwyF h t (cn 4) (pn a) b (tkF (gI h (t + 2) (pn p))))))) := by
  refine g_entry (lv := [.ref 0, .int p, .int a, .int b, .int k, .retAddr 0]) 1 pn_X8 rfl rfl rfl ?_
  refine g_aL0 dX8_safestAt_0 ?_
  refine g_iL1 dX8_safestAt_1 ?_
  refine g_iL2 dX8_safestAt_2 ?_
  refine g_iL3 dX8_safestAt_3 ?_
  refine e_v3i (c_whyNotSafest X _ _ _) lm_X8_184 dX8_safestAt_4 (X.S.l 0 rfl) (X.S.k 0 rfl rfl) rfl rfl rfl rfl ?_
  have X1 : CX (if (wnF (ipF p (nI (cn 1))) (anF (ipF a (nI (cn 4))) (ipF b (nI (cn 4)))) (thF (gI h 38 3) p)) = 0 then (gfH h t (cn 4) (pn a) b (tkF (gI h (t + 2) (pn p)))) else h) t cn := by
    split
    · exact X.wy (gfH_wy _ _ _ _ _ _)
    · exact X
  refine g_iS5 dX8_safestAt_7 rfl rfl ?_
  refine g_iL5 dX8_safestAt_9 ?_
  refine g_ifne dX8_safestAt_11 (fun c11 => ?_) (fun c11 => ?_)
  · refine g_aL0 dX8_safestAt_23 ?_
    refine g_iL5 dX8_safestAt_24 ?_
    refine e_v1i (c_refuse X1 _) lm_X8_86 dX8_safestAt_26 (X1.S.l 0 rfl) (X1.S.k 0 rfl rfl) rfl rfl rfl rfl ?_
    exact e_iret rfl dX8_safestAt_29 rfl rfl (if_neg c11).symm (by rw [if_neg c11])
  · have e0 := ws0 c11
    have ha7 := pn7 X.b4 (an1 (wn0 e0).2.1).1
    have r : WR (if (wnF (ipF p (nI (cn 1))) (anF (ipF a (nI (cn 4))) (ipF b (nI (cn 4)))) (thF (gI h 38 3) p)) = 0 then (gfH h t (cn 4) (pn a) b (tkF (gI h (t + 2) (pn p)))) else h) (fwyF h t (cn 4) (pn a) b (tkF (gI h (t + 2) (pn p)))) [] := by rw [if_pos e0]; exact gfH_w X.hc X.b4 ha7 _ _
    refine g_aL0 dX8_safestAt_14 ?_
    refine g_iL4 dX8_safestAt_15 ?_
    refine e_v1i (c_cornerOfWay X1 r _) lm_X8_178 dX8_safestAt_17 (X1.S.l 0 rfl) (X1.S.k 0 rfl rfl) rfl rfl rfl rfl ?_
    refine g_goto dX8_safestAt_20 ?_
    exact e_iret rfl dX8_safestAt_29 rfl rfl (if_pos c11).symm (by rw [if_pos c11])
/-- letters name panes and corners of the city -/
def LX (h : Hp) (t : Nat) (cn : Nat → Nat) : Prop := ∀ L, L < cn 7 → ∃ P F, P < cn 1 ∧ F < cn 4 ∧ gI h (t + 9) L = nI P ∧ gI h (t + 10) L = nI F
theorem wyK.f {g h : Hp} (k : wyK g h) {b : Nat} (h1 : b ≠ 45) (h2 : b ≠ 46) (h3 : b ≠ 47) : gI g b = gI h b := funext fun j => k.2.2.2.2.2.1 b j h1 h2 h3
theorem LX.wy {h g : Hp} {t : Nat} {cn : Nat → Nat} (hc : t = 3 ∨ t = 18) (l : LX h t cn) (k : wyK g h) : LX g t cn := by
  intro L hL
  rw [k.f (b := t + 9) (by omega) (by omega) (by omega), k.f (b := t + 10) (by omega) (by omega) (by omega)]
  exact l L hL
def coP : List Nat → Int32 → Int32
  | [], b => b
  | x :: l, b => coP l (b ||| ((1 : Int32) <<< (nI x &&& 31)))
theorem co_P (be : Nat → Int32) : ∀ (l : List Nat) (i : Nat) (b : Int32), (∀ k x, l[k]? = some x → be (i + k) = nI x) → coF be l.length i b = coP l b
  | [], _, _, _ => rfl
  | x :: l, i, b, h => by
    show coF be l.length (i + 1) (b ||| ((1 : Int32) <<< (be i &&& 31))) = coP l (b ||| ((1 : Int32) <<< (nI x &&& 31)))
    rw [show be i = nI x from h 0 x rfl]
    exact co_P be l (i + 1) _ (fun k y e => by rw [show i + 1 + k = i + (k + 1) from by omega]; exact h (k + 1) y e)
def rdF (h : Hp) (t : Nat) (cn : Nat → Nat) (p : Nat) : Int32 := rcF (gI h t 13) (fun c => wrF h t (cn 2) p (gI h (t + 6) c)) (cn 4) 0 0
/-- who reads letter L, and the cells then -/
def roF (h : Hp) (t : Nat) (cn : Nat → Nat) (L : Nat) : Int32 := if thF (gI h 38 3) (gI h (t + 9) L) = 0 then coP (swF h t (cn 4) (pn (gI h (t + 10) L)) (gI h (t + 11) L) (bt 0)).1 0 &&& rdF h t cn (pn (gI h (t + 9) L)) else 0
def roH (h : Hp) (t : Nat) (cn : Nat → Nat) (L : Nat) : Hp := if thF (gI h 38 3) (gI h (t + 9) L) = 0 then gsH h t (cn 4) (pn (gI h (t + 10) L)) (gI h (t + 11) L) 0 else h
theorem roH_wy (h : Hp) (t : Nat) (cn : Nat → Nat) (L : Nat) : wyK (roH h t cn L) h := by
  unfold roH; split
  · exact gsH_wy _ _ _ _ _ _
  · exact wyK.refl h
theorem wrF_wy {h g : Hp} {t : Nat} (hc : t = 3 ∨ t = 18) (k : wyK g h) (N p : Nat) (v : Int32) : wrF g t N p v = wrF h t N p v := by
  unfold wrF seF
  rw [k.f (b := t + 4) (by omega) (by omega) (by omega), k.f (b := t + 5) (by omega) (by omega) (by omega), k.f (b := 39) (by omega) (by omega) (by omega), k.f (b := 40) (by omega) (by omega) (by omega)]
theorem rdF_wy {h g : Hp} {t : Nat} (hc : t = 3 ∨ t = 18) (k : wyK g h) (cn : Nat → Nat) (p : Nat) : rdF g t cn p = rdF h t cn p := by
  unfold rdF
  rw [k.f (b := t) (by omega) (by omega) (by omega), k.f (b := t + 6) (by omega) (by omega) (by omega)]
  congr 1
  exact funext fun c => wrF_wy hc k _ _ _
theorem roF_wy {h g : Hp} {t : Nat} (hc : t = 3 ∨ t = 18) (k : wyK g h) (cn : Nat → Nat) (L : Nat) : roF g t cn L = roF h t cn L := by
  unfold roF swF
  rw [rdF_wy hc k, k.f (b := 38) (by omega) (by omega) (by omega), k.f (b := t + 7) (by omega) (by omega) (by omega), k.f (b := t + 8) (by omega) (by omega) (by omega), k.f (b := t + 9) (by omega) (by omega) (by omega), k.f (b := t + 10) (by omega) (by omega) (by omega), k.f (b := t + 11) (by omega) (by omega) (by omega)]
theorem c_readersOf {h : Hp} {t : Nat} {cn : Nat → Nat} (X : CX h t cn) (l : LX h t cn) {L : Nat} (hL : L < cn 7) : gCi 11 0 0 yX8_readersOf cX8_readersOf 3 (some .int) [.ref 0, .int (nI L)] h (some (.int (roF h t cn L))) (roH h t cn L) := by
  obtain ⟨P, F, hP, hF, e9, e10⟩ := l L hL
  have hL6 : L < 6 := by have := X.b7; omega
  have hP8 : P < 8 := by have := X.b1; omega
  have hF7 : F < 7 := by have := X.b4; omega
  have eP := pn_nI (n := P) (by omega)
  have eF := pn_nI (n := F) (by omega)
  have hc := X.hc
  refine g_entry (lv := [.ref 0, .int (nI L), .retAddr 0]) 1 pn_X8 rfl rfl rfl ?_
  refine g_aL0 dX8_readersOf_0 ?_
  refine g_getR lf_X8_19 (X.S.l 0 rfl) (X.S.k 0 rfl rfl) X.T dX8_readersOf_1 ?_
  refine g_getR lf_X8_200 (X.S.cl X.hc 0 rfl) (X.S.ck X.hc) (X.S.cr X.hc 14 (j := 9) rfl rfl) dX8_readersOf_4 ?_
  refine g_iL1 dX8_readersOf_7 ?_
  refine g_ialoadN (X.S.cl X.hc 9 rfl) (X.S.cka X.hc 9 rfl rfl) (X.S.cn X.hc 9 (n := 6) rfl rfl rfl) hL6 (by decide) dX8_readersOf_8 ?_
  rw [e9]
  refine g_iS2 dX8_readersOf_9 rfl rfl ?_
  refine g_aL0 dX8_readersOf_10 ?_
  refine g_getR lf_X8_40 (X.S.l 0 rfl) (X.S.k 0 rfl rfl) (X.S.r 0 2 (b := 38) rfl rfl) dX8_readersOf_11 ?_
  refine g_iL2 dX8_readersOf_14 ?_
  refine e_v1i (c_isBroken X.S _) lm_X8_123 dX8_readersOf_15 (X.S.l 38 rfl) (X.S.k 38 rfl rfl) rfl rfl rfl rfl ?_
  refine g_ifeq dX8_readersOf_18 (fun c18 => ?_) (fun c18 => ?_)
  · refine g_aL0 dX8_readersOf_23 ?_
    refine g_getR lf_X8_47 (X.S.l 0 rfl) (X.S.k 0 rfl rfl) (X.S.r 0 3 (b := 45) rfl rfl) dX8_readersOf_24 ?_
    refine g_aL0 dX8_readersOf_27 ?_
    refine g_getR lf_X8_19 (X.S.l 0 rfl) (X.S.k 0 rfl rfl) X.T dX8_readersOf_28 ?_
    refine g_aL0 dX8_readersOf_31 ?_
    refine g_getR lf_X8_19 (X.S.l 0 rfl) (X.S.k 0 rfl rfl) X.T dX8_readersOf_32 ?_
    refine g_getR lf_X8_203 (X.S.cl X.hc 0 rfl) (X.S.ck X.hc) (X.S.cr X.hc 15 (j := 10) rfl rfl) dX8_readersOf_35 ?_
    refine g_iL1 dX8_readersOf_38 ?_
    refine g_ialoadN (X.S.cl X.hc 10 rfl) (X.S.cka X.hc 10 rfl rfl) (X.S.cn X.hc 10 (n := 6) rfl rfl rfl) hL6 (by decide) dX8_readersOf_39 ?_
    rw [e10]
    refine g_aL0 dX8_readersOf_40 ?_
    refine g_getR lf_X8_19 (X.S.l 0 rfl) (X.S.k 0 rfl rfl) X.T dX8_readersOf_41 ?_
    refine g_getR lf_X8_206 (X.S.cl X.hc 0 rfl) (X.S.ck X.hc) (X.S.cr X.hc 16 (j := 11) rfl rfl) dX8_readersOf_44 ?_
    refine g_iL1 dX8_readersOf_47 ?_
    refine g_ialoadN (X.S.cl X.hc 11 rfl) (X.S.cka X.hc 11 rfl rfl) (X.S.cn X.hc 11 (n := 6) rfl rfl rfl) hL6 (by decide) dX8_readersOf_48 ?_
    refine g_iconst dX8_readersOf_49 ?_
    refine e_v4u (c_goSoonest X.S X.hc (X.c 4 rfl) X.b4 hF7 _ _) lm_X8_174 dX8_readersOf_50 (X.S.l 45 rfl) (X.S.k 45 rfl rfl) rfl rfl rfl rfl ?_
    show gY _ _ _ _ _ _ _ _ _ _ _ _ _ (gsH h t (cn 4) F (gI h (t + 11) L) 0)
    have k : wyK (gsH h t (cn 4) F (gI h (t + 11) L) 0) h := gsH_wy _ _ _ _ _ _
    have X1 : CX (gsH h t (cn 4) F (gI h (t + 11) L) 0) t cn := X.wy k
    have r := gsH_w (h := h) X.hc X.b4 hF7 (gI h (t + 11) L) 0
    have eR := rdF_wy X.hc k cn P
    have eC : coF (gI (gsH h t (cn 4) F (gI h (t + 11) L) 0) 47) (swF h t (cn 4) F (gI h (t + 11) L) (bt 0)).1.length 0 0 = _ := co_P _ _ 0 0 (fun k x e => by rw [Nat.zero_add]; exact r.2.2.2.1 k x e)
    refine g_aL0 dX8_readersOf_53 ?_
    refine g_getR lf_X8_47 (X1.S.l 0 rfl) (X1.S.k 0 rfl rfl) (X1.S.r 0 3 (b := 45) rfl rfl) dX8_readersOf_54 ?_
    refine e_v0i (c_corners X1.S r.2.1 r.1) lm_X8_345 dX8_readersOf_57 (X1.S.l 45 rfl) (X1.S.k 45 rfl rfl) rfl rfl rfl rfl ?_
    refine g_aL0 dX8_readersOf_60 ?_
    refine g_getR lf_X8_40 (X1.S.l 0 rfl) (X1.S.k 0 rfl rfl) (X1.S.r 0 2 (b := 38) rfl rfl) dX8_readersOf_61 ?_
    refine g_iL2 dX8_readersOf_64 ?_
    refine e_v1i (c_readingCorners X1.S X1.hc X1.P (X1.c 2 rfl) X1.b2 (X1.c 4 rfl) X1.b4 hP8) lm_X8_181 dX8_readersOf_65 (X1.S.l 38 rfl) (X1.S.k 38 rfl rfl) rfl rfl rfl rfl ?_
    refine g_iand dX8_readersOf_68 ?_
    exact e_iret rfl dX8_readersOf_69 rfl rfl (by unfold roF; rw [e9, e10, eP, eF, if_pos c18, ← eR, ← eC]; rfl) (by unfold roH; rw [e9, e10, eF, if_pos c18])
  · refine g_iconst dX8_readersOf_21 ?_
    exact e_iret rfl dX8_readersOf_22 rfl rfl (by unfold roF; rw [e9, if_neg c18]) (by unfold roH; rw [e9, if_neg c18])
theorem m_readers {h : Hp} {t : Nat} {cn : Nat → Nat} (X : CX h t cn) (Z : LX h t cn) (l : Int32) : gCi 12 0 0 yX8_readers cX8_readers 2 (some .int) [.ref 0, .int l] h (some (.int (if (ipF l (nI (cn 7))) = 0 then -1 else roF h t cn (pn l)))) (if (ipF l (nI (cn 7))) = 0 then pI h 0 8 1 else pI (roH h t cn (pn l)) 0 8 0) := by
  refine g_entry (lv := [.ref 0, .int l]) 0 pn_X8 rfl rfl rfl ?_
  refine g_aL0 dX8_readers_0 ?_
  refine g_iL1 dX8_readers_1 ?_
  refine e_v1i (c_isLetter X _) lm_X8_197 dX8_readers_2 (X.S.l 0 rfl) (X.S.k 0 rfl rfl) rfl rfl rfl rfl ?_
  refine g_ifeq dX8_readers_5 (fun c5 => ?_) (fun c5 => ?_)
  · refine g_aL0 dX8_readers_20 ?_
    refine g_iconst dX8_readers_21 ?_
    refine e_v1i (c_refuse X _) lm_X8_86 dX8_readers_22 (X.S.l 0 rfl) (X.S.k 0 rfl rfl) rfl rfl rfl rfl ?_
    exact e_iret rfl dX8_readers_25 rfl rfl (if_pos c5).symm (if_pos c5).symm
  · obtain ⟨L, hL, rfl⟩ := ip1 (by have := X.b7; omega) c5
    have hL6 : L < 6 := by have := X.b7; omega
    have eL := pn_nI (n := L) (by omega)
    refine g_aL0 dX8_readers_8 ?_
    refine g_aL0 dX8_readers_9 ?_
    refine g_iL1 dX8_readers_10 ?_
    refine e_v1i (c_readersOf X Z hL) lm_X8_209 dX8_readers_11 (X.S.l 0 rfl) (X.S.k 0 rfl rfl) rfl rfl rfl rfl ?_
    have X1 : CX (roH h t cn L) t cn := X.wy (roH_wy _ _ _ _)
    refine e_v1i (c_answer X1 _) lm_X8_107 dX8_readers_14 (X1.S.l 0 rfl) (X1.S.k 0 rfl rfl) rfl rfl rfl rfl ?_
    refine g_goto dX8_readers_17 ?_
    exact e_iret rfl dX8_readers_25 rfl rfl (by rw [if_neg c5, eL]) (by rw [if_neg c5, eL])
def ohF (ro : Int32) (wr : Nat → Int32) : Nat → Nat → Int32 → Int32
  | 0, _, b => b
  | n + 1, i, b => if bz ro (nI i) = 0 then ohF ro wr n (i + 1) b else ohF ro wr n (i + 1) (b ||| ((1 : Int32) <<< (wr i &&& 31)))
theorem m_overheard {h : Hp} {t : Nat} {cn : Nat → Nat} (X : CX h t cn) (Z : LX h t cn) (l : Int32) : gCi 12 0 0 yX8_overheard cX8_overheard 5 (some .int) [.ref 0, .int l] h (some (.int (if (ipF l (nI (cn 7))) = 0 then -1 else ohF (roF h t cn (pn l)) (fun c => wrF h t (cn 2) (pn (gI h (t + 9) (pn l))) (gI h (t + 6) c)) (cn 4) 0 0))) (if (ipF l (nI (cn 7))) = 0 then pI h 0 8 1 else pI (roH h t cn (pn l)) 0 8 0) := by
  refine g_entry (lv := [.ref 0, .int l, .retAddr 0, .retAddr 0, .retAddr 0]) 3 pn_X8 rfl rfl rfl ?_
  refine g_aL0 dX8_overheard_0 ?_
  refine g_iL1 dX8_overheard_1 ?_
  refine e_v1i (c_isLetter X _) lm_X8_197 dX8_overheard_2 (X.S.l 0 rfl) (X.S.k 0 rfl rfl) rfl rfl rfl rfl ?_
  refine g_ifne dX8_overheard_5 (fun c5 => ?_) (fun c5 => ?_)
  · obtain ⟨L, hL, rfl⟩ := ip1 (by have := X.b7; omega) c5
    have hL6 : L < 6 := by have := X.b7; omega
    have eL := pn_nI (n := L) (by omega)
    refine g_aL0 dX8_overheard_14 ?_
    refine g_iL1 dX8_overheard_15 ?_
    refine e_v1i (c_readersOf X Z hL) lm_X8_209 dX8_overheard_16 (X.S.l 0 rfl) (X.S.k 0 rfl rfl) rfl rfl rfl rfl ?_
    have X1 : CX (roH h t cn L) t cn := X.wy (roH_wy _ _ _ _)
    have k : wyK (roH h t cn L) h := roH_wy _ _ _ _
    have hc := X.hc
    obtain ⟨P, F, hP, hF, e9, e10⟩ := Z L hL
    have hP8 : P < 8 := by have := X.b1; omega
    have eP := pn_nI (n := P) (by omega)
    have loop : ∀ (n i : Nat) (b : Int32), i + n = cn 4 → ohF (roF h t cn L) (fun c => wrF h t (cn 2) P (gI h (t + 6) c)) (cn 4) 0 0 = ohF (roF h t cn L) (fun c => wrF h t (cn 2) P (gI h (t + 6) c)) n i b → gY 12 0 0 yX8_overheard cX8_overheard 5 (some .int) 0 0 (fun v' h' => v' = (some (.int (if (ipF (nI L) (nI (cn 7))) = 0 then -1 else ohF (roF h t cn (pn (nI L))) (fun c => wrF h t (cn 2) (pn (gI h (t + 9) (pn (nI L)))) (gI h (t + 6) c)) (cn 4) 0 0))) ∧ h' = (if (ipF (nI L) (nI (cn 7))) = 0 then pI h 0 8 1 else pI (roH h t cn (pn (nI L))) 0 8 0)) 25 [.ref 0, .int (nI L), .int (roF h t cn L), .int b, .int (nI i)] [] (roH h t cn L) := by
      intro n
      induction n with
      | zero =>
        intro i b hi he 
        refine g_iL4 dX8_overheard_25 ?_
        refine g_aL0 dX8_overheard_27 ?_
        refine g_getR lf_X8_19 (X1.S.l 0 rfl) (X1.S.k 0 rfl rfl) X1.T dX8_overheard_28 ?_
        refine g_getR lf_X8_103 (X1.S.cl X1.hc 0 rfl) (X1.S.ck X1.hc) (X1.S.cr X1.hc 0 (j := 1) rfl rfl) dX8_overheard_31 ?_
        refine g_iconst dX8_overheard_34 ?_
        refine g_ialoadK (X1.S.cl X1.hc 1 rfl) (X1.S.cka X1.hc 1 rfl rfl) (X1.S.cn X1.hc 1 (n := 11) rfl rfl rfl) rfl (j := 4) rfl dX8_overheard_35 ?_
        rw [X1.c 4 rfl]
        refine g_icge dX8_overheard_36 (fun c36 => ?_) (fun c36 => absurd (nI_le (by omega) (by have := X.b4; omega)) c36)
        refine g_aL0 dX8_overheard_85 ?_
        refine g_iL3 dX8_overheard_86 ?_
        refine e_v1i (c_answer X1 _) lm_X8_107 dX8_overheard_87 (X1.S.l 0 rfl) (X1.S.k 0 rfl rfl) rfl rfl rfl rfl ?_
        exact e_iret rfl dX8_overheard_90 rfl rfl (by rw [if_neg c5, eL, e9, eP]; exact he.symm) (by rw [if_neg c5, eL])
      | succ n ih =>
        intro i b hi he 
        refine g_iL4 dX8_overheard_25 ?_
        refine g_aL0 dX8_overheard_27 ?_
        refine g_getR lf_X8_19 (X1.S.l 0 rfl) (X1.S.k 0 rfl rfl) X1.T dX8_overheard_28 ?_
        refine g_getR lf_X8_103 (X1.S.cl X1.hc 0 rfl) (X1.S.ck X1.hc) (X1.S.cr X1.hc 0 (j := 1) rfl rfl) dX8_overheard_31 ?_
        refine g_iconst dX8_overheard_34 ?_
        refine g_ialoadK (X1.S.cl X1.hc 1 rfl) (X1.S.cka X1.hc 1 rfl rfl) (X1.S.cn X1.hc 1 (n := 11) rfl rfl rfl) rfl (j := 4) rfl dX8_overheard_35 ?_
        rw [X1.c 4 rfl]
        refine g_icge dX8_overheard_36 (fun c36 => absurd c36 (nI_ge (by omega) (by have := X.b4; omega))) (fun c36 => ?_)
        refine g_iL2 dX8_overheard_39 ?_
        refine g_iL4 dX8_overheard_40 ?_
        refine g_ishr dX8_overheard_42 ?_
        refine g_iconst dX8_overheard_43 ?_
        refine g_iand dX8_overheard_44 ?_
        refine g_ifeq dX8_overheard_45 (fun c45 => ?_) (fun c45 => ?_)
        · refine g_ii4 dX8_overheard_79 rfl rfl ?_
          refine g_goto dX8_overheard_82 ?_
          rw [nI_1]
          exact ih (i + 1) _ (by omega) (he.trans (if_pos c45)) 
        · refine g_iL3 dX8_overheard_48 ?_
          refine g_iconst dX8_overheard_49 ?_
          refine g_aL0 dX8_overheard_50 ?_
          refine g_getR lf_X8_40 (X1.S.l 0 rfl) (X1.S.k 0 rfl rfl) (X1.S.r 0 2 (b := 38) rfl rfl) dX8_overheard_51 ?_
          refine g_aL0 dX8_overheard_54 ?_
          refine g_getR lf_X8_19 (X1.S.l 0 rfl) (X1.S.k 0 rfl rfl) X1.T dX8_overheard_55 ?_
          refine g_getR lf_X8_200 (X1.S.cl X1.hc 0 rfl) (X1.S.ck X1.hc) (X1.S.cr X1.hc 14 (j := 9) rfl rfl) dX8_overheard_58 ?_
          refine g_iL1 dX8_overheard_61 ?_
          refine g_ialoadN (X1.S.cl X1.hc 9 rfl) (X1.S.cka X1.hc 9 rfl rfl) (X1.S.cn X1.hc 9 (n := 6) rfl rfl rfl) hL6 (by decide) dX8_overheard_62 ?_
          rw [k.f (b := t + 9) (by omega) (by omega) (by omega), e9]
          refine g_aL0 dX8_overheard_63 ?_
          refine g_getR lf_X8_19 (X1.S.l 0 rfl) (X1.S.k 0 rfl rfl) X1.T dX8_overheard_64 ?_
          refine g_getR lf_X8_212 (X1.S.cl X1.hc 0 rfl) (X1.S.ck X1.hc) (X1.S.cr X1.hc 10 (j := 6) rfl rfl) dX8_overheard_67 ?_
          refine g_iL4 dX8_overheard_70 ?_
          refine g_ialoadN (X1.S.cl X1.hc 6 rfl) (X1.S.cka X1.hc 6 rfl rfl) (X1.S.cn X1.hc 6 (n := 7) rfl rfl rfl) (show i < 7 from by have := X.b4; omega) (by decide) dX8_overheard_72 ?_
          rw [k.f (b := t + 6) (by omega) (by omega) (by omega)]
          refine e_v2i (c_wordRead X1.S X1.hc X1.P (X1.c 2 rfl) X1.b2 hP8 _) lm_X8_152 dX8_overheard_73 (X1.S.l 38 rfl) (X1.S.k 38 rfl rfl) rfl rfl rfl rfl ?_
          rw [wrF_wy hc k]
          refine g_ishl dX8_overheard_76 ?_
          refine g_ior dX8_overheard_77 ?_
          refine g_iS3 dX8_overheard_78 rfl rfl ?_
          refine g_ii4 dX8_overheard_79 rfl rfl ?_
          refine g_goto dX8_overheard_82 ?_
          rw [nI_1]
          exact ih (i + 1) _ (by omega) (he.trans (if_neg c45)) 
    refine g_iS2 dX8_overheard_19 rfl rfl ?_
    refine g_iconst dX8_overheard_20 ?_
    refine g_iS3 dX8_overheard_21 rfl rfl ?_
    refine g_iconst dX8_overheard_22 ?_
    refine g_iS4 dX8_overheard_23 rfl rfl ?_
    exact loop (cn 4) 0 _ (by omega) rfl
  · refine g_aL0 dX8_overheard_8 ?_
    refine g_iconst dX8_overheard_9 ?_
    refine e_v1i (c_refuse X _) lm_X8_86 dX8_overheard_10 (X.S.l 0 rfl) (X.S.k 0 rfl rfl) rfl rfl rfl rfl ?_
    exact e_iret rfl dX8_overheard_13 rfl rfl (if_pos c5).symm (if_pos c5).symm
def unF (ro : Nat → Int32) : Nat → Nat → Int32 → Int32
  | 0, _, b => b
  | n + 1, i, b => if ro i = 0 then unF ro n (i + 1) (b ||| ((1 : Int32) <<< (nI i &&& 31))) else unF ro n (i + 1) b
def unH (t : Nat) (cn : Nat → Nat) : Nat → Nat → Hp → Hp
  | 0, _, h => h
  | n + 1, i, h => unH t cn n (i + 1) (roH h t cn i)
theorem unH_wy (t : Nat) (cn : Nat → Nat) : ∀ (n i : Nat) (h : Hp), wyK (unH t cn n i h) h
  | 0, _, h => wyK.refl h
  | n + 1, i, h => (unH_wy t cn n (i + 1) _).trans (roH_wy h t cn i)
theorem m_unread {h : Hp} {t : Nat} {cn : Nat → Nat} (X : CX h t cn) (Z : LX h t cn) : gCi 12 0 0 yX8_unread cX8_unread 3 (some .int) [.ref 0] h (some (.int (if ncF (nI (cn 1)) = 0 then unF (roF h t cn) (cn 7) 0 0 else -1))) (if ncF (nI (cn 1)) = 0 then pI (unH t cn (cn 7) 0 h) 0 8 0 else pI h 0 8 1) := by
  refine g_entry (lv := [.ref 0, .retAddr 0, .retAddr 0]) 2 pn_X8 rfl rfl rfl ?_
  refine g_aL0 dX8_unread_0 ?_
  refine e_v0i (c_noCity X) lm_X8_215 dX8_unread_1 (X.S.l 0 rfl) (X.S.k 0 rfl rfl) rfl rfl rfl rfl ?_
  refine g_ifeq dX8_unread_4 (fun c4 => ?_) (fun c4 => ?_)
  · refine g_iconst dX8_unread_13 ?_
    refine g_iS1 dX8_unread_14 rfl rfl ?_
    refine g_iconst dX8_unread_15 ?_
    refine g_iS2 dX8_unread_16 rfl rfl ?_
    have loop : ∀ (n i : Nat) (b : Int32) (hh : Hp), i + n = cn 7 → unF (roF h t cn) (cn 7) 0 0 = unF (roF h t cn) n i b → unH t cn (cn 7) 0 h = unH t cn n i hh → wyK hh h → gY 12 0 0 yX8_unread cX8_unread 3 (some .int) 0 0 (fun v' h' => v' = (some (.int (if ncF (nI (cn 1)) = 0 then unF (roF h t cn) (cn 7) 0 0 else -1))) ∧ h' = (if ncF (nI (cn 1)) = 0 then pI (unH t cn (cn 7) 0 h) 0 8 0 else pI h 0 8 1)) 17 [.ref 0, .int b, .int (nI i)] [] hh := by
      intro n
      induction n with
      | zero =>
        intro i b hh hi he hu k
        have X1 := X.wy k
        have Z1 := Z.wy X.hc k
        refine g_iL2 dX8_unread_17 ?_
        refine g_aL0 dX8_unread_18 ?_
        refine g_getR lf_X8_19 (X1.S.l 0 rfl) (X1.S.k 0 rfl rfl) X1.T dX8_unread_19 ?_
        refine g_getR lf_X8_103 (X1.S.cl X1.hc 0 rfl) (X1.S.ck X1.hc) (X1.S.cr X1.hc 0 (j := 1) rfl rfl) dX8_unread_22 ?_
        refine g_bipush dX8_unread_25 ?_
        refine g_ialoadK (X1.S.cl X1.hc 1 rfl) (X1.S.cka X1.hc 1 rfl rfl) (X1.S.cn X1.hc 1 (n := 11) rfl rfl rfl) rfl (j := 7) rfl dX8_unread_27 ?_
        rw [X1.c 7 rfl]
        refine g_icge dX8_unread_28 (fun c28 => ?_) (fun c28 => absurd (nI_le (by omega) (by have := X.b7; omega)) c28)
        refine g_aL0 dX8_unread_51 ?_
        refine g_iL1 dX8_unread_52 ?_
        refine e_v1i (c_answer X1 _) lm_X8_107 dX8_unread_53 (X1.S.l 0 rfl) (X1.S.k 0 rfl rfl) rfl rfl rfl rfl ?_
        exact e_iret rfl dX8_unread_56 rfl rfl (by rw [if_pos c4]; exact he.symm) (by rw [if_pos c4, hu]; rfl)
      | succ n ih =>
        intro i b hh hi he hu k
        have X1 := X.wy k
        have Z1 := Z.wy X.hc k
        refine g_iL2 dX8_unread_17 ?_
        refine g_aL0 dX8_unread_18 ?_
        refine g_getR lf_X8_19 (X1.S.l 0 rfl) (X1.S.k 0 rfl rfl) X1.T dX8_unread_19 ?_
        refine g_getR lf_X8_103 (X1.S.cl X1.hc 0 rfl) (X1.S.ck X1.hc) (X1.S.cr X1.hc 0 (j := 1) rfl rfl) dX8_unread_22 ?_
        refine g_bipush dX8_unread_25 ?_
        refine g_ialoadK (X1.S.cl X1.hc 1 rfl) (X1.S.cka X1.hc 1 rfl rfl) (X1.S.cn X1.hc 1 (n := 11) rfl rfl rfl) rfl (j := 7) rfl dX8_unread_27 ?_
        rw [X1.c 7 rfl]
        refine g_icge dX8_unread_28 (fun c28 => absurd c28 (nI_ge (by omega) (by have := X.b7; omega))) (fun c28 => ?_)
        refine g_aL0 dX8_unread_31 ?_
        refine g_iL2 dX8_unread_32 ?_
        refine e_v1i (c_readersOf X1 Z1 (by omega)) lm_X8_209 dX8_unread_33 (X1.S.l 0 rfl) (X1.S.k 0 rfl rfl) rfl rfl rfl rfl ?_
        rw [roF_wy X.hc k]
        refine g_ifne dX8_unread_36 (fun c36 => ?_) (fun c36 => ?_)
        · refine g_ii2 dX8_unread_45 rfl rfl ?_
          refine g_goto dX8_unread_48 ?_
          rw [nI_1]
          exact ih (i + 1) _ _ (by omega) (he.trans (if_neg c36)) hu ((roH_wy _ _ _ _).trans k)
        · refine g_iL1 dX8_unread_39 ?_
          refine g_iconst dX8_unread_40 ?_
          refine g_iL2 dX8_unread_41 ?_
          refine g_ishl dX8_unread_42 ?_
          refine g_ior dX8_unread_43 ?_
          refine g_iS1 dX8_unread_44 rfl rfl ?_
          refine g_ii2 dX8_unread_45 rfl rfl ?_
          refine g_goto dX8_unread_48 ?_
          rw [nI_1]
          exact ih (i + 1) _ _ (by omega) (he.trans (if_pos c36)) hu ((roH_wy _ _ _ _).trans k)
    exact loop (cn 7) 0 _ _ (by omega) rfl rfl (wyK.refl h)
  · refine g_aL0 dX8_unread_7 ?_
    refine g_iconst dX8_unread_8 ?_
    refine e_v1i (c_refuse X _) lm_X8_86 dX8_unread_9 (X.S.l 0 rfl) (X.S.k 0 rfl rfl) rfl rfl rfl rfl ?_
    exact e_iret rfl dX8_unread_12 rfl rfl (if_neg c4).symm (if_neg c4).symm
theorem m_sent_no {h : Hp} {t : Nat} {cn : Nat → Nat} (X : CX h t cn) (l f : Int32) (hl : ipF l (nI (cn 7)) = 0) : gCi 1 0 0 yX8_sent cX8_sent 3 (some .int) [.ref 0, .int l, .int f] h (some (.int (-1))) (pI h 0 8 1) := by
  refine g_entry (lv := [.ref 0, .int l, .int f]) 0 pn_X8 rfl rfl rfl ?_
  refine g_aL0 dX8_sent_0 ?_
  refine g_iL1 dX8_sent_1 ?_
  refine e_v1i (c_isLetter X _) lm_X8_197 dX8_sent_2 (X.S.l 0 rfl) (X.S.k 0 rfl rfl) rfl rfl rfl rfl ?_
  refine g_ifne dX8_sent_5 (fun c5 => absurd hl c5) (fun c5 => ?_)
  refine g_aL0 dX8_sent_8 ?_
  refine g_iconst dX8_sent_9 ?_
  refine e_v1i (c_refuse X _) lm_X8_86 dX8_sent_10 (X.S.l 0 rfl) (X.S.k 0 rfl rfl) rfl rfl rfl rfl ?_
  exact e_iret rfl dX8_sent_13 rfl rfl rfl rfl
theorem m_sent0 {h : Hp} {t : Nat} {cn : Nat → Nat} (X : CX h t cn) {L : Nat} (hL : L < cn 7) (f : Int32) (hf : f.toInt = 0) : gCi 1 0 0 yX8_sent cX8_sent 3 (some .int) [.ref 0, .int (nI L), .int f] h (some (.int (gI h (t + 9) L))) (pI h 0 8 0) := by
  have hL6 : L < 6 := by have := X.b7; omega
  refine g_entry (lv := [.ref 0, .int (nI L), .int f]) 0 pn_X8 rfl rfl rfl ?_
  refine g_aL0 dX8_sent_0 ?_
  refine g_iL1 dX8_sent_1 ?_
  refine e_v1i (c_isLetter X _) lm_X8_197 dX8_sent_2 (X.S.l 0 rfl) (X.S.k 0 rfl rfl) rfl rfl rfl rfl ?_
  rw [ip_in hL (by have := X.b7; omega)]
  refine g_ifne dX8_sent_5 (fun c5 => ?_) (fun c5 => absurd c5 (by decide))
  refine g_iL2 dX8_sent_14 ?_
  refine g_swIn 0 dX8_sent_15 hf rfl ?_
  refine g_aL0 dX8_sent_44 ?_
  refine g_aL0 dX8_sent_45 ?_
  refine g_getR lf_X8_19 (X.S.l 0 rfl) (X.S.k 0 rfl rfl) X.T dX8_sent_46 ?_
  refine g_getR lf_X8_200 (X.S.cl X.hc 0 rfl) (X.S.ck X.hc) (X.S.cr X.hc 14 (j := 9) rfl rfl) dX8_sent_49 ?_
  refine g_iL1 dX8_sent_52 ?_
  refine g_ialoadN (X.S.cl X.hc 9 rfl) (X.S.cka X.hc 9 rfl rfl) (X.S.cn X.hc 9 (n := 6) rfl rfl rfl) hL6 (by decide) dX8_sent_53 ?_
  refine e_v1i (c_answer X _) lm_X8_107 dX8_sent_54 (X.S.l 0 rfl) (X.S.k 0 rfl rfl) rfl rfl rfl rfl ?_
  exact e_iret rfl dX8_sent_57 rfl rfl rfl rfl
theorem m_sent1 {h : Hp} {t : Nat} {cn : Nat → Nat} (X : CX h t cn) {L : Nat} (hL : L < cn 7) (f : Int32) (hf : f.toInt = 1) : gCi 1 0 0 yX8_sent cX8_sent 3 (some .int) [.ref 0, .int (nI L), .int f] h (some (.int (gI h (t + 10) L))) (pI h 0 8 0) := by
  have hL6 : L < 6 := by have := X.b7; omega
  refine g_entry (lv := [.ref 0, .int (nI L), .int f]) 0 pn_X8 rfl rfl rfl ?_
  refine g_aL0 dX8_sent_0 ?_
  refine g_iL1 dX8_sent_1 ?_
  refine e_v1i (c_isLetter X _) lm_X8_197 dX8_sent_2 (X.S.l 0 rfl) (X.S.k 0 rfl rfl) rfl rfl rfl rfl ?_
  rw [ip_in hL (by have := X.b7; omega)]
  refine g_ifne dX8_sent_5 (fun c5 => ?_) (fun c5 => absurd c5 (by decide))
  refine g_iL2 dX8_sent_14 ?_
  refine g_swIn 1 dX8_sent_15 hf rfl ?_
  refine g_aL0 dX8_sent_58 ?_
  refine g_aL0 dX8_sent_59 ?_
  refine g_getR lf_X8_19 (X.S.l 0 rfl) (X.S.k 0 rfl rfl) X.T dX8_sent_60 ?_
  refine g_getR lf_X8_203 (X.S.cl X.hc 0 rfl) (X.S.ck X.hc) (X.S.cr X.hc 15 (j := 10) rfl rfl) dX8_sent_63 ?_
  refine g_iL1 dX8_sent_66 ?_
  refine g_ialoadN (X.S.cl X.hc 10 rfl) (X.S.cka X.hc 10 rfl rfl) (X.S.cn X.hc 10 (n := 6) rfl rfl rfl) hL6 (by decide) dX8_sent_67 ?_
  refine e_v1i (c_answer X _) lm_X8_107 dX8_sent_68 (X.S.l 0 rfl) (X.S.k 0 rfl rfl) rfl rfl rfl rfl ?_
  exact e_iret rfl dX8_sent_71 rfl rfl rfl rfl
theorem m_sent2 {h : Hp} {t : Nat} {cn : Nat → Nat} (X : CX h t cn) {L : Nat} (hL : L < cn 7) (f : Int32) (hf : f.toInt = 2) : gCi 1 0 0 yX8_sent cX8_sent 3 (some .int) [.ref 0, .int (nI L), .int f] h (some (.int (gI h (t + 11) L))) (pI h 0 8 0) := by
  have hL6 : L < 6 := by have := X.b7; omega
  refine g_entry (lv := [.ref 0, .int (nI L), .int f]) 0 pn_X8 rfl rfl rfl ?_
  refine g_aL0 dX8_sent_0 ?_
  refine g_iL1 dX8_sent_1 ?_
  refine e_v1i (c_isLetter X _) lm_X8_197 dX8_sent_2 (X.S.l 0 rfl) (X.S.k 0 rfl rfl) rfl rfl rfl rfl ?_
  rw [ip_in hL (by have := X.b7; omega)]
  refine g_ifne dX8_sent_5 (fun c5 => ?_) (fun c5 => absurd c5 (by decide))
  refine g_iL2 dX8_sent_14 ?_
  refine g_swIn 2 dX8_sent_15 hf rfl ?_
  refine g_aL0 dX8_sent_72 ?_
  refine g_aL0 dX8_sent_73 ?_
  refine g_getR lf_X8_19 (X.S.l 0 rfl) (X.S.k 0 rfl rfl) X.T dX8_sent_74 ?_
  refine g_getR lf_X8_206 (X.S.cl X.hc 0 rfl) (X.S.ck X.hc) (X.S.cr X.hc 16 (j := 11) rfl rfl) dX8_sent_77 ?_
  refine g_iL1 dX8_sent_80 ?_
  refine g_ialoadN (X.S.cl X.hc 11 rfl) (X.S.cka X.hc 11 rfl rfl) (X.S.cn X.hc 11 (n := 6) rfl rfl rfl) hL6 (by decide) dX8_sent_81 ?_
  refine e_v1i (c_answer X _) lm_X8_107 dX8_sent_82 (X.S.l 0 rfl) (X.S.k 0 rfl rfl) rfl rfl rfl rfl ?_
  exact e_iret rfl dX8_sent_85 rfl rfl rfl rfl
theorem m_sent3 {h : Hp} {t : Nat} {cn : Nat → Nat} (X : CX h t cn) {L : Nat} (hL : L < cn 7) (f : Int32) (hf : f.toInt = 3) {F : Nat} (hF7 : F < 7) (e10 : gI h (t + 10) L = nI F) : gCi 12 0 0 yX8_sent cX8_sent 3 (some .int) [.ref 0, .int (nI L), .int f] h (some (.int (smF (swF h t (cn 4) F (gI h (t + 11) L) (bt 0))))) (pI (gsH h t (cn 4) F (gI h (t + 11) L) 0) 0 8 0) := by
  have hL6 : L < 6 := by have := X.b7; omega
  refine g_entry (lv := [.ref 0, .int (nI L), .int f]) 0 pn_X8 rfl rfl rfl ?_
  refine g_aL0 dX8_sent_0 ?_
  refine g_iL1 dX8_sent_1 ?_
  refine e_v1i (c_isLetter X _) lm_X8_197 dX8_sent_2 (X.S.l 0 rfl) (X.S.k 0 rfl rfl) rfl rfl rfl rfl ?_
  rw [ip_in hL (by have := X.b7; omega)]
  refine g_ifne dX8_sent_5 (fun c5 => ?_) (fun c5 => absurd c5 (by decide))
  refine g_iL2 dX8_sent_14 ?_
  refine g_swIn 3 dX8_sent_15 hf rfl ?_
  refine g_aL0 dX8_sent_86 ?_
  refine g_aL0 dX8_sent_87 ?_
  refine g_aL0 dX8_sent_88 ?_
  refine g_getR lf_X8_19 (X.S.l 0 rfl) (X.S.k 0 rfl rfl) X.T dX8_sent_89 ?_
  refine g_getR lf_X8_203 (X.S.cl X.hc 0 rfl) (X.S.ck X.hc) (X.S.cr X.hc 15 (j := 10) rfl rfl) dX8_sent_92 ?_
  refine g_iL1 dX8_sent_95 ?_
  refine g_ialoadN (X.S.cl X.hc 10 rfl) (X.S.cka X.hc 10 rfl rfl) (X.S.cn X.hc 10 (n := 6) rfl rfl rfl) hL6 (by decide) dX8_sent_96 ?_
  rw [e10]
  refine g_aL0 dX8_sent_97 ?_
  refine g_getR lf_X8_19 (X.S.l 0 rfl) (X.S.k 0 rfl rfl) X.T dX8_sent_98 ?_
  refine g_getR lf_X8_206 (X.S.cl X.hc 0 rfl) (X.S.ck X.hc) (X.S.cr X.hc 16 (j := 11) rfl rfl) dX8_sent_101 ?_
  refine g_iL1 dX8_sent_104 ?_
  refine g_ialoadN (X.S.cl X.hc 11 rfl) (X.S.cka X.hc 11 rfl rfl) (X.S.cn X.hc 11 (n := 6) rfl rfl rfl) hL6 (by decide) dX8_sent_105 ?_
  refine g_iconst dX8_sent_106 ?_
  refine e_v3i (c_soonestMinutes X hF7 _ _) lm_X8_170 dX8_sent_107 (X.S.l 0 rfl) (X.S.k 0 rfl rfl) rfl rfl rfl rfl ?_
  have X1 : CX (gsH h t (cn 4) F (gI h (t + 11) L) 0) t cn := X.wy (gsH_wy _ _ _ _ _ _)
  refine e_v1i (c_answer X1 _) lm_X8_107 dX8_sent_110 (X1.S.l 0 rfl) (X1.S.k 0 rfl rfl) rfl rfl rfl rfl ?_
  exact e_iret rfl dX8_sent_113 rfl rfl rfl rfl
theorem m_sentO {h : Hp} {t : Nat} {cn : Nat → Nat} (X : CX h t cn) {L : Nat} (hL : L < cn 7) (f : Int32) (hf : f.toInt < 0 ∨ 4 ≤ f.toInt) : gCi 1 0 0 yX8_sent cX8_sent 3 (some .int) [.ref 0, .int (nI L), .int f] h (some (.int (-1))) (pI h 0 8 1) := by
  refine g_entry (lv := [.ref 0, .int (nI L), .int f]) 0 pn_X8 rfl rfl rfl ?_
  refine g_aL0 dX8_sent_0 ?_
  refine g_iL1 dX8_sent_1 ?_
  refine e_v1i (c_isLetter X _) lm_X8_197 dX8_sent_2 (X.S.l 0 rfl) (X.S.k 0 rfl rfl) rfl rfl rfl rfl ?_
  rw [ip_in hL (by have := X.b7; omega)]
  refine g_ifne dX8_sent_5 (fun c5 => ?_) (fun c5 => absurd c5 (by decide))
  refine g_iL2 dX8_sent_14 ?_
  refine g_swOut dX8_sent_15 hf ?_
  refine g_aL0 dX8_sent_114 ?_
  refine g_iconst dX8_sent_115 ?_
  refine e_v1i (c_refuse X _) lm_X8_86 dX8_sent_116 (X.S.l 0 rfl) (X.S.k 0 rfl rfl) rfl rfl rfl rfl ?_
  exact e_iret rfl dX8_sent_119 rfl rfl rfl rfl

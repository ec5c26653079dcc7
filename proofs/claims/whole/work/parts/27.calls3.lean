/-! THE CLASS: GlassPost: days, acts, marks, sizes, the tape -/
def ydF (nc s d : Int32) : Int32 := if nc = 0 then (if s < 0 then 2 else if 65536 < s then 2 else if d < 0 then 2 else if d ≤ 99 then 0 else 2) else 1
theorem nc0 {n : Nat} (hn : n < 2147483648) (h : ncF (nI n) = 0) : 0 < n := by
  rcases Nat.eq_zero_or_pos n with z | z
  · subst z; exact absurd h (by decide)
  · exact z
theorem pk_leq {s : Int32} {n : Nat} (hn : n + 1 < 2147483648) (h0 : ¬ s < 0) (h1 : ¬ nI n < s) : ∃ P, P ≤ n ∧ s = nI P := by
  rcases pk_ix s (n := n + 1) hn with z | z | ⟨P, hP, e⟩
  · exact absurd z h0
  · exfalso
    apply h1
    have e1 : (nI (n + 1)).toInt ≤ s.toInt := Int32.le_iff_toInt_le.mp z
    rw [nI_toInt (by omega)] at e1
    apply Int32.lt_iff_toInt_lt.mpr
    rw [nI_toInt (by omega)]
    omega
  · exact ⟨P, by omega, e⟩
theorem yd0 {nc s d : Int32} (h : ydF nc s d = 0) : nc = 0 ∧ ∃ s0 D, s0 ≤ 65536 ∧ D ≤ 99 ∧ s = nI s0 ∧ d = nI D := by
  unfold ydF at h
  split at h
  · rename_i e
    split at h
    · exact absurd h (by decide)
    · rename_i e1
      split at h
      · exact absurd h (by decide)
      · rename_i e2
        split at h
        · exact absurd h (by decide)
        · rename_i e3
          split at h
          · rename_i e4
            obtain ⟨s0, a, b⟩ := pk_leq (n := 65536) (by decide) e1 e2
            obtain ⟨D, c, f⟩ := pk_leq (n := 99) (by decide) e3 (Int32.not_lt.mpr e4)
            exact ⟨e, s0, D, a, c, b, f⟩
          · exact absurd h (by decide)
  · exact absurd h (by decide)
theorem c_whyNoDays {h : Hp} {t : Nat} {cn : Nat → Nat} (X : CX h t cn) (s d : Int32) : gCi 1 0 0 yX8_whyNoDays cX8_whyNoDays 3 (some .int) [.ref 0, .int s, .int d] h (some (.int (ydF (ncF (nI (cn 1))) s d))) h := by
  refine g_entry (lv := [.ref 0, .int s, .int d]) 0 pn_X8 rfl rfl rfl ?_
  refine g_aL0 dX8_whyNoDays_0 ?_
  refine e_v0i (c_noCity X) lm_X8_215 dX8_whyNoDays_1 (X.S.l 0 rfl) (X.S.k 0 rfl rfl) rfl rfl rfl rfl ?_
  refine g_ifeq dX8_whyNoDays_4 (fun c4 => ?_) (fun c4 => ?_)
  · refine g_iL1 dX8_whyNoDays_9 ?_
    refine g_iflt dX8_whyNoDays_10 (fun c10 => ?_) (fun c10 => ?_)
    · refine g_iconst dX8_whyNoDays_30 ?_
      refine g_goto dX8_whyNoDays_31 ?_
      exact e_iret rfl dX8_whyNoDays_35 rfl rfl ((if_pos c4).trans (if_pos c10)).symm rfl
    · refine g_iL1 dX8_whyNoDays_13 ?_
      refine g_ldc_w dX8_whyNoDays_14 lc_X8_334 ?_
      refine g_icgt dX8_whyNoDays_17 (fun c17 => ?_) (fun c17 => ?_)
      · refine g_iconst dX8_whyNoDays_30 ?_
        refine g_goto dX8_whyNoDays_31 ?_
        exact e_iret rfl dX8_whyNoDays_35 rfl rfl ((if_pos c4).trans ((if_neg c10).trans (if_pos c17))).symm rfl
      · refine g_iL2 dX8_whyNoDays_20 ?_
        refine g_iflt dX8_whyNoDays_21 (fun c21 => ?_) (fun c21 => ?_)
        · refine g_iconst dX8_whyNoDays_30 ?_
          refine g_goto dX8_whyNoDays_31 ?_
          exact e_iret rfl dX8_whyNoDays_35 rfl rfl ((if_pos c4).trans ((if_neg c10).trans ((if_neg c17).trans (if_pos c21)))).symm rfl
        · refine g_iL2 dX8_whyNoDays_24 ?_
          refine g_bipush dX8_whyNoDays_25 ?_
          refine g_icle dX8_whyNoDays_27 (fun c27 => ?_) (fun c27 => ?_)
          · refine g_iconst dX8_whyNoDays_34 ?_
            exact e_iret rfl dX8_whyNoDays_35 rfl rfl ((if_pos c4).trans ((if_neg c10).trans ((if_neg c17).trans ((if_neg c21).trans (if_pos c27))))).symm rfl
          · refine g_iconst dX8_whyNoDays_30 ?_
            refine g_goto dX8_whyNoDays_31 ?_
            exact e_iret rfl dX8_whyNoDays_35 rfl rfl ((if_pos c4).trans ((if_neg c10).trans ((if_neg c17).trans ((if_neg c21).trans (if_neg c27))))).symm rfl
  · refine g_iconst dX8_whyNoDays_7 ?_
    exact e_iret rfl dX8_whyNoDays_8 rfl rfl (if_neg c4).symm rfl
abbrev paQ (h : Hp) (t : Nat) (cn : Nat → Nat) (s d : Int32) : Nat × Int32 × Int32 := (paF (gI h t 3) (gI h t 4) (gI h (t + 2)) (cn 1) (pn d) 1 (pn s) (ubF (gI h (t + 1) 1) (gI h 38 3)) 0)
theorem paT_X {h : Hp} {t : Nat} {cn : Nat → Nat} (X : CX h t cn) (q : Nat × Int32 × Int32) : CX (paT h q) t cn := X.fr X.S rfl rfl (fun k => by have := X.hc; exact h3_n _ _ _ _ (by omega))
theorem m_left {h : Hp} {t : Nat} {cn : Nat → Nat} (X : CX h t cn) (s d : Int32) : gCi 3 0 0 yX8_left cX8_left 4 (some .int) [.ref 0, .int s, .int d] h (some (.int (if (ydF (ncF (nI (cn 1))) s d) = 0 then (paQ h t cn s d).2.1 else -1))) (if (ydF (ncF (nI (cn 1))) s d) = 0 then pI (paT h (paQ h t cn s d)) 0 8 0 else pI h 0 8 (ydF (ncF (nI (cn 1))) s d)) := by
  refine g_entry (lv := [.ref 0, .int s, .int d, .retAddr 0]) 1 pn_X8 rfl rfl rfl ?_
  refine g_aL0 dX8_left_0 ?_
  refine g_iL1 dX8_left_1 ?_
  refine g_iL2 dX8_left_2 ?_
  refine e_v2i (c_whyNoDays X _ _) lm_X8_267 dX8_left_3 (X.S.l 0 rfl) (X.S.k 0 rfl rfl) rfl rfl rfl rfl ?_
  refine g_iS3 dX8_left_6 rfl rfl ?_
  refine g_iL3 dX8_left_7 ?_
  refine g_ifeq dX8_left_8 (fun c8 => ?_) (fun c8 => ?_)
  · obtain ⟨hn, s0, D, hs0, hD, rfl, rfl⟩ := yd0 c8
    have hn0 := nc0 (by have := X.b1; omega) hn
    refine g_aL0 dX8_left_17 ?_
    refine g_getR lf_X8_61 (X.S.l 0 rfl) (X.S.k 0 rfl rfl) (X.S.r 0 5 (b := 49) rfl rfl) dX8_left_18 ?_
    refine g_aL0 dX8_left_21 ?_
    refine g_getR lf_X8_19 (X.S.l 0 rfl) (X.S.k 0 rfl rfl) X.T dX8_left_22 ?_
    refine g_aL0 dX8_left_25 ?_
    refine g_getR lf_X8_40 (X.S.l 0 rfl) (X.S.k 0 rfl rfl) (X.S.r 0 2 (b := 38) rfl rfl) dX8_left_26 ?_
    refine e_v0i (c_unbroken X.S X.hc X.P) lm_X8_270 dX8_left_29 (X.S.l 38 rfl) (X.S.k 38 rfl rfl) rfl rfl rfl rfl ?_
    refine g_iL1 dX8_left_32 ?_
    refine g_iL2 dX8_left_33 ?_
    refine e_v4u (c_pass X.S X.hc (X.c 1 rfl) hn0 X.b1 hs0 _ hD) lm_X8_273 dX8_left_34 (X.S.l 49 rfl) (X.S.k 49 rfl rfl) rfl rfl rfl rfl ?_
    have X1 := paT_X X (paF (gI h t 3) (gI h t 4) (gI h (t + 2)) (cn 1) D 1 s0 (ubF (gI h (t + 1) 1) (gI h 38 3)) 0)
    refine g_aL0 dX8_left_37 ?_
    refine g_aL0 dX8_left_38 ?_
    refine g_getR lf_X8_61 (X1.S.l 0 rfl) (X1.S.k 0 rfl rfl) (X1.S.r 0 5 (b := 49) rfl rfl) dX8_left_39 ?_
    refine g_gI lf_X8_276 (X1.S.l 49 rfl) (X1.S.k 49 rfl rfl) dX8_left_42 ?_
    refine e_v1i (c_answer X1 _) lm_X8_107 dX8_left_45 (X1.S.l 0 rfl) (X1.S.k 0 rfl rfl) rfl rfl rfl rfl ?_
    exact e_iret rfl dX8_left_48 rfl rfl (by rw [if_pos c8, paQ, pn_nI (by omega), pn_nI (by omega)]; rfl) (by rw [if_pos c8, paQ, pn_nI (by omega), pn_nI (by omega)])
  · refine g_aL0 dX8_left_11 ?_
    refine g_iL3 dX8_left_12 ?_
    refine e_v1i (c_refuse X _) lm_X8_86 dX8_left_13 (X.S.l 0 rfl) (X.S.k 0 rfl rfl) rfl rfl rfl rfl ?_
    exact e_iret rfl dX8_left_16 rfl rfl (if_neg c8).symm (if_neg c8).symm
theorem m_hails {h : Hp} {t : Nat} {cn : Nat → Nat} (X : CX h t cn) (s d : Int32) : gCi 3 0 0 yX8_hails cX8_hails 4 (some .int) [.ref 0, .int s, .int d] h (some (.int (if (ydF (ncF (nI (cn 1))) s d) = 0 then (paQ h t cn s d).2.2 else -1))) (if (ydF (ncF (nI (cn 1))) s d) = 0 then pI (paT h (paQ h t cn s d)) 0 8 0 else pI h 0 8 (ydF (ncF (nI (cn 1))) s d)) := by
  refine g_entry (lv := [.ref 0, .int s, .int d, .retAddr 0]) 1 pn_X8 rfl rfl rfl ?_
  refine g_aL0 dX8_hails_0 ?_
  refine g_iL1 dX8_hails_1 ?_
  refine g_iL2 dX8_hails_2 ?_
  refine e_v2i (c_whyNoDays X _ _) lm_X8_267 dX8_hails_3 (X.S.l 0 rfl) (X.S.k 0 rfl rfl) rfl rfl rfl rfl ?_
  refine g_iS3 dX8_hails_6 rfl rfl ?_
  refine g_iL3 dX8_hails_7 ?_
  refine g_ifeq dX8_hails_8 (fun c8 => ?_) (fun c8 => ?_)
  · obtain ⟨hn, s0, D, hs0, hD, rfl, rfl⟩ := yd0 c8
    have hn0 := nc0 (by have := X.b1; omega) hn
    refine g_aL0 dX8_hails_17 ?_
    refine g_getR lf_X8_61 (X.S.l 0 rfl) (X.S.k 0 rfl rfl) (X.S.r 0 5 (b := 49) rfl rfl) dX8_hails_18 ?_
    refine g_aL0 dX8_hails_21 ?_
    refine g_getR lf_X8_19 (X.S.l 0 rfl) (X.S.k 0 rfl rfl) X.T dX8_hails_22 ?_
    refine g_aL0 dX8_hails_25 ?_
    refine g_getR lf_X8_40 (X.S.l 0 rfl) (X.S.k 0 rfl rfl) (X.S.r 0 2 (b := 38) rfl rfl) dX8_hails_26 ?_
    refine e_v0i (c_unbroken X.S X.hc X.P) lm_X8_270 dX8_hails_29 (X.S.l 38 rfl) (X.S.k 38 rfl rfl) rfl rfl rfl rfl ?_
    refine g_iL1 dX8_hails_32 ?_
    refine g_iL2 dX8_hails_33 ?_
    refine e_v4u (c_pass X.S X.hc (X.c 1 rfl) hn0 X.b1 hs0 _ hD) lm_X8_273 dX8_hails_34 (X.S.l 49 rfl) (X.S.k 49 rfl rfl) rfl rfl rfl rfl ?_
    have X1 := paT_X X (paF (gI h t 3) (gI h t 4) (gI h (t + 2)) (cn 1) D 1 s0 (ubF (gI h (t + 1) 1) (gI h 38 3)) 0)
    refine g_aL0 dX8_hails_37 ?_
    refine g_aL0 dX8_hails_38 ?_
    refine g_getR lf_X8_61 (X1.S.l 0 rfl) (X1.S.k 0 rfl rfl) (X1.S.r 0 5 (b := 49) rfl rfl) dX8_hails_39 ?_
    refine g_gI lf_X8_279 (X1.S.l 49 rfl) (X1.S.k 49 rfl rfl) dX8_hails_42 ?_
    refine e_v1i (c_answer X1 _) lm_X8_107 dX8_hails_45 (X1.S.l 0 rfl) (X1.S.k 0 rfl rfl) rfl rfl rfl rfl ?_
    exact e_iret rfl dX8_hails_48 rfl rfl (by rw [if_pos c8, paQ, pn_nI (by omega), pn_nI (by omega)]; rfl) (by rw [if_pos c8, paQ, pn_nI (by omega), pn_nI (by omega)])
  · refine g_aL0 dX8_hails_11 ?_
    refine g_iL3 dX8_hails_12 ?_
    refine e_v1i (c_refuse X _) lm_X8_86 dX8_hails_13 (X.S.l 0 rfl) (X.S.k 0 rfl rfl) rfl rfl rfl rfl ?_
    exact e_iret rfl dX8_hails_16 rfl rfl (if_neg c8).symm (if_neg c8).symm
def prH (h : Hp) (A : Nat) (s : Int32) (p : Nat) (c : Int32) : Hp := if A = 16 then pfH (fgH (chH h s p c)) 15 s p c else pfH (chH h s p c) A s p c
theorem c_perform {h : Hp} (S : SX h) {A : Nat} (hA : gI h 38 7 = nI A) (hA16 : A ≤ 16) (s : Int32) {p : Nat} (hp : p < 8) (c : Int32) : gCi 1 0 0 yX2_perform cX2_perform 4 none [.ref 38, .int s, .int (nI p), .int c] h none (prH h A s p c) := by
  unfold prH
  split
  · rename_i e; subst e; exact c_perform2 S hA s hp c
  · exact c_perform1 S hA (by omega) s hp c
theorem c_act0 {h : Hp} {t : Nat} {cn : Nat → Nat} (X : CX h t cn) (y s p c : Int32) (hy : ¬ y = 0) : gCi 2 0 0 yX8_act cX8_act 5 (some .boolean) [.ref 0, .int y, .int s, .int p, .int c] h (some (.int 0)) (pI h 0 8 y) := by
  refine g_entry (lv := [.ref 0, .int y, .int s, .int p, .int c]) 0 pn_X8 rfl rfl rfl ?_
  refine g_aL0 dX8_act_0 ?_
  refine g_iL1 dX8_act_1 ?_
  refine g_pI0 lf_X8_65 (X.S.l 0 rfl) (X.S.k 0 rfl rfl) dX8_act_2 ?_
  refine g_iL1 dX8_act_5 ?_
  refine g_ifeq dX8_act_6 (fun c6 => absurd c6 hy) (fun c6 => ?_)
  refine g_iconst dX8_act_9 ?_
  exact e_zret rfl (by decide) dX8_act_10 rfl rfl rfl rfl
theorem c_act1a {h : Hp} {t : Nat} {cn : Nat → Nat} (X : CX h t cn) {A : Nat} (hA : gI h 38 7 = nI A) (hA16 : A ≤ 16) (s : Int32) {p : Nat} (hp : p < 8) (c : Int32) : gCi 2 0 0 yX8_act cX8_act 5 (some .boolean) [.ref 0, .int 0, .int s, .int (nI p), .int c] h (some (.int 1)) (prH (pI h 0 8 0) A s p c) := by
  refine g_entry (lv := [.ref 0, .int 0, .int s, .int (nI p), .int c]) 0 pn_X8 rfl rfl rfl ?_
  refine g_aL0 dX8_act_0 ?_
  refine g_iL1 dX8_act_1 ?_
  refine g_pI0 lf_X8_65 (X.S.l 0 rfl) (X.S.k 0 rfl rfl) dX8_act_2 ?_
  refine g_iL1 dX8_act_5 ?_
  refine g_ifeq dX8_act_6 (fun c6 => ?_) (fun c6 => absurd rfl c6)
  refine g_aL0 dX8_act_11 ?_
  refine g_getR lf_X8_40 (X.S.l 0 rfl) (X.S.k 0 rfl rfl) (X.S.r 0 2 (b := 38) rfl rfl) dX8_act_12 ?_
  refine g_iL2 dX8_act_15 ?_
  refine g_iL3 dX8_act_16 ?_
  refine g_iL4 dX8_act_17 ?_
  refine e_v3u (c_perform (h := pI h 0 8 0) X.S ((gIq (by decide)).trans hA) hA16 s hp c) lm_X8_335 dX8_act_19 (X.S.l 38 rfl) (X.S.k 38 rfl rfl) rfl rfl rfl rfl ?_
  refine g_iconst dX8_act_22 ?_
  exact e_zret rfl (by decide) dX8_act_23 rfl rfl rfl rfl
theorem c_act1 {h : Hp} {t : Nat} {cn : Nat → Nat} (X : CX h t cn) {A : Nat} (hA : gI h 38 7 = nI A) (hA16 : A ≤ 16) (y s : Int32) {p : Nat} (hp : p < 8) (c : Int32) (hy : y = 0) : gCi 2 0 0 yX8_act cX8_act 5 (some .boolean) [.ref 0, .int y, .int s, .int (nI p), .int c] h (some (.int 1)) (prH (pI h 0 8 0) A s p c) := by
  subst hy
  exact c_act1a X hA hA16 s hp c
def scY (y b : Int32) : Int32 := if y = 0 then (if b = 0 then 0 else 5) else y
def scB (y k : Int32) : Int32 := if y = 0 then (if k = 1 then 5 else 0) else y
theorem m_scratch {h : Hp} {t : Nat} {cn : Nat → Nat} (X : CX h t cn) {A : Nat} (hA : gI h 38 7 = nI A) (hA16 : A ≤ 16) (p c : Int32) : gCi 3 0 0 yX8_scratch cX8_scratch 4 (some .boolean) [.ref 0, .int p, .int c] h (some (.int (if (scY (wnF (ipF p (nI (cn 1))) (ipF c (gI h t 1 * gI h t 2)) (thF (gI h 38 3) p)) (bz (gI h 39 (pn p)) c)) = 0 then 1 else 0))) (if (scY (wnF (ipF p (nI (cn 1))) (ipF c (gI h t 1 * gI h t 2)) (thF (gI h 38 3) p)) (bz (gI h 39 (pn p)) c)) = 0 then prH (pI h 0 8 0) A 0 (pn p) c else pI h 0 8 (scY (wnF (ipF p (nI (cn 1))) (ipF c (gI h t 1 * gI h t 2)) (thF (gI h 38 3) p)) (bz (gI h 39 (pn p)) c))) := by
  refine g_entry (lv := [.ref 0, .int p, .int c, .retAddr 0]) 1 pn_X8 rfl rfl rfl ?_
  refine g_aL0 dX8_scratch_0 ?_
  refine g_iL1 dX8_scratch_1 ?_
  refine g_aL0 dX8_scratch_2 ?_
  refine g_iL2 dX8_scratch_3 ?_
  refine e_v1i (c_isCell X _) lm_X8_282 dX8_scratch_4 (X.S.l 0 rfl) (X.S.k 0 rfl rfl) rfl rfl rfl rfl ?_
  refine e_v2i (c_whyNot X _ _) lm_X8_144 dX8_scratch_7 (X.S.l 0 rfl) (X.S.k 0 rfl rfl) rfl rfl rfl rfl ?_
  refine g_iS3 dX8_scratch_10 rfl rfl ?_
  refine g_iL3 dX8_scratch_11 ?_
  refine g_ifne dX8_scratch_12 (fun c12 => ?_) (fun c12 => ?_)
  · refine g_aL0 dX8_scratch_33 ?_
    refine g_iL3 dX8_scratch_34 ?_
    refine g_iconst dX8_scratch_35 ?_
    refine g_iL1 dX8_scratch_36 ?_
    refine g_iL2 dX8_scratch_37 ?_
    refine e_v4i (c_act0 X _ _ _ _ c12) lm_X8_285 dX8_scratch_38 (X.S.l 0 rfl) (X.S.k 0 rfl rfl) rfl rfl rfl rfl ?_
    exact e_zret rfl (by decide) dX8_scratch_41 rfl rfl (by rw [show (scY (wnF (ipF p (nI (cn 1))) (ipF c (gI h t 1 * gI h t 2)) (thF (gI h 38 3) p)) (bz (gI h 39 (pn p)) c)) = _ from if_neg c12, if_neg c12]) (by rw [show (scY (wnF (ipF p (nI (cn 1))) (ipF c (gI h t 1 * gI h t 2)) (thF (gI h 38 3) p)) (bz (gI h 39 (pn p)) c)) = _ from if_neg c12, if_neg c12])
  · obtain ⟨P, hP, rfl⟩ := ip1 (by have := X.b1; omega) (wn0 c12).1
    have hP8 : P < 8 := by have := X.b1; omega
    refine g_aL0 dX8_scratch_15 ?_
    refine g_getR lf_X8_40 (X.S.l 0 rfl) (X.S.k 0 rfl rfl) (X.S.r 0 2 (b := 38) rfl rfl) dX8_scratch_16 ?_
    refine g_getR lf_X8_117 (X.S.l 38 rfl) (X.S.k 38 rfl rfl) (X.S.r 38 1 (b := 39) rfl rfl) dX8_scratch_19 ?_
    refine g_iL1 dX8_scratch_22 ?_
    refine g_ialoadN (X.S.l 39 rfl) (X.S.k 39 rfl rfl) (X.S.n 39 (n := 8) rfl rfl) hP8 (by decide) dX8_scratch_23 ?_
    refine g_iL2 dX8_scratch_24 ?_
    refine g_ishr dX8_scratch_25 ?_
    refine g_iconst dX8_scratch_26 ?_
    refine g_iand dX8_scratch_27 ?_
    refine g_ifeq dX8_scratch_28 (fun c28 => ?_) (fun c28 => ?_)
    · refine g_aL0 dX8_scratch_33 ?_
      refine g_iL3 dX8_scratch_34 ?_
      refine g_iconst dX8_scratch_35 ?_
      refine g_iL1 dX8_scratch_36 ?_
      refine g_iL2 dX8_scratch_37 ?_
      refine e_v4i (c_act1 X hA hA16 _ _ hP8 _ c12) lm_X8_285 dX8_scratch_38 (X.S.l 0 rfl) (X.S.k 0 rfl rfl) rfl rfl rfl rfl ?_
      exact e_zret rfl (by decide) dX8_scratch_41 rfl rfl (by rw [if_pos (show (scY (wnF (ipF (nI P) (nI (cn 1))) (ipF c (gI h t 1 * gI h t 2)) (thF (gI h 38 3) (nI P))) (bz (gI h 39 (pn (nI P))) c)) = 0 from by unfold scY; rw [if_pos c12, pn_nI (by omega)]; exact if_pos c28)]) (by rw [if_pos (show (scY (wnF (ipF (nI P) (nI (cn 1))) (ipF c (gI h t 1 * gI h t 2)) (thF (gI h 38 3) (nI P))) (bz (gI h 39 (pn (nI P))) c)) = 0 from by unfold scY; rw [if_pos c12, pn_nI (by omega)]; exact if_pos c28), pn_nI (by omega)])
    · refine g_iconst dX8_scratch_31 ?_
      refine g_iS3 dX8_scratch_32 rfl rfl ?_
      refine g_aL0 dX8_scratch_33 ?_
      refine g_iL3 dX8_scratch_34 ?_
      refine g_iconst dX8_scratch_35 ?_
      refine g_iL1 dX8_scratch_36 ?_
      refine g_iL2 dX8_scratch_37 ?_
      refine e_v4i (c_act0 X _ _ _ _ (by decide)) lm_X8_285 dX8_scratch_38 (X.S.l 0 rfl) (X.S.k 0 rfl rfl) rfl rfl rfl rfl ?_
      exact e_zret rfl (by decide) dX8_scratch_41 rfl rfl (by rw [(show (scY (wnF (ipF (nI P) (nI (cn 1))) (ipF c (gI h t 1 * gI h t 2)) (thF (gI h 38 3) (nI P))) (bz (gI h 39 (pn (nI P))) c)) = 5 from by unfold scY; rw [if_pos c12, pn_nI (by omega)]; exact if_neg c28)]; rfl) (by rw [(show (scY (wnF (ipF (nI P) (nI (cn 1))) (ipF c (gI h t 1 * gI h t 2)) (thF (gI h 38 3) (nI P))) (bz (gI h 39 (pn (nI P))) c)) = 5 from by unfold scY; rw [if_pos c12, pn_nI (by omega)]; exact if_neg c28)]; rfl)
theorem m_cover {h : Hp} {t : Nat} {cn : Nat → Nat} (X : CX h t cn) {A : Nat} (hA : gI h 38 7 = nI A) (hA16 : A ≤ 16) (p c : Int32) : gCi 3 0 0 yX8_cover cX8_cover 4 (some .boolean) [.ref 0, .int p, .int c] h (some (.int (if (scY (wnF (ipF p (nI (cn 1))) (ipF c (gI h t 1 * gI h t 2)) (thF (gI h 38 3) p)) (bz (gI h 40 (pn p)) c)) = 0 then 1 else 0))) (if (scY (wnF (ipF p (nI (cn 1))) (ipF c (gI h t 1 * gI h t 2)) (thF (gI h 38 3) p)) (bz (gI h 40 (pn p)) c)) = 0 then prH (pI h 0 8 0) A 1 (pn p) c else pI h 0 8 (scY (wnF (ipF p (nI (cn 1))) (ipF c (gI h t 1 * gI h t 2)) (thF (gI h 38 3) p)) (bz (gI h 40 (pn p)) c))) := by
  refine g_entry (lv := [.ref 0, .int p, .int c, .retAddr 0]) 1 pn_X8 rfl rfl rfl ?_
  refine g_aL0 dX8_cover_0 ?_
  refine g_iL1 dX8_cover_1 ?_
  refine g_aL0 dX8_cover_2 ?_
  refine g_iL2 dX8_cover_3 ?_
  refine e_v1i (c_isCell X _) lm_X8_282 dX8_cover_4 (X.S.l 0 rfl) (X.S.k 0 rfl rfl) rfl rfl rfl rfl ?_
  refine e_v2i (c_whyNot X _ _) lm_X8_144 dX8_cover_7 (X.S.l 0 rfl) (X.S.k 0 rfl rfl) rfl rfl rfl rfl ?_
  refine g_iS3 dX8_cover_10 rfl rfl ?_
  refine g_iL3 dX8_cover_11 ?_
  refine g_ifne dX8_cover_12 (fun c12 => ?_) (fun c12 => ?_)
  · refine g_aL0 dX8_cover_33 ?_
    refine g_iL3 dX8_cover_34 ?_
    refine g_iconst dX8_cover_35 ?_
    refine g_iL1 dX8_cover_36 ?_
    refine g_iL2 dX8_cover_37 ?_
    refine e_v4i (c_act0 X _ _ _ _ c12) lm_X8_285 dX8_cover_38 (X.S.l 0 rfl) (X.S.k 0 rfl rfl) rfl rfl rfl rfl ?_
    exact e_zret rfl (by decide) dX8_cover_41 rfl rfl (by rw [show (scY (wnF (ipF p (nI (cn 1))) (ipF c (gI h t 1 * gI h t 2)) (thF (gI h 38 3) p)) (bz (gI h 40 (pn p)) c)) = _ from if_neg c12, if_neg c12]) (by rw [show (scY (wnF (ipF p (nI (cn 1))) (ipF c (gI h t 1 * gI h t 2)) (thF (gI h 38 3) p)) (bz (gI h 40 (pn p)) c)) = _ from if_neg c12, if_neg c12])
  · obtain ⟨P, hP, rfl⟩ := ip1 (by have := X.b1; omega) (wn0 c12).1
    have hP8 : P < 8 := by have := X.b1; omega
    refine g_aL0 dX8_cover_15 ?_
    refine g_getR lf_X8_40 (X.S.l 0 rfl) (X.S.k 0 rfl rfl) (X.S.r 0 2 (b := 38) rfl rfl) dX8_cover_16 ?_
    refine g_getR lf_X8_120 (X.S.l 38 rfl) (X.S.k 38 rfl rfl) (X.S.r 38 2 (b := 40) rfl rfl) dX8_cover_19 ?_
    refine g_iL1 dX8_cover_22 ?_
    refine g_ialoadN (X.S.l 40 rfl) (X.S.k 40 rfl rfl) (X.S.n 40 (n := 8) rfl rfl) hP8 (by decide) dX8_cover_23 ?_
    refine g_iL2 dX8_cover_24 ?_
    refine g_ishr dX8_cover_25 ?_
    refine g_iconst dX8_cover_26 ?_
    refine g_iand dX8_cover_27 ?_
    refine g_ifeq dX8_cover_28 (fun c28 => ?_) (fun c28 => ?_)
    · refine g_aL0 dX8_cover_33 ?_
      refine g_iL3 dX8_cover_34 ?_
      refine g_iconst dX8_cover_35 ?_
      refine g_iL1 dX8_cover_36 ?_
      refine g_iL2 dX8_cover_37 ?_
      refine e_v4i (c_act1 X hA hA16 _ _ hP8 _ c12) lm_X8_285 dX8_cover_38 (X.S.l 0 rfl) (X.S.k 0 rfl rfl) rfl rfl rfl rfl ?_
      exact e_zret rfl (by decide) dX8_cover_41 rfl rfl (by rw [if_pos (show (scY (wnF (ipF (nI P) (nI (cn 1))) (ipF c (gI h t 1 * gI h t 2)) (thF (gI h 38 3) (nI P))) (bz (gI h 40 (pn (nI P))) c)) = 0 from by unfold scY; rw [if_pos c12, pn_nI (by omega)]; exact if_pos c28)]) (by rw [if_pos (show (scY (wnF (ipF (nI P) (nI (cn 1))) (ipF c (gI h t 1 * gI h t 2)) (thF (gI h 38 3) (nI P))) (bz (gI h 40 (pn (nI P))) c)) = 0 from by unfold scY; rw [if_pos c12, pn_nI (by omega)]; exact if_pos c28), pn_nI (by omega)])
    · refine g_iconst dX8_cover_31 ?_
      refine g_iS3 dX8_cover_32 rfl rfl ?_
      refine g_aL0 dX8_cover_33 ?_
      refine g_iL3 dX8_cover_34 ?_
      refine g_iconst dX8_cover_35 ?_
      refine g_iL1 dX8_cover_36 ?_
      refine g_iL2 dX8_cover_37 ?_
      refine e_v4i (c_act0 X _ _ _ _ (by decide)) lm_X8_285 dX8_cover_38 (X.S.l 0 rfl) (X.S.k 0 rfl rfl) rfl rfl rfl rfl ?_
      exact e_zret rfl (by decide) dX8_cover_41 rfl rfl (by rw [(show (scY (wnF (ipF (nI P) (nI (cn 1))) (ipF c (gI h t 1 * gI h t 2)) (thF (gI h 38 3) (nI P))) (bz (gI h 40 (pn (nI P))) c)) = 5 from by unfold scY; rw [if_pos c12, pn_nI (by omega)]; exact if_neg c28)]; rfl) (by rw [(show (scY (wnF (ipF (nI P) (nI (cn 1))) (ipF c (gI h t 1 * gI h t 2)) (thF (gI h 38 3) (nI P))) (bz (gI h 40 (pn (nI P))) c)) = 5 from by unfold scY; rw [if_pos c12, pn_nI (by omega)]; exact if_neg c28)]; rfl)
theorem m_breaks {h : Hp} {t : Nat} {cn : Nat → Nat} (X : CX h t cn) {A : Nat} (hA : gI h 38 7 = nI A) (hA16 : A ≤ 16) (p : Int32) : gCi 3 0 0 yX8_breaks cX8_breaks 3 (some .boolean) [.ref 0, .int p] h (some (.int (if (scB (wnF (ipF p (nI (cn 1))) 1 (thF (gI h 38 3) p)) (gI h (t + 2) (pn p))) = 0 then 1 else 0))) (if (scB (wnF (ipF p (nI (cn 1))) 1 (thF (gI h 38 3) p)) (gI h (t + 2) (pn p))) = 0 then prH (pI h 0 8 0) A 2 (pn p) 0 else pI h 0 8 (scB (wnF (ipF p (nI (cn 1))) 1 (thF (gI h 38 3) p)) (gI h (t + 2) (pn p)))) := by
  refine g_entry (lv := [.ref 0, .int p, .retAddr 0]) 1 pn_X8 rfl rfl rfl ?_
  refine g_aL0 dX8_breaks_0 ?_
  refine g_iL1 dX8_breaks_1 ?_
  refine g_iconst dX8_breaks_2 ?_
  refine e_v2i (c_whyNot X _ _) lm_X8_144 dX8_breaks_3 (X.S.l 0 rfl) (X.S.k 0 rfl rfl) rfl rfl rfl rfl ?_
  refine g_iS2 dX8_breaks_6 rfl rfl ?_
  refine g_iL2 dX8_breaks_7 ?_
  refine g_ifne dX8_breaks_8 (fun c8 => ?_) (fun c8 => ?_)
  · refine g_aL0 dX8_breaks_26 ?_
    refine g_iL2 dX8_breaks_27 ?_
    refine g_iconst dX8_breaks_28 ?_
    refine g_iL1 dX8_breaks_29 ?_
    refine g_iconst dX8_breaks_30 ?_
    refine e_v4i (c_act0 X _ _ _ _ c8) lm_X8_285 dX8_breaks_31 (X.S.l 0 rfl) (X.S.k 0 rfl rfl) rfl rfl rfl rfl ?_
    exact e_zret rfl (by decide) dX8_breaks_34 rfl rfl (by rw [show (scB (wnF (ipF p (nI (cn 1))) 1 (thF (gI h 38 3) p)) (gI h (t + 2) (pn p))) = _ from if_neg c8, if_neg c8]) (by rw [show (scB (wnF (ipF p (nI (cn 1))) 1 (thF (gI h 38 3) p)) (gI h (t + 2) (pn p))) = _ from if_neg c8, if_neg c8])
  · obtain ⟨P, hP, rfl⟩ := ip1 (by have := X.b1; omega) (wn0 c8).1
    have hP8 : P < 8 := by have := X.b1; omega
    refine g_aL0 dX8_breaks_11 ?_
    refine g_getR lf_X8_19 (X.S.l 0 rfl) (X.S.k 0 rfl rfl) X.T dX8_breaks_12 ?_
    refine g_getR lf_X8_114 (X.S.cl X.hc 0 rfl) (X.S.ck X.hc) (X.S.cr X.hc 6 (j := 2) rfl rfl) dX8_breaks_15 ?_
    refine g_iL1 dX8_breaks_18 ?_
    refine g_ialoadN (X.S.cl X.hc 2 rfl) (X.S.cka X.hc 2 rfl rfl) (X.S.cn X.hc 2 (n := 8) rfl rfl rfl) hP8 (by decide) dX8_breaks_19 ?_
    refine g_iconst dX8_breaks_20 ?_
    refine g_icne dX8_breaks_21 (fun c21 => ?_) (fun c21 => ?_)
    · refine g_aL0 dX8_breaks_26 ?_
      refine g_iL2 dX8_breaks_27 ?_
      refine g_iconst dX8_breaks_28 ?_
      refine g_iL1 dX8_breaks_29 ?_
      refine g_iconst dX8_breaks_30 ?_
      refine e_v4i (c_act1 X hA hA16 _ _ hP8 _ c8) lm_X8_285 dX8_breaks_31 (X.S.l 0 rfl) (X.S.k 0 rfl rfl) rfl rfl rfl rfl ?_
      exact e_zret rfl (by decide) dX8_breaks_34 rfl rfl (by rw [if_pos (show (scB (wnF (ipF (nI P) (nI (cn 1))) 1 (thF (gI h 38 3) (nI P))) (gI h (t + 2) (pn (nI P)))) = 0 from by unfold scB; rw [if_pos c8, pn_nI (by omega)]; exact if_neg c21)]) (by rw [if_pos (show (scB (wnF (ipF (nI P) (nI (cn 1))) 1 (thF (gI h 38 3) (nI P))) (gI h (t + 2) (pn (nI P)))) = 0 from by unfold scB; rw [if_pos c8, pn_nI (by omega)]; exact if_neg c21), pn_nI (by omega)])
    · refine g_iconst dX8_breaks_24 ?_
      refine g_iS2 dX8_breaks_25 rfl rfl ?_
      refine g_aL0 dX8_breaks_26 ?_
      refine g_iL2 dX8_breaks_27 ?_
      refine g_iconst dX8_breaks_28 ?_
      refine g_iL1 dX8_breaks_29 ?_
      refine g_iconst dX8_breaks_30 ?_
      refine e_v4i (c_act0 X _ _ _ _ (by decide)) lm_X8_285 dX8_breaks_31 (X.S.l 0 rfl) (X.S.k 0 rfl rfl) rfl rfl rfl rfl ?_
      exact e_zret rfl (by decide) dX8_breaks_34 rfl rfl (by rw [(show (scB (wnF (ipF (nI P) (nI (cn 1))) 1 (thF (gI h 38 3) (nI P))) (gI h (t + 2) (pn (nI P)))) = 5 from by unfold scB; rw [if_pos c8, pn_nI (by omega)]; exact if_pos c21)]; rfl) (by rw [(show (scB (wnF (ipF (nI P) (nI (cn 1))) 1 (thF (gI h 38 3) (nI P))) (gI h (t + 2) (pn (nI P)))) = 5 from by unfold scB; rw [if_pos c8, pn_nI (by omega)]; exact if_pos c21)]; rfl)
theorem m_undo0 {h : Hp} {t : Nat} {cn : Nat → Nat} (X : CX h t cn) (hA : gI h 38 7 = 0) : gCi 2 0 0 yX8_undo cX8_undo 1 (some .boolean) [.ref 0] h (some (.int 0)) (pI h 0 8 6) := by
  refine g_entry (lv := [.ref 0]) 0 pn_X8 rfl rfl rfl ?_
  refine g_aL0 dX8_undo_0 ?_
  refine g_aL0 dX8_undo_1 ?_
  refine g_getR lf_X8_40 (X.S.l 0 rfl) (X.S.k 0 rfl rfl) (X.S.r 0 2 (b := 38) rfl rfl) dX8_undo_2 ?_
  refine e_v0i (c_takeBack0 X.S hA) lm_X8_289 dX8_undo_5 (X.S.l 38 rfl) (X.S.k 38 rfl rfl) rfl rfl rfl rfl ?_
  refine g_ifeq dX8_undo_8 (fun c8 => ?_) (fun c8 => absurd rfl c8)
  refine g_bipush dX8_undo_15 ?_
  refine g_pI0 lf_X8_65 (X.S.l 0 rfl) (X.S.k 0 rfl rfl) dX8_undo_17 ?_
  refine g_aL0 dX8_undo_20 ?_
  refine g_gI lf_X8_65 (X.S.l 0 rfl) (X.S.k 0 rfl rfl) dX8_undo_21 ?_
  rw [gIs]
  refine g_ifne dX8_undo_24 (fun c24 => ?_) (fun c24 => absurd c24 (by decide))
  refine g_iconst dX8_undo_31 ?_
  exact e_zret rfl (by decide) dX8_undo_32 rfl rfl rfl rfl
theorem m_undo1 {h : Hp} {t : Nat} {cn : Nat → Nat} (X : CX h t cn) {A : Nat} (hA : gI h 38 7 = nI (A + 1)) (hA16 : A < 16) {p : Nat} (hq : gI h 42 A = nI p) (hp : p < 8) : gCi 2 0 0 yX8_undo cX8_undo 1 (some .boolean) [.ref 0] h (some (.int 1)) (pI (chH (pI h 38 7 (nI A)) (gI h 41 A) p (gI h 43 A)) 0 8 0) := by
  refine g_entry (lv := [.ref 0]) 0 pn_X8 rfl rfl rfl ?_
  refine g_aL0 dX8_undo_0 ?_
  refine g_aL0 dX8_undo_1 ?_
  refine g_getR lf_X8_40 (X.S.l 0 rfl) (X.S.k 0 rfl rfl) (X.S.r 0 2 (b := 38) rfl rfl) dX8_undo_2 ?_
  refine e_v0i (c_takeBack1 X.S hA hA16 hq hp) lm_X8_289 dX8_undo_5 (X.S.l 38 rfl) (X.S.k 38 rfl rfl) rfl rfl rfl rfl ?_
  have S1 : SX (chH (pI h 38 7 (nI A)) (gI h 41 A) p (gI h 43 A)) := chH_S (h := pI h 38 7 (nI A)) X.S _ _ _
  refine g_ifeq dX8_undo_8 (fun c8 => absurd c8 (by decide)) (fun c8 => ?_)
  refine g_iconst dX8_undo_11 ?_
  refine g_goto dX8_undo_12 ?_
  refine g_pI0 lf_X8_65 (S1.l 0 rfl) (S1.k 0 rfl rfl) dX8_undo_17 ?_
  refine g_aL0 dX8_undo_20 ?_
  refine g_gI lf_X8_65 (S1.l 0 rfl) (S1.k 0 rfl rfl) dX8_undo_21 ?_
  rw [gIs]
  refine g_ifne dX8_undo_24 (fun c24 => absurd rfl c24) (fun c24 => ?_)
  refine g_iconst dX8_undo_27 ?_
  refine g_goto dX8_undo_28 ?_
  exact e_zret rfl (by decide) dX8_undo_32 rfl rfl rfl rfl
theorem kpL_S (m : Nat) : ∀ (n i : Nat) (h : Hp), SX h → SX (kpL m n i h)
  | 0, _, _, S => S
  | n + 1, i, h, S => kpL_S m n (i + 1) (kpS m h i) S
theorem rsL_S (m : Nat) : ∀ (n i : Nat) (h : Hp), SX h → SX (rsL m n i h)
  | 0, _, _, S => S
  | n + 1, i, h, S => rsL_S m n (i + 1) (rsS m h i) S
theorem kpL_R (m : Nat) : ∀ (n i : Nat) (h : Hp), gR (kpL m n i h) = gR h
  | 0, _, _ => rfl
  | n + 1, i, h => kpL_R m n (i + 1) (kpS m h i)
theorem rsL_R (m : Nat) : ∀ (n i : Nat) (h : Hp), gR (rsL m n i h) = gR h
  | 0, _, _ => rfl
  | n + 1, i, h => rsL_R m n (i + 1) (rsS m h i)
theorem nc_pos {n : Nat} (h0 : 0 < n) (hn : n < 2147483648) : ncF (nI n) = 0 := if_neg (nI_ne0 h0 hn)
theorem m_mark0 {h : Hp} {t : Nat} {cn : Nat → Nat} (X : CX h t cn) (hn : cn 1 = 0) : gCi 1 0 0 yX8_mark cX8_mark 1 (some .int) [.ref 0] h (some (.int (-1))) (pI h 0 8 1) := by
  refine g_entry (lv := [.ref 0]) 0 pn_X8 rfl rfl rfl ?_
  refine g_aL0 dX8_mark_0 ?_
  refine e_v0i (c_noCity X) lm_X8_215 dX8_mark_1 (X.S.l 0 rfl) (X.S.k 0 rfl rfl) rfl rfl rfl rfl ?_
  rw [hn]
  refine g_ifeq dX8_mark_4 (fun c4 => absurd c4 (by decide)) (fun c4 => ?_)
  refine g_aL0 dX8_mark_7 ?_
  refine g_iconst dX8_mark_8 ?_
  refine e_v1i (c_refuse X _) lm_X8_86 dX8_mark_9 (X.S.l 0 rfl) (X.S.k 0 rfl rfl) rfl rfl rfl rfl ?_
  exact e_iret rfl dX8_mark_12 rfl rfl rfl rfl
theorem m_mark1 {h : Hp} {t : Nat} {cn : Nat → Nat} (X : CX h t cn) (hn : 0 < cn 1) (hm : gI h 38 9 = nI 3) : gCi 1 0 0 yX8_mark cX8_mark 1 (some .int) [.ref 0] h (some (.int (-1))) (pI h 0 8 3) := by
  refine g_entry (lv := [.ref 0]) 0 pn_X8 rfl rfl rfl ?_
  refine g_aL0 dX8_mark_0 ?_
  refine e_v0i (c_noCity X) lm_X8_215 dX8_mark_1 (X.S.l 0 rfl) (X.S.k 0 rfl rfl) rfl rfl rfl rfl ?_
  rw [nc_pos hn (by have := X.b1; omega)]
  refine g_ifeq dX8_mark_4 (fun c4 => ?_) (fun c4 => absurd rfl c4)
  refine g_aL0 dX8_mark_13 ?_
  refine g_getR lf_X8_40 (X.S.l 0 rfl) (X.S.k 0 rfl rfl) (X.S.r 0 2 (b := 38) rfl rfl) dX8_mark_14 ?_
  refine e_v0i (c_keep0 X.S hm) lm_X8_292 dX8_mark_17 (X.S.l 38 rfl) (X.S.k 38 rfl rfl) rfl rfl rfl rfl ?_
  refine g_ifne dX8_mark_20 (fun c20 => absurd rfl c20) (fun c20 => ?_)
  refine g_aL0 dX8_mark_23 ?_
  refine g_iconst dX8_mark_24 ?_
  refine e_v1i (c_refuse X _) lm_X8_86 dX8_mark_25 (X.S.l 0 rfl) (X.S.k 0 rfl rfl) rfl rfl rfl rfl ?_
  exact e_iret rfl dX8_mark_28 rfl rfl rfl rfl
theorem kpE_S {h : Hp} (m : Nat) (S : SX h) : SX (kpE m h) := S
theorem kpE_R (m : Nat) (h : Hp) : gR (kpE m h) = gR h := rfl
theorem rsE_S {h : Hp} (m : Nat) (S : SX h) : SX (rsE m h) := S
theorem rsE_R (m : Nat) (h : Hp) : gR (rsE m h) = gR h := rfl
theorem kpE_I (m : Nat) (h : Hp) {b j : Nat} (h1 : b ≠ 38) (h2 : b ≠ 44) : gI (kpE m h) b j = gI h b j := (gIq h1).trans (gIq h2)
theorem rsE_I (m : Nat) (h : Hp) {b j : Nat} (h1 : b ≠ 38) : gI (rsE m h) b j = gI h b j := (gIq h1).trans (gIq h1)
theorem kpE_m (m : Nat) (h : Hp) : gI (kpE m h) 38 9 = nI (m + 1) := (gIs _ _ _ _).trans (nI_1 m)
theorem kpE_X {h : Hp} {t : Nat} {cn : Nat → Nat} (X : CX h t cn) (m k : Nat) : CX (kpE m (kpL m k 0 h)) t cn := X.fr (kpE_S m (kpL_S m k 0 h X.S)) (by rw [kpE_R, kpL_R]) (by rw [kpE_R, kpL_R]) (fun j => by have := X.hc; exact (kpE_I m _ (by omega) (by omega)).trans (kpL_I m k 0 h _ _ (by omega)))
theorem rsE_X {h : Hp} {t : Nat} {cn : Nat → Nat} (X : CX h t cn) (m k : Nat) : CX (rsE m (rsL m k 0 h)) t cn := X.fr (rsE_S m (rsL_S m k 0 h X.S)) (by rw [rsE_R, rsL_R]) (by rw [rsE_R, rsL_R]) (fun j => by have := X.hc; exact (rsE_I m _ (by omega)).trans (rsL_I m k 0 h _ _ (by omega) (by omega)))
theorem m_mark2 {h : Hp} {t : Nat} {cn : Nat → Nat} (X : CX h t cn) (hn : 0 < cn 1) {m : Nat} (hm : gI h 38 9 = nI m) (hm3 : m < 3) : gCi 1 0 0 yX8_mark cX8_mark 1 (some .int) [.ref 0] h (some (.int (nI m))) (pI (kpE m (kpL m 8 0 h)) 0 8 0) := by
  refine g_entry (lv := [.ref 0]) 0 pn_X8 rfl rfl rfl ?_
  refine g_aL0 dX8_mark_0 ?_
  refine e_v0i (c_noCity X) lm_X8_215 dX8_mark_1 (X.S.l 0 rfl) (X.S.k 0 rfl rfl) rfl rfl rfl rfl ?_
  rw [nc_pos hn (by have := X.b1; omega)]
  refine g_ifeq dX8_mark_4 (fun c4 => ?_) (fun c4 => absurd rfl c4)
  refine g_aL0 dX8_mark_13 ?_
  refine g_getR lf_X8_40 (X.S.l 0 rfl) (X.S.k 0 rfl rfl) (X.S.r 0 2 (b := 38) rfl rfl) dX8_mark_14 ?_
  refine e_v0i (c_keep1 X.S hm hm3) lm_X8_292 dX8_mark_17 (X.S.l 38 rfl) (X.S.k 38 rfl rfl) rfl rfl rfl rfl ?_
  have X1 := kpE_X X m 8
  refine g_ifne dX8_mark_20 (fun c20 => ?_) (fun c20 => absurd c20 (by decide))
  refine g_aL0 dX8_mark_29 ?_
  refine g_aL0 dX8_mark_30 ?_
  refine g_getR lf_X8_40 (X1.S.l 0 rfl) (X1.S.k 0 rfl rfl) (X1.S.r 0 2 (b := 38) rfl rfl) dX8_mark_31 ?_
  refine g_gI lf_X8_295 (X1.S.l 38 rfl) (X1.S.k 38 rfl rfl) dX8_mark_34 ?_
  refine g_iconst dX8_mark_37 ?_
  rw [kpE_m]
  refine g_isub dX8_mark_38 ?_
  rw [nI_pred]
  refine e_v1i (c_answer X1 _) lm_X8_107 dX8_mark_39 (X1.S.l 0 rfl) (X1.S.k 0 rfl rfl) rfl rfl rfl rfl ?_
  exact e_iret rfl dX8_mark_42 rfl rfl rfl rfl
theorem m_back0 {h : Hp} {t : Nat} {cn : Nat → Nat} (X : CX h t cn) {N : Nat} (hm : gI h 38 9 = nI N) (k : Int32) (hk : k < 0 ∨ ¬ k < nI N) : gCi 1 0 0 yX8_back cX8_back 2 (some .boolean) [.ref 0, .int k] h (some (.int 0)) (pI h 0 8 1) := by
  refine g_entry (lv := [.ref 0, .int k]) 0 pn_X8 rfl rfl rfl ?_
  refine g_aL0 dX8_back_0 ?_
  refine g_aL0 dX8_back_1 ?_
  refine g_getR lf_X8_40 (X.S.l 0 rfl) (X.S.k 0 rfl rfl) (X.S.r 0 2 (b := 38) rfl rfl) dX8_back_2 ?_
  refine g_iL1 dX8_back_5 ?_
  refine e_v1i (c_restore0 X.S hm _ hk) lm_X8_298 dX8_back_6 (X.S.l 38 rfl) (X.S.k 38 rfl rfl) rfl rfl rfl rfl ?_
  refine g_ifeq dX8_back_9 (fun c9 => ?_) (fun c9 => absurd rfl c9)
  refine g_iconst dX8_back_16 ?_
  refine g_pI0 lf_X8_65 (X.S.l 0 rfl) (X.S.k 0 rfl rfl) dX8_back_17 ?_
  refine g_aL0 dX8_back_20 ?_
  refine g_gI lf_X8_65 (X.S.l 0 rfl) (X.S.k 0 rfl rfl) dX8_back_21 ?_
  rw [gIs]
  refine g_ifne dX8_back_24 (fun c24 => ?_) (fun c24 => absurd c24 (by decide))
  refine g_iconst dX8_back_31 ?_
  exact e_zret rfl (by decide) dX8_back_32 rfl rfl rfl rfl
theorem m_back1 {h : Hp} {t : Nat} {cn : Nat → Nat} (X : CX h t cn) {N m : Nat} (hm : gI h 38 9 = nI N) (hN3 : N ≤ 3) (hk : m < N) : gCi 1 0 0 yX8_back cX8_back 2 (some .boolean) [.ref 0, .int (nI m)] h (some (.int 1)) (pI (rsE m (rsL m 8 0 h)) 0 8 0) := by
  refine g_entry (lv := [.ref 0, .int (nI m)]) 0 pn_X8 rfl rfl rfl ?_
  refine g_aL0 dX8_back_0 ?_
  refine g_aL0 dX8_back_1 ?_
  refine g_getR lf_X8_40 (X.S.l 0 rfl) (X.S.k 0 rfl rfl) (X.S.r 0 2 (b := 38) rfl rfl) dX8_back_2 ?_
  refine g_iL1 dX8_back_5 ?_
  refine e_v1i (c_restore1 X.S hm hN3 hk) lm_X8_298 dX8_back_6 (X.S.l 38 rfl) (X.S.k 38 rfl rfl) rfl rfl rfl rfl ?_
  have X1 := rsE_X X m 8
  refine g_ifeq dX8_back_9 (fun c9 => absurd c9 (by decide)) (fun c9 => ?_)
  refine g_iconst dX8_back_12 ?_
  refine g_goto dX8_back_13 ?_
  refine g_pI0 lf_X8_65 (X1.S.l 0 rfl) (X1.S.k 0 rfl rfl) dX8_back_17 ?_
  refine g_aL0 dX8_back_20 ?_
  refine g_gI lf_X8_65 (X1.S.l 0 rfl) (X1.S.k 0 rfl rfl) dX8_back_21 ?_
  rw [gIs]
  refine g_ifne dX8_back_24 (fun c24 => absurd rfl c24) (fun c24 => ?_)
  refine g_iconst dX8_back_27 ?_
  refine g_goto dX8_back_28 ?_
  exact e_zret rfl (by decide) dX8_back_32 rfl rfl rfl rfl
theorem ip_in {P n : Nat} (h : P < n) (hn : n < 2147483648) : ipF (nI P) (nI n) = 1 := (if_neg (show ¬ nI P < nI 0 from nI_nlt (by omega) (by omega))).trans (if_neg (nI_ge h hn))
theorem m_pane_no {h : Hp} {t : Nat} {cn : Nat → Nat} (X : CX h t cn) (p f : Int32) (hp : ipF p (nI (cn 1)) = 0) : gCi 1 0 0 yX8_pane cX8_pane 3 (some .int) [.ref 0, .int p, .int f] h (some (.int (-1))) (pI h 0 8 1) := by
  refine g_entry (lv := [.ref 0, .int p, .int f]) 0 pn_X8 rfl rfl rfl ?_
  refine g_aL0 dX8_pane_0 ?_
  refine g_iL1 dX8_pane_1 ?_
  refine e_v1i (c_isPane X _) lm_X8_110 dX8_pane_2 (X.S.l 0 rfl) (X.S.k 0 rfl rfl) rfl rfl rfl rfl ?_
  refine g_ifne dX8_pane_5 (fun c5 => absurd hp c5) (fun c5 => ?_)
  refine g_aL0 dX8_pane_8 ?_
  refine g_iconst dX8_pane_9 ?_
  refine e_v1i (c_refuse X _) lm_X8_86 dX8_pane_10 (X.S.l 0 rfl) (X.S.k 0 rfl rfl) rfl rfl rfl rfl ?_
  exact e_iret rfl dX8_pane_13 rfl rfl rfl rfl
theorem m_pane0 {h : Hp} {t : Nat} {cn : Nat → Nat} (X : CX h t cn) {P : Nat} (hP : P < cn 1) (f : Int32) (hf : f.toInt = 0) : gCi 3 0 0 yX8_pane cX8_pane 3 (some .int) [.ref 0, .int (nI P), .int f] h (some (.int (gI h (t + 2) P))) (pI h 0 8 0) := by
  have hP8 : P < 8 := by have := X.b1; omega
  refine g_entry (lv := [.ref 0, .int (nI P), .int f]) 0 pn_X8 rfl rfl rfl ?_
  refine g_aL0 dX8_pane_0 ?_
  refine g_iL1 dX8_pane_1 ?_
  refine e_v1i (c_isPane X _) lm_X8_110 dX8_pane_2 (X.S.l 0 rfl) (X.S.k 0 rfl rfl) rfl rfl rfl rfl ?_
  rw [ip_in hP (by have := X.b1; omega)]
  refine g_ifne dX8_pane_5 (fun c5 => ?_) (fun c5 => absurd c5 (by decide))
  refine g_iL2 dX8_pane_14 ?_
  refine g_swIn 0 dX8_pane_15 hf rfl ?_
  refine g_aL0 dX8_pane_48 ?_
  refine g_aL0 dX8_pane_49 ?_
  refine g_getR lf_X8_19 (X.S.l 0 rfl) (X.S.k 0 rfl rfl) X.T dX8_pane_50 ?_
  refine g_getR lf_X8_114 (X.S.cl X.hc 0 rfl) (X.S.ck X.hc) (X.S.cr X.hc 6 (j := 2) rfl rfl) dX8_pane_53 ?_
  refine g_iL1 dX8_pane_56 ?_
  refine g_ialoadN (X.S.cl X.hc 2 rfl) (X.S.cka X.hc 2 rfl rfl) (X.S.cn X.hc 2 (n := 8) rfl rfl rfl) hP8 (by decide) dX8_pane_57 ?_
  refine e_v1i (c_answer X _) lm_X8_107 dX8_pane_58 (X.S.l 0 rfl) (X.S.k 0 rfl rfl) rfl rfl rfl rfl ?_
  exact e_iret rfl dX8_pane_61 rfl rfl rfl rfl
theorem m_pane1 {h : Hp} {t : Nat} {cn : Nat → Nat} (X : CX h t cn) {P : Nat} (hP : P < cn 1) (f : Int32) (hf : f.toInt = 1) : gCi 3 0 0 yX8_pane cX8_pane 3 (some .int) [.ref 0, .int (nI P), .int f] h (some (.int (gI h 39 P))) (pI h 0 8 0) := by
  have hP8 : P < 8 := by have := X.b1; omega
  refine g_entry (lv := [.ref 0, .int (nI P), .int f]) 0 pn_X8 rfl rfl rfl ?_
  refine g_aL0 dX8_pane_0 ?_
  refine g_iL1 dX8_pane_1 ?_
  refine e_v1i (c_isPane X _) lm_X8_110 dX8_pane_2 (X.S.l 0 rfl) (X.S.k 0 rfl rfl) rfl rfl rfl rfl ?_
  rw [ip_in hP (by have := X.b1; omega)]
  refine g_ifne dX8_pane_5 (fun c5 => ?_) (fun c5 => absurd c5 (by decide))
  refine g_iL2 dX8_pane_14 ?_
  refine g_swIn 1 dX8_pane_15 hf rfl ?_
  refine g_aL0 dX8_pane_62 ?_
  refine g_aL0 dX8_pane_63 ?_
  refine g_getR lf_X8_40 (X.S.l 0 rfl) (X.S.k 0 rfl rfl) (X.S.r 0 2 (b := 38) rfl rfl) dX8_pane_64 ?_
  refine g_getR lf_X8_117 (X.S.l 38 rfl) (X.S.k 38 rfl rfl) (X.S.r 38 1 (b := 39) rfl rfl) dX8_pane_67 ?_
  refine g_iL1 dX8_pane_70 ?_
  refine g_ialoadN (X.S.l 39 rfl) (X.S.k 39 rfl rfl) (X.S.n 39 (n := 8) rfl rfl) hP8 (by decide) dX8_pane_71 ?_
  refine e_v1i (c_answer X _) lm_X8_107 dX8_pane_72 (X.S.l 0 rfl) (X.S.k 0 rfl rfl) rfl rfl rfl rfl ?_
  exact e_iret rfl dX8_pane_75 rfl rfl rfl rfl
theorem m_pane2 {h : Hp} {t : Nat} {cn : Nat → Nat} (X : CX h t cn) {P : Nat} (hP : P < cn 1) (f : Int32) (hf : f.toInt = 2) : gCi 3 0 0 yX8_pane cX8_pane 3 (some .int) [.ref 0, .int (nI P), .int f] h (some (.int (gI h 40 P))) (pI h 0 8 0) := by
  have hP8 : P < 8 := by have := X.b1; omega
  refine g_entry (lv := [.ref 0, .int (nI P), .int f]) 0 pn_X8 rfl rfl rfl ?_
  refine g_aL0 dX8_pane_0 ?_
  refine g_iL1 dX8_pane_1 ?_
  refine e_v1i (c_isPane X _) lm_X8_110 dX8_pane_2 (X.S.l 0 rfl) (X.S.k 0 rfl rfl) rfl rfl rfl rfl ?_
  rw [ip_in hP (by have := X.b1; omega)]
  refine g_ifne dX8_pane_5 (fun c5 => ?_) (fun c5 => absurd c5 (by decide))
  refine g_iL2 dX8_pane_14 ?_
  refine g_swIn 2 dX8_pane_15 hf rfl ?_
  refine g_aL0 dX8_pane_76 ?_
  refine g_aL0 dX8_pane_77 ?_
  refine g_getR lf_X8_40 (X.S.l 0 rfl) (X.S.k 0 rfl rfl) (X.S.r 0 2 (b := 38) rfl rfl) dX8_pane_78 ?_
  refine g_getR lf_X8_120 (X.S.l 38 rfl) (X.S.k 38 rfl rfl) (X.S.r 38 2 (b := 40) rfl rfl) dX8_pane_81 ?_
  refine g_iL1 dX8_pane_84 ?_
  refine g_ialoadN (X.S.l 40 rfl) (X.S.k 40 rfl rfl) (X.S.n 40 (n := 8) rfl rfl) hP8 (by decide) dX8_pane_85 ?_
  refine e_v1i (c_answer X _) lm_X8_107 dX8_pane_86 (X.S.l 0 rfl) (X.S.k 0 rfl rfl) rfl rfl rfl rfl ?_
  exact e_iret rfl dX8_pane_89 rfl rfl rfl rfl
theorem m_pane3 {h : Hp} {t : Nat} {cn : Nat → Nat} (X : CX h t cn) {P : Nat} (hP : P < cn 1) (f : Int32) (hf : f.toInt = 3) : gCi 3 0 0 yX8_pane cX8_pane 3 (some .int) [.ref 0, .int (nI P), .int f] h (some (.int (if (thF (gI h 38 3) (nI P)) = 0 then 0 else 1))) (pI h 0 8 0) := by
  have hP8 : P < 8 := by have := X.b1; omega
  refine g_entry (lv := [.ref 0, .int (nI P), .int f]) 0 pn_X8 rfl rfl rfl ?_
  refine g_aL0 dX8_pane_0 ?_
  refine g_iL1 dX8_pane_1 ?_
  refine e_v1i (c_isPane X _) lm_X8_110 dX8_pane_2 (X.S.l 0 rfl) (X.S.k 0 rfl rfl) rfl rfl rfl rfl ?_
  rw [ip_in hP (by have := X.b1; omega)]
  refine g_ifne dX8_pane_5 (fun c5 => ?_) (fun c5 => absurd c5 (by decide))
  refine g_iL2 dX8_pane_14 ?_
  refine g_swIn 3 dX8_pane_15 hf rfl ?_
  refine g_aL0 dX8_pane_90 ?_
  refine g_aL0 dX8_pane_91 ?_
  refine g_getR lf_X8_40 (X.S.l 0 rfl) (X.S.k 0 rfl rfl) (X.S.r 0 2 (b := 38) rfl rfl) dX8_pane_92 ?_
  refine g_iL1 dX8_pane_95 ?_
  refine e_v1i (c_isBroken X.S _) lm_X8_123 dX8_pane_96 (X.S.l 38 rfl) (X.S.k 38 rfl rfl) rfl rfl rfl rfl ?_
  refine g_ifeq dX8_pane_99 (fun c99 => ?_) (fun c99 => ?_)
  · refine g_iconst dX8_pane_106 ?_
    refine e_v1i (c_answer X _) lm_X8_107 dX8_pane_107 (X.S.l 0 rfl) (X.S.k 0 rfl rfl) rfl rfl rfl rfl ?_
    exact e_iret rfl dX8_pane_110 rfl rfl (if_pos c99).symm rfl
  · refine g_iconst dX8_pane_102 ?_
    refine g_goto dX8_pane_103 ?_
    refine e_v1i (c_answer X _) lm_X8_107 dX8_pane_107 (X.S.l 0 rfl) (X.S.k 0 rfl rfl) rfl rfl rfl rfl ?_
    exact e_iret rfl dX8_pane_110 rfl rfl (if_neg c99).symm rfl
theorem m_pane4 {h : Hp} {t : Nat} {cn : Nat → Nat} (X : CX h t cn) {P : Nat} (hP : P < cn 1) (f : Int32) (hf : f.toInt = 4) : gCi 3 0 0 yX8_pane cX8_pane 3 (some .int) [.ref 0, .int (nI P), .int f] h (some (.int (gI h t 1 * gI h t 2 - bcF (gI h 39 P)))) (pI h 0 8 0) := by
  have hP8 : P < 8 := by have := X.b1; omega
  refine g_entry (lv := [.ref 0, .int (nI P), .int f]) 0 pn_X8 rfl rfl rfl ?_
  refine g_aL0 dX8_pane_0 ?_
  refine g_iL1 dX8_pane_1 ?_
  refine e_v1i (c_isPane X _) lm_X8_110 dX8_pane_2 (X.S.l 0 rfl) (X.S.k 0 rfl rfl) rfl rfl rfl rfl ?_
  rw [ip_in hP (by have := X.b1; omega)]
  refine g_ifne dX8_pane_5 (fun c5 => ?_) (fun c5 => absurd c5 (by decide))
  refine g_iL2 dX8_pane_14 ?_
  refine g_swIn 4 dX8_pane_15 hf rfl ?_
  refine g_aL0 dX8_pane_111 ?_
  refine g_aL0 dX8_pane_112 ?_
  refine g_getR lf_X8_40 (X.S.l 0 rfl) (X.S.k 0 rfl rfl) (X.S.r 0 2 (b := 38) rfl rfl) dX8_pane_113 ?_
  refine g_iL1 dX8_pane_116 ?_
  refine e_v1i (c_light X.S X.hc X.P hP8) lm_X8_126 dX8_pane_117 (X.S.l 38 rfl) (X.S.k 38 rfl rfl) rfl rfl rfl rfl ?_
  refine e_v1i (c_answer X _) lm_X8_107 dX8_pane_120 (X.S.l 0 rfl) (X.S.k 0 rfl rfl) rfl rfl rfl rfl ?_
  exact e_iret rfl dX8_pane_123 rfl rfl rfl rfl
theorem m_paneO {h : Hp} {t : Nat} {cn : Nat → Nat} (X : CX h t cn) {P : Nat} (hP : P < cn 1) (f : Int32) (hf : f.toInt < 0 ∨ 5 ≤ f.toInt) : gCi 1 0 0 yX8_pane cX8_pane 3 (some .int) [.ref 0, .int (nI P), .int f] h (some (.int (-1))) (pI h 0 8 1) := by
  refine g_entry (lv := [.ref 0, .int (nI P), .int f]) 0 pn_X8 rfl rfl rfl ?_
  refine g_aL0 dX8_pane_0 ?_
  refine g_iL1 dX8_pane_1 ?_
  refine e_v1i (c_isPane X _) lm_X8_110 dX8_pane_2 (X.S.l 0 rfl) (X.S.k 0 rfl rfl) rfl rfl rfl rfl ?_
  rw [ip_in hP (by have := X.b1; omega)]
  refine g_ifne dX8_pane_5 (fun c5 => ?_) (fun c5 => absurd c5 (by decide))
  refine g_iL2 dX8_pane_14 ?_
  refine g_swOut dX8_pane_15 hf ?_
  refine g_aL0 dX8_pane_124 ?_
  refine g_iconst dX8_pane_125 ?_
  refine e_v1i (c_refuse X _) lm_X8_86 dX8_pane_126 (X.S.l 0 rfl) (X.S.k 0 rfl rfl) rfl rfl rfl rfl ?_
  exact e_iret rfl dX8_pane_129 rfl rfl rfl rfl
theorem m_size0 {h : Hp} {t : Nat} {cn : Nat → Nat} (X : CX h t cn) (f : Int32) (hf : f.toInt = 0) : gCi 0 0 0 yX8_size cX8_size 2 (some .int) [.ref 0, .int f] h (some (.int (gI h t 1))) h := by
  refine g_entry (lv := [.ref 0, .int f]) 0 pn_X8 rfl rfl rfl ?_
  refine g_iL1 dX8_size_0 ?_
  refine g_swIn 0 dX8_size_1 hf rfl ?_
  refine g_aL0 dX8_size_80 ?_
  refine g_getR lf_X8_19 (X.S.l 0 rfl) (X.S.k 0 rfl rfl) X.T dX8_size_81 ?_
  refine g_gI lf_X8_304 (X.S.cl X.hc 0 rfl) (X.S.ck X.hc) dX8_size_84 ?_
  exact e_iret rfl dX8_size_87 rfl rfl rfl rfl
theorem m_size1 {h : Hp} {t : Nat} {cn : Nat → Nat} (X : CX h t cn) (f : Int32) (hf : f.toInt = 1) : gCi 0 0 0 yX8_size cX8_size 2 (some .int) [.ref 0, .int f] h (some (.int (gI h t 2))) h := by
  refine g_entry (lv := [.ref 0, .int f]) 0 pn_X8 rfl rfl rfl ?_
  refine g_iL1 dX8_size_0 ?_
  refine g_swIn 1 dX8_size_1 hf rfl ?_
  refine g_aL0 dX8_size_88 ?_
  refine g_getR lf_X8_19 (X.S.l 0 rfl) (X.S.k 0 rfl rfl) X.T dX8_size_89 ?_
  refine g_gI lf_X8_307 (X.S.cl X.hc 0 rfl) (X.S.ck X.hc) dX8_size_92 ?_
  exact e_iret rfl dX8_size_95 rfl rfl rfl rfl
theorem m_size2 {h : Hp} {t : Nat} {cn : Nat → Nat} (X : CX h t cn) (f : Int32) (hf : f.toInt = 2) : gCi 0 0 0 yX8_size cX8_size 2 (some .int) [.ref 0, .int f] h (some (.int (gI h t 3))) h := by
  refine g_entry (lv := [.ref 0, .int f]) 0 pn_X8 rfl rfl rfl ?_
  refine g_iL1 dX8_size_0 ?_
  refine g_swIn 2 dX8_size_1 hf rfl ?_
  refine g_aL0 dX8_size_96 ?_
  refine g_getR lf_X8_19 (X.S.l 0 rfl) (X.S.k 0 rfl rfl) X.T dX8_size_97 ?_
  refine g_gI lf_X8_310 (X.S.cl X.hc 0 rfl) (X.S.ck X.hc) dX8_size_100 ?_
  exact e_iret rfl dX8_size_103 rfl rfl rfl rfl
theorem m_size3 {h : Hp} {t : Nat} {cn : Nat → Nat} (X : CX h t cn) (f : Int32) (hf : f.toInt = 3) : gCi 0 0 0 yX8_size cX8_size 2 (some .int) [.ref 0, .int f] h (some (.int (gI h t 4))) h := by
  refine g_entry (lv := [.ref 0, .int f]) 0 pn_X8 rfl rfl rfl ?_
  refine g_iL1 dX8_size_0 ?_
  refine g_swIn 3 dX8_size_1 hf rfl ?_
  refine g_aL0 dX8_size_104 ?_
  refine g_getR lf_X8_19 (X.S.l 0 rfl) (X.S.k 0 rfl rfl) X.T dX8_size_105 ?_
  refine g_gI lf_X8_313 (X.S.cl X.hc 0 rfl) (X.S.ck X.hc) dX8_size_108 ?_
  exact e_iret rfl dX8_size_111 rfl rfl rfl rfl
theorem m_size4 {h : Hp} {t : Nat} {cn : Nat → Nat} (X : CX h t cn) (f : Int32) (hf : f.toInt = 4) : gCi 0 0 0 yX8_size cX8_size 2 (some .int) [.ref 0, .int f] h (some (.int (nI (cn 1)))) h := by
  refine g_entry (lv := [.ref 0, .int f]) 0 pn_X8 rfl rfl rfl ?_
  refine g_iL1 dX8_size_0 ?_
  refine g_swIn 4 dX8_size_1 hf rfl ?_
  refine g_aL0 dX8_size_112 ?_
  refine g_getR lf_X8_19 (X.S.l 0 rfl) (X.S.k 0 rfl rfl) X.T dX8_size_113 ?_
  refine g_getR lf_X8_103 (X.S.cl X.hc 0 rfl) (X.S.ck X.hc) (X.S.cr X.hc 0 (j := 1) rfl rfl) dX8_size_116 ?_
  refine g_iconst dX8_size_119 ?_
  refine g_ialoadK (X.S.cl X.hc 1 rfl) (X.S.cka X.hc 1 rfl rfl) (X.S.cn X.hc 1 (n := 11) rfl rfl rfl) rfl (j := 1) rfl dX8_size_120 ?_
  exact e_iret rfl dX8_size_121 rfl rfl (X.c 1 rfl) rfl
theorem m_size5 {h : Hp} {t : Nat} {cn : Nat → Nat} (X : CX h t cn) (f : Int32) (hf : f.toInt = 5) : gCi 0 0 0 yX8_size cX8_size 2 (some .int) [.ref 0, .int f] h (some (.int (nI (cn 2)))) h := by
  refine g_entry (lv := [.ref 0, .int f]) 0 pn_X8 rfl rfl rfl ?_
  refine g_iL1 dX8_size_0 ?_
  refine g_swIn 5 dX8_size_1 hf rfl ?_
  refine g_aL0 dX8_size_122 ?_
  refine g_getR lf_X8_19 (X.S.l 0 rfl) (X.S.k 0 rfl rfl) X.T dX8_size_123 ?_
  refine g_getR lf_X8_103 (X.S.cl X.hc 0 rfl) (X.S.ck X.hc) (X.S.cr X.hc 0 (j := 1) rfl rfl) dX8_size_126 ?_
  refine g_iconst dX8_size_129 ?_
  refine g_ialoadK (X.S.cl X.hc 1 rfl) (X.S.cka X.hc 1 rfl rfl) (X.S.cn X.hc 1 (n := 11) rfl rfl rfl) rfl (j := 2) rfl dX8_size_130 ?_
  exact e_iret rfl dX8_size_131 rfl rfl (X.c 2 rfl) rfl
theorem m_size6 {h : Hp} {t : Nat} {cn : Nat → Nat} (X : CX h t cn) (f : Int32) (hf : f.toInt = 6) : gCi 0 0 0 yX8_size cX8_size 2 (some .int) [.ref 0, .int f] h (some (.int (nI (cn 3)))) h := by
  refine g_entry (lv := [.ref 0, .int f]) 0 pn_X8 rfl rfl rfl ?_
  refine g_iL1 dX8_size_0 ?_
  refine g_swIn 6 dX8_size_1 hf rfl ?_
  refine g_aL0 dX8_size_132 ?_
  refine g_getR lf_X8_19 (X.S.l 0 rfl) (X.S.k 0 rfl rfl) X.T dX8_size_133 ?_
  refine g_getR lf_X8_103 (X.S.cl X.hc 0 rfl) (X.S.ck X.hc) (X.S.cr X.hc 0 (j := 1) rfl rfl) dX8_size_136 ?_
  refine g_iconst dX8_size_139 ?_
  refine g_ialoadK (X.S.cl X.hc 1 rfl) (X.S.cka X.hc 1 rfl rfl) (X.S.cn X.hc 1 (n := 11) rfl rfl rfl) rfl (j := 3) rfl dX8_size_140 ?_
  exact e_iret rfl dX8_size_141 rfl rfl (X.c 3 rfl) rfl
theorem m_size7 {h : Hp} {t : Nat} {cn : Nat → Nat} (X : CX h t cn) (f : Int32) (hf : f.toInt = 7) : gCi 0 0 0 yX8_size cX8_size 2 (some .int) [.ref 0, .int f] h (some (.int (nI (cn 4)))) h := by
  refine g_entry (lv := [.ref 0, .int f]) 0 pn_X8 rfl rfl rfl ?_
  refine g_iL1 dX8_size_0 ?_
  refine g_swIn 7 dX8_size_1 hf rfl ?_
  refine g_aL0 dX8_size_142 ?_
  refine g_getR lf_X8_19 (X.S.l 0 rfl) (X.S.k 0 rfl rfl) X.T dX8_size_143 ?_
  refine g_getR lf_X8_103 (X.S.cl X.hc 0 rfl) (X.S.ck X.hc) (X.S.cr X.hc 0 (j := 1) rfl rfl) dX8_size_146 ?_
  refine g_iconst dX8_size_149 ?_
  refine g_ialoadK (X.S.cl X.hc 1 rfl) (X.S.cka X.hc 1 rfl rfl) (X.S.cn X.hc 1 (n := 11) rfl rfl rfl) rfl (j := 4) rfl dX8_size_150 ?_
  exact e_iret rfl dX8_size_151 rfl rfl (X.c 4 rfl) rfl
theorem m_size8 {h : Hp} {t : Nat} {cn : Nat → Nat} (X : CX h t cn) (f : Int32) (hf : f.toInt = 8) : gCi 0 0 0 yX8_size cX8_size 2 (some .int) [.ref 0, .int f] h (some (.int (nI (cn 5)))) h := by
  refine g_entry (lv := [.ref 0, .int f]) 0 pn_X8 rfl rfl rfl ?_
  refine g_iL1 dX8_size_0 ?_
  refine g_swIn 8 dX8_size_1 hf rfl ?_
  refine g_aL0 dX8_size_152 ?_
  refine g_getR lf_X8_19 (X.S.l 0 rfl) (X.S.k 0 rfl rfl) X.T dX8_size_153 ?_
  refine g_getR lf_X8_103 (X.S.cl X.hc 0 rfl) (X.S.ck X.hc) (X.S.cr X.hc 0 (j := 1) rfl rfl) dX8_size_156 ?_
  refine g_iconst dX8_size_159 ?_
  refine g_ialoadK (X.S.cl X.hc 1 rfl) (X.S.cka X.hc 1 rfl rfl) (X.S.cn X.hc 1 (n := 11) rfl rfl rfl) rfl (j := 5) rfl dX8_size_160 ?_
  exact e_iret rfl dX8_size_161 rfl rfl (X.c 5 rfl) rfl
theorem m_size9 {h : Hp} {t : Nat} {cn : Nat → Nat} (X : CX h t cn) (f : Int32) (hf : f.toInt = 9) : gCi 0 0 0 yX8_size cX8_size 2 (some .int) [.ref 0, .int f] h (some (.int (nI (cn 6)))) h := by
  refine g_entry (lv := [.ref 0, .int f]) 0 pn_X8 rfl rfl rfl ?_
  refine g_iL1 dX8_size_0 ?_
  refine g_swIn 9 dX8_size_1 hf rfl ?_
  refine g_aL0 dX8_size_162 ?_
  refine g_getR lf_X8_19 (X.S.l 0 rfl) (X.S.k 0 rfl rfl) X.T dX8_size_163 ?_
  refine g_getR lf_X8_103 (X.S.cl X.hc 0 rfl) (X.S.ck X.hc) (X.S.cr X.hc 0 (j := 1) rfl rfl) dX8_size_166 ?_
  refine g_bipush dX8_size_169 ?_
  refine g_ialoadK (X.S.cl X.hc 1 rfl) (X.S.cka X.hc 1 rfl rfl) (X.S.cn X.hc 1 (n := 11) rfl rfl rfl) rfl (j := 6) rfl dX8_size_171 ?_
  exact e_iret rfl dX8_size_172 rfl rfl (X.c 6 rfl) rfl
theorem m_size10 {h : Hp} {t : Nat} {cn : Nat → Nat} (X : CX h t cn) (f : Int32) (hf : f.toInt = 10) : gCi 0 0 0 yX8_size cX8_size 2 (some .int) [.ref 0, .int f] h (some (.int (nI (cn 7)))) h := by
  refine g_entry (lv := [.ref 0, .int f]) 0 pn_X8 rfl rfl rfl ?_
  refine g_iL1 dX8_size_0 ?_
  refine g_swIn 10 dX8_size_1 hf rfl ?_
  refine g_aL0 dX8_size_173 ?_
  refine g_getR lf_X8_19 (X.S.l 0 rfl) (X.S.k 0 rfl rfl) X.T dX8_size_174 ?_
  refine g_getR lf_X8_103 (X.S.cl X.hc 0 rfl) (X.S.ck X.hc) (X.S.cr X.hc 0 (j := 1) rfl rfl) dX8_size_177 ?_
  refine g_bipush dX8_size_180 ?_
  refine g_ialoadK (X.S.cl X.hc 1 rfl) (X.S.cka X.hc 1 rfl rfl) (X.S.cn X.hc 1 (n := 11) rfl rfl rfl) rfl (j := 7) rfl dX8_size_182 ?_
  exact e_iret rfl dX8_size_183 rfl rfl (X.c 7 rfl) rfl
theorem m_size11 {h : Hp} {t : Nat} {cn : Nat → Nat} (X : CX h t cn) (f : Int32) (hf : f.toInt = 11) : gCi 0 0 0 yX8_size cX8_size 2 (some .int) [.ref 0, .int f] h (some (.int (nI (cn 8)))) h := by
  refine g_entry (lv := [.ref 0, .int f]) 0 pn_X8 rfl rfl rfl ?_
  refine g_iL1 dX8_size_0 ?_
  refine g_swIn 11 dX8_size_1 hf rfl ?_
  refine g_aL0 dX8_size_184 ?_
  refine g_getR lf_X8_19 (X.S.l 0 rfl) (X.S.k 0 rfl rfl) X.T dX8_size_185 ?_
  refine g_getR lf_X8_103 (X.S.cl X.hc 0 rfl) (X.S.ck X.hc) (X.S.cr X.hc 0 (j := 1) rfl rfl) dX8_size_188 ?_
  refine g_bipush dX8_size_191 ?_
  refine g_ialoadK (X.S.cl X.hc 1 rfl) (X.S.cka X.hc 1 rfl rfl) (X.S.cn X.hc 1 (n := 11) rfl rfl rfl) rfl (j := 8) rfl dX8_size_193 ?_
  exact e_iret rfl dX8_size_194 rfl rfl (X.c 8 rfl) rfl
theorem m_size12 {h : Hp} {t : Nat} {cn : Nat → Nat} (X : CX h t cn) (f : Int32) (hf : f.toInt = 12) : gCi 0 0 0 yX8_size cX8_size 2 (some .int) [.ref 0, .int f] h (some (.int (nI (cn 9)))) h := by
  refine g_entry (lv := [.ref 0, .int f]) 0 pn_X8 rfl rfl rfl ?_
  refine g_iL1 dX8_size_0 ?_
  refine g_swIn 12 dX8_size_1 hf rfl ?_
  refine g_aL0 dX8_size_195 ?_
  refine g_getR lf_X8_19 (X.S.l 0 rfl) (X.S.k 0 rfl rfl) X.T dX8_size_196 ?_
  refine g_getR lf_X8_103 (X.S.cl X.hc 0 rfl) (X.S.ck X.hc) (X.S.cr X.hc 0 (j := 1) rfl rfl) dX8_size_199 ?_
  refine g_bipush dX8_size_202 ?_
  refine g_ialoadK (X.S.cl X.hc 1 rfl) (X.S.cka X.hc 1 rfl rfl) (X.S.cn X.hc 1 (n := 11) rfl rfl rfl) rfl (j := 9) rfl dX8_size_204 ?_
  exact e_iret rfl dX8_size_205 rfl rfl (X.c 9 rfl) rfl
theorem m_size13 {h : Hp} {t : Nat} {cn : Nat → Nat} (X : CX h t cn) (f : Int32) (hf : f.toInt = 13) : gCi 0 0 0 yX8_size cX8_size 2 (some .int) [.ref 0, .int f] h (some (.int (gI h 38 7))) h := by
  refine g_entry (lv := [.ref 0, .int f]) 0 pn_X8 rfl rfl rfl ?_
  refine g_iL1 dX8_size_0 ?_
  refine g_swIn 13 dX8_size_1 hf rfl ?_
  refine g_aL0 dX8_size_206 ?_
  refine g_getR lf_X8_40 (X.S.l 0 rfl) (X.S.k 0 rfl rfl) (X.S.r 0 2 (b := 38) rfl rfl) dX8_size_207 ?_
  refine g_gI lf_X8_316 (X.S.l 38 rfl) (X.S.k 38 rfl rfl) dX8_size_210 ?_
  exact e_iret rfl dX8_size_213 rfl rfl rfl rfl
theorem m_size14 {h : Hp} {t : Nat} {cn : Nat → Nat} (X : CX h t cn) (f : Int32) (hf : f.toInt = 14) : gCi 0 0 0 yX8_size cX8_size 2 (some .int) [.ref 0, .int f] h (some (.int (gI h 38 9))) h := by
  refine g_entry (lv := [.ref 0, .int f]) 0 pn_X8 rfl rfl rfl ?_
  refine g_iL1 dX8_size_0 ?_
  refine g_swIn 14 dX8_size_1 hf rfl ?_
  refine g_aL0 dX8_size_214 ?_
  refine g_getR lf_X8_40 (X.S.l 0 rfl) (X.S.k 0 rfl rfl) (X.S.r 0 2 (b := 38) rfl rfl) dX8_size_215 ?_
  refine g_gI lf_X8_295 (X.S.l 38 rfl) (X.S.k 38 rfl rfl) dX8_size_218 ?_
  exact e_iret rfl dX8_size_221 rfl rfl rfl rfl
theorem m_size15 {h : Hp} {t : Nat} {cn : Nat → Nat} (X : CX h t cn) (f : Int32) (hf : f.toInt = 15) : gCi 0 0 0 yX8_size cX8_size 2 (some .int) [.ref 0, .int f] h (some (.int (gI h 1 1))) h := by
  refine g_entry (lv := [.ref 0, .int f]) 0 pn_X8 rfl rfl rfl ?_
  refine g_iL1 dX8_size_0 ?_
  refine g_swIn 15 dX8_size_1 hf rfl ?_
  refine g_aL0 dX8_size_222 ?_
  refine g_getR lf_X8_10 (X.S.l 0 rfl) (X.S.k 0 rfl rfl) (X.S.r 0 0 (b := 1) rfl rfl) dX8_size_223 ?_
  refine g_gI lf_X8_83 (X.S.l 1 rfl) (X.S.k 1 rfl rfl) dX8_size_226 ?_
  exact e_iret rfl dX8_size_229 rfl rfl rfl rfl
theorem m_sizeO {h : Hp} {t : Nat} {cn : Nat → Nat} (X : CX h t cn) (f : Int32) (hf : f.toInt < 0 ∨ 16 ≤ f.toInt) : gCi 0 0 0 yX8_size cX8_size 2 (some .int) [.ref 0, .int f] h (some (.int (-1))) h := by
  refine g_entry (lv := [.ref 0, .int f]) 0 pn_X8 rfl rfl rfl ?_
  refine g_iL1 dX8_size_0 ?_
  refine g_swOut dX8_size_1 hf ?_
  refine g_iconst dX8_size_230 ?_
  exact e_iret rfl dX8_size_231 rfl rfl rfl rfl
theorem m_feed0 {h : Hp} (S : SX h) {n : Nat} (hn : gI h 1 1 = nI n) (hn2 : 1080 < n) (hn3 : n ≤ 1100) (a b c d e : Int32) : gCi 1 0 0 yX8_feed cX8_feed 6 (some .int) [.ref 0, .int a, .int b, .int c, .int d, .int e] h (some (.int (-1))) h := by
  refine g_entry (lv := [.ref 0, .int a, .int b, .int c, .int d, .int e]) 0 pn_X8 rfl rfl rfl ?_
  refine g_aL0 dX8_feed_0 ?_
  refine g_getR lf_X8_10 (S.l 0 rfl) (S.k 0 rfl rfl) (S.r 0 0 (b := 1) rfl rfl) dX8_feed_1 ?_
  refine e_v0i (c_hasRoom S) lm_X8_75 dX8_feed_4 (S.l 1 rfl) (S.k 1 rfl rfl) rfl rfl rfl rfl ?_
  rw [hn, show hrF (nI n) = 0 from if_pos (by rw [show (20 : Int32) = nI 20 from rfl, nI_add, show (1100 : Int32) = nI 1100 from rfl]; exact nI_lt (by omega) (by omega))]
  refine g_ifne dX8_feed_7 (fun c7 => absurd rfl c7) (fun c7 => ?_)
  refine g_iconst dX8_feed_10 ?_
  exact e_iret rfl dX8_feed_11 rfl rfl rfl rfl
theorem ptH_S {h : Hp} (S : SX h) (n : Nat) (v : Int32) : SX (ptH h n v) := S
theorem ptH_n (h : Hp) (n : Nat) (v : Int32) : gI (ptH h n v) 1 1 = nI (n + 4) := (gIs _ _ _ _).trans (by rw [nI_1])
def fdH (h : Hp) (n : Nat) (a b c d e : Int32) : Hp := ptH (ptH (ptH (ptH (ptH h n a) (n + 4) b) (n + 8) c) (n + 12) d) (n + 16) e
theorem m_feed1 {h : Hp} (S : SX h) {n : Nat} (hn : gI h 1 1 = nI n) (hn2 : n ≤ 1080) (a b c d e : Int32) : gCi 1 0 0 yX8_feed cX8_feed 6 (some .int) [.ref 0, .int a, .int b, .int c, .int d, .int e] h (some (.int (nI (n + 20)))) (fdH h n a b c d e) := by
  refine g_entry (lv := [.ref 0, .int a, .int b, .int c, .int d, .int e]) 0 pn_X8 rfl rfl rfl ?_
  unfold fdH
  refine g_aL0 dX8_feed_0 ?_
  refine g_getR lf_X8_10 (S.l 0 rfl) (S.k 0 rfl rfl) (S.r 0 0 (b := 1) rfl rfl) dX8_feed_1 ?_
  refine e_v0i (c_hasRoom S) lm_X8_75 dX8_feed_4 (S.l 1 rfl) (S.k 1 rfl rfl) rfl rfl rfl rfl ?_
  rw [hn, show hrF (nI n) = 1 from if_neg (by rw [show (20 : Int32) = nI 20 from rfl, nI_add, show (1100 : Int32) = nI 1100 from rfl]; exact nI_nlt (by omega) (by omega))]
  refine g_ifne dX8_feed_7 (fun c7 => ?_) (fun c7 => absurd c7 (by decide))
  refine g_aL0 dX8_feed_12 ?_
  refine g_getR lf_X8_10 (S.l 0 rfl) (S.k 0 rfl rfl) (S.r 0 0 (b := 1) rfl rfl) dX8_feed_13 ?_
  refine g_iL1 dX8_feed_16 ?_
  refine e_v1u (c_tput S hn (by omega) _) lm_X8_79 dX8_feed_17 (S.l 1 rfl) (S.k 1 rfl rfl) rfl rfl rfl rfl ?_
  have S1 := ptH_S S n a
  have l1 : gI _ 1 1 = nI (n + 4) := ptH_n h n a
  refine g_aL0 dX8_feed_20 ?_
  refine g_getR lf_X8_10 (S1.l 0 rfl) (S1.k 0 rfl rfl) (S1.r 0 0 (b := 1) rfl rfl) dX8_feed_21 ?_
  refine g_iL2 dX8_feed_24 ?_
  refine e_v1u (c_tput S1 l1 (by omega) _) lm_X8_79 dX8_feed_25 (S1.l 1 rfl) (S1.k 1 rfl rfl) rfl rfl rfl rfl ?_
  have S2 := ptH_S S1 (n + 4) b
  have l2 : gI _ 1 1 = nI (n + 8) := ptH_n (ptH h n a) (n + 4) b
  refine g_aL0 dX8_feed_28 ?_
  refine g_getR lf_X8_10 (S2.l 0 rfl) (S2.k 0 rfl rfl) (S2.r 0 0 (b := 1) rfl rfl) dX8_feed_29 ?_
  refine g_iL3 dX8_feed_32 ?_
  refine e_v1u (c_tput S2 l2 (by omega) _) lm_X8_79 dX8_feed_33 (S2.l 1 rfl) (S2.k 1 rfl rfl) rfl rfl rfl rfl ?_
  have S3 := ptH_S S2 (n + 8) c
  have l3 : gI _ 1 1 = nI (n + 12) := ptH_n (ptH (ptH h n a) (n + 4) b) (n + 8) c
  refine g_aL0 dX8_feed_36 ?_
  refine g_getR lf_X8_10 (S3.l 0 rfl) (S3.k 0 rfl rfl) (S3.r 0 0 (b := 1) rfl rfl) dX8_feed_37 ?_
  refine g_iL4 dX8_feed_40 ?_
  refine e_v1u (c_tput S3 l3 (by omega) _) lm_X8_79 dX8_feed_42 (S3.l 1 rfl) (S3.k 1 rfl rfl) rfl rfl rfl rfl ?_
  have S4 := ptH_S S3 (n + 12) d
  have l4 : gI _ 1 1 = nI (n + 16) := ptH_n (ptH (ptH (ptH h n a) (n + 4) b) (n + 8) c) (n + 12) d
  refine g_aL0 dX8_feed_45 ?_
  refine g_getR lf_X8_10 (S4.l 0 rfl) (S4.k 0 rfl rfl) (S4.r 0 0 (b := 1) rfl rfl) dX8_feed_46 ?_
  refine g_iL5 dX8_feed_49 ?_
  refine e_v1u (c_tput S4 l4 (by omega) _) lm_X8_79 dX8_feed_51 (S4.l 1 rfl) (S4.k 1 rfl rfl) rfl rfl rfl rfl ?_
  have S5 := ptH_S S4 (n + 16) e
  have l5 : gI _ 1 1 = nI (n + 20) := ptH_n (ptH (ptH (ptH (ptH h n a) (n + 4) b) (n + 8) c) (n + 12) d) (n + 16) e
  refine g_aL0 dX8_feed_54 ?_
  refine g_getR lf_X8_10 (S5.l 0 rfl) (S5.k 0 rfl rfl) (S5.r 0 0 (b := 1) rfl rfl) dX8_feed_55 ?_
  refine g_gI lf_X8_83 (S5.l 1 rfl) (S5.k 1 rfl rfl) dX8_feed_58 ?_
  exact e_iret rfl dX8_feed_61 rfl rfl l5 rfl

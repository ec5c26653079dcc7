/-! THE CLASS: GlassPost: calls that find no way -/
theorem CX.fr {h h' : Hp} {t : Nat} {cn : Nat → Nat} (X : CX h t cn) (S : SX h') (e6 : gR h' 0 6 = gR h 0 6) (e38 : gR h' 38 0 = gR h 38 0) (ec : ∀ k, gI h' (t + 1) k = gI h (t + 1) k) : CX h' t cn := ⟨S, X.2.1, e6.trans X.2.2.1, e38.trans X.2.2.2.1, fun k hk => (ec k).trans (X.2.2.2.2.1 k hk), X.2.2.2.2.2⟩
def anF (a b : Int32) : Int32 := if a = 0 then 0 else if b = 0 then 0 else 1
theorem mkH_S {h : Hp} (S : SX h) (a b c d e : Int32) : SX (mkH h a b c d e) := by
  unfold mkH; split
  · exact S
  · exact S
theorem mkH_I (h : Hp) (a b c d e : Int32) {x j : Nat} (hx : x ≠ 48) : gI (mkH h a b c d e) x j = gI h x j := by
  unfold mkH; split
  · exact (gIq hx).trans (gIq hx)
  · rfl
theorem mkH_R (h : Hp) (a b c d e : Int32) {x j : Nat} : gR (mkH h a b c d e) x j = gR h x j := by
  unfold mkH; split
  · rfl
  · rfl
theorem b2_01 (p : Prop) [Decidable p] : b2 p = 0 ∨ b2 p = 1 := by unfold b2; split; exact Or.inr rfl; exact Or.inl rfl
def wmF (h : Hp) (t : Nat) (cn : Nat → Nat) (a b c d e : Int32) : Int32 := (if (ipF a (nI (cn 2))) = 0 then 1 else if (ipF c (nI (cn 2))) = 0 then 1 else if (ipF e (nI (cn 2))) = 0 then 1 else if (siF b (nI (cn 3))) = 0 then 1 else if (siF d (nI (cn 3))) = 0 then 1 else if b2 (mkOk (gI h (t + 4) (pn a)) (dkF (gI h (t + 5)) b) (gI h (t + 4) (pn c)) (dkF (gI h (t + 5)) d) (gI h (t + 4) (pn e))) = 0 then 6 else 0)
def wmH (h : Hp) (t : Nat) (cn : Nat → Nat) (a b c d e : Int32) : Hp := (if (ipF a (nI (cn 2))) = 0 then h else if (ipF c (nI (cn 2))) = 0 then h else if (ipF e (nI (cn 2))) = 0 then h else if (siF b (nI (cn 3))) = 0 then h else if (siF d (nI (cn 3))) = 0 then h else mkH h (gI h (t + 4) (pn a)) (dkF (gI h (t + 5)) b) (gI h (t + 4) (pn c)) (dkF (gI h (t + 5)) d) (gI h (t + 4) (pn e)))
theorem c_whyNotMade {h : Hp} {t : Nat} {cn : Nat → Nat} (X : CX h t cn) (a b c d e : Int32) : gCi 2 0 0 yX8_whyNotMade cX8_whyNotMade 7 (some .int) [.ref 0, .int a, .int b, .int c, .int d, .int e] h (some (.int (wmF h t cn a b c d e))) (wmH h t cn a b c d e) := by
  refine g_entry (lv := [.ref 0, .int a, .int b, .int c, .int d, .int e, .retAddr 0]) 1 pn_X8 rfl rfl rfl ?_
  refine g_aL0 dX8_whyNotMade_0 ?_
  refine g_iL1 dX8_whyNotMade_1 ?_
  refine e_v1i (c_isWord X _) lm_X8_129 dX8_whyNotMade_2 (X.S.l 0 rfl) (X.S.k 0 rfl rfl) rfl rfl rfl rfl ?_
  refine g_ifeq dX8_whyNotMade_5 (fun c5 => ?_) (fun c5 => ?_)
  · refine g_iconst dX8_whyNotMade_42 ?_
    exact e_iret rfl dX8_whyNotMade_43 rfl rfl (by unfold wmF; exact (if_pos c5).symm) (by unfold wmH; exact (if_pos c5).symm)
  · refine g_aL0 dX8_whyNotMade_8 ?_
    refine g_iL3 dX8_whyNotMade_9 ?_
    refine e_v1i (c_isWord X _) lm_X8_129 dX8_whyNotMade_10 (X.S.l 0 rfl) (X.S.k 0 rfl rfl) rfl rfl rfl rfl ?_
    refine g_ifeq dX8_whyNotMade_13 (fun c13 => ?_) (fun c13 => ?_)
    · refine g_iconst dX8_whyNotMade_42 ?_
      exact e_iret rfl dX8_whyNotMade_43 rfl rfl (by unfold wmF; exact ((if_neg c5).trans (if_pos c13)).symm) (by unfold wmH; exact ((if_neg c5).trans (if_pos c13)).symm)
    · refine g_aL0 dX8_whyNotMade_16 ?_
      refine g_iL5 dX8_whyNotMade_17 ?_
      refine e_v1i (c_isWord X _) lm_X8_129 dX8_whyNotMade_19 (X.S.l 0 rfl) (X.S.k 0 rfl rfl) rfl rfl rfl rfl ?_
      refine g_ifeq dX8_whyNotMade_22 (fun c22 => ?_) (fun c22 => ?_)
      · refine g_iconst dX8_whyNotMade_42 ?_
        exact e_iret rfl dX8_whyNotMade_43 rfl rfl (by unfold wmF; exact ((if_neg c5).trans ((if_neg c13).trans (if_pos c22))).symm) (by unfold wmH; exact ((if_neg c5).trans ((if_neg c13).trans (if_pos c22))).symm)
      · refine g_aL0 dX8_whyNotMade_25 ?_
        refine g_iL2 dX8_whyNotMade_26 ?_
        refine e_v1i (c_isSight X _) lm_X8_141 dX8_whyNotMade_27 (X.S.l 0 rfl) (X.S.k 0 rfl rfl) rfl rfl rfl rfl ?_
        refine g_ifeq dX8_whyNotMade_30 (fun c30 => ?_) (fun c30 => ?_)
        · refine g_iconst dX8_whyNotMade_42 ?_
          exact e_iret rfl dX8_whyNotMade_43 rfl rfl (by unfold wmF; exact ((if_neg c5).trans ((if_neg c13).trans ((if_neg c22).trans (if_pos c30)))).symm) (by unfold wmH; exact ((if_neg c5).trans ((if_neg c13).trans ((if_neg c22).trans (if_pos c30)))).symm)
        · refine g_aL0 dX8_whyNotMade_33 ?_
          refine g_iL4 dX8_whyNotMade_34 ?_
          refine e_v1i (c_isSight X _) lm_X8_141 dX8_whyNotMade_36 (X.S.l 0 rfl) (X.S.k 0 rfl rfl) rfl rfl rfl rfl ?_
          refine g_ifne dX8_whyNotMade_39 (fun c39 => ?_) (fun c39 => ?_)
          · obtain ⟨Pa, ha, rfl⟩ := ip1 (by have := X.b2; omega) c5
            have ga : Pa < 8 := by have := X.b2; omega
            obtain ⟨Pc, hc, rfl⟩ := ip1 (by have := X.b2; omega) c13
            have gc : Pc < 8 := by have := X.b2; omega
            obtain ⟨Pe, he, rfl⟩ := ip1 (by have := X.b2; omega) c22
            have ge : Pe < 8 := by have := X.b2; omega
            refine g_aL0 dX8_whyNotMade_44 ?_
            refine g_getR lf_X8_54 (X.S.l 0 rfl) (X.S.k 0 rfl rfl) (X.S.r 0 4 (b := 48) rfl rfl) dX8_whyNotMade_45 ?_
            refine g_aL0 dX8_whyNotMade_48 ?_
            refine g_getR lf_X8_19 (X.S.l 0 rfl) (X.S.k 0 rfl rfl) X.T dX8_whyNotMade_49 ?_
            refine g_getR lf_X8_132 (X.S.cl X.hc 0 rfl) (X.S.ck X.hc) (X.S.cr X.hc 8 (j := 4) rfl rfl) dX8_whyNotMade_52 ?_
            refine g_iL1 dX8_whyNotMade_55 ?_
            refine g_ialoadN (X.S.cl X.hc 4 rfl) (X.S.cka X.hc 4 rfl rfl) (X.S.cn X.hc 4 (n := 8) rfl rfl rfl) ga (by decide) dX8_whyNotMade_56 ?_
            refine g_aL0 dX8_whyNotMade_57 ?_
            refine g_getR lf_X8_19 (X.S.l 0 rfl) (X.S.k 0 rfl rfl) X.T dX8_whyNotMade_58 ?_
            refine g_iL2 dX8_whyNotMade_61 ?_
            refine e_v1i (c_darkOf X.S X.hc _) lm_X8_327 dX8_whyNotMade_62 (X.S.cl X.hc 0 rfl) (X.S.ck X.hc) rfl rfl rfl rfl ?_
            refine g_aL0 dX8_whyNotMade_65 ?_
            refine g_getR lf_X8_19 (X.S.l 0 rfl) (X.S.k 0 rfl rfl) X.T dX8_whyNotMade_66 ?_
            refine g_getR lf_X8_132 (X.S.cl X.hc 0 rfl) (X.S.ck X.hc) (X.S.cr X.hc 8 (j := 4) rfl rfl) dX8_whyNotMade_69 ?_
            refine g_iL3 dX8_whyNotMade_72 ?_
            refine g_ialoadN (X.S.cl X.hc 4 rfl) (X.S.cka X.hc 4 rfl rfl) (X.S.cn X.hc 4 (n := 8) rfl rfl rfl) gc (by decide) dX8_whyNotMade_73 ?_
            refine g_aL0 dX8_whyNotMade_74 ?_
            refine g_getR lf_X8_19 (X.S.l 0 rfl) (X.S.k 0 rfl rfl) X.T dX8_whyNotMade_75 ?_
            refine g_iL4 dX8_whyNotMade_78 ?_
            refine e_v1i (c_darkOf X.S X.hc _) lm_X8_327 dX8_whyNotMade_80 (X.S.cl X.hc 0 rfl) (X.S.ck X.hc) rfl rfl rfl rfl ?_
            refine g_aL0 dX8_whyNotMade_83 ?_
            refine g_getR lf_X8_19 (X.S.l 0 rfl) (X.S.k 0 rfl rfl) X.T dX8_whyNotMade_84 ?_
            refine g_getR lf_X8_132 (X.S.cl X.hc 0 rfl) (X.S.ck X.hc) (X.S.cr X.hc 8 (j := 4) rfl rfl) dX8_whyNotMade_87 ?_
            refine g_iL5 dX8_whyNotMade_90 ?_
            refine g_ialoadN (X.S.cl X.hc 4 rfl) (X.S.cka X.hc 4 rfl rfl) (X.S.cn X.hc 4 (n := 8) rfl rfl rfl) ge (by decide) dX8_whyNotMade_92 ?_
            refine e_v5i (c_make X.S _ _ _ _ _) lm_X8_330 dX8_whyNotMade_93 (X.S.l 48 rfl) (X.S.k 48 rfl rfl) rfl rfl rfl rfl ?_
            refine g_iS6 dX8_whyNotMade_96 rfl rfl ?_
            refine g_iL6 dX8_whyNotMade_98 ?_
            refine g_ifeq dX8_whyNotMade_100 (fun c100 => ?_) (fun c100 => ?_)
            · refine g_bipush dX8_whyNotMade_107 ?_
              exact e_iret rfl dX8_whyNotMade_109 rfl rfl (by unfold wmF; rw [pn_nI (by omega), pn_nI (by omega), pn_nI (by omega)]; exact ((if_neg c5).trans ((if_neg c13).trans ((if_neg c22).trans ((if_neg c30).trans ((if_neg c39).trans (if_pos c100)))))).symm) (by unfold wmH; rw [pn_nI (by omega), pn_nI (by omega), pn_nI (by omega)]; exact ((if_neg c5).trans ((if_neg c13).trans ((if_neg c22).trans ((if_neg c30).trans (if_neg c39))))).symm)
            · refine g_iconst dX8_whyNotMade_103 ?_
              refine g_goto dX8_whyNotMade_104 ?_
              exact e_iret rfl dX8_whyNotMade_109 rfl rfl (by unfold wmF; rw [pn_nI (by omega), pn_nI (by omega), pn_nI (by omega)]; exact ((if_neg c5).trans ((if_neg c13).trans ((if_neg c22).trans ((if_neg c30).trans ((if_neg c39).trans (if_neg c100)))))).symm) (by unfold wmH; rw [pn_nI (by omega), pn_nI (by omega), pn_nI (by omega)]; exact ((if_neg c5).trans ((if_neg c13).trans ((if_neg c22).trans ((if_neg c30).trans (if_neg c39))))).symm)
          · refine g_iconst dX8_whyNotMade_42 ?_
            exact e_iret rfl dX8_whyNotMade_43 rfl rfl (by unfold wmF; exact ((if_neg c5).trans ((if_neg c13).trans ((if_neg c22).trans ((if_neg c30).trans (if_pos c39))))).symm) (by unfold wmH; exact ((if_neg c5).trans ((if_neg c13).trans ((if_neg c22).trans ((if_neg c30).trans (if_pos c39))))).symm)
theorem wmH_X {h : Hp} {t : Nat} {cn : Nat → Nat} (X : CX h t cn) (a b c d e : Int32) : CX (wmH h t cn a b c d e) t cn := by
  have hc := X.hc
  have Y : ∀ x y z u v, CX (mkH h x y z u v) t cn := fun x y z u v => X.fr (mkH_S X.S _ _ _ _ _) (mkH_R _ _ _ _ _ _) (mkH_R _ _ _ _ _ _) (fun k => mkH_I _ _ _ _ _ _ (by omega))
  unfold wmH
  repeat' split
  all_goals first | exact X | exact Y _ _ _ _ _
theorem m_made {h : Hp} {t : Nat} {cn : Nat → Nat} (X : CX h t cn) (a b c d e : Int32) : gCi 4 0 0 yX8_made cX8_made 7 (some .int) [.ref 0, .int a, .int b, .int c, .int d, .int e] h (some (.int (if (wmF h t cn a b c d e) = 1 then -1 else if (wmF h t cn a b c d e) = 0 then bcF (gI (wmH h t cn a b c d e) 48 0) + bcF (gI (wmH h t cn a b c d e) 48 1) else -2))) (pI (wmH h t cn a b c d e) 0 8 (if (wmF h t cn a b c d e) = 1 then 1 else 0)) := by
  refine g_entry (lv := [.ref 0, .int a, .int b, .int c, .int d, .int e, .retAddr 0]) 1 pn_X8 rfl rfl rfl ?_
  refine g_aL0 dX8_made_0 ?_
  refine g_iL1 dX8_made_1 ?_
  refine g_iL2 dX8_made_2 ?_
  refine g_iL3 dX8_made_3 ?_
  refine g_iL4 dX8_made_4 ?_
  refine g_iL5 dX8_made_6 ?_
  refine e_v5i (c_whyNotMade X _ _ _ _ _) lm_X8_218 dX8_made_8 (X.S.l 0 rfl) (X.S.k 0 rfl rfl) rfl rfl rfl rfl ?_
  refine g_iS6 dX8_made_11 rfl rfl ?_
  have X1 := wmH_X X a b c d e
  refine g_iL6 dX8_made_13 ?_
  refine g_iconst dX8_made_15 ?_
  refine g_icne dX8_made_16 (fun c16 => ?_) (fun c16 => ?_)
  · refine g_aL0 dX8_made_25 ?_
    refine g_iL6 dX8_made_26 ?_
    refine g_ifne dX8_made_28 (fun c28 => ?_) (fun c28 => ?_)
    · refine g_bipush dX8_made_41 ?_
      refine e_v1i (c_answer X1 _) lm_X8_107 dX8_made_43 (X1.S.l 0 rfl) (X1.S.k 0 rfl rfl) rfl rfl rfl rfl ?_
      exact e_iret rfl dX8_made_46 rfl rfl ((if_neg c16).trans (if_neg c28)).symm (by rw [if_neg c16])
    · refine g_aL0 dX8_made_31 ?_
      refine g_getR lf_X8_54 (X1.S.l 0 rfl) (X1.S.k 0 rfl rfl) (X1.S.r 0 4 (b := 48) rfl rfl) dX8_made_32 ?_
      refine e_v0i (c_twStrokes X1.S) lm_X8_222 dX8_made_35 (X1.S.l 48 rfl) (X1.S.k 48 rfl rfl) rfl rfl rfl rfl ?_
      refine g_goto dX8_made_38 ?_
      refine e_v1i (c_answer X1 _) lm_X8_107 dX8_made_43 (X1.S.l 0 rfl) (X1.S.k 0 rfl rfl) rfl rfl rfl rfl ?_
      exact e_iret rfl dX8_made_46 rfl rfl ((if_neg c16).trans (if_pos c28)).symm (by rw [if_neg c16])
  · refine g_aL0 dX8_made_19 ?_
    refine g_iconst dX8_made_20 ?_
    refine e_v1i (c_refuse X1 _) lm_X8_86 dX8_made_21 (X1.S.l 0 rfl) (X1.S.k 0 rfl rfl) rfl rfl rfl rfl ?_
    exact e_iret rfl dX8_made_24 rfl rfl (if_pos c16).symm (by rw [if_pos c16])
theorem m_madeOf {h : Hp} {t : Nat} {cn : Nat → Nat} (X : CX h t cn) (a b c d e : Int32) (o : Int32) : gCi 3 0 0 yX8_madeOf cX8_madeOf 8 (some .int) [.ref 0, .int a, .int b, .int c, .int d, .int e, .int o] h (some (.int (if (wmF h t cn a b c d e) = 0 then (if o = 0 then gI (wmH h t cn a b c d e) 48 0 else gI (wmH h t cn a b c d e) 48 1) else -1))) (pI (wmH h t cn a b c d e) 0 8 (wmF h t cn a b c d e)) := by
  refine g_entry (lv := [.ref 0, .int a, .int b, .int c, .int d, .int e, .int o, .retAddr 0]) 1 pn_X8 rfl rfl rfl ?_
  refine g_aL0 dX8_madeOf_0 ?_
  refine g_iL1 dX8_madeOf_1 ?_
  refine g_iL2 dX8_madeOf_2 ?_
  refine g_iL3 dX8_madeOf_3 ?_
  refine g_iL4 dX8_madeOf_4 ?_
  refine g_iL5 dX8_madeOf_6 ?_
  refine e_v5i (c_whyNotMade X _ _ _ _ _) lm_X8_218 dX8_madeOf_8 (X.S.l 0 rfl) (X.S.k 0 rfl rfl) rfl rfl rfl rfl ?_
  refine g_iS7 dX8_madeOf_11 rfl rfl ?_
  have X1 := wmH_X X a b c d e
  refine g_iL7 dX8_madeOf_13 ?_
  refine g_ifeq dX8_madeOf_15 (fun c15 => ?_) (fun c15 => ?_)
  · refine g_aL0 dX8_madeOf_25 ?_
    refine g_iL6 dX8_madeOf_26 ?_
    refine g_ifeq dX8_madeOf_28 (fun c28 => ?_) (fun c28 => ?_)
    · refine g_aL0 dX8_madeOf_41 ?_
      refine g_getR lf_X8_54 (X1.S.l 0 rfl) (X1.S.k 0 rfl rfl) (X1.S.r 0 4 (b := 48) rfl rfl) dX8_madeOf_42 ?_
      refine g_gI lf_X8_228 (X1.S.l 48 rfl) (X1.S.k 48 rfl rfl) dX8_madeOf_45 ?_
      refine e_v1i (c_answer X1 _) lm_X8_107 dX8_madeOf_48 (X1.S.l 0 rfl) (X1.S.k 0 rfl rfl) rfl rfl rfl rfl ?_
      exact e_iret rfl dX8_madeOf_51 rfl rfl ((if_pos c15).trans (if_pos c28)).symm (by rw [c15])
    · refine g_aL0 dX8_madeOf_31 ?_
      refine g_getR lf_X8_54 (X1.S.l 0 rfl) (X1.S.k 0 rfl rfl) (X1.S.r 0 4 (b := 48) rfl rfl) dX8_madeOf_32 ?_
      refine g_gI lf_X8_225 (X1.S.l 48 rfl) (X1.S.k 48 rfl rfl) dX8_madeOf_35 ?_
      refine g_goto dX8_madeOf_38 ?_
      refine e_v1i (c_answer X1 _) lm_X8_107 dX8_madeOf_48 (X1.S.l 0 rfl) (X1.S.k 0 rfl rfl) rfl rfl rfl rfl ?_
      exact e_iret rfl dX8_madeOf_51 rfl rfl ((if_pos c15).trans (if_neg c28)).symm (by rw [c15])
  · refine g_aL0 dX8_madeOf_18 ?_
    refine g_iL7 dX8_madeOf_19 ?_
    refine e_v1i (c_refuse X1 _) lm_X8_86 dX8_madeOf_21 (X1.S.l 0 rfl) (X1.S.k 0 rfl rfl) rfl rfl rfl rfl ?_
    exact e_iret rfl dX8_madeOf_24 rfl rfl (if_neg c15).symm rfl
theorem m_putty {h : Hp} {t : Nat} {cn : Nat → Nat} (X : CX h t cn) {C : Nat} (hC : gI h t 1 * gI h t 2 = nI C) (hC20 : C ≤ 20) (p v : Int32) : gCi 7 0 0 yX8_putty cX8_putty 5 (some .int) [.ref 0, .int p, .int v] h (some (.int (if (wnF (ipF p (nI (cn 1))) (siF v (nI (cn 3))) (thF (gI h 38 3) p)) = 0 then (if (lpF (fun k => hiF (fun b => fwF (gI h (t + 4)) b (cn 2) 0) C k (seF h t (pn p) v) 0) 5 0) = -2 then -2 else bcF (lpF (fun k => hiF (fun b => fwF (gI h (t + 4)) b (cn 2) 0) C k (seF h t (pn p) v) 0) 5 0)) else -1))) (pI h 0 8 (wnF (ipF p (nI (cn 1))) (siF v (nI (cn 3))) (thF (gI h 38 3) p))) := by
  refine g_entry (lv := [.ref 0, .int p, .int v, .retAddr 0, .retAddr 0]) 2 pn_X8 rfl rfl rfl ?_
  refine g_aL0 dX8_putty_0 ?_
  refine g_iL1 dX8_putty_1 ?_
  refine g_aL0 dX8_putty_2 ?_
  refine g_iL2 dX8_putty_3 ?_
  refine e_v1i (c_isSight X _) lm_X8_141 dX8_putty_4 (X.S.l 0 rfl) (X.S.k 0 rfl rfl) rfl rfl rfl rfl ?_
  refine e_v2i (c_whyNot X _ _) lm_X8_144 dX8_putty_7 (X.S.l 0 rfl) (X.S.k 0 rfl rfl) rfl rfl rfl rfl ?_
  refine g_iS3 dX8_putty_10 rfl rfl ?_
  refine g_iL3 dX8_putty_11 ?_
  refine g_ifeq dX8_putty_12 (fun c12 => ?_) (fun c12 => ?_)
  · obtain ⟨P, hP, rfl⟩ := ip1 (by have := X.b1; omega) (wn0 c12).1
    have hP8 : P < 8 := by have := X.b1; omega
    refine g_aL0 dX8_putty_21 ?_
    refine g_getR lf_X8_40 (X.S.l 0 rfl) (X.S.k 0 rfl rfl) (X.S.r 0 2 (b := 38) rfl rfl) dX8_putty_22 ?_
    refine g_iL1 dX8_putty_25 ?_
    refine g_iL2 dX8_putty_26 ?_
    refine e_v2i (c_leastPutty X.S X.hc X.P (X.c 2 rfl) X.b2 hC hC20 hP8 _) lm_X8_231 dX8_putty_27 (X.S.l 38 rfl) (X.S.k 38 rfl rfl) rfl rfl rfl rfl ?_
    refine g_iS4 dX8_putty_30 rfl rfl ?_
    refine g_aL0 dX8_putty_32 ?_
    refine g_iL4 dX8_putty_33 ?_
    refine g_bipush dX8_putty_35 ?_
    refine g_icne dX8_putty_37 (fun c37 => ?_) (fun c37 => ?_)
    · refine g_iL4 dX8_putty_45 ?_
      refine e_s1i (c_bitCount _) lm_X8_234 dX8_putty_47 rfl rfl rfl rfl ?_
      refine e_v1i (c_answer X _) lm_X8_107 dX8_putty_50 (X.S.l 0 rfl) (X.S.k 0 rfl rfl) rfl rfl rfl rfl ?_
      exact e_iret rfl dX8_putty_53 rfl rfl (by rw [if_pos c12, pn_nI (by omega)]; exact (if_neg c37).symm) (by rw [c12])
    · refine g_bipush dX8_putty_40 ?_
      refine g_goto dX8_putty_42 ?_
      refine e_v1i (c_answer X _) lm_X8_107 dX8_putty_50 (X.S.l 0 rfl) (X.S.k 0 rfl rfl) rfl rfl rfl rfl ?_
      exact e_iret rfl dX8_putty_53 rfl rfl (by rw [if_pos c12, pn_nI (by omega)]; exact (if_pos c37).symm) (by rw [c12])
  · refine g_aL0 dX8_putty_15 ?_
    refine g_iL3 dX8_putty_16 ?_
    refine e_v1i (c_refuse X _) lm_X8_86 dX8_putty_17 (X.S.l 0 rfl) (X.S.k 0 rfl rfl) rfl rfl rfl rfl ?_
    exact e_iret rfl dX8_putty_20 rfl rfl (if_neg c12).symm rfl
theorem m_puttyOf {h : Hp} {t : Nat} {cn : Nat → Nat} (X : CX h t cn) {C : Nat} (hC : gI h t 1 * gI h t 2 = nI C) (hC20 : C ≤ 20) (p v : Int32) : gCi 7 0 0 yX8_puttyOf cX8_puttyOf 5 (some .int) [.ref 0, .int p, .int v] h (some (.int (if (wnF (ipF p (nI (cn 1))) (siF v (nI (cn 3))) (thF (gI h 38 3) p)) = 0 then (if (lpF (fun k => hiF (fun b => fwF (gI h (t + 4)) b (cn 2) 0) C k (seF h t (pn p) v) 0) 5 0) = -2 then 0 else (lpF (fun k => hiF (fun b => fwF (gI h (t + 4)) b (cn 2) 0) C k (seF h t (pn p) v) 0) 5 0)) else -1))) (pI h 0 8 (wnF (ipF p (nI (cn 1))) (siF v (nI (cn 3))) (thF (gI h 38 3) p))) := by
  refine g_entry (lv := [.ref 0, .int p, .int v, .retAddr 0, .retAddr 0]) 2 pn_X8 rfl rfl rfl ?_
  refine g_aL0 dX8_puttyOf_0 ?_
  refine g_iL1 dX8_puttyOf_1 ?_
  refine g_aL0 dX8_puttyOf_2 ?_
  refine g_iL2 dX8_puttyOf_3 ?_
  refine e_v1i (c_isSight X _) lm_X8_141 dX8_puttyOf_4 (X.S.l 0 rfl) (X.S.k 0 rfl rfl) rfl rfl rfl rfl ?_
  refine e_v2i (c_whyNot X _ _) lm_X8_144 dX8_puttyOf_7 (X.S.l 0 rfl) (X.S.k 0 rfl rfl) rfl rfl rfl rfl ?_
  refine g_iS3 dX8_puttyOf_10 rfl rfl ?_
  refine g_iL3 dX8_puttyOf_11 ?_
  refine g_ifeq dX8_puttyOf_12 (fun c12 => ?_) (fun c12 => ?_)
  · obtain ⟨P, hP, rfl⟩ := ip1 (by have := X.b1; omega) (wn0 c12).1
    have hP8 : P < 8 := by have := X.b1; omega
    refine g_aL0 dX8_puttyOf_21 ?_
    refine g_getR lf_X8_40 (X.S.l 0 rfl) (X.S.k 0 rfl rfl) (X.S.r 0 2 (b := 38) rfl rfl) dX8_puttyOf_22 ?_
    refine g_iL1 dX8_puttyOf_25 ?_
    refine g_iL2 dX8_puttyOf_26 ?_
    refine e_v2i (c_leastPutty X.S X.hc X.P (X.c 2 rfl) X.b2 hC hC20 hP8 _) lm_X8_231 dX8_puttyOf_27 (X.S.l 38 rfl) (X.S.k 38 rfl rfl) rfl rfl rfl rfl ?_
    refine g_iS4 dX8_puttyOf_30 rfl rfl ?_
    refine g_aL0 dX8_puttyOf_32 ?_
    refine g_iL4 dX8_puttyOf_33 ?_
    refine g_bipush dX8_puttyOf_35 ?_
    refine g_icne dX8_puttyOf_37 (fun c37 => ?_) (fun c37 => ?_)
    · refine g_iL4 dX8_puttyOf_44 ?_
      refine e_v1i (c_answer X _) lm_X8_107 dX8_puttyOf_46 (X.S.l 0 rfl) (X.S.k 0 rfl rfl) rfl rfl rfl rfl ?_
      exact e_iret rfl dX8_puttyOf_49 rfl rfl (by rw [if_pos c12, pn_nI (by omega)]; exact (if_neg c37).symm) (by rw [c12])
    · refine g_iconst dX8_puttyOf_40 ?_
      refine g_goto dX8_puttyOf_41 ?_
      refine e_v1i (c_answer X _) lm_X8_107 dX8_puttyOf_46 (X.S.l 0 rfl) (X.S.k 0 rfl rfl) rfl rfl rfl rfl ?_
      exact e_iret rfl dX8_puttyOf_49 rfl rfl (by rw [if_pos c12, pn_nI (by omega)]; exact (if_pos c37).symm) (by rw [c12])
  · refine g_aL0 dX8_puttyOf_15 ?_
    refine g_iL3 dX8_puttyOf_16 ?_
    refine e_v1i (c_refuse X _) lm_X8_86 dX8_puttyOf_17 (X.S.l 0 rfl) (X.S.k 0 rfl rfl) rfl rfl rfl rfl ?_
    exact e_iret rfl dX8_puttyOf_20 rfl rfl (if_neg c12).symm rfl
theorem m_gain {h : Hp} {t : Nat} {cn : Nat → Nat} (X : CX h t cn) (p v : Int32) : gCi 5 0 0 yX8_gain cX8_gain 4 (some .int) [.ref 0, .int p, .int v] h (some (.int (if (wnF (ipF p (nI (cn 1))) (siF v (nI (cn 3))) (thF (gI h 38 3) p)) = 0 then whF (seF h t (pn p) v) (wrF h t (cn 2) (pn p) v) else -100))) (pI h 0 8 (wnF (ipF p (nI (cn 1))) (siF v (nI (cn 3))) (thF (gI h 38 3) p))) := by
  refine g_entry (lv := [.ref 0, .int p, .int v, .retAddr 0]) 1 pn_X8 rfl rfl rfl ?_
  refine g_aL0 dX8_gain_0 ?_
  refine g_iL1 dX8_gain_1 ?_
  refine g_aL0 dX8_gain_2 ?_
  refine g_iL2 dX8_gain_3 ?_
  refine e_v1i (c_isSight X _) lm_X8_141 dX8_gain_4 (X.S.l 0 rfl) (X.S.k 0 rfl rfl) rfl rfl rfl rfl ?_
  refine e_v2i (c_whyNot X _ _) lm_X8_144 dX8_gain_7 (X.S.l 0 rfl) (X.S.k 0 rfl rfl) rfl rfl rfl rfl ?_
  refine g_iS3 dX8_gain_10 rfl rfl ?_
  refine g_iL3 dX8_gain_11 ?_
  refine g_ifeq dX8_gain_12 (fun c12 => ?_) (fun c12 => ?_)
  · obtain ⟨P, hP, rfl⟩ := ip1 (by have := X.b1; omega) (wn0 c12).1
    have hP8 : P < 8 := by have := X.b1; omega
    refine g_aL0 dX8_gain_24 ?_
    refine g_aL0 dX8_gain_25 ?_
    refine g_getR lf_X8_40 (X.S.l 0 rfl) (X.S.k 0 rfl rfl) (X.S.r 0 2 (b := 38) rfl rfl) dX8_gain_26 ?_
    refine g_iL1 dX8_gain_29 ?_
    refine g_iL2 dX8_gain_30 ?_
    refine e_v2i (c_writerHas X.S X.hc X.P (X.c 2 rfl) X.b2 hP8 _) lm_X8_260 dX8_gain_31 (X.S.l 38 rfl) (X.S.k 38 rfl rfl) rfl rfl rfl rfl ?_
    refine e_v1i (c_answer X _) lm_X8_107 dX8_gain_34 (X.S.l 0 rfl) (X.S.k 0 rfl rfl) rfl rfl rfl rfl ?_
    exact e_iret rfl dX8_gain_37 rfl rfl (by rw [if_pos c12, pn_nI (by omega)]) (by rw [c12])
  · refine g_aL0 dX8_gain_15 ?_
    refine g_iL3 dX8_gain_16 ?_
    refine e_v1i (c_refuse X _) lm_X8_86 dX8_gain_17 (X.S.l 0 rfl) (X.S.k 0 rfl rfl) rfl rfl rfl rfl ?_
    refine g_pop dX8_gain_20 rfl ?_
    refine g_bipush dX8_gain_21 ?_
    exact e_iret rfl dX8_gain_23 rfl rfl (if_neg c12).symm rfl
theorem an1 {a b : Int32} (h : ¬ anF a b = 0) : ¬ a = 0 ∧ ¬ b = 0 := by
  constructor
  · intro z; exact h (if_pos z)
  · intro z
    by_cases y : a = 0
    · exact h (if_pos y)
    · exact h ((if_neg y).trans (if_pos z))
theorem m_scratches {h : Hp} {t : Nat} {cn : Nat → Nat} (X : CX h t cn) (p v wd : Int32) : gCi 3 0 0 yX8_scratches cX8_scratches 5 (some .int) [.ref 0, .int p, .int v, .int wd] h (some (.int (if (wnF (ipF p (nI (cn 1))) (anF (siF v (nI (cn 3))) (ipF wd (nI (cn 2)))) (thF (gI h 38 3) p)) = 0 then (fsF (seF h t (pn p) v) (gI h (t + 4) (pn wd)) (dkF (gI h (t + 5)) v) (gI h 40 (pn p))) else -1))) (pI h 0 8 (wnF (ipF p (nI (cn 1))) (anF (siF v (nI (cn 3))) (ipF wd (nI (cn 2)))) (thF (gI h 38 3) p))) := by
  refine g_entry (lv := [.ref 0, .int p, .int v, .int wd, .retAddr 0]) 1 pn_X8 rfl rfl rfl ?_
  refine g_aL0 dX8_scratches_0 ?_
  refine g_iL1 dX8_scratches_1 ?_
  refine g_aL0 dX8_scratches_2 ?_
  refine g_iL2 dX8_scratches_3 ?_
  refine e_v1i (c_isSight X _) lm_X8_141 dX8_scratches_4 (X.S.l 0 rfl) (X.S.k 0 rfl rfl) rfl rfl rfl rfl ?_
  refine g_ifeq dX8_scratches_7 (fun c7 => ?_) (fun c7 => ?_)
  · refine g_iconst dX8_scratches_22 ?_
    have ef : (anF (siF v (nI (cn 3))) (ipF wd (nI (cn 2)))) = 0 := (if_pos c7)
    have W  : gCi 1 0 0 yX8_whyNot cX8_whyNot 3 (some .int) [.ref 0, .int p, .int 0] h (some (.int (wnF (ipF p (nI (cn 1))) (anF (siF v (nI (cn 3))) (ipF wd (nI (cn 2)))) (thF (gI h 38 3) p)))) h := by rw [ef]; exact c_whyNot X p _
    refine e_v2i W lm_X8_144 dX8_scratches_23 (X.S.l 0 rfl) (X.S.k 0 rfl rfl) rfl rfl rfl rfl ?_
    refine g_iS4 dX8_scratches_26 rfl rfl ?_
    refine g_iL4 dX8_scratches_28 ?_
    refine g_ifne dX8_scratches_30 (fun c30 => ?_) (fun c30 => ?_)
    · refine g_aL0 dX8_scratches_50 ?_
      refine g_iL4 dX8_scratches_51 ?_
      refine e_v1i (c_refuse X _) lm_X8_86 dX8_scratches_53 (X.S.l 0 rfl) (X.S.k 0 rfl rfl) rfl rfl rfl rfl ?_
      exact e_iret rfl dX8_scratches_56 rfl rfl (if_neg c30).symm rfl
    · obtain ⟨P, hP, rfl⟩ := ip1 (by have := X.b1; omega) (wn0 c30).1
      have hP8 : P < 8 := by have := X.b1; omega
      obtain ⟨Q, hQ, rfl⟩ := ip1 (by have := X.b2; omega) (an1 (wn0 c30).2.1).2
      have hQ8 : Q < 8 := by have := X.b2; omega
      refine g_aL0 dX8_scratches_33 ?_
      refine g_aL0 dX8_scratches_34 ?_
      refine g_getR lf_X8_40 (X.S.l 0 rfl) (X.S.k 0 rfl rfl) (X.S.r 0 2 (b := 38) rfl rfl) dX8_scratches_35 ?_
      refine g_iL1 dX8_scratches_38 ?_
      refine g_iL2 dX8_scratches_39 ?_
      refine g_iL3 dX8_scratches_40 ?_
      refine e_v3i (c_fewestScratches X.S X.hc X.P hP8 _ hQ8) lm_X8_239 dX8_scratches_41 (X.S.l 38 rfl) (X.S.k 38 rfl rfl) rfl rfl rfl rfl ?_
      refine e_v1i (c_answer X _) lm_X8_107 dX8_scratches_44 (X.S.l 0 rfl) (X.S.k 0 rfl rfl) rfl rfl rfl rfl ?_
      refine g_goto dX8_scratches_47 ?_
      exact e_iret rfl dX8_scratches_56 rfl rfl (by rw [if_pos c30, pn_nI (by omega), pn_nI (by omega)]) (by rw [c30])
  · refine g_aL0 dX8_scratches_10 ?_
    refine g_iL3 dX8_scratches_11 ?_
    refine e_v1i (c_isWord X _) lm_X8_129 dX8_scratches_12 (X.S.l 0 rfl) (X.S.k 0 rfl rfl) rfl rfl rfl rfl ?_
    refine g_ifeq dX8_scratches_15 (fun c15 => ?_) (fun c15 => ?_)
    · refine g_iconst dX8_scratches_22 ?_
      have ef : (anF (siF v (nI (cn 3))) (ipF wd (nI (cn 2)))) = 0 := ((if_neg c7).trans (if_pos c15))
      have W  : gCi 1 0 0 yX8_whyNot cX8_whyNot 3 (some .int) [.ref 0, .int p, .int 0] h (some (.int (wnF (ipF p (nI (cn 1))) (anF (siF v (nI (cn 3))) (ipF wd (nI (cn 2)))) (thF (gI h 38 3) p)))) h := by rw [ef]; exact c_whyNot X p _
      refine e_v2i W lm_X8_144 dX8_scratches_23 (X.S.l 0 rfl) (X.S.k 0 rfl rfl) rfl rfl rfl rfl ?_
      refine g_iS4 dX8_scratches_26 rfl rfl ?_
      refine g_iL4 dX8_scratches_28 ?_
      refine g_ifne dX8_scratches_30 (fun c30 => ?_) (fun c30 => ?_)
      · refine g_aL0 dX8_scratches_50 ?_
        refine g_iL4 dX8_scratches_51 ?_
        refine e_v1i (c_refuse X _) lm_X8_86 dX8_scratches_53 (X.S.l 0 rfl) (X.S.k 0 rfl rfl) rfl rfl rfl rfl ?_
        exact e_iret rfl dX8_scratches_56 rfl rfl (if_neg c30).symm rfl
      · obtain ⟨P, hP, rfl⟩ := ip1 (by have := X.b1; omega) (wn0 c30).1
        have hP8 : P < 8 := by have := X.b1; omega
        obtain ⟨Q, hQ, rfl⟩ := ip1 (by have := X.b2; omega) (an1 (wn0 c30).2.1).2
        have hQ8 : Q < 8 := by have := X.b2; omega
        refine g_aL0 dX8_scratches_33 ?_
        refine g_aL0 dX8_scratches_34 ?_
        refine g_getR lf_X8_40 (X.S.l 0 rfl) (X.S.k 0 rfl rfl) (X.S.r 0 2 (b := 38) rfl rfl) dX8_scratches_35 ?_
        refine g_iL1 dX8_scratches_38 ?_
        refine g_iL2 dX8_scratches_39 ?_
        refine g_iL3 dX8_scratches_40 ?_
        refine e_v3i (c_fewestScratches X.S X.hc X.P hP8 _ hQ8) lm_X8_239 dX8_scratches_41 (X.S.l 38 rfl) (X.S.k 38 rfl rfl) rfl rfl rfl rfl ?_
        refine e_v1i (c_answer X _) lm_X8_107 dX8_scratches_44 (X.S.l 0 rfl) (X.S.k 0 rfl rfl) rfl rfl rfl rfl ?_
        refine g_goto dX8_scratches_47 ?_
        exact e_iret rfl dX8_scratches_56 rfl rfl (by rw [if_pos c30, pn_nI (by omega), pn_nI (by omega)]) (by rw [c30])
    · refine g_iconst dX8_scratches_18 ?_
      refine g_goto dX8_scratches_19 ?_
      have ef : (anF (siF v (nI (cn 3))) (ipF wd (nI (cn 2)))) = 1 := ((if_neg c7).trans (if_neg c15))
      have W  : gCi 1 0 0 yX8_whyNot cX8_whyNot 3 (some .int) [.ref 0, .int p, .int 1] h (some (.int (wnF (ipF p (nI (cn 1))) (anF (siF v (nI (cn 3))) (ipF wd (nI (cn 2)))) (thF (gI h 38 3) p)))) h := by rw [ef]; exact c_whyNot X p _
      refine e_v2i W lm_X8_144 dX8_scratches_23 (X.S.l 0 rfl) (X.S.k 0 rfl rfl) rfl rfl rfl rfl ?_
      refine g_iS4 dX8_scratches_26 rfl rfl ?_
      refine g_iL4 dX8_scratches_28 ?_
      refine g_ifne dX8_scratches_30 (fun c30 => ?_) (fun c30 => ?_)
      · refine g_aL0 dX8_scratches_50 ?_
        refine g_iL4 dX8_scratches_51 ?_
        refine e_v1i (c_refuse X _) lm_X8_86 dX8_scratches_53 (X.S.l 0 rfl) (X.S.k 0 rfl rfl) rfl rfl rfl rfl ?_
        exact e_iret rfl dX8_scratches_56 rfl rfl (if_neg c30).symm rfl
      · obtain ⟨P, hP, rfl⟩ := ip1 (by have := X.b1; omega) (wn0 c30).1
        have hP8 : P < 8 := by have := X.b1; omega
        obtain ⟨Q, hQ, rfl⟩ := ip1 (by have := X.b2; omega) (an1 (wn0 c30).2.1).2
        have hQ8 : Q < 8 := by have := X.b2; omega
        refine g_aL0 dX8_scratches_33 ?_
        refine g_aL0 dX8_scratches_34 ?_
        refine g_getR lf_X8_40 (X.S.l 0 rfl) (X.S.k 0 rfl rfl) (X.S.r 0 2 (b := 38) rfl rfl) dX8_scratches_35 ?_
        refine g_iL1 dX8_scratches_38 ?_
        refine g_iL2 dX8_scratches_39 ?_
        refine g_iL3 dX8_scratches_40 ?_
        refine e_v3i (c_fewestScratches X.S X.hc X.P hP8 _ hQ8) lm_X8_239 dX8_scratches_41 (X.S.l 38 rfl) (X.S.k 38 rfl rfl) rfl rfl rfl rfl ?_
        refine e_v1i (c_answer X _) lm_X8_107 dX8_scratches_44 (X.S.l 0 rfl) (X.S.k 0 rfl rfl) rfl rfl rfl rfl ?_
        refine g_goto dX8_scratches_47 ?_
        exact e_iret rfl dX8_scratches_56 rfl rfl (by rw [if_pos c30, pn_nI (by omega), pn_nI (by omega)]) (by rw [c30])
def cdF (fs : Nat → Int32) : Nat → Nat → Int32 → Int32
  | 0, _, b => b
  | n + 1, i, b => if fs i = -2 then cdF fs n (i + 1) b else cdF fs n (i + 1) (b ||| ((1 : Int32) <<< (nI i &&& 31)))
theorem m_could {h : Hp} {t : Nat} {cn : Nat → Nat} (X : CX h t cn) (p v : Int32) : gCi 4 0 0 yX8_could cX8_could 6 (some .int) [.ref 0, .int p, .int v] h (some (.int (if (wnF (ipF p (nI (cn 1))) (siF v (nI (cn 3))) (thF (gI h 38 3) p)) = 0 then cdF (fun i => fsF (seF h t (pn p) v) (gI h (t + 4) i) (dkF (gI h (t + 5)) v) (gI h 40 (pn p))) (cn 2) 0 0 else -1))) (pI h 0 8 (wnF (ipF p (nI (cn 1))) (siF v (nI (cn 3))) (thF (gI h 38 3) p))) := by
  refine g_entry (lv := [.ref 0, .int p, .int v, .retAddr 0, .retAddr 0, .retAddr 0]) 3 pn_X8 rfl rfl rfl ?_
  refine g_aL0 dX8_could_0 ?_
  refine g_iL1 dX8_could_1 ?_
  refine g_aL0 dX8_could_2 ?_
  refine g_iL2 dX8_could_3 ?_
  refine e_v1i (c_isSight X _) lm_X8_141 dX8_could_4 (X.S.l 0 rfl) (X.S.k 0 rfl rfl) rfl rfl rfl rfl ?_
  refine e_v2i (c_whyNot X _ _) lm_X8_144 dX8_could_7 (X.S.l 0 rfl) (X.S.k 0 rfl rfl) rfl rfl rfl rfl ?_
  refine g_iS3 dX8_could_10 rfl rfl ?_
  refine g_iL3 dX8_could_11 ?_
  refine g_ifeq dX8_could_12 (fun c12 => ?_) (fun c12 => ?_)
  · obtain ⟨P, hP, rfl⟩ := ip1 (by have := X.b1; omega) (wn0 c12).1
    have hP8 : P < 8 := by have := X.b1; omega
    have loop : ∀ (n i : Nat) (b : Int32), i + n = cn 2 → cdF (fun i => fsF (seF h t P v) (gI h (t + 4) i) (dkF (gI h (t + 5)) v) (gI h 40 P)) (cn 2) 0 0 = cdF (fun i => fsF (seF h t P v) (gI h (t + 4) i) (dkF (gI h (t + 5)) v) (gI h 40 P)) n i b → gY 4 0 0 yX8_could cX8_could 6 (some .int) 0 0 (fun v' h' => v' = (some (.int (if (wnF (ipF (nI P) (nI (cn 1))) (siF v (nI (cn 3))) (thF (gI h 38 3) (nI P))) = 0 then cdF (fun i => fsF (seF h t (pn (nI P)) v) (gI h (t + 4) i) (dkF (gI h (t + 5)) v) (gI h 40 (pn (nI P)))) (cn 2) 0 0 else -1))) ∧ h' = (pI h 0 8 (wnF (ipF (nI P) (nI (cn 1))) (siF v (nI (cn 3))) (thF (gI h 38 3) (nI P))))) 27 [.ref 0, .int (nI P), .int v, .int (wnF (ipF (nI P) (nI (cn 1))) (siF v (nI (cn 3))) (thF (gI h 38 3) (nI P))), .int b, .int (nI i)] [] h := by
      intro n
      induction n with
      | zero =>
        intro i b hi he 
        refine g_iL5 dX8_could_27 ?_
        refine g_aL0 dX8_could_29 ?_
        refine g_getR lf_X8_19 (X.S.l 0 rfl) (X.S.k 0 rfl rfl) X.T dX8_could_30 ?_
        refine g_getR lf_X8_103 (X.S.cl X.hc 0 rfl) (X.S.ck X.hc) (X.S.cr X.hc 0 (j := 1) rfl rfl) dX8_could_33 ?_
        refine g_iconst dX8_could_36 ?_
        refine g_ialoadK (X.S.cl X.hc 1 rfl) (X.S.cka X.hc 1 rfl rfl) (X.S.cn X.hc 1 (n := 11) rfl rfl rfl) rfl (j := 2) rfl dX8_could_37 ?_
        rw [X.c 2 rfl]
        refine g_icge dX8_could_38 (fun c38 => ?_) (fun c38 => absurd (nI_le (by omega) (by have := X.b2; omega)) c38)
        refine g_aL0 dX8_could_72 ?_
        refine g_iL4 dX8_could_73 ?_
        refine e_v1i (c_answer X _) lm_X8_107 dX8_could_75 (X.S.l 0 rfl) (X.S.k 0 rfl rfl) rfl rfl rfl rfl ?_
        exact e_iret rfl dX8_could_78 rfl rfl (by rw [if_pos c12, pn_nI (by omega)]; exact he.symm) (by rw [c12])
      | succ n ih =>
        intro i b hi he 
        refine g_iL5 dX8_could_27 ?_
        refine g_aL0 dX8_could_29 ?_
        refine g_getR lf_X8_19 (X.S.l 0 rfl) (X.S.k 0 rfl rfl) X.T dX8_could_30 ?_
        refine g_getR lf_X8_103 (X.S.cl X.hc 0 rfl) (X.S.ck X.hc) (X.S.cr X.hc 0 (j := 1) rfl rfl) dX8_could_33 ?_
        refine g_iconst dX8_could_36 ?_
        refine g_ialoadK (X.S.cl X.hc 1 rfl) (X.S.cka X.hc 1 rfl rfl) (X.S.cn X.hc 1 (n := 11) rfl rfl rfl) rfl (j := 2) rfl dX8_could_37 ?_
        rw [X.c 2 rfl]
        refine g_icge dX8_could_38 (fun c38 => absurd c38 (nI_ge (by omega) (by have := X.b2; omega))) (fun c38 => ?_)
        refine g_aL0 dX8_could_41 ?_
        refine g_getR lf_X8_40 (X.S.l 0 rfl) (X.S.k 0 rfl rfl) (X.S.r 0 2 (b := 38) rfl rfl) dX8_could_42 ?_
        refine g_iL1 dX8_could_45 ?_
        refine g_iL2 dX8_could_46 ?_
        refine g_iL5 dX8_could_47 ?_
        refine e_v3i (c_fewestScratches X.S X.hc X.P hP8 _ (by have := X.b2; omega)) lm_X8_239 dX8_could_49 (X.S.l 38 rfl) (X.S.k 38 rfl rfl) rfl rfl rfl rfl ?_
        refine g_bipush dX8_could_52 ?_
        refine g_iceq dX8_could_54 (fun c54 => ?_) (fun c54 => ?_)
        · refine g_ii5 dX8_could_66 rfl rfl ?_
          refine g_goto dX8_could_69 ?_
          rw [nI_1]
          exact ih (i + 1) _ (by omega) (he.trans (if_pos c54)) 
        · refine g_iL4 dX8_could_57 ?_
          refine g_iconst dX8_could_59 ?_
          refine g_iL5 dX8_could_60 ?_
          refine g_ishl dX8_could_62 ?_
          refine g_ior dX8_could_63 ?_
          refine g_iS4 dX8_could_64 rfl rfl ?_
          refine g_ii5 dX8_could_66 rfl rfl ?_
          refine g_goto dX8_could_69 ?_
          rw [nI_1]
          exact ih (i + 1) _ (by omega) (he.trans (if_neg c54)) 
    refine g_iconst dX8_could_21 ?_
    refine g_iS4 dX8_could_22 rfl rfl ?_
    refine g_iconst dX8_could_24 ?_
    refine g_iS5 dX8_could_25 rfl rfl ?_
    exact loop (cn 2) 0 _ (by omega) rfl
  · refine g_aL0 dX8_could_15 ?_
    refine g_iL3 dX8_could_16 ?_
    refine e_v1i (c_refuse X _) lm_X8_86 dX8_could_17 (X.S.l 0 rfl) (X.S.k 0 rfl rfl) rfl rfl rfl rfl ?_
    exact e_iret rfl dX8_could_20 rfl rfl (if_neg c12).symm rfl
theorem m_wholes {h : Hp} {t : Nat} {cn : Nat → Nat} (X : CX h t cn) : gCi 4 0 0 yX8_wholes cX8_wholes 1 (some .int) [.ref 0] h (some (.int (if ncF (nI (cn 1)) = 0 then cwF (fun set => iwF (gI h (t + 13)) set (allF (gI h t 1) (gI h t 2)) (cn 9) 0 0) (2 ^ (cn 9) - 1) 1 0 else -1))) (pI h 0 8 (if ncF (nI (cn 1)) = 0 then 0 else 1)) := by
  refine g_entry (lv := [.ref 0]) 0 pn_X8 rfl rfl rfl ?_
  refine g_aL0 dX8_wholes_0 ?_
  refine e_v0i (c_noCity X) lm_X8_215 dX8_wholes_1 (X.S.l 0 rfl) (X.S.k 0 rfl rfl) rfl rfl rfl rfl ?_
  refine g_ifeq dX8_wholes_4 (fun c4 => ?_) (fun c4 => ?_)
  · refine g_aL0 dX8_wholes_15 ?_
    refine g_aL0 dX8_wholes_16 ?_
    refine g_getR lf_X8_19 (X.S.l 0 rfl) (X.S.k 0 rfl rfl) X.T dX8_wholes_17 ?_
    refine e_v0i (c_countWholes X.S X.hc (X.c 9 rfl) X.b9) lm_X8_242 dX8_wholes_20 (X.S.cl X.hc 0 rfl) (X.S.ck X.hc) rfl rfl rfl rfl ?_
    refine e_v1i (c_answer X _) lm_X8_107 dX8_wholes_23 (X.S.l 0 rfl) (X.S.k 0 rfl rfl) rfl rfl rfl rfl ?_
    exact e_iret rfl dX8_wholes_26 rfl rfl (if_pos c4).symm (by rw [if_pos c4])
  · refine g_aL0 dX8_wholes_7 ?_
    refine g_iconst dX8_wholes_8 ?_
    refine e_v1i (c_refuse X _) lm_X8_86 dX8_wholes_9 (X.S.l 0 rfl) (X.S.k 0 rfl rfl) rfl rfl rfl rfl ?_
    refine g_goto dX8_wholes_12 ?_
    exact e_iret rfl dX8_wholes_26 rfl rfl (if_neg c4).symm (by rw [if_neg c4])
theorem m_missing {h : Hp} {t : Nat} {cn : Nat → Nat} (X : CX h t cn) : gCi 4 0 0 yX8_missing cX8_missing 1 (some .int) [.ref 0] h (some (.int (if ncF (nI (cn 1)) = 0 then (allF (gI h t 1) (gI h t 2)) &&& (oaF (gI h (t + 13)) (cn 9) 0 0 ^^^ (-1)) else -1))) (pI h 0 8 (if ncF (nI (cn 1)) = 0 then 0 else 1)) := by
  refine g_entry (lv := [.ref 0]) 0 pn_X8 rfl rfl rfl ?_
  refine g_aL0 dX8_missing_0 ?_
  refine e_v0i (c_noCity X) lm_X8_215 dX8_missing_1 (X.S.l 0 rfl) (X.S.k 0 rfl rfl) rfl rfl rfl rfl ?_
  refine g_ifeq dX8_missing_4 (fun c4 => ?_) (fun c4 => ?_)
  · refine g_aL0 dX8_missing_15 ?_
    refine g_aL0 dX8_missing_16 ?_
    refine g_getR lf_X8_19 (X.S.l 0 rfl) (X.S.k 0 rfl rfl) X.T dX8_missing_17 ?_
    refine e_v0i (c_cellsWithoutShard X.S X.hc (X.c 9 rfl) X.b9) lm_X8_254 dX8_missing_20 (X.S.cl X.hc 0 rfl) (X.S.ck X.hc) rfl rfl rfl rfl ?_
    refine e_v1i (c_answer X _) lm_X8_107 dX8_missing_23 (X.S.l 0 rfl) (X.S.k 0 rfl rfl) rfl rfl rfl rfl ?_
    exact e_iret rfl dX8_missing_26 rfl rfl (if_pos c4).symm (by rw [if_pos c4])
  · refine g_aL0 dX8_missing_7 ?_
    refine g_iconst dX8_missing_8 ?_
    refine e_v1i (c_refuse X _) lm_X8_86 dX8_missing_9 (X.S.l 0 rfl) (X.S.k 0 rfl rfl) rfl rfl rfl rfl ?_
    refine g_goto dX8_missing_12 ?_
    exact e_iret rfl dX8_missing_26 rfl rfl (if_neg c4).symm (by rw [if_neg c4])
theorem m_whole {h : Hp} {t : Nat} {cn : Nat → Nat} (X : CX h t cn) (k : Int32) : gCi 4 0 0 yX8_whole cX8_whole 3 (some .int) [.ref 0, .int k] h (some (.int (if (waF (fun set => iwF (gI h (t + 13)) set (allF (gI h t 1) (gI h t 2)) (cn 9) 0 0) k (2 ^ (cn 9) - 1) 1 0) = 0 then -1 else (waF (fun set => iwF (gI h (t + 13)) set (allF (gI h t 1) (gI h t 2)) (cn 9) 0 0) k (2 ^ (cn 9) - 1) 1 0)))) (pI h 0 8 (if (waF (fun set => iwF (gI h (t + 13)) set (allF (gI h t 1) (gI h t 2)) (cn 9) 0 0) k (2 ^ (cn 9) - 1) 1 0) = 0 then 1 else 0)) := by
  refine g_entry (lv := [.ref 0, .int k, .retAddr 0]) 1 pn_X8 rfl rfl rfl ?_
  refine g_aL0 dX8_whole_0 ?_
  refine g_getR lf_X8_19 (X.S.l 0 rfl) (X.S.k 0 rfl rfl) X.T dX8_whole_1 ?_
  refine g_iL1 dX8_whole_4 ?_
  refine e_v1i (c_wholeAt X.S X.hc (X.c 9 rfl) X.b9 _) lm_X8_245 dX8_whole_5 (X.S.cl X.hc 0 rfl) (X.S.ck X.hc) rfl rfl rfl rfl ?_
  refine g_iS2 dX8_whole_8 rfl rfl ?_
  refine g_iL2 dX8_whole_9 ?_
  refine g_ifne dX8_whole_10 (fun c10 => ?_) (fun c10 => ?_)
  · refine g_aL0 dX8_whole_21 ?_
    refine g_iL2 dX8_whole_22 ?_
    refine e_v1i (c_answer X _) lm_X8_107 dX8_whole_23 (X.S.l 0 rfl) (X.S.k 0 rfl rfl) rfl rfl rfl rfl ?_
    exact e_iret rfl dX8_whole_26 rfl rfl (if_neg c10).symm (by rw [if_neg c10])
  · refine g_aL0 dX8_whole_13 ?_
    refine g_iconst dX8_whole_14 ?_
    refine e_v1i (c_refuse X _) lm_X8_86 dX8_whole_15 (X.S.l 0 rfl) (X.S.k 0 rfl rfl) rfl rfl rfl rfl ?_
    refine g_goto dX8_whole_18 ?_
    exact e_iret rfl dX8_whole_26 rfl rfl (if_pos c10).symm (by rw [if_pos c10])
theorem m_written {h : Hp} {t : Nat} {cn : Nat → Nat} (X : CX h t cn) (k : Int32) : gCi 4 0 0 yX8_written cX8_written 3 (some .int) [.ref 0, .int k] h (some (.int (if (waF (fun set => iwF (gI h (t + 13)) set (allF (gI h t 1) (gI h t 2)) (cn 9) 0 0) k (2 ^ (cn 9) - 1) 1 0) = 0 then -1 else (orF (gI h (t + 14)) (waF (fun set => iwF (gI h (t + 13)) set (allF (gI h t 1) (gI h t 2)) (cn 9) 0 0) k (2 ^ (cn 9) - 1) 1 0) (cn 9) 0 0)))) (pI h 0 8 (if (waF (fun set => iwF (gI h (t + 13)) set (allF (gI h t 1) (gI h t 2)) (cn 9) 0 0) k (2 ^ (cn 9) - 1) 1 0) = 0 then 1 else 0)) := by
  refine g_entry (lv := [.ref 0, .int k, .retAddr 0]) 1 pn_X8 rfl rfl rfl ?_
  refine g_aL0 dX8_written_0 ?_
  refine g_getR lf_X8_19 (X.S.l 0 rfl) (X.S.k 0 rfl rfl) X.T dX8_written_1 ?_
  refine g_iL1 dX8_written_4 ?_
  refine e_v1i (c_wholeAt X.S X.hc (X.c 9 rfl) X.b9 _) lm_X8_245 dX8_written_5 (X.S.cl X.hc 0 rfl) (X.S.ck X.hc) rfl rfl rfl rfl ?_
  refine g_iS2 dX8_written_8 rfl rfl ?_
  refine g_iL2 dX8_written_9 ?_
  refine g_ifne dX8_written_10 (fun c10 => ?_) (fun c10 => ?_)
  · refine g_aL0 dX8_written_21 ?_
    refine g_aL0 dX8_written_22 ?_
    refine g_getR lf_X8_19 (X.S.l 0 rfl) (X.S.k 0 rfl rfl) X.T dX8_written_23 ?_
    refine g_iL2 dX8_written_26 ?_
    refine e_v1i (c_strokesOfShards X.S X.hc (X.c 9 rfl) X.b9 _) lm_X8_248 dX8_written_27 (X.S.cl X.hc 0 rfl) (X.S.ck X.hc) rfl rfl rfl rfl ?_
    refine e_v1i (c_answer X _) lm_X8_107 dX8_written_30 (X.S.l 0 rfl) (X.S.k 0 rfl rfl) rfl rfl rfl rfl ?_
    exact e_iret rfl dX8_written_33 rfl rfl (if_neg c10).symm (by rw [if_neg c10])
  · refine g_aL0 dX8_written_13 ?_
    refine g_iconst dX8_written_14 ?_
    refine e_v1i (c_refuse X _) lm_X8_86 dX8_written_15 (X.S.l 0 rfl) (X.S.k 0 rfl rfl) rfl rfl rfl rfl ?_
    refine g_goto dX8_written_18 ?_
    exact e_iret rfl dX8_written_33 rfl rfl (if_pos c10).symm (by rw [if_pos c10])
theorem m_wordOf {h : Hp} {t : Nat} {cn : Nat → Nat} (X : CX h t cn) (k : Int32) : gCi 4 0 0 yX8_wordOf cX8_wordOf 3 (some .int) [.ref 0, .int k] h (some (.int (if (waF (fun set => iwF (gI h (t + 13)) set (allF (gI h t 1) (gI h t 2)) (cn 9) 0 0) k (2 ^ (cn 9) - 1) 1 0) = 0 then -1 else fwF (gI h (t + 4)) (orF (gI h (t + 14)) (waF (fun set => iwF (gI h (t + 13)) set (allF (gI h t 1) (gI h t 2)) (cn 9) 0 0) k (2 ^ (cn 9) - 1) 1 0) (cn 9) 0 0) (cn 2) 0))) (pI h 0 8 (if (waF (fun set => iwF (gI h (t + 13)) set (allF (gI h t 1) (gI h t 2)) (cn 9) 0 0) k (2 ^ (cn 9) - 1) 1 0) = 0 then 1 else 0)) := by
  refine g_entry (lv := [.ref 0, .int k, .retAddr 0]) 1 pn_X8 rfl rfl rfl ?_
  refine g_aL0 dX8_wordOf_0 ?_
  refine g_getR lf_X8_19 (X.S.l 0 rfl) (X.S.k 0 rfl rfl) X.T dX8_wordOf_1 ?_
  refine g_iL1 dX8_wordOf_4 ?_
  refine e_v1i (c_wholeAt X.S X.hc (X.c 9 rfl) X.b9 _) lm_X8_245 dX8_wordOf_5 (X.S.cl X.hc 0 rfl) (X.S.ck X.hc) rfl rfl rfl rfl ?_
  refine g_iS2 dX8_wordOf_8 rfl rfl ?_
  refine g_iL2 dX8_wordOf_9 ?_
  refine g_ifne dX8_wordOf_10 (fun c10 => ?_) (fun c10 => ?_)
  · refine g_aL0 dX8_wordOf_21 ?_
    refine g_aL0 dX8_wordOf_22 ?_
    refine g_getR lf_X8_19 (X.S.l 0 rfl) (X.S.k 0 rfl rfl) X.T dX8_wordOf_23 ?_
    refine g_aL0 dX8_wordOf_26 ?_
    refine g_getR lf_X8_19 (X.S.l 0 rfl) (X.S.k 0 rfl rfl) X.T dX8_wordOf_27 ?_
    refine g_iL2 dX8_wordOf_30 ?_
    refine e_v1i (c_strokesOfShards X.S X.hc (X.c 9 rfl) X.b9 _) lm_X8_248 dX8_wordOf_31 (X.S.cl X.hc 0 rfl) (X.S.ck X.hc) rfl rfl rfl rfl ?_
    refine e_v1i (c_firstWord X.S X.hc (X.c 2 rfl) X.b2 _) lm_X8_161 dX8_wordOf_34 (X.S.cl X.hc 0 rfl) (X.S.ck X.hc) rfl rfl rfl rfl ?_
    refine e_v1i (c_answer X _) lm_X8_107 dX8_wordOf_37 (X.S.l 0 rfl) (X.S.k 0 rfl rfl) rfl rfl rfl rfl ?_
    exact e_iret rfl dX8_wordOf_40 rfl rfl (if_neg c10).symm (by rw [if_neg c10])
  · refine g_aL0 dX8_wordOf_13 ?_
    refine g_iconst dX8_wordOf_14 ?_
    refine e_v1i (c_refuse X _) lm_X8_86 dX8_wordOf_15 (X.S.l 0 rfl) (X.S.k 0 rfl rfl) rfl rfl rfl rfl ?_
    refine g_goto dX8_wordOf_18 ?_
    exact e_iret rfl dX8_wordOf_40 rfl rfl (if_pos c10).symm (by rw [if_pos c10])
theorem m_owner {h : Hp} {t : Nat} {cn : Nat → Nat} (X : CX h t cn) (k : Int32) : gCi 4 0 0 yX8_owner cX8_owner 3 (some .int) [.ref 0, .int k] h (some (.int (if (waF (fun set => iwF (gI h (t + 13)) set (allF (gI h t 1) (gI h t 2)) (cn 9) 0 0) k (2 ^ (cn 9) - 1) 1 0) = 0 then -1 else owF (fun p => cpF (gI h (t + 12)) (gI h (t + 13)) (waF (fun set => iwF (gI h (t + 13)) set (allF (gI h t 1) (gI h t 2)) (cn 9) 0 0) k (2 ^ (cn 9) - 1) 1 0) p (cn 9) 0 0) (cn 8) 0 0 (-1)))) (pI h 0 8 (if (waF (fun set => iwF (gI h (t + 13)) set (allF (gI h t 1) (gI h t 2)) (cn 9) 0 0) k (2 ^ (cn 9) - 1) 1 0) = 0 then 1 else 0)) := by
  refine g_entry (lv := [.ref 0, .int k, .retAddr 0]) 1 pn_X8 rfl rfl rfl ?_
  refine g_aL0 dX8_owner_0 ?_
  refine g_getR lf_X8_19 (X.S.l 0 rfl) (X.S.k 0 rfl rfl) X.T dX8_owner_1 ?_
  refine g_iL1 dX8_owner_4 ?_
  refine e_v1i (c_wholeAt X.S X.hc (X.c 9 rfl) X.b9 _) lm_X8_245 dX8_owner_5 (X.S.cl X.hc 0 rfl) (X.S.ck X.hc) rfl rfl rfl rfl ?_
  refine g_iS2 dX8_owner_8 rfl rfl ?_
  refine g_iL2 dX8_owner_9 ?_
  refine g_ifne dX8_owner_10 (fun c10 => ?_) (fun c10 => ?_)
  · refine g_aL0 dX8_owner_21 ?_
    refine g_aL0 dX8_owner_22 ?_
    refine g_getR lf_X8_19 (X.S.l 0 rfl) (X.S.k 0 rfl rfl) X.T dX8_owner_23 ?_
    refine g_iL2 dX8_owner_26 ?_
    refine e_v1i (c_ownerOfMost X.S X.hc (X.c 9 rfl) X.b9 (X.c 8 rfl) X.b8 _) lm_X8_251 dX8_owner_27 (X.S.cl X.hc 0 rfl) (X.S.ck X.hc) rfl rfl rfl rfl ?_
    refine e_v1i (c_answer X _) lm_X8_107 dX8_owner_30 (X.S.l 0 rfl) (X.S.k 0 rfl rfl) rfl rfl rfl rfl ?_
    exact e_iret rfl dX8_owner_33 rfl rfl (if_neg c10).symm (by rw [if_neg c10])
  · refine g_aL0 dX8_owner_13 ?_
    refine g_iconst dX8_owner_14 ?_
    refine e_v1i (c_refuse X _) lm_X8_86 dX8_owner_15 (X.S.l 0 rfl) (X.S.k 0 rfl rfl) rfl rfl rfl rfl ?_
    refine g_goto dX8_owner_18 ?_
    exact e_iret rfl dX8_owner_33 rfl rfl (if_pos c10).symm (by rw [if_pos c10])
theorem ub_lt {N : Nat} (hN : N ≤ 8) (br : Int32) : ∃ U, ubF (nI N) br = nI U ∧ U < 256 := by
  have key : ∀ m : Nat, m < 256 → ∀ x : Int32, ∃ U, (nI m &&& x) = nI U ∧ U < 256 := by
    intro m hm x
    refine ⟨m &&& x.toBitVec.toNat, ?_, Nat.lt_of_le_of_lt (Nat.and_le_left) hm⟩
    apply Int32.toBitVec_inj.mp
    rw [Int32.toBitVec_and]
    apply BitVec.eq_of_toNat_eq
    rw [BitVec.toNat_and]
    show (BitVec.ofInt 32 (m : Int)).toNat &&& _ = (BitVec.ofInt 32 ((m &&& x.toBitVec.toNat : Nat) : Int)).toNat
    have hl : m &&& x.toBitVec.toNat ≤ m := Nat.and_le_left
    rw [BitVec.ofInt_natCast, BitVec.ofInt_natCast, BitVec.toNat_ofNat, BitVec.toNat_ofNat, Nat.mod_eq_of_lt (by omega), Nat.mod_eq_of_lt (by omega)]
  have e : ((1 : Int32) <<< (nI N &&& 31)) - 1 = nI (2 ^ N - 1) := by
    have : N = 0 ∨ N = 1 ∨ N = 2 ∨ N = 3 ∨ N = 4 ∨ N = 5 ∨ N = 6 ∨ N = 7 ∨ N = 8 := by omega
    rcases this with rfl | rfl | rfl | rfl | rfl | rfl | rfl | rfl | rfl <;> decide
  unfold ubF
  rw [e]
  have hp : 2 ^ N ≤ 256 := Nat.le_trans (Nat.pow_le_pow_right (by decide) hN) (by decide)
  have hp1 : 0 < 2 ^ N := Nat.pow_pos (by decide)
  exact key _ (by omega) _
def slF (nc c10 x : Int32) : Int32 := if nc = 0 then (if c10 = 0 then -1 else x) else -1
theorem m_shelf {h : Hp} {t : Nat} {cn : Nat → Nat} (X : CX h t cn) {U : Nat} (hU : ubF (gI h (t + 1) 1) (gI h 38 3) = nI U) (hU8 : U < 256) : gCi 4 0 0 yX8_shelf cX8_shelf 1 (some .int) [.ref 0] h (some (.int (if ncF (nI (cn 1)) = 0 then (if nI (cn 10) = 0 then -1 else bsF (fun set => loF (liF h t) set (cn 1) 0 0) (nI U) (gI h t 5) U 1 0 0) else -1))) (pI h 0 8 (if ncF (nI (cn 1)) = 0 then (if nI (cn 10) = 0 then 6 else 0) else 1)) := by
  refine g_entry (lv := [.ref 0]) 0 pn_X8 rfl rfl rfl ?_
  refine g_aL0 dX8_shelf_0 ?_
  refine e_v0i (c_noCity X) lm_X8_215 dX8_shelf_1 (X.S.l 0 rfl) (X.S.k 0 rfl rfl) rfl rfl rfl rfl ?_
  refine g_ifeq dX8_shelf_4 (fun c4 => ?_) (fun c4 => ?_)
  · refine g_aL0 dX8_shelf_13 ?_
    refine g_getR lf_X8_19 (X.S.l 0 rfl) (X.S.k 0 rfl rfl) X.T dX8_shelf_14 ?_
    refine g_getR lf_X8_103 (X.S.cl X.hc 0 rfl) (X.S.ck X.hc) (X.S.cr X.hc 0 (j := 1) rfl rfl) dX8_shelf_17 ?_
    refine g_bipush dX8_shelf_20 ?_
    refine g_ialoadK (X.S.cl X.hc 1 rfl) (X.S.cka X.hc 1 rfl rfl) (X.S.cn X.hc 1 (n := 11) rfl rfl rfl) rfl (j := 10) rfl dX8_shelf_22 ?_
    rw [X.c 10 rfl]
    refine g_ifne dX8_shelf_23 (fun c23 => ?_) (fun c23 => ?_)
    · refine g_aL0 dX8_shelf_33 ?_
      refine g_aL0 dX8_shelf_34 ?_
      refine g_getR lf_X8_40 (X.S.l 0 rfl) (X.S.k 0 rfl rfl) (X.S.r 0 2 (b := 38) rfl rfl) dX8_shelf_35 ?_
      refine e_v0i (c_bestForShelf X.S X.hc X.P (X.c 1 rfl) X.b1 hU hU8) lm_X8_257 dX8_shelf_38 (X.S.l 38 rfl) (X.S.k 38 rfl rfl) rfl rfl rfl rfl ?_
      refine e_v1i (c_answer X _) lm_X8_107 dX8_shelf_41 (X.S.l 0 rfl) (X.S.k 0 rfl rfl) rfl rfl rfl rfl ?_
      exact e_iret rfl dX8_shelf_44 rfl rfl ((if_pos c4).trans (if_neg c23)).symm (by congr 1; exact ((if_pos c4).trans (if_neg c23)).symm)
    · refine g_aL0 dX8_shelf_26 ?_
      refine g_bipush dX8_shelf_27 ?_
      refine e_v1i (c_refuse X _) lm_X8_86 dX8_shelf_29 (X.S.l 0 rfl) (X.S.k 0 rfl rfl) rfl rfl rfl rfl ?_
      exact e_iret rfl dX8_shelf_32 rfl rfl ((if_pos c4).trans (if_pos c23)).symm (by congr 1; exact ((if_pos c4).trans (if_pos c23)).symm)
  · refine g_aL0 dX8_shelf_7 ?_
    refine g_iconst dX8_shelf_8 ?_
    refine e_v1i (c_refuse X _) lm_X8_86 dX8_shelf_9 (X.S.l 0 rfl) (X.S.k 0 rfl rfl) rfl rfl rfl rfl ?_
    exact e_iret rfl dX8_shelf_12 rfl rfl (if_neg c4).symm (by congr 1; exact (if_neg c4).symm)
def iRF (h : Hp) (t : Nat) (cn : Nat → Nat) (p : Nat) (c : Int32) : Int32 := irF (fun p => thF (gI h 38 3) (nI p)) (fun p v => whF (seF h t p v) (wrF h t (cn 2) p v)) (cn 1) (cn 3) p c
def rtB (ir : Nat → Nat → Int32) (p : Nat) : Nat → Nat → Int32 → Int32
  | 0, _, m => m
  | n + 1, j, m => if ir p j = 0 then rtB ir p n (j + 1) m else rtB ir p n (j + 1) (m + 1)
def rtA (ir : Nat → Nat → Int32) (V : Nat) : Nat → Nat → Int32 → Int32
  | 0, _, m => m
  | n + 1, i, m => rtA ir V n (i + 1) (rtB ir i (V + 1) 0 m)
def rfB (ir : Nat → Nat → Int32) (p : Nat) : Nat → Nat → Option Int32
  | 0, _ => none
  | n + 1, j => if ir p j = 0 then rfB ir p n (j + 1) else some (10 * nI p + nI j)
def rfA (ir : Nat → Nat → Int32) (V : Nat) : Nat → Nat → Int32
  | 0, _ => -2
  | n + 1, i => match rfB ir i (V + 1) 0 with
    | none => rfA ir V n (i + 1)
    | some x => x
theorem m_rests {h : Hp} {t : Nat} {cn : Nat → Nat} (X : CX h t cn) : gCi 5 0 0 yX8_rests cX8_rests 4 (some .int) [.ref 0] h (some (.int (if ncF (nI (cn 1)) = 0 then rtA (fun p c => iRF h t cn p (nI c)) (cn 3) (cn 1) 0 0 else -1))) (pI h 0 8 (if ncF (nI (cn 1)) = 0 then 0 else 1)) := by
  refine g_entry (lv := [.ref 0, .retAddr 0, .retAddr 0, .retAddr 0]) 3 pn_X8 rfl rfl rfl ?_
  refine g_aL0 dX8_rests_0 ?_
  refine e_v0i (c_noCity X) lm_X8_215 dX8_rests_1 (X.S.l 0 rfl) (X.S.k 0 rfl rfl) rfl rfl rfl rfl ?_
  refine g_ifeq dX8_rests_4 (fun c4 => ?_) (fun c4 => ?_)
  · refine g_iconst dX8_rests_13 ?_
    refine g_iS1 dX8_rests_14 rfl rfl ?_
    refine g_iconst dX8_rests_15 ?_
    refine g_iS2 dX8_rests_16 rfl rfl ?_
    have loop : ∀ (n i : Nat) (m : Int32) (v3 : Value), i + n = cn 1 → rtA (fun p c => iRF h t cn p (nI c)) (cn 3) (cn 1) 0 0 = rtA (fun p c => iRF h t cn p (nI c)) (cn 3) n i m → gY 5 0 0 yX8_rests cX8_rests 4 (some .int) 0 0 (fun v' h' => v' = (some (.int (if ncF (nI (cn 1)) = 0 then rtA (fun p c => iRF h t cn p (nI c)) (cn 3) (cn 1) 0 0 else -1))) ∧ h' = (pI h 0 8 (if ncF (nI (cn 1)) = 0 then 0 else 1))) 17 [.ref 0, .int m, .int (nI i), v3] [] h := by
      intro n
      induction n with
      | zero =>
        intro i m v3 hi he 
        refine g_iL2 dX8_rests_17 ?_
        refine g_aL0 dX8_rests_18 ?_
        refine g_getR lf_X8_19 (X.S.l 0 rfl) (X.S.k 0 rfl rfl) X.T dX8_rests_19 ?_
        refine g_getR lf_X8_103 (X.S.cl X.hc 0 rfl) (X.S.ck X.hc) (X.S.cr X.hc 0 (j := 1) rfl rfl) dX8_rests_22 ?_
        refine g_iconst dX8_rests_25 ?_
        refine g_ialoadK (X.S.cl X.hc 1 rfl) (X.S.cka X.hc 1 rfl rfl) (X.S.cn X.hc 1 (n := 11) rfl rfl rfl) rfl (j := 1) rfl dX8_rests_26 ?_
        rw [X.c 1 rfl]
        refine g_icge dX8_rests_27 (fun c27 => ?_) (fun c27 => absurd (nI_le (by omega) (by have := X.b1; omega)) c27)
        refine g_aL0 dX8_rests_72 ?_
        refine g_iL1 dX8_rests_73 ?_
        refine e_v1i (c_answer X _) lm_X8_107 dX8_rests_74 (X.S.l 0 rfl) (X.S.k 0 rfl rfl) rfl rfl rfl rfl ?_
        exact e_iret rfl dX8_rests_77 rfl rfl (by rw [if_pos c4]; exact he.symm) (by rw [if_pos c4])
      | succ n ih =>
        intro i m v3 hi he 
        refine g_iL2 dX8_rests_17 ?_
        refine g_aL0 dX8_rests_18 ?_
        refine g_getR lf_X8_19 (X.S.l 0 rfl) (X.S.k 0 rfl rfl) X.T dX8_rests_19 ?_
        refine g_getR lf_X8_103 (X.S.cl X.hc 0 rfl) (X.S.ck X.hc) (X.S.cr X.hc 0 (j := 1) rfl rfl) dX8_rests_22 ?_
        refine g_iconst dX8_rests_25 ?_
        refine g_ialoadK (X.S.cl X.hc 1 rfl) (X.S.cka X.hc 1 rfl rfl) (X.S.cn X.hc 1 (n := 11) rfl rfl rfl) rfl (j := 1) rfl dX8_rests_26 ?_
        rw [X.c 1 rfl]
        refine g_icge dX8_rests_27 (fun c27 => absurd c27 (nI_ge (by omega) (by have := X.b1; omega))) (fun c27 => ?_)
        refine g_iconst dX8_rests_30 ?_
        refine g_iS3 dX8_rests_31 rfl rfl ?_
        have loop2 : ∀ (n2 j : Nat) (m2 : Int32), j + n2 = cn 3 + 1 → rtB (fun p c => iRF h t cn p (nI c)) i (cn 3 + 1) 0 m = rtB (fun p c => iRF h t cn p (nI c)) i n2 j m2 → gY 5 0 0 yX8_rests cX8_rests 4 (some .int) 0 0 (fun v' h' => v' = (some (.int (if ncF (nI (cn 1)) = 0 then rtA (fun p c => iRF h t cn p (nI c)) (cn 3) (cn 1) 0 0 else -1))) ∧ h' = (pI h 0 8 (if ncF (nI (cn 1)) = 0 then 0 else 1))) 32 [.ref 0, .int m2, .int (nI i), .int (nI j)] [] h := by
          intro n2
          induction n2 with
          | zero =>
            intro j m2 hi2 he2 
            refine g_iL3 dX8_rests_32 ?_
            refine g_aL0 dX8_rests_33 ?_
            refine g_getR lf_X8_19 (X.S.l 0 rfl) (X.S.k 0 rfl rfl) X.T dX8_rests_34 ?_
            refine g_getR lf_X8_103 (X.S.cl X.hc 0 rfl) (X.S.ck X.hc) (X.S.cr X.hc 0 (j := 1) rfl rfl) dX8_rests_37 ?_
            refine g_iconst dX8_rests_40 ?_
            refine g_ialoadK (X.S.cl X.hc 1 rfl) (X.S.cka X.hc 1 rfl rfl) (X.S.cn X.hc 1 (n := 11) rfl rfl rfl) rfl (j := 3) rfl dX8_rests_41 ?_
            rw [X.c 3 rfl]
            refine g_icgt dX8_rests_42 (fun c42 => ?_) (fun c42 => absurd (nI_lt (by omega) (by have := X.b3; omega)) c42)
            refine g_ii2 dX8_rests_66 rfl rfl ?_
            refine g_goto dX8_rests_69 ?_
            rw [nI_1]
            exact ih (i + 1) _ _ (by omega) (he.trans (congrArg (rtA _ (cn 3) n (i + 1)) he2))
          | succ n2 ih2 =>
            intro j m2 hi2 he2 
            refine g_iL3 dX8_rests_32 ?_
            refine g_aL0 dX8_rests_33 ?_
            refine g_getR lf_X8_19 (X.S.l 0 rfl) (X.S.k 0 rfl rfl) X.T dX8_rests_34 ?_
            refine g_getR lf_X8_103 (X.S.cl X.hc 0 rfl) (X.S.ck X.hc) (X.S.cr X.hc 0 (j := 1) rfl rfl) dX8_rests_37 ?_
            refine g_iconst dX8_rests_40 ?_
            refine g_ialoadK (X.S.cl X.hc 1 rfl) (X.S.cka X.hc 1 rfl rfl) (X.S.cn X.hc 1 (n := 11) rfl rfl rfl) rfl (j := 3) rfl dX8_rests_41 ?_
            rw [X.c 3 rfl]
            refine g_icgt dX8_rests_42 (fun c42 => absurd c42 (nI_nlt (by omega) (by have := X.b3; omega))) (fun c42 => ?_)
            refine g_aL0 dX8_rests_45 ?_
            refine g_getR lf_X8_40 (X.S.l 0 rfl) (X.S.k 0 rfl rfl) (X.S.r 0 2 (b := 38) rfl rfl) dX8_rests_46 ?_
            refine g_iL2 dX8_rests_49 ?_
            refine g_iL3 dX8_rests_50 ?_
            refine e_v2i (c_isRest X.S X.hc X.P (X.c 2 rfl) X.b2 (X.c 1 rfl) X.b1 (X.c 3 rfl) X.b3 (show i < 8 from by have := X.b1; omega) _) lm_X8_263 dX8_rests_51 (X.S.l 38 rfl) (X.S.k 38 rfl rfl) rfl rfl rfl rfl ?_
            refine g_ifeq dX8_rests_54 (fun c54 => ?_) (fun c54 => ?_)
            · refine g_ii3 dX8_rests_60 rfl rfl ?_
              refine g_goto dX8_rests_63 ?_
              rw [nI_1]
              exact ih2 (j + 1) _ (by omega) (he2.trans (if_pos c54)) 
            · refine g_ii1 dX8_rests_57 rfl rfl ?_
              refine g_ii3 dX8_rests_60 rfl rfl ?_
              refine g_goto dX8_rests_63 ?_
              rw [nI_1]
              exact ih2 (j + 1) _ (by omega) (he2.trans (if_neg c54)) 
        exact loop2 (cn 3 + 1) 0 _ (by omega) rfl
    exact loop (cn 1) 0 _ _ (by omega) rfl
  · refine g_aL0 dX8_rests_7 ?_
    refine g_iconst dX8_rests_8 ?_
    refine e_v1i (c_refuse X _) lm_X8_86 dX8_rests_9 (X.S.l 0 rfl) (X.S.k 0 rfl rfl) rfl rfl rfl rfl ?_
    exact e_iret rfl dX8_rests_12 rfl rfl (if_neg c4).symm (by rw [if_neg c4])
theorem m_rest {h : Hp} {t : Nat} {cn : Nat → Nat} (X : CX h t cn) : gCi 5 0 0 yX8_rest cX8_rest 3 (some .int) [.ref 0] h (some (.int (if ncF (nI (cn 1)) = 0 then rfA (fun p c => iRF h t cn p (nI c)) (cn 3) (cn 1) 0 else -1))) (pI h 0 8 (if ncF (nI (cn 1)) = 0 then 0 else 1)) := by
  refine g_entry (lv := [.ref 0, .retAddr 0, .retAddr 0]) 2 pn_X8 rfl rfl rfl ?_
  refine g_aL0 dX8_rest_0 ?_
  refine e_v0i (c_noCity X) lm_X8_215 dX8_rest_1 (X.S.l 0 rfl) (X.S.k 0 rfl rfl) rfl rfl rfl rfl ?_
  refine g_ifeq dX8_rest_4 (fun c4 => ?_) (fun c4 => ?_)
  · refine g_iconst dX8_rest_13 ?_
    refine g_iS1 dX8_rest_14 rfl rfl ?_
    have loop : ∀ (n i : Nat) (v3 : Value), i + n = cn 1 → rfA (fun p c => iRF h t cn p (nI c)) (cn 3) (cn 1) 0 = rfA (fun p c => iRF h t cn p (nI c)) (cn 3) n i → gY 5 0 0 yX8_rest cX8_rest 3 (some .int) 0 0 (fun v' h' => v' = (some (.int (if ncF (nI (cn 1)) = 0 then rfA (fun p c => iRF h t cn p (nI c)) (cn 3) (cn 1) 0 else -1))) ∧ h' = (pI h 0 8 (if ncF (nI (cn 1)) = 0 then 0 else 1))) 15 [.ref 0, .int (nI i), v3] [] h := by
      intro n
      induction n with
      | zero =>
        intro i v3 hi he 
        refine g_iL1 dX8_rest_15 ?_
        refine g_aL0 dX8_rest_16 ?_
        refine g_getR lf_X8_19 (X.S.l 0 rfl) (X.S.k 0 rfl rfl) X.T dX8_rest_17 ?_
        refine g_getR lf_X8_103 (X.S.cl X.hc 0 rfl) (X.S.ck X.hc) (X.S.cr X.hc 0 (j := 1) rfl rfl) dX8_rest_20 ?_
        refine g_iconst dX8_rest_23 ?_
        refine g_ialoadK (X.S.cl X.hc 1 rfl) (X.S.cka X.hc 1 rfl rfl) (X.S.cn X.hc 1 (n := 11) rfl rfl rfl) rfl (j := 1) rfl dX8_rest_24 ?_
        rw [X.c 1 rfl]
        refine g_icge dX8_rest_25 (fun c25 => ?_) (fun c25 => absurd (nI_le (by omega) (by have := X.b1; omega)) c25)
        refine g_aL0 dX8_rest_78 ?_
        refine g_bipush dX8_rest_79 ?_
        refine e_v1i (c_answer X _) lm_X8_107 dX8_rest_81 (X.S.l 0 rfl) (X.S.k 0 rfl rfl) rfl rfl rfl rfl ?_
        exact e_iret rfl dX8_rest_84 rfl rfl (by rw [if_pos c4]; exact he.symm) (by rw [if_pos c4])
      | succ n ih =>
        intro i v3 hi he 
        refine g_iL1 dX8_rest_15 ?_
        refine g_aL0 dX8_rest_16 ?_
        refine g_getR lf_X8_19 (X.S.l 0 rfl) (X.S.k 0 rfl rfl) X.T dX8_rest_17 ?_
        refine g_getR lf_X8_103 (X.S.cl X.hc 0 rfl) (X.S.ck X.hc) (X.S.cr X.hc 0 (j := 1) rfl rfl) dX8_rest_20 ?_
        refine g_iconst dX8_rest_23 ?_
        refine g_ialoadK (X.S.cl X.hc 1 rfl) (X.S.cka X.hc 1 rfl rfl) (X.S.cn X.hc 1 (n := 11) rfl rfl rfl) rfl (j := 1) rfl dX8_rest_24 ?_
        rw [X.c 1 rfl]
        refine g_icge dX8_rest_25 (fun c25 => absurd c25 (nI_ge (by omega) (by have := X.b1; omega))) (fun c25 => ?_)
        refine g_iconst dX8_rest_28 ?_
        refine g_iS2 dX8_rest_29 rfl rfl ?_
        have loop2 : ∀ (n2 j : Nat) , j + n2 = cn 3 + 1 → rfB (fun p c => iRF h t cn p (nI c)) i (cn 3 + 1) 0 = rfB (fun p c => iRF h t cn p (nI c)) i n2 j → gY 5 0 0 yX8_rest cX8_rest 3 (some .int) 0 0 (fun v' h' => v' = (some (.int (if ncF (nI (cn 1)) = 0 then rfA (fun p c => iRF h t cn p (nI c)) (cn 3) (cn 1) 0 else -1))) ∧ h' = (pI h 0 8 (if ncF (nI (cn 1)) = 0 then 0 else 1))) 30 [.ref 0, .int (nI i), .int (nI j)] [] h := by
          intro n2
          induction n2 with
          | zero =>
            intro j  hi2 he2 
            refine g_iL2 dX8_rest_30 ?_
            refine g_aL0 dX8_rest_31 ?_
            refine g_getR lf_X8_19 (X.S.l 0 rfl) (X.S.k 0 rfl rfl) X.T dX8_rest_32 ?_
            refine g_getR lf_X8_103 (X.S.cl X.hc 0 rfl) (X.S.ck X.hc) (X.S.cr X.hc 0 (j := 1) rfl rfl) dX8_rest_35 ?_
            refine g_iconst dX8_rest_38 ?_
            refine g_ialoadK (X.S.cl X.hc 1 rfl) (X.S.cka X.hc 1 rfl rfl) (X.S.cn X.hc 1 (n := 11) rfl rfl rfl) rfl (j := 3) rfl dX8_rest_39 ?_
            rw [X.c 3 rfl]
            refine g_icgt dX8_rest_40 (fun c40 => ?_) (fun c40 => absurd (nI_lt (by omega) (by have := X.b3; omega)) c40)
            refine g_ii1 dX8_rest_72 rfl rfl ?_
            refine g_goto dX8_rest_75 ?_
            rw [nI_1]
            exact ih (i + 1) _ (by omega) (he.trans (by rw [rfA, show rfB _ i (cn 3 + 1) 0 = _ from he2]; rfl))
          | succ n2 ih2 =>
            intro j  hi2 he2 
            refine g_iL2 dX8_rest_30 ?_
            refine g_aL0 dX8_rest_31 ?_
            refine g_getR lf_X8_19 (X.S.l 0 rfl) (X.S.k 0 rfl rfl) X.T dX8_rest_32 ?_
            refine g_getR lf_X8_103 (X.S.cl X.hc 0 rfl) (X.S.ck X.hc) (X.S.cr X.hc 0 (j := 1) rfl rfl) dX8_rest_35 ?_
            refine g_iconst dX8_rest_38 ?_
            refine g_ialoadK (X.S.cl X.hc 1 rfl) (X.S.cka X.hc 1 rfl rfl) (X.S.cn X.hc 1 (n := 11) rfl rfl rfl) rfl (j := 3) rfl dX8_rest_39 ?_
            rw [X.c 3 rfl]
            refine g_icgt dX8_rest_40 (fun c40 => absurd c40 (nI_nlt (by omega) (by have := X.b3; omega))) (fun c40 => ?_)
            refine g_aL0 dX8_rest_43 ?_
            refine g_getR lf_X8_40 (X.S.l 0 rfl) (X.S.k 0 rfl rfl) (X.S.r 0 2 (b := 38) rfl rfl) dX8_rest_44 ?_
            refine g_iL1 dX8_rest_47 ?_
            refine g_iL2 dX8_rest_48 ?_
            refine e_v2i (c_isRest X.S X.hc X.P (X.c 2 rfl) X.b2 (X.c 1 rfl) X.b1 (X.c 3 rfl) X.b3 (show i < 8 from by have := X.b1; omega) _) lm_X8_263 dX8_rest_49 (X.S.l 38 rfl) (X.S.k 38 rfl rfl) rfl rfl rfl rfl ?_
            refine g_ifeq dX8_rest_52 (fun c52 => ?_) (fun c52 => ?_)
            · refine g_ii2 dX8_rest_66 rfl rfl ?_
              refine g_goto dX8_rest_69 ?_
              rw [nI_1]
              exact ih2 (j + 1)  (by omega) (he2.trans (if_pos c52)) 
            · refine g_aL0 dX8_rest_55 ?_
              refine g_bipush dX8_rest_56 ?_
              refine g_iL1 dX8_rest_58 ?_
              refine g_imul dX8_rest_59 ?_
              refine g_iL2 dX8_rest_60 ?_
              refine g_iadd dX8_rest_61 ?_
              refine e_v1i (c_answer X _) lm_X8_107 dX8_rest_62 (X.S.l 0 rfl) (X.S.k 0 rfl rfl) rfl rfl rfl rfl ?_
              exact e_iret rfl dX8_rest_65 rfl rfl (by rw [if_pos c4, he, rfA, show rfB _ i (cn 3 + 1) 0 = _ from he2.trans (if_neg c52)]) (by rw [if_pos c4])
        exact loop2 (cn 3 + 1) 0 (by omega) rfl
    exact loop (cn 1) 0 _ (by omega) rfl
  · refine g_aL0 dX8_rest_7 ?_
    refine g_iconst dX8_rest_8 ?_
    refine e_v1i (c_refuse X _) lm_X8_86 dX8_rest_9 (X.S.l 0 rfl) (X.S.k 0 rfl rfl) rfl rfl rfl rfl ?_
    exact e_iret rfl dX8_rest_12 rfl rfl (if_neg c4).symm (by rw [if_neg c4])

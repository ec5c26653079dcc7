/-! THE REFERENCE: made panes; scratch, cover, breaks -/
def mkMF (f fd s sd th : Int32) : Int32 := if f &&& fd = 0 then (if s &&& sd = 0 then (if (f ||| s) &&& (th ^^^ (-1)) = 0 then (if ((th &&& ((f ||| s) ^^^ (-1))) &&& (((th &&& ((f ||| s) ^^^ (-1))) &&& sd) ^^^ (-1))) &&& (fd ^^^ (-1)) = 0 then 1 else 0) else 0) else 0) else 0
def mkMH (h : Hp) (f fd s sd th : Int32) : Hp := if f &&& fd = 0 then (if s &&& sd = 0 then (if (f ||| s) &&& (th ^^^ (-1)) = 0 then (if ((th &&& ((f ||| s) ^^^ (-1))) &&& (((th &&& ((f ||| s) ^^^ (-1))) &&& sd) ^^^ (-1))) &&& (fd ^^^ (-1)) = 0 then mk2 h (f ||| ((th &&& ((f ||| s) ^^^ (-1))) &&& (((th &&& ((f ||| s) ^^^ (-1))) &&& sd) ^^^ (-1)))) (s ||| ((th &&& ((f ||| s) ^^^ (-1))) &&& sd)) else mk2 h f (s ||| ((th &&& ((f ||| s) ^^^ (-1))) &&& sd))) else mk2 h f s) else mk2 h f s) else mk2 h f s
theorem d_makes {h : Hp} {c0 : Nat} {cn : Nat → Nat} (X : MX h c0 cn) {A C E : Nat} (hA : A < 8) (hC : C < 8) (hE : E < 8) {b d : Int32} (hb : ¬ siF b (nI (cn 3)) = 0) (hd : ¬ siF d (nI (cn 3)) = 0) : gCi 1 0 0 yX10_makes cX10_makes 9 (some .boolean) [.ref 50, .int (nI A), .int b, .int (nI C), .int d, .int (nI E)] h (some (.int (mkMF (gI h (c0 + 3) A) (dkF (gI h (c0 + 4)) b) (gI h (c0 + 3) C) (dkF (gI h (c0 + 4)) d) (gI h (c0 + 3) E)))) (mkMH h (gI h (c0 + 3) A) (dkF (gI h (c0 + 4)) b) (gI h (c0 + 3) C) (dkF (gI h (c0 + 4)) d) (gI h (c0 + 3) E)) := by
  refine g_entry (lv := [.ref 50, .int (nI A), .int b, .int (nI C), .int d, .int (nI E), .retAddr 0, .retAddr 0, .retAddr 0]) 3 pn_X10 rfl rfl rfl ?_
  have hm := X.M.1
  refine g_aL0 dX10_makes_0 ?_
  refine g_aL0 dX10_makes_1 ?_
  refine g_getR lf_X10_359 (X.S.l 50 rfl) (X.S.k 50 rfl rfl) X.C dX10_makes_2 ?_
  refine g_getRn lf_X10_292 (X.M.l 0 rfl) (X.M.k 0 rfl rfl) (X.M.r 17 (j := 3) rfl) dX10_makes_5 ?_
  refine g_iL1 dX10_makes_8 ?_
  refine g_ialoadN (X.M.l 3 rfl) (X.M.k 3 rfl rfl) (X.M.n 3 (n := 8) rfl rfl) hA (by decide) dX10_makes_9 ?_
  refine g_pI0 lf_X10_458 (X.S.l 50 rfl) (X.S.k 50 rfl rfl) dX10_makes_10 ?_
  refine g_aL0 dX10_makes_13 ?_
  refine g_aL0 dX10_makes_14 ?_
  refine g_getR lf_X10_359 (X.S.l 50 rfl) (X.S.k 50 rfl rfl) X.C dX10_makes_15 ?_
  refine g_getRn lf_X10_292 (X.M.l 0 rfl) (X.M.k 0 rfl rfl) (X.M.r 17 (j := 3) rfl) dX10_makes_18 ?_
  refine g_iL3 dX10_makes_21 ?_
  refine g_ialoadN (X.M.l 3 rfl) (X.M.k 3 rfl rfl) (X.M.n 3 (n := 8) rfl rfl) hC (by decide) dX10_makes_22 ?_
  rw [gIq (by omega)]
  refine g_pI0 lf_X10_461 (X.S.l 50 rfl) (X.S.k 50 rfl rfl) dX10_makes_23 ?_
  show gY _ _ _ _ _ _ _ _ _ _ _ _ _ (mk2 h (gI h (c0 + 3) A) (gI h (c0 + 3) C))
  have X2 := mk2_X X (gI h (c0 + 3) A) (gI h (c0 + 3) C)
  have e4 : ∀ x y, gI (mk2 h x y) (c0 + 4) = gI h (c0 + 4) := fun x y => funext fun j => mk2_n _ _ _ (by omega)
  have e3 : ∀ x y, gI (mk2 h x y) (c0 + 3) = gI h (c0 + 3) := fun x y => funext fun j => mk2_n _ _ _ (by omega)
  refine g_aL0 dX10_makes_26 ?_
  refine g_getR lf_X10_359 (X2.S.l 50 rfl) (X2.S.k 50 rfl rfl) X2.C dX10_makes_27 ?_
  refine g_getRn lf_X10_292 (X2.M.l 0 rfl) (X2.M.k 0 rfl rfl) (X2.M.r 17 (j := 3) rfl) dX10_makes_30 ?_
  refine g_iL5 dX10_makes_33 ?_
  refine g_ialoadN (X2.M.l 3 rfl) (X2.M.k 3 rfl rfl) (X2.M.n 3 (n := 8) rfl rfl) hE (by decide) dX10_makes_35 ?_
  rw [e3]
  refine g_iS6 dX10_makes_36 rfl rfl ?_
  refine g_aL0 dX10_makes_38 ?_
  refine g_gI lf_X10_458 (X2.S.l 50 rfl) (X2.S.k 50 rfl rfl) dX10_makes_39 ?_
  rw [mk2_I30]
  refine g_aL0 dX10_makes_42 ?_
  refine g_iL2 dX10_makes_43 ?_
  refine e_v1i (d_darkOf X2 hb) lm_X10_374 dX10_makes_44 (X2.S.l 50 rfl) (X2.S.k 50 rfl rfl) rfl rfl rfl rfl ?_
  rw [e4]
  refine g_iand dX10_makes_47 ?_
  refine g_ifne dX10_makes_48 (fun c48 => ?_) (fun c48 => ?_)
  · refine g_iconst dX10_makes_82 ?_
    exact e_zret rfl (by decide) dX10_makes_83 rfl rfl (if_neg c48).symm (if_neg c48).symm
  · refine g_aL0 dX10_makes_51 ?_
    refine g_gI lf_X10_461 (X2.S.l 50 rfl) (X2.S.k 50 rfl rfl) dX10_makes_52 ?_
    rw [mk2_I31]
    refine g_aL0 dX10_makes_55 ?_
    refine g_iL4 dX10_makes_56 ?_
    refine e_v1i (d_darkOf X2 hd) lm_X10_374 dX10_makes_58 (X2.S.l 50 rfl) (X2.S.k 50 rfl rfl) rfl rfl rfl rfl ?_
    rw [e4]
    refine g_iand dX10_makes_61 ?_
    refine g_ifne dX10_makes_62 (fun c62 => ?_) (fun c62 => ?_)
    · refine g_iconst dX10_makes_82 ?_
      exact e_zret rfl (by decide) dX10_makes_83 rfl rfl ((if_pos c48).trans (if_neg c62)).symm ((if_pos c48).trans (if_neg c62)).symm
    · refine g_aL0 dX10_makes_65 ?_
      refine g_gI lf_X10_458 (X2.S.l 50 rfl) (X2.S.k 50 rfl rfl) dX10_makes_66 ?_
      rw [mk2_I30]
      refine g_aL0 dX10_makes_69 ?_
      refine g_gI lf_X10_461 (X2.S.l 50 rfl) (X2.S.k 50 rfl rfl) dX10_makes_70 ?_
      rw [mk2_I31]
      refine g_ior dX10_makes_73 ?_
      refine g_iL6 dX10_makes_74 ?_
      refine g_iconst dX10_makes_76 ?_
      refine g_ixor dX10_makes_77 ?_
      refine g_iand dX10_makes_78 ?_
      refine g_ifeq dX10_makes_79 (fun c79 => ?_) (fun c79 => ?_)
      · refine g_iL6 dX10_makes_84 ?_
        refine g_aL0 dX10_makes_86 ?_
        refine g_gI lf_X10_458 (X2.S.l 50 rfl) (X2.S.k 50 rfl rfl) dX10_makes_87 ?_
        rw [mk2_I30]
        refine g_aL0 dX10_makes_90 ?_
        refine g_gI lf_X10_461 (X2.S.l 50 rfl) (X2.S.k 50 rfl rfl) dX10_makes_91 ?_
        rw [mk2_I31]
        refine g_ior dX10_makes_94 ?_
        refine g_iconst dX10_makes_95 ?_
        refine g_ixor dX10_makes_96 ?_
        refine g_iand dX10_makes_97 ?_
        refine g_iS7 dX10_makes_98 rfl rfl ?_
        refine g_iL7 dX10_makes_100 ?_
        refine g_aL0 dX10_makes_102 ?_
        refine g_iL4 dX10_makes_103 ?_
        refine e_v1i (d_darkOf X2 hd) lm_X10_374 dX10_makes_105 (X2.S.l 50 rfl) (X2.S.k 50 rfl rfl) rfl rfl rfl rfl ?_
        rw [e4]
        refine g_iand dX10_makes_108 ?_
        refine g_iS8 dX10_makes_109 rfl rfl ?_
        refine g_aL0 dX10_makes_111 ?_
        refine g_dup dX10_makes_112 rfl ?_
        refine g_gI lf_X10_461 (X2.S.l 50 rfl) (X2.S.k 50 rfl rfl) dX10_makes_113 ?_
        rw [mk2_I31]
        refine g_iL8 dX10_makes_116 ?_
        refine g_ior dX10_makes_118 ?_
        refine g_pI0 lf_X10_461 (X2.S.l 50 rfl) (X2.S.k 50 rfl rfl) dX10_makes_119 ?_
        rw [mk2_31]
        have X3 := mk2_X X (gI h (c0 + 3) A) ((gI h (c0 + 3) C) ||| (((gI h (c0 + 3) E) &&& (((gI h (c0 + 3) A) ||| (gI h (c0 + 3) C)) ^^^ (-1))) &&& (dkF (gI h (c0 + 4)) d)))
        refine g_iL7 dX10_makes_122 ?_
        refine g_iL8 dX10_makes_124 ?_
        refine g_iconst dX10_makes_126 ?_
        refine g_ixor dX10_makes_127 ?_
        refine g_iand dX10_makes_128 ?_
        refine g_iS7 dX10_makes_129 rfl rfl ?_
        refine g_iL7 dX10_makes_131 ?_
        refine g_aL0 dX10_makes_133 ?_
        refine g_iL2 dX10_makes_134 ?_
        refine e_v1i (d_darkOf X3 hb) lm_X10_374 dX10_makes_135 (X3.S.l 50 rfl) (X3.S.k 50 rfl rfl) rfl rfl rfl rfl ?_
        rw [e4]
        refine g_iconst dX10_makes_138 ?_
        refine g_ixor dX10_makes_139 ?_
        refine g_iand dX10_makes_140 ?_
        refine g_ifeq dX10_makes_141 (fun c141 => ?_) (fun c141 => ?_)
        · refine g_aL0 dX10_makes_146 ?_
          refine g_dup dX10_makes_147 rfl ?_
          refine g_gI lf_X10_458 (X3.S.l 50 rfl) (X3.S.k 50 rfl rfl) dX10_makes_148 ?_
          rw [mk2_I30]
          refine g_iL7 dX10_makes_151 ?_
          refine g_ior dX10_makes_153 ?_
          refine g_pI0 lf_X10_458 (X3.S.l 50 rfl) (X3.S.k 50 rfl rfl) dX10_makes_154 ?_
          rw [mk2_30]
          refine g_iconst dX10_makes_157 ?_
          exact e_zret rfl (by decide) dX10_makes_158 rfl rfl ((if_pos c48).trans ((if_pos c62).trans ((if_pos c79).trans (if_pos c141)))).symm ((if_pos c48).trans ((if_pos c62).trans ((if_pos c79).trans (if_pos c141)))).symm
        · refine g_iconst dX10_makes_144 ?_
          exact e_zret rfl (by decide) dX10_makes_145 rfl rfl ((if_pos c48).trans ((if_pos c62).trans ((if_pos c79).trans (if_neg c141)))).symm ((if_pos c48).trans ((if_pos c62).trans ((if_pos c79).trans (if_neg c141)))).symm
      · refine g_iconst dX10_makes_82 ?_
        exact e_zret rfl (by decide) dX10_makes_83 rfl rfl ((if_pos c48).trans ((if_pos c62).trans (if_neg c79))).symm ((if_pos c48).trans ((if_pos c62).trans (if_neg c79))).symm

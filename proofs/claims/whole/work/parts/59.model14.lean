/-! THE REFERENCE: days of hail -/
theorem pI_2 (h : Hp) (a k : Nat) (v x : Int32) : pI (pI h a k v) a k x = pI h a k x := pI_cong (by
  funext b j
  simp only [pI, u2]
  split <;> rfl)
theorem lN_2I {n : Nat} (h : n < 2147483648) : (lN n).toInt32 = nI n := by
  exact lN_i n
theorem dl_s {s : Nat} (hs : s ≤ 65536) : ((75 * (nI s).toInt64 + 74) - (75 * (nI s).toInt64 + 74) / 65537 * 65537).toInt32 = nI (drN s) := by
  rw [nI_l (by omega), show (75 : Int64) = lN 75 from rfl, show (74 : Int64) = lN 74 from rfl, show (65537 : Int64) = lN 65537 from rfl, lN_mul, lN_add, pk_lRem (by omega) (by decide) (by decide), lN_2I (by have := drN_lt s; unfold drN at this; omega)]
  rfl
theorem pa_s (hl ic : Int32) (kd : Nat → Int32) (N n i s : Nat) (r m : Int32) : paF hl ic kd N (n + 1) i s r m = if hl ≤ nI (drN s % 100) then paF hl ic kd N n (i + 1) (drN s) (if nI i = ic then meF kd N 0 r else r) m else paF hl ic kd N n (i + 1) (drN (drN s)) (if nI i = ic then meF kd N 0 (stF kd N (drN (drN s)) r) else stF kd N (drN (drN s)) r) (m + 1) := by
  rw [paF]
  split <;> split <;> rfl
theorem g_dayM {h : Hp} {c : Nat} {cn : Nat → Nat} (X : MX h c cn) {Q : Option Value → Hp → Prop} (a1 a2 a3 r0 D : Int32) (v6 : Value) (k : ∀ v6, gY 0 0 0 yX10_daysOf cX10_daysOf 7 (some .int) 0 0 Q 192 [.ref 50, .int a1, .int a2, .int a3, .int (if D = (gI h c 3) then meF (gI h (c + 1)) (cn 1) 0 r0 else r0), .int D, v6] [] h) : gY 0 0 0 yX10_daysOf cX10_daysOf 7 (some .int) 0 0 Q 134 [.ref 50, .int a1, .int a2, .int a3, .int r0, .int D, v6] [] h := by
  by_cases z : D = (gI h c 3)
  · rw [if_pos z] at k
    have loop : ∀ (n i : Nat) (r : Int32), i + n = cn 1 → meF (gI h (c + 1)) (cn 1) 0 r0 = meF (gI h (c + 1)) n i r → gY 0 0 0 yX10_daysOf cX10_daysOf 7 (some .int) 0 0 Q 137 [.ref 50, .int a1, .int a2, .int a3, .int r, .int D, .int (nI i)] [] h := by
      intro n
      induction n with
      | zero =>
        intro i r hi he 
        refine g_iL6 dX10_daysOf_137 ?_
        refine g_aL0 dX10_daysOf_139 ?_
        refine g_getR lf_X10_359 (X.S.l 50 rfl) (X.S.k 50 rfl rfl) X.C dX10_daysOf_140 ?_
        refine g_gI lf_X10_215 (X.M.l 0 rfl) (X.M.k 0 rfl rfl) dX10_daysOf_143 ?_
        rw [X.c1]
        refine g_icge dX10_daysOf_146 (fun c146 => ?_) (fun c146 => absurd (nI_le (by omega) (by have := X.b1; omega)) c146)
        have k1 := k (.int (nI i))
        rw [he] at k1
        exact k1
      | succ n ih =>
        intro i r hi he 
        refine g_iL6 dX10_daysOf_137 ?_
        refine g_aL0 dX10_daysOf_139 ?_
        refine g_getR lf_X10_359 (X.S.l 50 rfl) (X.S.k 50 rfl rfl) X.C dX10_daysOf_140 ?_
        refine g_gI lf_X10_215 (X.M.l 0 rfl) (X.M.k 0 rfl rfl) dX10_daysOf_143 ?_
        rw [X.c1]
        refine g_icge dX10_daysOf_146 (fun c146 => absurd c146 (nI_ge (by omega) (by have := X.b1; omega))) (fun c146 => ?_)
        refine g_iL5 dX10_daysOf_149 ?_
        refine g_aL0 dX10_daysOf_151 ?_
        refine g_getR lf_X10_359 (X.S.l 50 rfl) (X.S.k 50 rfl rfl) X.C dX10_daysOf_152 ?_
        refine g_gI lf_X10_263 (X.M.l 0 rfl) (X.M.k 0 rfl rfl) dX10_daysOf_155 ?_
        refine g_icne dX10_daysOf_158 (fun c158 => absurd z c158) (fun c158 => ?_)
        refine g_aL0 dX10_daysOf_161 ?_
        refine g_getR lf_X10_359 (X.S.l 50 rfl) (X.S.k 50 rfl rfl) X.C dX10_daysOf_162 ?_
        refine g_getRn lf_X10_283 (X.M.l 0 rfl) (X.M.k 0 rfl rfl) (X.M.r 15 (j := 1) rfl) dX10_daysOf_165 ?_
        refine g_iL6 dX10_daysOf_168 ?_
        refine g_ialoadN (X.M.l 1 rfl) (X.M.k 1 rfl rfl) (X.M.n 1 (n := 8) rfl rfl) (show i < 8 from by have := X.b1; omega) (by decide) dX10_daysOf_170 ?_
        refine g_iconst dX10_daysOf_171 ?_
        refine g_icne dX10_daysOf_172 (fun c172 => ?_) (fun c172 => ?_)
        · refine g_ii6 dX10_daysOf_186 rfl rfl ?_
          refine g_goto dX10_daysOf_189 ?_
          rw [nI_1]
          exact ih (i + 1) _ (by omega) (he.trans (if_neg c172)) 
        · refine g_iL4 dX10_daysOf_175 ?_
          refine g_iconst dX10_daysOf_177 ?_
          refine g_iL6 dX10_daysOf_178 ?_
          refine g_ishl dX10_daysOf_180 ?_
          refine g_iconst dX10_daysOf_181 ?_
          refine g_ixor dX10_daysOf_182 ?_
          refine g_iand dX10_daysOf_183 ?_
          refine g_iS4 dX10_daysOf_184 rfl rfl ?_
          refine g_ii6 dX10_daysOf_186 rfl rfl ?_
          refine g_goto dX10_daysOf_189 ?_
          rw [nI_1]
          exact ih (i + 1) _ (by omega) (he.trans (if_pos c172)) 
    refine g_iconst dX10_daysOf_134 ?_
    refine g_iS6 dX10_daysOf_135 rfl rfl ?_
    exact loop (cn 1) 0 _ (by omega) rfl
  · rw [if_neg z] at k
    refine g_iconst dX10_daysOf_134 ?_
    refine g_iS6 dX10_daysOf_135 rfl rfl ?_
    refine g_iL6 dX10_daysOf_137 ?_
    refine g_aL0 dX10_daysOf_139 ?_
    refine g_getR lf_X10_359 (X.S.l 50 rfl) (X.S.k 50 rfl rfl) X.C dX10_daysOf_140 ?_
    refine g_gI lf_X10_215 (X.M.l 0 rfl) (X.M.k 0 rfl rfl) dX10_daysOf_143 ?_
    refine g_icge dX10_daysOf_146 (fun c146 => ?_) (fun c146 => ?_)
    · exact k _
    · refine g_iL5 dX10_daysOf_149 ?_
      refine g_aL0 dX10_daysOf_151 ?_
      refine g_getR lf_X10_359 (X.S.l 50 rfl) (X.S.k 50 rfl rfl) X.C dX10_daysOf_152 ?_
      refine g_gI lf_X10_263 (X.M.l 0 rfl) (X.M.k 0 rfl rfl) dX10_daysOf_155 ?_
      refine g_icne dX10_daysOf_158 (fun c158 => ?_) (fun c158 => absurd c158 z)
      exact k _
theorem d_daysOf {h : Hp} {c : Nat} {cn : Nat → Nat} (X : MX h c cn) (hN0 : 0 < cn 1) {s0 : Nat} (hs0 : s0 ≤ 65536) {D : Nat} (hD : D ≤ 99) : gCi 0 0 0 yX10_daysOf cX10_daysOf 7 (some .int) [.ref 50, .int (nI s0), .int (nI D)] h (some (.int (paF (gI h c 2) (gI h c 3) (gI h (c + 1)) (cn 1) D 1 s0 (ubF (nI (cn 1)) (gI h 52 16)) 0).2.1)) (pI h 50 34 (paF (gI h c 2) (gI h c 3) (gI h (c + 1)) (cn 1) D 1 s0 (ubF (nI (cn 1)) (gI h 52 16)) 0).2.2) := by
  have hc6 := X.M.1
  have hb1 := X.b1
  refine g_entry (lv := [.ref 50, .int (nI s0), .int (nI D), .retAddr 0, .retAddr 0, .retAddr 0, .retAddr 0]) 4 pn_X10 rfl rfl rfl ?_
  have loop : ∀ (n i : Nat) (s : Nat) (r : Int32) (m : Int32) (v6 : Value), i + n = D + 1 → paF (gI h c 2) (gI h c 3) (gI h (c + 1)) (cn 1) D 1 s0 (ubF (nI (cn 1)) (gI h 52 16)) 0 = paF (gI h c 2) (gI h c 3) (gI h (c + 1)) (cn 1) n i s r m → s ≤ 65536 → gY 0 0 0 yX10_daysOf cX10_daysOf 7 (some .int) 0 0 (fun v' h' => v' = (some (.int (paF (gI h c 2) (gI h c 3) (gI h (c + 1)) (cn 1) D 1 s0 (ubF (nI (cn 1)) (gI h 52 16)) 0).2.1)) ∧ h' = (pI h 50 34 (paF (gI h c 2) (gI h c 3) (gI h (c + 1)) (cn 1) D 1 s0 (ubF (nI (cn 1)) (gI h 52 16)) 0).2.2)) 33 [.ref 50, .int (nI s0), .int (nI D), .int (nI s), .int r, .int (nI i), v6] [] (pI h 50 34 m) := by
    intro n
    induction n with
    | zero =>
      intro i s r m v6 hi he hs
      have Y := X.I (a := 50) (k := 34) m (by decide)
      refine g_iL5 dX10_daysOf_33 ?_
      refine g_iL2 dX10_daysOf_35 ?_
      refine g_icgt dX10_daysOf_36 (fun c36 => ?_) (fun c36 => absurd (nI_lt (by omega) (by omega)) c36)
      refine g_iL4 dX10_daysOf_198 ?_
      exact e_iret rfl dX10_daysOf_200 rfl rfl (by rw [he]; rfl) (by rw [he]; rfl)
    | succ n ih =>
      intro i s r m v6 hi he hs
      have Y := X.I (a := 50) (k := 34) m (by decide)
      refine g_iL5 dX10_daysOf_33 ?_
      refine g_iL2 dX10_daysOf_35 ?_
      refine g_icgt dX10_daysOf_36 (fun c36 => absurd c36 (nI_nlt (by omega) (by omega))) (fun c36 => ?_)
      refine g_ldc2 dX10_daysOf_39 lc_X10_513 ?_
      refine g_iL3 dX10_daysOf_42 ?_
      refine g_i2l dX10_daysOf_43 ?_
      refine g_lmul dX10_daysOf_44 ?_
      refine g_ldc2 dX10_daysOf_45 lc_X10_515 ?_
      refine g_ladd dX10_daysOf_48 ?_
      refine g_ldc2 dX10_daysOf_49 lc_X10_517 ?_
      refine g_lrem dX10_daysOf_52 (by decide) ?_
      refine g_l2i dX10_daysOf_53 ?_
      rw [dl_s hs]
      have hd1 := drN_lt s
      refine g_iS3 dX10_daysOf_54 rfl rfl ?_
      refine g_iL3 dX10_daysOf_55 ?_
      refine g_bipush dX10_daysOf_56 ?_
      rw [show (100 : Int32) = nI 100 from rfl]
      refine g_irem dX10_daysOf_58 (by decide) ?_
      rw [pk_rem (by omega) (by decide) (by decide)]
      refine g_aL0 dX10_daysOf_59 ?_
      refine g_getR lf_X10_359 (Y.S.l 50 rfl) (Y.S.k 50 rfl rfl) Y.C dX10_daysOf_60 ?_
      refine g_gI lf_X10_261 (Y.M.l 0 rfl) (Y.M.k 0 rfl rfl) dX10_daysOf_63 ?_
      rw [gIq (show ¬ c = 50 by omega)]
      refine g_icge dX10_daysOf_66 (fun c66 => ?_) (fun c66 => ?_)
      · have e2 := he.trans ((pa_s _ _ _ _ _ _ _ _ _).trans (if_pos c66))
        refine g_dayM (X.I (a := 50) (k := 34) m (by decide)) _ _ _ _ _ _ (fun v6 => ?_)
        rw [gIq (show ¬ c = 50 by omega)]
        rw [show gI (pI h 50 34 m) (c + 1) = gI h (c + 1) from funext (fun j => gIq (by omega))]
        refine g_ii5 dX10_daysOf_192 rfl rfl ?_
        refine g_goto dX10_daysOf_195 ?_
        rw [nI_1]
        exact ih (i + 1) _ _ _ _ (by omega) e2 (drN_lt _)
      · refine g_aL0 dX10_daysOf_69 ?_
        refine g_dup dX10_daysOf_70 rfl ?_
        refine g_gI lf_X10_510 (Y.S.l 50 rfl) (Y.S.k 50 rfl rfl) dX10_daysOf_71 ?_
        rw [show gI (pI h 50 34 m) 50 34 = m from rfl]
        refine g_iconst dX10_daysOf_74 ?_
        refine g_iadd dX10_daysOf_75 ?_
        refine g_pI0 lf_X10_510 (Y.S.l 50 rfl) (Y.S.k 50 rfl rfl) dX10_daysOf_76 ?_
        rw [pI_2]
        clear Y
        have Y := X.I (a := 50) (k := 34) (m + 1) (by decide)
        refine g_ldc2 dX10_daysOf_79 lc_X10_513 ?_
        refine g_iL3 dX10_daysOf_82 ?_
        refine g_i2l dX10_daysOf_83 ?_
        refine g_lmul dX10_daysOf_84 ?_
        refine g_ldc2 dX10_daysOf_85 lc_X10_515 ?_
        refine g_ladd dX10_daysOf_88 ?_
        refine g_ldc2 dX10_daysOf_89 lc_X10_517 ?_
        refine g_lrem dX10_daysOf_92 (by decide) ?_
        refine g_l2i dX10_daysOf_93 ?_
        rw [dl_s hd1]
        have hd2 := drN_lt (drN s)
        have hmod : drN (drN s) % cn 1 < cn 1 := Nat.mod_lt _ hN0
        refine g_iS3 dX10_daysOf_94 rfl rfl ?_
        refine g_aL0 dX10_daysOf_95 ?_
        refine g_getR lf_X10_359 (Y.S.l 50 rfl) (Y.S.k 50 rfl rfl) Y.C dX10_daysOf_96 ?_
        refine g_getRn lf_X10_283 (Y.M.l 0 rfl) (Y.M.k 0 rfl rfl) (Y.M.r 15 (j := 1) rfl) dX10_daysOf_99 ?_
        refine g_iL3 dX10_daysOf_102 ?_
        refine g_aL0 dX10_daysOf_103 ?_
        refine g_getR lf_X10_359 (Y.S.l 50 rfl) (Y.S.k 50 rfl rfl) Y.C dX10_daysOf_104 ?_
        refine g_gI lf_X10_215 (Y.M.l 0 rfl) (Y.M.k 0 rfl rfl) dX10_daysOf_107 ?_
        rw [Y.c1]
        refine g_irem dX10_daysOf_110 (nI_ne0 hN0 (by omega)) ?_
        rw [pk_rem (by omega) hN0 (by omega)]
        refine g_ialoadN (Y.M.l 1 rfl) (Y.M.k 1 rfl rfl) (Y.M.n 1 (n := 8) rfl rfl) (by omega) (by decide) dX10_daysOf_111 ?_
        rw [gIq (show ¬ c + 1 = 50 by omega)]
        refine g_iconst dX10_daysOf_112 ?_
        refine g_iceq dX10_daysOf_113 (fun c113 => ?_) (fun c113 => ?_)
        · have e2 := he.trans ((pa_s _ _ _ _ _ _ _ _ _).trans (if_neg c66))
          rw [show stF (gI h (c + 1)) (cn 1) (drN (drN s)) r = _ from if_pos c113] at e2
          refine g_dayM (X.I (a := 50) (k := 34) (m + 1) (by decide)) _ _ _ _ _ _ (fun v6 => ?_)
          rw [gIq (show ¬ c = 50 by omega)]
          rw [show gI (pI h 50 34 (m + 1)) (c + 1) = gI h (c + 1) from funext (fun j => gIq (by omega))]
          refine g_ii5 dX10_daysOf_192 rfl rfl ?_
          refine g_goto dX10_daysOf_195 ?_
          rw [nI_1]
          exact ih (i + 1) _ _ _ _ (by omega) e2 (drN_lt _)
        · refine g_iL4 dX10_daysOf_116 ?_
          refine g_iconst dX10_daysOf_118 ?_
          refine g_iL3 dX10_daysOf_119 ?_
          refine g_aL0 dX10_daysOf_120 ?_
          refine g_getR lf_X10_359 (Y.S.l 50 rfl) (Y.S.k 50 rfl rfl) Y.C dX10_daysOf_121 ?_
          refine g_gI lf_X10_215 (Y.M.l 0 rfl) (Y.M.k 0 rfl rfl) dX10_daysOf_124 ?_
          rw [Y.c1]
          refine g_irem dX10_daysOf_127 (nI_ne0 hN0 (by omega)) ?_
          rw [pk_rem (by omega) hN0 (by omega)]
          refine g_ishl dX10_daysOf_128 ?_
          refine g_iconst dX10_daysOf_129 ?_
          refine g_ixor dX10_daysOf_130 ?_
          refine g_iand dX10_daysOf_131 ?_
          refine g_iS4 dX10_daysOf_132 rfl rfl ?_
          have e2 := he.trans ((pa_s _ _ _ _ _ _ _ _ _).trans (if_neg c66))
          rw [show stF (gI h (c + 1)) (cn 1) (drN (drN s)) r = _ from if_neg c113] at e2
          refine g_dayM (X.I (a := 50) (k := 34) (m + 1) (by decide)) _ _ _ _ _ _ (fun v6 => ?_)
          rw [gIq (show ¬ c = 50 by omega)]
          rw [show gI (pI h 50 34 (m + 1)) (c + 1) = gI h (c + 1) from funext (fun j => gIq (by omega))]
          refine g_ii5 dX10_daysOf_192 rfl rfl ?_
          refine g_goto dX10_daysOf_195 ?_
          rw [nI_1]
          exact ih (i + 1) _ _ _ _ (by omega) e2 (drN_lt _)
  refine g_iL1 dX10_daysOf_0 ?_
  refine g_iS3 dX10_daysOf_1 rfl rfl ?_
  refine g_iconst dX10_daysOf_2 ?_
  refine g_aL0 dX10_daysOf_3 ?_
  refine g_getR lf_X10_359 (X.S.l 50 rfl) (X.S.k 50 rfl rfl) X.C dX10_daysOf_4 ?_
  refine g_gI lf_X10_215 (X.M.l 0 rfl) (X.M.k 0 rfl rfl) dX10_daysOf_7 ?_
  rw [X.c1]
  refine g_ishl dX10_daysOf_10 ?_
  refine g_iconst dX10_daysOf_11 ?_
  refine g_isub dX10_daysOf_12 ?_
  refine g_aL0 dX10_daysOf_13 ?_
  refine g_getR lf_X10_17 (X.S.l 50 rfl) (X.S.k 50 rfl rfl) (X.S.r 50 20 (b := 52) rfl rfl) dX10_daysOf_14 ?_
  refine g_bipush dX10_daysOf_17 ?_
  refine g_ialoadK (X.S.l 52 rfl) (X.S.k 52 rfl rfl) (X.S.n 52 (n := 17) rfl rfl) rfl (j := 16) rfl dX10_daysOf_19 ?_
  refine g_iconst dX10_daysOf_20 ?_
  refine g_ixor dX10_daysOf_21 ?_
  refine g_iand dX10_daysOf_22 ?_
  refine g_iS4 dX10_daysOf_23 rfl rfl ?_
  refine g_aL0 dX10_daysOf_25 ?_
  refine g_iconst dX10_daysOf_26 ?_
  refine g_pI0 lf_X10_510 (X.S.l 50 rfl) (X.S.k 50 rfl rfl) dX10_daysOf_27 ?_
  refine g_iconst dX10_daysOf_30 ?_
  refine g_iS5 dX10_daysOf_31 rfl rfl ?_
  exact loop D 1 _ _ _ _ (by omega) rfl hs0

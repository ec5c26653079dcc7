/-! THE REFERENCE: feed -/
def wsM (a b c d e : Int32) (i : Nat) : Int32 := if 4 ≤ nI i then (if 8 ≤ nI i then (if 12 ≤ nI i then (if 16 ≤ nI i then e else d) else c) else b) else a
def byM (x : Int32) (i : Nat) : Int32 := (x >>> ((24 - 8 * (nI i - nI i / 4 * 4)) &&& 31)).toInt8.toInt32.toInt8.toInt32
def fdM (ws : Nat → Int32) : Nat → Nat → Nat → Hp → Hp
  | 0, _, _, h => h
  | n + 1, i, t, h => fdM ws n (i + 1) (t + 1) (pI (pI h 51 t (byM (ws i) i)) 50 6 (nI (t + 1)))
theorem n_feed0 {h : Hp} (S : SX (mT h)) {n : Nat} (hn : gI (mT h) 50 6 = nI n) (hn2 : 1080 < n) (hn3 : n ≤ 1100) (a b c d e : Int32) : gCi 0 0 0 yX10_feed cX10_feed 8 (some .int) [.ref 50, .int a, .int b, .int c, .int d, .int e] h (some (.int (-1))) (mT h) := by
  refine g_entry (lv := [.ref 50, .int a, .int b, .int c, .int d, .int e, .retAddr 0, .retAddr 0]) 2 pn_X10 rfl rfl rfl ?_
  refine g_aL0 dX10_feed_0 ?_
  refine g_iconst dX10_feed_1 ?_
  refine g_pI0 lf_X10_39 (S.l 50 rfl) (S.k 50 rfl rfl) dX10_feed_2 ?_
  show gY _ _ _ _ _ _ _ _ _ _ _ _ _ (mT h)
  generalize mT h = h at S hn ⊢
  refine g_aL0 dX10_feed_5 ?_
  refine g_gI lf_X10_352 (S.l 50 rfl) (S.k 50 rfl rfl) dX10_feed_6 ?_
  refine g_bipush dX10_feed_9 ?_
  refine g_iadd dX10_feed_11 ?_
  refine g_sipush dX10_feed_12 ?_
  rw [hn, show (20 : Int32) = nI 20 from rfl, nI_add, show (1100 : Int32) = nI 1100 from rfl]
  refine g_icle dX10_feed_15 (fun c15 => absurd c15 (nI_ge (show 1100 < n + 20 from by omega) (by omega))) (fun c15 => ?_)
  refine g_iconst dX10_feed_18 ?_
  exact e_iret rfl dX10_feed_19 rfl rfl rfl rfl
theorem n_feed1 {h : Hp} (S : SX (mT h)) {n0 : Nat} (hn : gI (mT h) 50 6 = nI n0) (hn2 : n0 ≤ 1080) (a b c d e : Int32) : gCi 0 0 0 yX10_feed cX10_feed 8 (some .int) [.ref 50, .int a, .int b, .int c, .int d, .int e] h (some (.int (nI (n0 + 20)))) (fdM (wsM a b c d e) 20 0 n0 (mT h)) := by
  refine g_entry (lv := [.ref 50, .int a, .int b, .int c, .int d, .int e, .retAddr 0, .retAddr 0]) 2 pn_X10 rfl rfl rfl ?_
  refine g_aL0 dX10_feed_0 ?_
  refine g_iconst dX10_feed_1 ?_
  refine g_pI0 lf_X10_39 (S.l 50 rfl) (S.k 50 rfl rfl) dX10_feed_2 ?_
  show gY _ _ _ _ _ _ _ _ _ _ _ _ _ (mT h)
  generalize mT h = h at S hn ⊢
  refine g_aL0 dX10_feed_5 ?_
  refine g_gI lf_X10_352 (S.l 50 rfl) (S.k 50 rfl rfl) dX10_feed_6 ?_
  refine g_bipush dX10_feed_9 ?_
  refine g_iadd dX10_feed_11 ?_
  refine g_sipush dX10_feed_12 ?_
  rw [hn, show (20 : Int32) = nI 20 from rfl, nI_add, show (1100 : Int32) = nI 1100 from rfl]
  refine g_icle dX10_feed_15 (fun c15 => ?_) (fun c15 => absurd (nI_le (show n0 + 20 ≤ 1100 from by omega) (by omega)) c15)
  refine g_iconst dX10_feed_20 ?_
  refine g_iS6 dX10_feed_21 rfl rfl ?_
  have loop : ∀ (n i : Nat) (v7 : Value) (t : Nat) (hh : Hp), i + n = 20 → fdM (wsM a b c d e) 20 0 n0 h = fdM (wsM a b c d e) n i t hh → SX hh → gI hh 50 6 = nI t → t = n0 + i → gY 0 0 0 yX10_feed cX10_feed 8 (some .int) 0 0 (fun v' h' => v' = (some (.int (nI (n0 + 20)))) ∧ h' = (fdM (wsM a b c d e) 20 0 n0 h)) 23 [.ref 50, .int a, .int b, .int c, .int d, .int e, .int (nI i), v7] [] hh := by
    intro n
    induction n with
    | zero =>
      intro i v7 t hh hi he S1 t1 t2
      refine g_iL6 dX10_feed_23 ?_
      refine g_bipush dX10_feed_25 ?_
      rw [show (20 : Int32) = nI 20 from rfl]
      refine g_icge dX10_feed_27 (fun c27 => ?_) (fun c27 => absurd (nI_le (by omega) (by omega)) c27)
      refine g_aL0 dX10_feed_117 ?_
      refine g_gI lf_X10_352 (S1.l 50 rfl) (S1.k 50 rfl rfl) dX10_feed_118 ?_
      exact e_iret rfl dX10_feed_121 rfl rfl (by rw [t1, t2, show i = 20 from by omega]) (by rw [he]; rfl)
    | succ n ih =>
      intro i v7 t hh hi he S1 t1 t2
      refine g_iL6 dX10_feed_23 ?_
      refine g_bipush dX10_feed_25 ?_
      rw [show (20 : Int32) = nI 20 from rfl]
      refine g_icge dX10_feed_27 (fun c27 => absurd c27 (nI_ge (by omega) (by omega))) (fun c27 => ?_)
      refine g_iL6 dX10_feed_30 ?_
      refine g_iconst dX10_feed_32 ?_
      refine g_icge dX10_feed_33 (fun c33 => ?_) (fun c33 => ?_)
      · refine g_iL6 dX10_feed_40 ?_
        refine g_bipush dX10_feed_42 ?_
        refine g_icge dX10_feed_44 (fun c44 => ?_) (fun c44 => ?_)
        · refine g_iL6 dX10_feed_51 ?_
          refine g_bipush dX10_feed_53 ?_
          refine g_icge dX10_feed_55 (fun c55 => ?_) (fun c55 => ?_)
          · refine g_iL6 dX10_feed_62 ?_
            refine g_bipush dX10_feed_64 ?_
            refine g_icge dX10_feed_66 (fun c66 => ?_) (fun c66 => ?_)
            · refine g_iL5 dX10_feed_74 ?_
              have ew : wsM a b c d e i = _ := ((if_pos c33).trans ((if_pos c44).trans ((if_pos c55).trans (if_pos c66))))
              refine g_iS7 dX10_feed_76 rfl rfl ?_
              refine g_aL0 dX10_feed_78 ?_
              refine g_getR lf_X10_13 (S1.l 50 rfl) (S1.k 50 rfl rfl) (S1.r 50 5 (b := 51) rfl rfl) dX10_feed_79 ?_
              refine g_aL0 dX10_feed_82 ?_
              skip
              refine g_gI lf_X10_352 (S1.l 50 rfl) (S1.k 50 rfl rfl) dX10_feed_83 ?_
              rw [t1]
              refine g_iL7 dX10_feed_86 ?_
              refine g_bipush dX10_feed_88 ?_
              refine g_bipush dX10_feed_90 ?_
              refine g_iL6 dX10_feed_92 ?_
              refine g_iconst dX10_feed_94 ?_
              refine g_irem dX10_feed_95 (by decide) ?_
              refine g_imul dX10_feed_96 ?_
              refine g_isub dX10_feed_97 ?_
              refine g_ishr dX10_feed_98 ?_
              refine g_i2b dX10_feed_99 ?_
              refine g_bastoreN (S1.l 51 rfl) (S1.k 51 rfl rfl) (S1.n 51 (n := 1100) rfl rfl) (show t < 1100 from by omega) (by decide) dX10_feed_100 ?_
              refine g_aL0 dX10_feed_101 ?_
              refine g_dup dX10_feed_102 rfl ?_
              refine g_gI lf_X10_352 (S1.l 50 rfl) (S1.k 50 rfl rfl) dX10_feed_103 ?_
              rw [show gI (pI hh 51 t _) 50 6 = nI t from (gIq (by decide)).trans t1]
              refine g_iconst dX10_feed_106 ?_
              refine g_iadd dX10_feed_107 ?_
              rw [nI_1]
              refine g_pI0 lf_X10_352 (S1.l 50 rfl) (S1.k 50 rfl rfl) dX10_feed_108 ?_
              refine g_ii6 dX10_feed_111 rfl rfl ?_
              refine g_goto dX10_feed_114 ?_
              rw [nI_1]
              exact ih (i + 1) _ (t + 1) _ (by omega) (he.trans (by rw [fdM, ew]; rfl)) S1 (gIs _ _ _ _) (by omega)
            · refine g_iL4 dX10_feed_69 ?_
              refine g_goto dX10_feed_71 ?_
              have ew : wsM a b c d e i = _ := ((if_pos c33).trans ((if_pos c44).trans ((if_pos c55).trans (if_neg c66))))
              refine g_iS7 dX10_feed_76 rfl rfl ?_
              refine g_aL0 dX10_feed_78 ?_
              refine g_getR lf_X10_13 (S1.l 50 rfl) (S1.k 50 rfl rfl) (S1.r 50 5 (b := 51) rfl rfl) dX10_feed_79 ?_
              refine g_aL0 dX10_feed_82 ?_
              skip
              refine g_gI lf_X10_352 (S1.l 50 rfl) (S1.k 50 rfl rfl) dX10_feed_83 ?_
              rw [t1]
              refine g_iL7 dX10_feed_86 ?_
              refine g_bipush dX10_feed_88 ?_
              refine g_bipush dX10_feed_90 ?_
              refine g_iL6 dX10_feed_92 ?_
              refine g_iconst dX10_feed_94 ?_
              refine g_irem dX10_feed_95 (by decide) ?_
              refine g_imul dX10_feed_96 ?_
              refine g_isub dX10_feed_97 ?_
              refine g_ishr dX10_feed_98 ?_
              refine g_i2b dX10_feed_99 ?_
              refine g_bastoreN (S1.l 51 rfl) (S1.k 51 rfl rfl) (S1.n 51 (n := 1100) rfl rfl) (show t < 1100 from by omega) (by decide) dX10_feed_100 ?_
              refine g_aL0 dX10_feed_101 ?_
              refine g_dup dX10_feed_102 rfl ?_
              refine g_gI lf_X10_352 (S1.l 50 rfl) (S1.k 50 rfl rfl) dX10_feed_103 ?_
              rw [show gI (pI hh 51 t _) 50 6 = nI t from (gIq (by decide)).trans t1]
              refine g_iconst dX10_feed_106 ?_
              refine g_iadd dX10_feed_107 ?_
              rw [nI_1]
              refine g_pI0 lf_X10_352 (S1.l 50 rfl) (S1.k 50 rfl rfl) dX10_feed_108 ?_
              refine g_ii6 dX10_feed_111 rfl rfl ?_
              refine g_goto dX10_feed_114 ?_
              rw [nI_1]
              exact ih (i + 1) _ (t + 1) _ (by omega) (he.trans (by rw [fdM, ew]; rfl)) S1 (gIs _ _ _ _) (by omega)
          · refine g_iL3 dX10_feed_58 ?_
            refine g_goto dX10_feed_59 ?_
            have ew : wsM a b c d e i = _ := ((if_pos c33).trans ((if_pos c44).trans (if_neg c55)))
            refine g_iS7 dX10_feed_76 rfl rfl ?_
            refine g_aL0 dX10_feed_78 ?_
            refine g_getR lf_X10_13 (S1.l 50 rfl) (S1.k 50 rfl rfl) (S1.r 50 5 (b := 51) rfl rfl) dX10_feed_79 ?_
            refine g_aL0 dX10_feed_82 ?_
            skip
            refine g_gI lf_X10_352 (S1.l 50 rfl) (S1.k 50 rfl rfl) dX10_feed_83 ?_
            rw [t1]
            refine g_iL7 dX10_feed_86 ?_
            refine g_bipush dX10_feed_88 ?_
            refine g_bipush dX10_feed_90 ?_
            refine g_iL6 dX10_feed_92 ?_
            refine g_iconst dX10_feed_94 ?_
            refine g_irem dX10_feed_95 (by decide) ?_
            refine g_imul dX10_feed_96 ?_
            refine g_isub dX10_feed_97 ?_
            refine g_ishr dX10_feed_98 ?_
            refine g_i2b dX10_feed_99 ?_
            refine g_bastoreN (S1.l 51 rfl) (S1.k 51 rfl rfl) (S1.n 51 (n := 1100) rfl rfl) (show t < 1100 from by omega) (by decide) dX10_feed_100 ?_
            refine g_aL0 dX10_feed_101 ?_
            refine g_dup dX10_feed_102 rfl ?_
            refine g_gI lf_X10_352 (S1.l 50 rfl) (S1.k 50 rfl rfl) dX10_feed_103 ?_
            rw [show gI (pI hh 51 t _) 50 6 = nI t from (gIq (by decide)).trans t1]
            refine g_iconst dX10_feed_106 ?_
            refine g_iadd dX10_feed_107 ?_
            rw [nI_1]
            refine g_pI0 lf_X10_352 (S1.l 50 rfl) (S1.k 50 rfl rfl) dX10_feed_108 ?_
            refine g_ii6 dX10_feed_111 rfl rfl ?_
            refine g_goto dX10_feed_114 ?_
            rw [nI_1]
            exact ih (i + 1) _ (t + 1) _ (by omega) (he.trans (by rw [fdM, ew]; rfl)) S1 (gIs _ _ _ _) (by omega)
        · refine g_iL2 dX10_feed_47 ?_
          refine g_goto dX10_feed_48 ?_
          have ew : wsM a b c d e i = _ := ((if_pos c33).trans (if_neg c44))
          refine g_iS7 dX10_feed_76 rfl rfl ?_
          refine g_aL0 dX10_feed_78 ?_
          refine g_getR lf_X10_13 (S1.l 50 rfl) (S1.k 50 rfl rfl) (S1.r 50 5 (b := 51) rfl rfl) dX10_feed_79 ?_
          refine g_aL0 dX10_feed_82 ?_
          skip
          refine g_gI lf_X10_352 (S1.l 50 rfl) (S1.k 50 rfl rfl) dX10_feed_83 ?_
          rw [t1]
          refine g_iL7 dX10_feed_86 ?_
          refine g_bipush dX10_feed_88 ?_
          refine g_bipush dX10_feed_90 ?_
          refine g_iL6 dX10_feed_92 ?_
          refine g_iconst dX10_feed_94 ?_
          refine g_irem dX10_feed_95 (by decide) ?_
          refine g_imul dX10_feed_96 ?_
          refine g_isub dX10_feed_97 ?_
          refine g_ishr dX10_feed_98 ?_
          refine g_i2b dX10_feed_99 ?_
          refine g_bastoreN (S1.l 51 rfl) (S1.k 51 rfl rfl) (S1.n 51 (n := 1100) rfl rfl) (show t < 1100 from by omega) (by decide) dX10_feed_100 ?_
          refine g_aL0 dX10_feed_101 ?_
          refine g_dup dX10_feed_102 rfl ?_
          refine g_gI lf_X10_352 (S1.l 50 rfl) (S1.k 50 rfl rfl) dX10_feed_103 ?_
          rw [show gI (pI hh 51 t _) 50 6 = nI t from (gIq (by decide)).trans t1]
          refine g_iconst dX10_feed_106 ?_
          refine g_iadd dX10_feed_107 ?_
          rw [nI_1]
          refine g_pI0 lf_X10_352 (S1.l 50 rfl) (S1.k 50 rfl rfl) dX10_feed_108 ?_
          refine g_ii6 dX10_feed_111 rfl rfl ?_
          refine g_goto dX10_feed_114 ?_
          rw [nI_1]
          exact ih (i + 1) _ (t + 1) _ (by omega) (he.trans (by rw [fdM, ew]; rfl)) S1 (gIs _ _ _ _) (by omega)
      · refine g_iL1 dX10_feed_36 ?_
        refine g_goto dX10_feed_37 ?_
        have ew : wsM a b c d e i = _ := (if_neg c33)
        refine g_iS7 dX10_feed_76 rfl rfl ?_
        refine g_aL0 dX10_feed_78 ?_
        refine g_getR lf_X10_13 (S1.l 50 rfl) (S1.k 50 rfl rfl) (S1.r 50 5 (b := 51) rfl rfl) dX10_feed_79 ?_
        refine g_aL0 dX10_feed_82 ?_
        skip
        refine g_gI lf_X10_352 (S1.l 50 rfl) (S1.k 50 rfl rfl) dX10_feed_83 ?_
        rw [t1]
        refine g_iL7 dX10_feed_86 ?_
        refine g_bipush dX10_feed_88 ?_
        refine g_bipush dX10_feed_90 ?_
        refine g_iL6 dX10_feed_92 ?_
        refine g_iconst dX10_feed_94 ?_
        refine g_irem dX10_feed_95 (by decide) ?_
        refine g_imul dX10_feed_96 ?_
        refine g_isub dX10_feed_97 ?_
        refine g_ishr dX10_feed_98 ?_
        refine g_i2b dX10_feed_99 ?_
        refine g_bastoreN (S1.l 51 rfl) (S1.k 51 rfl rfl) (S1.n 51 (n := 1100) rfl rfl) (show t < 1100 from by omega) (by decide) dX10_feed_100 ?_
        refine g_aL0 dX10_feed_101 ?_
        refine g_dup dX10_feed_102 rfl ?_
        refine g_gI lf_X10_352 (S1.l 50 rfl) (S1.k 50 rfl rfl) dX10_feed_103 ?_
        rw [show gI (pI hh 51 t _) 50 6 = nI t from (gIq (by decide)).trans t1]
        refine g_iconst dX10_feed_106 ?_
        refine g_iadd dX10_feed_107 ?_
        rw [nI_1]
        refine g_pI0 lf_X10_352 (S1.l 50 rfl) (S1.k 50 rfl rfl) dX10_feed_108 ?_
        refine g_ii6 dX10_feed_111 rfl rfl ?_
        refine g_goto dX10_feed_114 ?_
        rw [nI_1]
        exact ih (i + 1) _ (t + 1) _ (by omega) (he.trans (by rw [fdM, ew]; rfl)) S1 (gIs _ _ _ _) (by omega)
  exact loop 20 0 _ n0 _ (by omega) rfl S hn rfl

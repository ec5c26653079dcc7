/-! THE REFERENCE: the shelf; days asked for; scratch and cover -/
def bsM (lo : Int32 → Int32) (br sl : Int32) : Nat → Nat → Int32 → Int32
  | 0, _, b => b
  | n + 1, i, b => if nI i &&& br = 0 then (if lo (nI i) ≤ sl then (if pcI b < pcI (nI i) then bsM lo br sl n (i + 1) (nI i) else (if pcI (nI i) = pcI b then (if lo (nI i) ≤ lo b then bsM lo br sl n (i + 1) b else bsM lo br sl n (i + 1) (nI i)) else bsM lo br sl n (i + 1) b)) else bsM lo br sl n (i + 1) b) else bsM lo br sl n (i + 1) b
def rdD (s d : Int32) : Int32 := if inF s 0 65536 = 0 then 2 else if inF d 0 99 = 0 then 2 else 0
theorem n_shelf {h : Hp} {c : Nat} {cn : Nat → Nat} (X : MX (mT h) c cn) : gCi 3 0 0 yX10_shelf cX10_shelf 3 (some .int) [.ref 50] h (some (.int (if gI (mT h) c 13 = -1 then -1 else bsM (fun set => loM (liM (mT h) c) set (cn 1) 0 0) (gI (mT h) 52 16) (gI (mT h) c 13) (2 ^ cn 1 - 1) 1 0))) (mR (mT h) (if gI (mT h) c 13 = -1 then 6 else 0)) := by
  refine g_entry (lv := [.ref 50, .retAddr 0, .retAddr 0]) 2 pn_X10 rfl rfl rfl ?_
  refine g_aL0 dX10_shelf_0 ?_
  refine g_iconst dX10_shelf_1 ?_
  refine g_pI0 lf_X10_39 (X.S.l 50 rfl) (X.S.k 50 rfl rfl) dX10_shelf_2 ?_
  show gY _ _ _ _ _ _ _ _ _ _ _ _ _ (mT h)
  generalize mT h = h at X ⊢
  refine g_aL0 dX10_shelf_5 ?_
  refine g_getR lf_X10_359 (X.S.l 50 rfl) (X.S.k 50 rfl rfl) X.C dX10_shelf_6 ?_
  refine g_ifnonnullS dX10_shelf_9 ?_
  refine g_aL0 dX10_shelf_18 ?_
  refine g_getR lf_X10_359 (X.S.l 50 rfl) (X.S.k 50 rfl rfl) X.C dX10_shelf_19 ?_
  refine g_gI lf_X10_350 (X.M.l 0 rfl) (X.M.k 0 rfl rfl) dX10_shelf_22 ?_
  refine g_iconst dX10_shelf_25 ?_
  refine g_icne dX10_shelf_26 (fun c26 => ?_) (fun c26 => ?_)
  · refine g_iconst dX10_shelf_36 ?_
    refine g_iS1 dX10_shelf_37 rfl rfl ?_
    refine g_iconst dX10_shelf_38 ?_
    refine g_iS2 dX10_shelf_39 rfl rfl ?_
    have p2 := p2_8 X.b1
    have p1 : 0 < 2 ^ cn 1 := Nat.pow_pos (by decide)
    have loop : ∀ (n i : Nat) (b : Int32), i + n = 2 ^ cn 1 → bsM (fun set => loM (liM h c) set (cn 1) 0 0) (gI h 52 16) (gI h c 13) (2 ^ cn 1 - 1) 1 0 = bsM (fun set => loM (liM h c) set (cn 1) 0 0) (gI h 52 16) (gI h c 13) n i b → gY 3 0 0 yX10_shelf cX10_shelf 3 (some .int) 0 0 (fun v' h' => v' = (some (.int (if gI h c 13 = -1 then -1 else bsM (fun set => loM (liM h c) set (cn 1) 0 0) (gI h 52 16) (gI h c 13) (2 ^ cn 1 - 1) 1 0))) ∧ h' = (mR h (if gI h c 13 = -1 then 6 else 0))) 40 [.ref 50, .int b, .int (nI i)] [] h := by
      intro n
      induction n with
      | zero =>
        intro i b hi he 
        refine g_iL2 dX10_shelf_40 ?_
        refine g_iconst dX10_shelf_41 ?_
        refine g_aL0 dX10_shelf_42 ?_
        refine g_getR lf_X10_359 (X.S.l 50 rfl) (X.S.k 50 rfl rfl) X.C dX10_shelf_43 ?_
        refine g_gI lf_X10_215 (X.M.l 0 rfl) (X.M.k 0 rfl rfl) dX10_shelf_46 ?_
        refine g_ishl dX10_shelf_49 ?_
        rw [X.c1, sh2 X.b1]
        refine g_icge dX10_shelf_50 (fun c50 => ?_) (fun c50 => absurd (nI_le (by omega) (by omega)) c50)
        refine g_aL0 dX10_shelf_126 ?_
        refine g_iL1 dX10_shelf_127 ?_
        refine e_v1i (d_good X.S _) lm_X10_49 dX10_shelf_128 (X.S.l 50 rfl) (X.S.k 50 rfl rfl) rfl rfl rfl rfl ?_
        exact e_iret rfl dX10_shelf_131 rfl rfl (by rw [if_neg c26]; exact he.symm) (by rw [if_neg c26])
      | succ n ih =>
        intro i b hi he 
        refine g_iL2 dX10_shelf_40 ?_
        refine g_iconst dX10_shelf_41 ?_
        refine g_aL0 dX10_shelf_42 ?_
        refine g_getR lf_X10_359 (X.S.l 50 rfl) (X.S.k 50 rfl rfl) X.C dX10_shelf_43 ?_
        refine g_gI lf_X10_215 (X.M.l 0 rfl) (X.M.k 0 rfl rfl) dX10_shelf_46 ?_
        refine g_ishl dX10_shelf_49 ?_
        rw [X.c1, sh2 X.b1]
        refine g_icge dX10_shelf_50 (fun c50 => absurd c50 (nI_ge (by omega) (by omega))) (fun c50 => ?_)
        refine g_iL2 dX10_shelf_53 ?_
        refine g_aL0 dX10_shelf_54 ?_
        refine g_getR lf_X10_17 (X.S.l 50 rfl) (X.S.k 50 rfl rfl) (X.S.r 50 20 (b := 52) rfl rfl) dX10_shelf_55 ?_
        refine g_bipush dX10_shelf_58 ?_
        refine g_ialoadK (X.S.l 52 rfl) (X.S.k 52 rfl rfl) (X.S.n 52 (n := 17) rfl rfl) rfl (j := 16) rfl dX10_shelf_60 ?_
        refine g_iand dX10_shelf_61 ?_
        refine g_ifne dX10_shelf_62 (fun c62 => ?_) (fun c62 => ?_)
        · refine g_ii2 dX10_shelf_120 rfl rfl ?_
          refine g_goto dX10_shelf_123 ?_
          rw [nI_1]
          exact ih (i + 1) _ (by omega) (he.trans (if_neg c62)) 
        · refine g_aL0 dX10_shelf_65 ?_
          refine g_iL2 dX10_shelf_66 ?_
          refine e_v1i (d_lightOfAll X _) lm_X10_495 dX10_shelf_67 (X.S.l 50 rfl) (X.S.k 50 rfl rfl) rfl rfl rfl rfl ?_
          refine g_aL0 dX10_shelf_70 ?_
          refine g_getR lf_X10_359 (X.S.l 50 rfl) (X.S.k 50 rfl rfl) X.C dX10_shelf_71 ?_
          refine g_gI lf_X10_350 (X.M.l 0 rfl) (X.M.k 0 rfl rfl) dX10_shelf_74 ?_
          refine g_icle dX10_shelf_77 (fun c77 => ?_) (fun c77 => ?_)
          · refine g_iL2 dX10_shelf_83 ?_
            refine e_s1i (d_bits _) lm_X10_392 dX10_shelf_84 rfl rfl rfl rfl ?_
            refine g_iL1 dX10_shelf_87 ?_
            refine e_s1i (d_bits _) lm_X10_392 dX10_shelf_88 rfl rfl rfl rfl ?_
            refine g_icgt dX10_shelf_91 (fun c91 => ?_) (fun c91 => ?_)
            · refine g_iL2 dX10_shelf_118 ?_
              refine g_iS1 dX10_shelf_119 rfl rfl ?_
              refine g_ii2 dX10_shelf_120 rfl rfl ?_
              refine g_goto dX10_shelf_123 ?_
              rw [nI_1]
              exact ih (i + 1) _ (by omega) (he.trans ((if_pos c62).trans ((if_pos c77).trans (if_pos c91)))) 
            · refine g_iL2 dX10_shelf_94 ?_
              refine e_s1i (d_bits _) lm_X10_392 dX10_shelf_95 rfl rfl rfl rfl ?_
              refine g_iL1 dX10_shelf_98 ?_
              refine e_s1i (d_bits _) lm_X10_392 dX10_shelf_99 rfl rfl rfl rfl ?_
              refine g_icne dX10_shelf_102 (fun c102 => ?_) (fun c102 => ?_)
              · refine g_ii2 dX10_shelf_120 rfl rfl ?_
                refine g_goto dX10_shelf_123 ?_
                rw [nI_1]
                exact ih (i + 1) _ (by omega) (he.trans ((if_pos c62).trans ((if_pos c77).trans ((if_neg c91).trans (if_neg c102))))) 
              · refine g_aL0 dX10_shelf_105 ?_
                refine g_iL2 dX10_shelf_106 ?_
                refine e_v1i (d_lightOfAll X _) lm_X10_495 dX10_shelf_107 (X.S.l 50 rfl) (X.S.k 50 rfl rfl) rfl rfl rfl rfl ?_
                refine g_aL0 dX10_shelf_110 ?_
                refine g_iL1 dX10_shelf_111 ?_
                refine e_v1i (d_lightOfAll X _) lm_X10_495 dX10_shelf_112 (X.S.l 50 rfl) (X.S.k 50 rfl rfl) rfl rfl rfl rfl ?_
                refine g_icle dX10_shelf_115 (fun c115 => ?_) (fun c115 => ?_)
                · refine g_ii2 dX10_shelf_120 rfl rfl ?_
                  refine g_goto dX10_shelf_123 ?_
                  rw [nI_1]
                  exact ih (i + 1) _ (by omega) (he.trans ((if_pos c62).trans ((if_pos c77).trans ((if_neg c91).trans ((if_pos c102).trans (if_pos c115)))))) 
                · refine g_iL2 dX10_shelf_118 ?_
                  refine g_iS1 dX10_shelf_119 rfl rfl ?_
                  refine g_ii2 dX10_shelf_120 rfl rfl ?_
                  refine g_goto dX10_shelf_123 ?_
                  rw [nI_1]
                  exact ih (i + 1) _ (by omega) (he.trans ((if_pos c62).trans ((if_pos c77).trans ((if_neg c91).trans ((if_pos c102).trans (if_neg c115)))))) 
          · refine g_goto dX10_shelf_80 ?_
            refine g_ii2 dX10_shelf_120 rfl rfl ?_
            refine g_goto dX10_shelf_123 ?_
            rw [nI_1]
            exact ih (i + 1) _ (by omega) (he.trans ((if_pos c62).trans (if_neg c77))) 
    exact loop (2 ^ cn 1 - 1) 1 _ (by omega) rfl
  · refine g_aL0 dX10_shelf_29 ?_
    refine g_bipush dX10_shelf_30 ?_
    refine e_v1i (d_refused X.S _) lm_X10_45 dX10_shelf_32 (X.S.l 50 rfl) (X.S.k 50 rfl rfl) rfl rfl rfl rfl ?_
    exact e_iret rfl dX10_shelf_35 rfl rfl (if_pos c26).symm (by rw [if_pos c26])
theorem z_shelf {h : Hp} (S : SX (mT h)) (hz : gR (mT h) 50 3 = none) : gCi 3 0 0 yX10_shelf cX10_shelf 3 (some .int) [.ref 50] h (some (.int (-1))) (mR (mT h) 1) := by
  refine g_entry (lv := [.ref 50, .retAddr 0, .retAddr 0]) 2 pn_X10 rfl rfl rfl ?_
  refine g_aL0 dX10_shelf_0 ?_
  refine g_iconst dX10_shelf_1 ?_
  refine g_pI0 lf_X10_39 (S.l 50 rfl) (S.k 50 rfl rfl) dX10_shelf_2 ?_
  show gY _ _ _ _ _ _ _ _ _ _ _ _ _ (mT h)
  generalize mT h = h at S hz ⊢
  refine g_aL0 dX10_shelf_5 ?_
  refine g_getN0 lf_X10_359 (S.l 50 rfl) (S.k 50 rfl rfl) hz dX10_shelf_6 ?_
  refine g_ifnonnullZ dX10_shelf_9 ?_
  refine g_aL0 dX10_shelf_12 ?_
  refine g_iconst dX10_shelf_13 ?_
  refine e_v1i (d_refused S _) lm_X10_45 dX10_shelf_14 (S.l 50 rfl) (S.k 50 rfl rfl) rfl rfl rfl rfl ?_
  exact e_iret rfl dX10_shelf_17 rfl rfl rfl rfl
theorem d_refusesDays {h : Hp} {c : Nat} {cn : Nat → Nat} (X : MX h c cn) (s d : Int32) : gCi 1 0 0 yX10_refusesDays cX10_refusesDays 3 (some .int) [.ref 50, .int s, .int d] h (some (.int (rdD s d))) h := by
  refine g_entry (lv := [.ref 50, .int s, .int d]) 0 pn_X10 rfl rfl rfl ?_
  refine g_aL0 dX10_refusesDays_0 ?_
  refine g_getR lf_X10_359 (X.S.l 50 rfl) (X.S.k 50 rfl rfl) X.C dX10_refusesDays_1 ?_
  refine g_ifnonnullS dX10_refusesDays_4 ?_
  refine g_iL1 dX10_refusesDays_11 ?_
  refine g_iconst dX10_refusesDays_12 ?_
  refine g_ldc_w dX10_refusesDays_13 lc_X10_519 ?_
  refine e_s3i (d_in _ _ _) lm_X10_134 dX10_refusesDays_16 rfl rfl rfl rfl ?_
  refine g_ifeq dX10_refusesDays_19 (fun c19 => ?_) (fun c19 => ?_)
  · refine g_iconst dX10_refusesDays_36 ?_
    exact e_iret rfl dX10_refusesDays_37 rfl rfl (if_pos c19).symm rfl
  · refine g_iL2 dX10_refusesDays_22 ?_
    refine g_iconst dX10_refusesDays_23 ?_
    refine g_bipush dX10_refusesDays_24 ?_
    refine e_s3i (d_in _ _ _) lm_X10_134 dX10_refusesDays_26 rfl rfl rfl rfl ?_
    refine g_ifeq dX10_refusesDays_29 (fun c29 => ?_) (fun c29 => ?_)
    · refine g_iconst dX10_refusesDays_36 ?_
      exact e_iret rfl dX10_refusesDays_37 rfl rfl ((if_neg c19).trans (if_pos c29)).symm rfl
    · refine g_iconst dX10_refusesDays_32 ?_
      refine g_goto dX10_refusesDays_33 ?_
      exact e_iret rfl dX10_refusesDays_37 rfl rfl ((if_neg c19).trans (if_neg c29)).symm rfl
theorem z_refusesDays {h : Hp} (S : SX h) (hz : gR h 50 3 = none) (s d : Int32) : gCi 1 0 0 yX10_refusesDays cX10_refusesDays 3 (some .int) [.ref 50, .int s, .int d] h (some (.int 1)) h := by
  refine g_entry (lv := [.ref 50, .int s, .int d]) 0 pn_X10 rfl rfl rfl ?_
  refine g_aL0 dX10_refusesDays_0 ?_
  refine g_getN0 lf_X10_359 (S.l 50 rfl) (S.k 50 rfl rfl) hz dX10_refusesDays_1 ?_
  refine g_ifnonnullZ dX10_refusesDays_4 ?_
  refine g_iconst dX10_refusesDays_7 ?_
  refine g_goto dX10_refusesDays_8 ?_
  exact e_iret rfl dX10_refusesDays_37 rfl rfl rfl rfl
theorem z_left {h : Hp} (S : SX (mT h)) (hz : gR (mT h) 50 3 = none) (s d : Int32) : gCi 3 0 0 yX10_left cX10_left 4 (some .int) [.ref 50, .int s, .int d] h (some (.int (-1))) (mR (mT h) 1) := by
  refine g_entry (lv := [.ref 50, .int s, .int d, .retAddr 0]) 1 pn_X10 rfl rfl rfl ?_
  refine g_aL0 dX10_left_0 ?_
  refine g_iconst dX10_left_1 ?_
  refine g_pI0 lf_X10_39 (S.l 50 rfl) (S.k 50 rfl rfl) dX10_left_2 ?_
  show gY _ _ _ _ _ _ _ _ _ _ _ _ _ (mT h)
  generalize mT h = h at S hz ⊢
  refine g_aL0 dX10_left_5 ?_
  refine g_iL1 dX10_left_6 ?_
  refine g_iL2 dX10_left_7 ?_
  refine e_v2i (z_refusesDays S hz _ _) lm_X10_520 dX10_left_8 (S.l 50 rfl) (S.k 50 rfl rfl) rfl rfl rfl rfl ?_
  refine g_iS3 dX10_left_11 rfl rfl ?_
  refine g_iL3 dX10_left_12 ?_
  refine g_ifle dX10_left_13 (fun c13 => absurd c13 (by decide)) (fun c13 => ?_)
  refine g_aL0 dX10_left_16 ?_
  refine g_iL3 dX10_left_17 ?_
  refine e_v1i (d_refused S _) lm_X10_45 dX10_left_18 (S.l 50 rfl) (S.k 50 rfl rfl) rfl rfl rfl rfl ?_
  refine g_goto dX10_left_21 ?_
  exact e_iret rfl dX10_left_34 rfl rfl rfl rfl
theorem z_hails {h : Hp} (S : SX (mT h)) (hz : gR (mT h) 50 3 = none) (s d : Int32) : gCi 3 0 0 yX10_hails cX10_hails 4 (some .int) [.ref 50, .int s, .int d] h (some (.int (-1))) (mR (mT h) 1) := by
  refine g_entry (lv := [.ref 50, .int s, .int d, .retAddr 0]) 1 pn_X10 rfl rfl rfl ?_
  refine g_aL0 dX10_hails_0 ?_
  refine g_iconst dX10_hails_1 ?_
  refine g_pI0 lf_X10_39 (S.l 50 rfl) (S.k 50 rfl rfl) dX10_hails_2 ?_
  show gY _ _ _ _ _ _ _ _ _ _ _ _ _ (mT h)
  generalize mT h = h at S hz ⊢
  refine g_aL0 dX10_hails_5 ?_
  refine g_iL1 dX10_hails_6 ?_
  refine g_iL2 dX10_hails_7 ?_
  refine e_v2i (z_refusesDays S hz _ _) lm_X10_520 dX10_hails_8 (S.l 50 rfl) (S.k 50 rfl rfl) rfl rfl rfl rfl ?_
  refine g_iS3 dX10_hails_11 rfl rfl ?_
  refine g_iL3 dX10_hails_12 ?_
  refine g_ifle dX10_hails_13 (fun c13 => absurd c13 (by decide)) (fun c13 => ?_)
  refine g_aL0 dX10_hails_16 ?_
  refine g_iL3 dX10_hails_17 ?_
  refine e_v1i (d_refused S _) lm_X10_45 dX10_hails_18 (S.l 50 rfl) (S.k 50 rfl rfl) rfl rfl rfl rfl ?_
  exact e_iret rfl dX10_hails_21 rfl rfl rfl rfl
theorem n_scratch {h : Hp} (S : SX (mT h)) (p x : Int32) {r : Int32} (hr : r = 0 ∨ r = 1) {h2 : Hp} (W : gCi 3 0 0 yX10_marksCell cX10_marksCell 4 (some .boolean) [.ref 50, .int (nI 0), .int p, .int x] (mT h) (some (.int r)) h2) : gCi 4 0 0 yX10_scratch cX10_scratch 3 (some .boolean) [.ref 50, .int p, .int x] h (some (.int r)) h2 := by
  refine g_entry (lv := [.ref 50, .int p, .int x]) 0 pn_X10 rfl rfl rfl ?_
  refine g_aL0 dX10_scratch_0 ?_
  refine g_iconst dX10_scratch_1 ?_
  refine g_pI0 lf_X10_39 (S.l 50 rfl) (S.k 50 rfl rfl) dX10_scratch_2 ?_
  show gY _ _ _ _ _ _ _ _ _ _ _ _ _ (mT h)
  generalize mT h = h at S W ⊢
  refine g_aL0 dX10_scratch_5 ?_
  refine g_iconst dX10_scratch_6 ?_
  refine g_iL1 dX10_scratch_7 ?_
  refine g_iL2 dX10_scratch_8 ?_
  refine e_v3i W lm_X10_538 dX10_scratch_9 (S.l 50 rfl) (S.k 50 rfl rfl) rfl rfl rfl rfl ?_
  exact e_zret rfl hr dX10_scratch_12 rfl rfl rfl rfl
theorem n_cover {h : Hp} (S : SX (mT h)) (p x : Int32) {r : Int32} (hr : r = 0 ∨ r = 1) {h2 : Hp} (W : gCi 3 0 0 yX10_marksCell cX10_marksCell 4 (some .boolean) [.ref 50, .int (nI 8), .int p, .int x] (mT h) (some (.int r)) h2) : gCi 4 0 0 yX10_cover cX10_cover 3 (some .boolean) [.ref 50, .int p, .int x] h (some (.int r)) h2 := by
  refine g_entry (lv := [.ref 50, .int p, .int x]) 0 pn_X10 rfl rfl rfl ?_
  refine g_aL0 dX10_cover_0 ?_
  refine g_iconst dX10_cover_1 ?_
  refine g_pI0 lf_X10_39 (S.l 50 rfl) (S.k 50 rfl rfl) dX10_cover_2 ?_
  show gY _ _ _ _ _ _ _ _ _ _ _ _ _ (mT h)
  generalize mT h = h at S W ⊢
  refine g_aL0 dX10_cover_5 ?_
  refine g_bipush dX10_cover_6 ?_
  refine g_iL1 dX10_cover_8 ?_
  refine g_iL2 dX10_cover_9 ?_
  refine e_v3i W lm_X10_538 dX10_cover_10 (S.l 50 rfl) (S.k 50 rfl rfl) rfl rfl rfl rfl ?_
  exact e_zret rfl hr dX10_cover_13 rfl rfl rfl rfl
theorem z_marksCell {h : Hp} (S : SX h) (hz : gR h 50 3 = none) (a p x : Int32) : gCi 3 0 0 yX10_marksCell cX10_marksCell 4 (some .boolean) [.ref 50, .int a, .int p, .int x] h (some (.int 0)) (mR h 1) := by
  refine g_entry (lv := [.ref 50, .int a, .int p, .int x]) 0 pn_X10 rfl rfl rfl ?_
  refine g_aL0 dX10_marksCell_0 ?_
  refine g_iL2 dX10_marksCell_1 ?_
  refine g_iL3 dX10_marksCell_2 ?_
  refine e_v2i (z_isCell S hz _ _) lm_X10_526 dX10_marksCell_3 (S.l 50 rfl) (S.k 50 rfl rfl) rfl rfl rfl rfl ?_
  refine g_ifne dX10_marksCell_6 (fun c6 => absurd rfl c6) (fun c6 => ?_)
  refine g_aL0 dX10_marksCell_9 ?_
  refine g_iconst dX10_marksCell_10 ?_
  refine e_v1i (d_denied S _) lm_X10_529 dX10_marksCell_11 (S.l 50 rfl) (S.k 50 rfl rfl) rfl rfl rfl rfl ?_
  exact e_zret rfl (by decide) dX10_marksCell_14 rfl rfl rfl rfl

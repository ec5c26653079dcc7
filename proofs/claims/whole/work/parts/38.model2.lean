/-! THE REFERENCE: calls about panes -/
theorem n_word {h : Hp} {c : Nat} {cn : Nat → Nat} (X : MX (mT h) c cn) (p : Int32) : gCi 1 0 0 yX10_word cX10_word 2 (some .int) [.ref 50, .int p] h (some (.int (if (ipF p (nI (cn 2))) = 0 then -1 else gI (mT h) (c + 3) (pn p)))) (mR (mT h) (if (ipF p (nI (cn 2))) = 0 then 1 else 0)) := by
  refine g_entry (lv := [.ref 50, .int p]) 0 pn_X10 rfl rfl rfl ?_
  refine g_aL0 dX10_word_0 ?_
  refine g_iconst dX10_word_1 ?_
  refine g_pI0 lf_X10_39 (X.S.l 50 rfl) (X.S.k 50 rfl rfl) dX10_word_2 ?_
  show gY _ _ _ _ _ _ _ _ _ _ _ _ _ (mT h)
  generalize mT h = h at X ⊢
  refine g_aL0 dX10_word_5 ?_
  refine g_iL1 dX10_word_6 ?_
  refine e_v1i (d_isWordOf X _) lm_X10_395 dX10_word_7 (X.S.l 50 rfl) (X.S.k 50 rfl rfl) rfl rfl rfl rfl ?_
  refine g_ifeq dX10_word_10 (fun c10 => ?_) (fun c10 => ?_)
  · refine g_aL0 dX10_word_29 ?_
    refine g_iconst dX10_word_30 ?_
    refine e_v1i (d_refused X.S _) lm_X10_45 dX10_word_31 (X.S.l 50 rfl) (X.S.k 50 rfl rfl) rfl rfl rfl rfl ?_
    exact e_iret rfl dX10_word_34 rfl rfl (if_pos c10).symm (by rw [if_pos c10])
  · obtain ⟨P, hP, rfl⟩ := ip1 (by have := X.b2; omega) c10
    have hP8 : P < 8 := by have := X.b2; omega
    have eP := pn_nI (n := P) (by omega)
    refine g_aL0 dX10_word_13 ?_
    refine g_aL0 dX10_word_14 ?_
    refine g_getR lf_X10_359 (X.S.l 50 rfl) (X.S.k 50 rfl rfl) X.C dX10_word_15 ?_
    refine g_getRn lf_X10_292 (X.M.l 0 rfl) (X.M.k 0 rfl rfl) (X.M.r 17 (j := 3) rfl) dX10_word_18 ?_
    refine g_iL1 dX10_word_21 ?_
    refine g_ialoadN (X.M.l 3 rfl) (X.M.k 3 rfl rfl) (X.M.n 3 (n := 8) rfl rfl) hP8 (by decide) dX10_word_22 ?_
    refine e_v1i (d_good X.S _) lm_X10_49 dX10_word_23 (X.S.l 50 rfl) (X.S.k 50 rfl rfl) rfl rfl rfl rfl ?_
    refine g_goto dX10_word_26 ?_
    exact e_iret rfl dX10_word_34 rfl rfl (by rw [if_neg c10, eP]) (by rw [if_neg c10])
theorem z_word {h : Hp} (S : SX (mT h)) (hz : gR (mT h) 50 3 = none) (p : Int32) : gCi 1 0 0 yX10_word cX10_word 2 (some .int) [.ref 50, .int p] h (some (.int (-1))) (mR (mT h) 1) := by
  refine g_entry (lv := [.ref 50, .int p]) 0 pn_X10 rfl rfl rfl ?_
  refine g_aL0 dX10_word_0 ?_
  refine g_iconst dX10_word_1 ?_
  refine g_pI0 lf_X10_39 (S.l 50 rfl) (S.k 50 rfl rfl) dX10_word_2 ?_
  show gY _ _ _ _ _ _ _ _ _ _ _ _ _ (mT h)
  generalize mT h = h at S hz ⊢
  refine g_aL0 dX10_word_5 ?_
  refine g_iL1 dX10_word_6 ?_
  refine e_v1i (z_isWordOf S hz _) lm_X10_395 dX10_word_7 (S.l 50 rfl) (S.k 50 rfl rfl) rfl rfl rfl rfl ?_
  refine g_ifeq dX10_word_10 (fun c10 => ?_) (fun c10 => absurd rfl c10)
  refine g_aL0 dX10_word_29 ?_
  refine g_iconst dX10_word_30 ?_
  refine e_v1i (d_refused S _) lm_X10_45 dX10_word_31 (S.l 50 rfl) (S.k 50 rfl rfl) rfl rfl rfl rfl ?_
  exact e_iret rfl dX10_word_34 rfl rfl rfl rfl
theorem n_view {h : Hp} {c : Nat} {cn : Nat → Nat} (X : MX (mT h) c cn) (p : Int32) : gCi 1 0 0 yX10_view cX10_view 2 (some .int) [.ref 50, .int p] h (some (.int (if (ipF p (nI (cn 3))) = 0 then -1 else gI (mT h) (c + 4) (pn p)))) (mR (mT h) (if (ipF p (nI (cn 3))) = 0 then 1 else 0)) := by
  refine g_entry (lv := [.ref 50, .int p]) 0 pn_X10 rfl rfl rfl ?_
  refine g_aL0 dX10_view_0 ?_
  refine g_iconst dX10_view_1 ?_
  refine g_pI0 lf_X10_39 (X.S.l 50 rfl) (X.S.k 50 rfl rfl) dX10_view_2 ?_
  show gY _ _ _ _ _ _ _ _ _ _ _ _ _ (mT h)
  generalize mT h = h at X ⊢
  refine g_aL0 dX10_view_5 ?_
  refine g_getR lf_X10_359 (X.S.l 50 rfl) (X.S.k 50 rfl rfl) X.C dX10_view_6 ?_
  refine g_ifnullS dX10_view_9 ?_
  refine g_iL1 dX10_view_12 ?_
  refine g_iflt dX10_view_13 (fun c13 => ?_) (fun c13 => ?_)
  · refine g_aL0 dX10_view_43 ?_
    refine g_iconst dX10_view_44 ?_
    refine e_v1i (d_refused X.S _) lm_X10_45 dX10_view_45 (X.S.l 50 rfl) (X.S.k 50 rfl rfl) rfl rfl rfl rfl ?_
    exact e_iret rfl dX10_view_48 rfl rfl (if_pos (show ipF p (nI (cn 3)) = 0 from (if_pos c13))).symm (by rw [if_pos (show ipF p (nI (cn 3)) = 0 from (if_pos c13))])
  · refine g_iL1 dX10_view_16 ?_
    refine g_aL0 dX10_view_17 ?_
    refine g_getR lf_X10_359 (X.S.l 50 rfl) (X.S.k 50 rfl rfl) X.C dX10_view_18 ?_
    refine g_gI lf_X10_294 (X.M.l 0 rfl) (X.M.k 0 rfl rfl) dX10_view_21 ?_
    rw [X.c3]
    refine g_icge dX10_view_24 (fun c24 => ?_) (fun c24 => ?_)
    · refine g_aL0 dX10_view_43 ?_
      refine g_iconst dX10_view_44 ?_
      refine e_v1i (d_refused X.S _) lm_X10_45 dX10_view_45 (X.S.l 50 rfl) (X.S.k 50 rfl rfl) rfl rfl rfl rfl ?_
      exact e_iret rfl dX10_view_48 rfl rfl (if_pos (show ipF p (nI (cn 3)) = 0 from ((if_neg c13).trans (if_pos c24)))).symm (by rw [if_pos (show ipF p (nI (cn 3)) = 0 from ((if_neg c13).trans (if_pos c24)))])
    · have e3 : ¬ ipF p (nI (cn 3)) = 0 := by rw [show ipF p (nI (cn 3)) = 1 from (if_neg c13).trans (if_neg c24)]; decide
      obtain ⟨P, hP, rfl⟩ := ip1 (by have := X.b3; omega) e3
      have hP8 : P < 6 := by have := X.b3; omega
      have eP := pn_nI (n := P) (by omega)
      refine g_aL0 dX10_view_27 ?_
      refine g_aL0 dX10_view_28 ?_
      refine g_getR lf_X10_359 (X.S.l 50 rfl) (X.S.k 50 rfl rfl) X.C dX10_view_29 ?_
      refine g_getRn lf_X10_297 (X.M.l 0 rfl) (X.M.k 0 rfl rfl) (X.M.r 18 (j := 4) rfl) dX10_view_32 ?_
      refine g_iL1 dX10_view_35 ?_
      refine g_ialoadN (X.M.l 4 rfl) (X.M.k 4 rfl rfl) (X.M.n 4 (n := 6) rfl rfl) hP8 (by decide) dX10_view_36 ?_
      refine e_v1i (d_good X.S _) lm_X10_49 dX10_view_37 (X.S.l 50 rfl) (X.S.k 50 rfl rfl) rfl rfl rfl rfl ?_
      refine g_goto dX10_view_40 ?_
      exact e_iret rfl dX10_view_48 rfl rfl (by rw [if_neg e3, eP]) (by rw [if_neg e3])
theorem z_view {h : Hp} (S : SX (mT h)) (hz : gR (mT h) 50 3 = none) (p : Int32) : gCi 1 0 0 yX10_view cX10_view 2 (some .int) [.ref 50, .int p] h (some (.int (-1))) (mR (mT h) 1) := by
  refine g_entry (lv := [.ref 50, .int p]) 0 pn_X10 rfl rfl rfl ?_
  refine g_aL0 dX10_view_0 ?_
  refine g_iconst dX10_view_1 ?_
  refine g_pI0 lf_X10_39 (S.l 50 rfl) (S.k 50 rfl rfl) dX10_view_2 ?_
  show gY _ _ _ _ _ _ _ _ _ _ _ _ _ (mT h)
  generalize mT h = h at S hz ⊢
  refine g_aL0 dX10_view_5 ?_
  refine g_getN0 lf_X10_359 (S.l 50 rfl) (S.k 50 rfl rfl) hz dX10_view_6 ?_
  refine g_ifnullZ dX10_view_9 ?_
  refine g_aL0 dX10_view_43 ?_
  refine g_iconst dX10_view_44 ?_
  refine e_v1i (d_refused S _) lm_X10_45 dX10_view_45 (S.l 50 rfl) (S.k 50 rfl rfl) rfl rfl rfl rfl ?_
  exact e_iret rfl dX10_view_48 rfl rfl rfl rfl
theorem n_seen {h : Hp} {c : Nat} {cn : Nat → Nat} (X : MX (mT h) c cn) (p v : Int32) : gCi 3 0 0 yX10_seen cX10_seen 4 (some .int) [.ref 50, .int p, .int v] h (some (.int (if (wnF (ipF p (nI (cn 1))) (siF v (nI (cn 3))) (thF (gI (mT h) 52 16) p)) = 0 then seM (mT h) c (pn p) v else -1))) (mR (mT h) (wnF (ipF p (nI (cn 1))) (siF v (nI (cn 3))) (thF (gI (mT h) 52 16) p))) := by
  refine g_entry (lv := [.ref 50, .int p, .int v, .retAddr 0]) 1 pn_X10 rfl rfl rfl ?_
  refine g_aL0 dX10_seen_0 ?_
  refine g_iconst dX10_seen_1 ?_
  refine g_pI0 lf_X10_39 (X.S.l 50 rfl) (X.S.k 50 rfl rfl) dX10_seen_2 ?_
  show gY _ _ _ _ _ _ _ _ _ _ _ _ _ (mT h)
  generalize mT h = h at X ⊢
  refine g_aL0 dX10_seen_5 ?_
  refine g_iL1 dX10_seen_6 ?_
  refine g_iL2 dX10_seen_7 ?_
  refine e_v2i (d_refusesSeen X _ _) lm_X10_398 dX10_seen_8 (X.S.l 50 rfl) (X.S.k 50 rfl rfl) rfl rfl rfl rfl ?_
  refine g_iS3 dX10_seen_11 rfl rfl ?_
  refine g_iL3 dX10_seen_12 ?_
  refine g_ifle dX10_seen_13 (fun c13 => ?_) (fun c13 => ?_)
  · obtain ⟨P, hP, rfl⟩ := ip1 (by have := X.b1; omega) (wn0 (wn_le c13)).1
    have hP8 : P < 8 := by have := X.b1; omega
    have eP := pn_nI (n := P) (by omega)
    have hv : ¬ siF v (nI (cn 3)) = 0 := (wn0 (wn_le c13)).2.1
    refine g_aL0 dX10_seen_24 ?_
    refine g_aL0 dX10_seen_25 ?_
    refine g_iL1 dX10_seen_26 ?_
    refine g_iL2 dX10_seen_27 ?_
    refine e_v2i (d_seenOf X hP8 hv) lm_X10_401 dX10_seen_28 (X.S.l 50 rfl) (X.S.k 50 rfl rfl) rfl rfl rfl rfl ?_
    refine e_v1i (d_good X.S _) lm_X10_49 dX10_seen_31 (X.S.l 50 rfl) (X.S.k 50 rfl rfl) rfl rfl rfl rfl ?_
    exact e_iret rfl dX10_seen_34 rfl rfl (by rw [if_pos (wn_le c13), eP]) (by rw [wn_le c13])
  · refine g_aL0 dX10_seen_16 ?_
    refine g_iL3 dX10_seen_17 ?_
    refine e_v1i (d_refused X.S _) lm_X10_45 dX10_seen_18 (X.S.l 50 rfl) (X.S.k 50 rfl rfl) rfl rfl rfl rfl ?_
    refine g_goto dX10_seen_21 ?_
    exact e_iret rfl dX10_seen_34 rfl rfl (by rw [if_neg (wn_gt c13)]) rfl
theorem z_seen {h : Hp} (S : SX (mT h)) (hz : gR (mT h) 50 3 = none) (p v : Int32) : gCi 3 0 0 yX10_seen cX10_seen 4 (some .int) [.ref 50, .int p, .int v] h (some (.int (-1))) (mR (mT h) 1) := by
  refine g_entry (lv := [.ref 50, .int p, .int v, .retAddr 0]) 1 pn_X10 rfl rfl rfl ?_
  refine g_aL0 dX10_seen_0 ?_
  refine g_iconst dX10_seen_1 ?_
  refine g_pI0 lf_X10_39 (S.l 50 rfl) (S.k 50 rfl rfl) dX10_seen_2 ?_
  show gY _ _ _ _ _ _ _ _ _ _ _ _ _ (mT h)
  generalize mT h = h at S hz ⊢
  refine g_aL0 dX10_seen_5 ?_
  refine g_iL1 dX10_seen_6 ?_
  refine g_iL2 dX10_seen_7 ?_
  refine e_v2i (z_refusesSeen S hz _ _) lm_X10_398 dX10_seen_8 (S.l 50 rfl) (S.k 50 rfl rfl) rfl rfl rfl rfl ?_
  refine g_iS3 dX10_seen_11 rfl rfl ?_
  refine g_iL3 dX10_seen_12 ?_
  refine g_ifle dX10_seen_13 (fun c13 => absurd c13 (by decide)) (fun c13 => ?_)
  refine g_aL0 dX10_seen_16 ?_
  refine g_iL3 dX10_seen_17 ?_
  refine e_v1i (d_refused S _) lm_X10_45 dX10_seen_18 (S.l 50 rfl) (S.k 50 rfl rfl) rfl rfl rfl rfl ?_
  refine g_goto dX10_seen_21 ?_
  exact e_iret rfl dX10_seen_34 rfl rfl rfl rfl
theorem n_read {h : Hp} {c : Nat} {cn : Nat → Nat} (X : MX (mT h) c cn) (p v : Int32) : gCi 3 0 0 yX10_read cX10_read 4 (some .int) [.ref 50, .int p, .int v] h (some (.int (if (wnF (ipF p (nI (cn 1))) (siF v (nI (cn 3))) (thF (gI (mT h) 52 16) p)) = 0 then fwF (gI (mT h) (c + 3)) (seM (mT h) c (pn p) v) (cn 2) 0 else -1))) (mR (mT h) (wnF (ipF p (nI (cn 1))) (siF v (nI (cn 3))) (thF (gI (mT h) 52 16) p))) := by
  refine g_entry (lv := [.ref 50, .int p, .int v, .retAddr 0]) 1 pn_X10 rfl rfl rfl ?_
  refine g_aL0 dX10_read_0 ?_
  refine g_iconst dX10_read_1 ?_
  refine g_pI0 lf_X10_39 (X.S.l 50 rfl) (X.S.k 50 rfl rfl) dX10_read_2 ?_
  show gY _ _ _ _ _ _ _ _ _ _ _ _ _ (mT h)
  generalize mT h = h at X ⊢
  refine g_aL0 dX10_read_5 ?_
  refine g_iL1 dX10_read_6 ?_
  refine g_iL2 dX10_read_7 ?_
  refine e_v2i (d_refusesSeen X _ _) lm_X10_398 dX10_read_8 (X.S.l 50 rfl) (X.S.k 50 rfl rfl) rfl rfl rfl rfl ?_
  refine g_iS3 dX10_read_11 rfl rfl ?_
  refine g_iL3 dX10_read_12 ?_
  refine g_ifle dX10_read_13 (fun c13 => ?_) (fun c13 => ?_)
  · obtain ⟨P, hP, rfl⟩ := ip1 (by have := X.b1; omega) (wn0 (wn_le c13)).1
    have hP8 : P < 8 := by have := X.b1; omega
    have eP := pn_nI (n := P) (by omega)
    have hv : ¬ siF v (nI (cn 3)) = 0 := (wn0 (wn_le c13)).2.1
    refine g_aL0 dX10_read_24 ?_
    refine g_aL0 dX10_read_25 ?_
    refine g_aL0 dX10_read_26 ?_
    refine g_iL1 dX10_read_27 ?_
    refine g_iL2 dX10_read_28 ?_
    refine e_v2i (d_seenOf X hP8 hv) lm_X10_401 dX10_read_29 (X.S.l 50 rfl) (X.S.k 50 rfl rfl) rfl rfl rfl rfl ?_
    refine e_v1i (d_readOf X _) lm_X10_404 dX10_read_32 (X.S.l 50 rfl) (X.S.k 50 rfl rfl) rfl rfl rfl rfl ?_
    refine e_v1i (d_good X.S _) lm_X10_49 dX10_read_35 (X.S.l 50 rfl) (X.S.k 50 rfl rfl) rfl rfl rfl rfl ?_
    exact e_iret rfl dX10_read_38 rfl rfl (by rw [if_pos (wn_le c13), eP]) (by rw [wn_le c13])
  · refine g_aL0 dX10_read_16 ?_
    refine g_iL3 dX10_read_17 ?_
    refine e_v1i (d_refused X.S _) lm_X10_45 dX10_read_18 (X.S.l 50 rfl) (X.S.k 50 rfl rfl) rfl rfl rfl rfl ?_
    refine g_goto dX10_read_21 ?_
    exact e_iret rfl dX10_read_38 rfl rfl (by rw [if_neg (wn_gt c13)]) rfl
theorem z_read {h : Hp} (S : SX (mT h)) (hz : gR (mT h) 50 3 = none) (p v : Int32) : gCi 3 0 0 yX10_read cX10_read 4 (some .int) [.ref 50, .int p, .int v] h (some (.int (-1))) (mR (mT h) 1) := by
  refine g_entry (lv := [.ref 50, .int p, .int v, .retAddr 0]) 1 pn_X10 rfl rfl rfl ?_
  refine g_aL0 dX10_read_0 ?_
  refine g_iconst dX10_read_1 ?_
  refine g_pI0 lf_X10_39 (S.l 50 rfl) (S.k 50 rfl rfl) dX10_read_2 ?_
  show gY _ _ _ _ _ _ _ _ _ _ _ _ _ (mT h)
  generalize mT h = h at S hz ⊢
  refine g_aL0 dX10_read_5 ?_
  refine g_iL1 dX10_read_6 ?_
  refine g_iL2 dX10_read_7 ?_
  refine e_v2i (z_refusesSeen S hz _ _) lm_X10_398 dX10_read_8 (S.l 50 rfl) (S.k 50 rfl rfl) rfl rfl rfl rfl ?_
  refine g_iS3 dX10_read_11 rfl rfl ?_
  refine g_iL3 dX10_read_12 ?_
  refine g_ifle dX10_read_13 (fun c13 => absurd c13 (by decide)) (fun c13 => ?_)
  refine g_aL0 dX10_read_16 ?_
  refine g_iL3 dX10_read_17 ?_
  refine e_v1i (d_refused S _) lm_X10_45 dX10_read_18 (S.l 50 rfl) (S.k 50 rfl rfl) rfl rfl rfl rfl ?_
  refine g_goto dX10_read_21 ?_
  exact e_iret rfl dX10_read_38 rfl rfl rfl rfl
def rtF (ia ib e ba bb : Int32) : Int32 := if ia = 0 then 1 else if ib = 0 then 1 else if e = 0 then 1 else if ba = 0 then (if bb = 0 then 0 else 5) else 5
def rtM (h : Hp) (cn : Nat → Nat) (p q : Int32) : Int32 := (if (ipF p (nI (cn 1))) = 0 then 1 else if (ipF q (nI (cn 1))) = 0 then 1 else if p = q then 1 else if (thF (gI h 52 16) p) = 0 then (if (thF (gI h 52 16) q) = 0 then 0 else 5) else 5)
theorem d_refusesTogether {h : Hp} {c : Nat} {cn : Nat → Nat} (X : MX h c cn) (p q : Int32) : gCi 2 0 0 yX10_refusesTogether cX10_refusesTogether 3 (some .int) [.ref 50, .int p, .int q] h (some (.int (rtM h cn p q))) h := by
  refine g_entry (lv := [.ref 50, .int p, .int q]) 0 pn_X10 rfl rfl rfl ?_
  refine g_aL0 dX10_refusesTogether_0 ?_
  refine g_iL1 dX10_refusesTogether_1 ?_
  refine e_v1i (d_isPane X _) lm_X10_377 dX10_refusesTogether_2 (X.S.l 50 rfl) (X.S.k 50 rfl rfl) rfl rfl rfl rfl ?_
  refine g_ifeq dX10_refusesTogether_5 (fun c5 => ?_) (fun c5 => ?_)
  · refine g_iconst dX10_refusesTogether_21 ?_
    refine g_goto dX10_refusesTogether_22 ?_
    exact e_iret rfl dX10_refusesTogether_46 rfl rfl (if_pos c5).symm rfl
  · refine g_aL0 dX10_refusesTogether_8 ?_
    refine g_iL2 dX10_refusesTogether_9 ?_
    refine e_v1i (d_isPane X _) lm_X10_377 dX10_refusesTogether_10 (X.S.l 50 rfl) (X.S.k 50 rfl rfl) rfl rfl rfl rfl ?_
    refine g_ifeq dX10_refusesTogether_13 (fun c13 => ?_) (fun c13 => ?_)
    · refine g_iconst dX10_refusesTogether_21 ?_
      refine g_goto dX10_refusesTogether_22 ?_
      exact e_iret rfl dX10_refusesTogether_46 rfl rfl ((if_neg c5).trans (if_pos c13)).symm rfl
    · refine g_iL1 dX10_refusesTogether_16 ?_
      refine g_iL2 dX10_refusesTogether_17 ?_
      refine g_icne dX10_refusesTogether_18 (fun c18 => ?_) (fun c18 => ?_)
      · refine g_aL0 dX10_refusesTogether_25 ?_
        refine g_iL1 dX10_refusesTogether_26 ?_
        refine e_v1i (d_isBroken X.S _) lm_X10_383 dX10_refusesTogether_27 (X.S.l 50 rfl) (X.S.k 50 rfl rfl) rfl rfl rfl rfl ?_
        refine g_ifne dX10_refusesTogether_30 (fun c30 => ?_) (fun c30 => ?_)
        · refine g_iconst dX10_refusesTogether_41 ?_
          refine g_goto dX10_refusesTogether_42 ?_
          exact e_iret rfl dX10_refusesTogether_46 rfl rfl ((if_neg c5).trans ((if_neg c13).trans ((if_neg c18).trans (if_neg c30)))).symm rfl
        · refine g_aL0 dX10_refusesTogether_33 ?_
          refine g_iL2 dX10_refusesTogether_34 ?_
          refine e_v1i (d_isBroken X.S _) lm_X10_383 dX10_refusesTogether_35 (X.S.l 50 rfl) (X.S.k 50 rfl rfl) rfl rfl rfl rfl ?_
          refine g_ifeq dX10_refusesTogether_38 (fun c38 => ?_) (fun c38 => ?_)
          · refine g_iconst dX10_refusesTogether_45 ?_
            exact e_iret rfl dX10_refusesTogether_46 rfl rfl ((if_neg c5).trans ((if_neg c13).trans ((if_neg c18).trans ((if_pos c30).trans (if_pos c38))))).symm rfl
          · refine g_iconst dX10_refusesTogether_41 ?_
            refine g_goto dX10_refusesTogether_42 ?_
            exact e_iret rfl dX10_refusesTogether_46 rfl rfl ((if_neg c5).trans ((if_neg c13).trans ((if_neg c18).trans ((if_pos c30).trans (if_neg c38))))).symm rfl
      · refine g_iconst dX10_refusesTogether_21 ?_
        refine g_goto dX10_refusesTogether_22 ?_
        exact e_iret rfl dX10_refusesTogether_46 rfl rfl ((if_neg c5).trans ((if_neg c13).trans (if_pos c18))).symm rfl
theorem rt_le {h : Hp} {cn : Nat → Nat} {p q : Int32} (z : rtM h cn p q ≤ 0) : rtM h cn p q = 0 ∧ ¬ ipF p (nI (cn 1)) = 0 ∧ ¬ ipF q (nI (cn 1)) = 0 := by
  unfold rtM at z ⊢
  split at z
  · exact absurd z (by decide)
  · rename_i a
    split at z
    · exact absurd z (by decide)
    · rename_i b
      rw [if_neg a, if_neg b]
      refine ⟨?_, a, b⟩
      split at z
      · exact absurd z (by decide)
      · rename_i e
        rw [if_neg e]
        split at z
        · rename_i f
          rw [if_pos f]
          split at z
          · rename_i g; rw [if_pos g]
          · exact absurd z (by decide)
        · exact absurd z (by decide)
theorem rt_gt {h : Hp} {cn : Nat → Nat} {p q : Int32} (z : ¬ rtM h cn p q ≤ 0) : ¬ rtM h cn p q = 0 := fun e => z (by rw [e]; decide)
theorem z_refusesTogether {h : Hp} (S : SX h) (hz : gR h 50 3 = none) (p q : Int32) : gCi 2 0 0 yX10_refusesTogether cX10_refusesTogether 3 (some .int) [.ref 50, .int p, .int q] h (some (.int 1)) h := by
  refine g_entry (lv := [.ref 50, .int p, .int q]) 0 pn_X10 rfl rfl rfl ?_
  refine g_aL0 dX10_refusesTogether_0 ?_
  refine g_iL1 dX10_refusesTogether_1 ?_
  refine e_v1i (z_isPane S hz _) lm_X10_377 dX10_refusesTogether_2 (S.l 50 rfl) (S.k 50 rfl rfl) rfl rfl rfl rfl ?_
  refine g_ifeq dX10_refusesTogether_5 (fun c5 => ?_) (fun c5 => absurd rfl c5)
  refine g_iconst dX10_refusesTogether_21 ?_
  refine g_goto dX10_refusesTogether_22 ?_
  exact e_iret rfl dX10_refusesTogether_46 rfl rfl rfl rfl
theorem n_together {h : Hp} {c : Nat} {cn : Nat → Nat} (X : MX (mT h) c cn) (p q : Int32) : gCi 3 0 0 yX10_together cX10_together 4 (some .int) [.ref 50, .int p, .int q] h (some (.int (if rtM (mT h) cn p q = 0 then shM (mT h) (pn p) ||| shM (mT h) (pn q) else -1))) (mR (mT h) (rtM (mT h) cn p q)) := by
  refine g_entry (lv := [.ref 50, .int p, .int q, .retAddr 0]) 1 pn_X10 rfl rfl rfl ?_
  refine g_aL0 dX10_together_0 ?_
  refine g_iconst dX10_together_1 ?_
  refine g_pI0 lf_X10_39 (X.S.l 50 rfl) (X.S.k 50 rfl rfl) dX10_together_2 ?_
  show gY _ _ _ _ _ _ _ _ _ _ _ _ _ (mT h)
  generalize mT h = h at X ⊢
  refine g_aL0 dX10_together_5 ?_
  refine g_iL1 dX10_together_6 ?_
  refine g_iL2 dX10_together_7 ?_
  refine e_v2i (d_refusesTogether X _ _) lm_X10_407 dX10_together_8 (X.S.l 50 rfl) (X.S.k 50 rfl rfl) rfl rfl rfl rfl ?_
  refine g_iS3 dX10_together_11 rfl rfl ?_
  refine g_iL3 dX10_together_12 ?_
  refine g_ifle dX10_together_13 (fun c13 => ?_) (fun c13 => ?_)
  · obtain ⟨er, ea, eb⟩ := rt_le c13
    obtain ⟨P, hP, rfl⟩ := ip1 (by have := X.b1; omega) ea
    obtain ⟨Q, hQ, rfl⟩ := ip1 (by have := X.b1; omega) eb
    have hP8 : P < 8 := by have := X.b1; omega
    have hQ8 : Q < 8 := by have := X.b1; omega
    have eP := pn_nI (n := P) (by omega)
    have eQ := pn_nI (n := Q) (by omega)
    refine g_aL0 dX10_together_24 ?_
    refine g_aL0 dX10_together_25 ?_
    refine g_iL1 dX10_together_26 ?_
    refine e_v1i (d_shownBy X.S hP8) lm_X10_371 dX10_together_27 (X.S.l 50 rfl) (X.S.k 50 rfl rfl) rfl rfl rfl rfl ?_
    refine g_aL0 dX10_together_30 ?_
    refine g_iL2 dX10_together_31 ?_
    refine e_v1i (d_shownBy X.S hQ8) lm_X10_371 dX10_together_32 (X.S.l 50 rfl) (X.S.k 50 rfl rfl) rfl rfl rfl rfl ?_
    refine g_ior dX10_together_35 ?_
    refine e_v1i (d_good X.S _) lm_X10_49 dX10_together_36 (X.S.l 50 rfl) (X.S.k 50 rfl rfl) rfl rfl rfl rfl ?_
    exact e_iret rfl dX10_together_39 rfl rfl (by rw [if_pos er, eP, eQ]) (by rw [er])
  · refine g_aL0 dX10_together_16 ?_
    refine g_iL3 dX10_together_17 ?_
    refine e_v1i (d_refused X.S _) lm_X10_45 dX10_together_18 (X.S.l 50 rfl) (X.S.k 50 rfl rfl) rfl rfl rfl rfl ?_
    refine g_goto dX10_together_21 ?_
    exact e_iret rfl dX10_together_39 rfl rfl (by rw [if_neg (rt_gt c13)]) rfl
theorem z_together {h : Hp} (S : SX (mT h)) (hz : gR (mT h) 50 3 = none) (p q : Int32) : gCi 3 0 0 yX10_together cX10_together 4 (some .int) [.ref 50, .int p, .int q] h (some (.int (-1))) (mR (mT h) 1) := by
  refine g_entry (lv := [.ref 50, .int p, .int q, .retAddr 0]) 1 pn_X10 rfl rfl rfl ?_
  refine g_aL0 dX10_together_0 ?_
  refine g_iconst dX10_together_1 ?_
  refine g_pI0 lf_X10_39 (S.l 50 rfl) (S.k 50 rfl rfl) dX10_together_2 ?_
  show gY _ _ _ _ _ _ _ _ _ _ _ _ _ (mT h)
  generalize mT h = h at S hz ⊢
  refine g_aL0 dX10_together_5 ?_
  refine g_iL1 dX10_together_6 ?_
  refine g_iL2 dX10_together_7 ?_
  refine e_v2i (z_refusesTogether S hz _ _) lm_X10_407 dX10_together_8 (S.l 50 rfl) (S.k 50 rfl rfl) rfl rfl rfl rfl ?_
  refine g_iS3 dX10_together_11 rfl rfl ?_
  refine g_iL3 dX10_together_12 ?_
  refine g_ifle dX10_together_13 (fun c13 => absurd c13 (by decide)) (fun c13 => ?_)
  refine g_aL0 dX10_together_16 ?_
  refine g_iL3 dX10_together_17 ?_
  refine e_v1i (d_refused S _) lm_X10_45 dX10_together_18 (S.l 50 rfl) (S.k 50 rfl rfl) rfl rfl rfl rfl ?_
  refine g_goto dX10_together_21 ?_
  exact e_iret rfl dX10_together_39 rfl rfl rfl rfl
theorem n_readTogether {h : Hp} {c : Nat} {cn : Nat → Nat} (X : MX (mT h) c cn) (p q : Int32) : gCi 3 0 0 yX10_readTogether cX10_readTogether 4 (some .int) [.ref 50, .int p, .int q] h (some (.int (if rtM (mT h) cn p q = 0 then fwF (gI (mT h) (c + 3)) (shM (mT h) (pn p) ||| shM (mT h) (pn q)) (cn 2) 0 else -1))) (mR (mT h) (rtM (mT h) cn p q)) := by
  refine g_entry (lv := [.ref 50, .int p, .int q, .retAddr 0]) 1 pn_X10 rfl rfl rfl ?_
  refine g_aL0 dX10_readTogether_0 ?_
  refine g_iconst dX10_readTogether_1 ?_
  refine g_pI0 lf_X10_39 (X.S.l 50 rfl) (X.S.k 50 rfl rfl) dX10_readTogether_2 ?_
  show gY _ _ _ _ _ _ _ _ _ _ _ _ _ (mT h)
  generalize mT h = h at X ⊢
  refine g_aL0 dX10_readTogether_5 ?_
  refine g_iL1 dX10_readTogether_6 ?_
  refine g_iL2 dX10_readTogether_7 ?_
  refine e_v2i (d_refusesTogether X _ _) lm_X10_407 dX10_readTogether_8 (X.S.l 50 rfl) (X.S.k 50 rfl rfl) rfl rfl rfl rfl ?_
  refine g_iS3 dX10_readTogether_11 rfl rfl ?_
  refine g_iL3 dX10_readTogether_12 ?_
  refine g_ifle dX10_readTogether_13 (fun c13 => ?_) (fun c13 => ?_)
  · obtain ⟨er, ea, eb⟩ := rt_le c13
    obtain ⟨P, hP, rfl⟩ := ip1 (by have := X.b1; omega) ea
    obtain ⟨Q, hQ, rfl⟩ := ip1 (by have := X.b1; omega) eb
    have hP8 : P < 8 := by have := X.b1; omega
    have hQ8 : Q < 8 := by have := X.b1; omega
    have eP := pn_nI (n := P) (by omega)
    have eQ := pn_nI (n := Q) (by omega)
    refine g_aL0 dX10_readTogether_24 ?_
    refine g_aL0 dX10_readTogether_25 ?_
    refine g_aL0 dX10_readTogether_26 ?_
    refine g_iL1 dX10_readTogether_27 ?_
    refine e_v1i (d_shownBy X.S hP8) lm_X10_371 dX10_readTogether_28 (X.S.l 50 rfl) (X.S.k 50 rfl rfl) rfl rfl rfl rfl ?_
    refine g_aL0 dX10_readTogether_31 ?_
    refine g_iL2 dX10_readTogether_32 ?_
    refine e_v1i (d_shownBy X.S hQ8) lm_X10_371 dX10_readTogether_33 (X.S.l 50 rfl) (X.S.k 50 rfl rfl) rfl rfl rfl rfl ?_
    refine g_ior dX10_readTogether_36 ?_
    refine e_v1i (d_readOf X _) lm_X10_404 dX10_readTogether_37 (X.S.l 50 rfl) (X.S.k 50 rfl rfl) rfl rfl rfl rfl ?_
    refine e_v1i (d_good X.S _) lm_X10_49 dX10_readTogether_40 (X.S.l 50 rfl) (X.S.k 50 rfl rfl) rfl rfl rfl rfl ?_
    exact e_iret rfl dX10_readTogether_43 rfl rfl (by rw [if_pos er, eP, eQ]) (by rw [er])
  · refine g_aL0 dX10_readTogether_16 ?_
    refine g_iL3 dX10_readTogether_17 ?_
    refine e_v1i (d_refused X.S _) lm_X10_45 dX10_readTogether_18 (X.S.l 50 rfl) (X.S.k 50 rfl rfl) rfl rfl rfl rfl ?_
    refine g_goto dX10_readTogether_21 ?_
    exact e_iret rfl dX10_readTogether_43 rfl rfl (by rw [if_neg (rt_gt c13)]) rfl
theorem z_readTogether {h : Hp} (S : SX (mT h)) (hz : gR (mT h) 50 3 = none) (p q : Int32) : gCi 3 0 0 yX10_readTogether cX10_readTogether 4 (some .int) [.ref 50, .int p, .int q] h (some (.int (-1))) (mR (mT h) 1) := by
  refine g_entry (lv := [.ref 50, .int p, .int q, .retAddr 0]) 1 pn_X10 rfl rfl rfl ?_
  refine g_aL0 dX10_readTogether_0 ?_
  refine g_iconst dX10_readTogether_1 ?_
  refine g_pI0 lf_X10_39 (S.l 50 rfl) (S.k 50 rfl rfl) dX10_readTogether_2 ?_
  show gY _ _ _ _ _ _ _ _ _ _ _ _ _ (mT h)
  generalize mT h = h at S hz ⊢
  refine g_aL0 dX10_readTogether_5 ?_
  refine g_iL1 dX10_readTogether_6 ?_
  refine g_iL2 dX10_readTogether_7 ?_
  refine e_v2i (z_refusesTogether S hz _ _) lm_X10_407 dX10_readTogether_8 (S.l 50 rfl) (S.k 50 rfl rfl) rfl rfl rfl rfl ?_
  refine g_iS3 dX10_readTogether_11 rfl rfl ?_
  refine g_iL3 dX10_readTogether_12 ?_
  refine g_ifle dX10_readTogether_13 (fun c13 => absurd c13 (by decide)) (fun c13 => ?_)
  refine g_aL0 dX10_readTogether_16 ?_
  refine g_iL3 dX10_readTogether_17 ?_
  refine e_v1i (d_refused S _) lm_X10_45 dX10_readTogether_18 (S.l 50 rfl) (S.k 50 rfl rfl) rfl rfl rfl rfl ?_
  refine g_goto dX10_readTogether_21 ?_
  exact e_iret rfl dX10_readTogether_43 rfl rfl rfl rfl

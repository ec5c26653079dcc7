/-! THE REFERENCE: gain, scratches, could, viewsFor, pairFor -/
abbrev pcI (x : Int32) : Int32 := nI (pc32 x)
def whM (b wr : Int32) : Int32 := if wr = -2 then pcI b else -(pcI b)
def fsM (b wd dk pu : Int32) : Int32 := if b &&& (wd ^^^ (-1)) = 0 then (if (wd &&& (b ^^^ (-1))) &&& (dk ||| pu) = 0 then pcI (wd &&& (b ^^^ (-1))) else -2) else -2
abbrev rdM (h : Hp) (c : Nat) (cn : Nat → Nat) (p : Nat) (v : Int32) : Int32 := fwF (gI h (c + 3)) (seM h c p v) (cn 2) 0
def gnM (h : Hp) (c : Nat) (cn : Nat → Nat) (p : Nat) (v : Int32) : Int32 := whM (seM h c p v) (rdM h c cn p v)
theorem d_gainOf {h : Hp} {c : Nat} {cn : Nat → Nat} (X : MX h c cn) {P : Nat} (hP8 : P < 8) {v : Int32} (hv : ¬ siF v (nI (cn 3)) = 0) : gCi 2 0 0 yX10_gainOf cX10_gainOf 4 (some .int) [.ref 50, .int (nI P), .int v] h (some (.int (gnM h c cn P v))) h := by
  refine g_entry (lv := [.ref 50, .int (nI P), .int v, .retAddr 0]) 1 pn_X10 rfl rfl rfl ?_
  refine g_aL0 dX10_gainOf_0 ?_
  refine g_iL1 dX10_gainOf_1 ?_
  refine g_iL2 dX10_gainOf_2 ?_
  refine e_v2i (d_seenOf X hP8 hv) lm_X10_401 dX10_gainOf_3 (X.S.l 50 rfl) (X.S.k 50 rfl rfl) rfl rfl rfl rfl ?_
  refine g_iS3 dX10_gainOf_6 rfl rfl ?_
  refine g_aL0 dX10_gainOf_7 ?_
  refine g_iL3 dX10_gainOf_8 ?_
  refine e_v1i (d_readOf X _) lm_X10_404 dX10_gainOf_9 (X.S.l 50 rfl) (X.S.k 50 rfl rfl) rfl rfl rfl rfl ?_
  refine g_bipush dX10_gainOf_12 ?_
  refine g_icne dX10_gainOf_14 (fun c14 => ?_) (fun c14 => ?_)
  · refine g_iL3 dX10_gainOf_24 ?_
    refine e_s1i (d_bits _) lm_X10_392 dX10_gainOf_25 rfl rfl rfl rfl ?_
    refine g_ineg dX10_gainOf_28 ?_
    exact e_iret rfl dX10_gainOf_29 rfl rfl (if_neg c14).symm rfl
  · refine g_iL3 dX10_gainOf_17 ?_
    refine e_s1i (d_bits _) lm_X10_392 dX10_gainOf_18 rfl rfl rfl rfl ?_
    refine g_goto dX10_gainOf_21 ?_
    exact e_iret rfl dX10_gainOf_29 rfl rfl (if_pos c14).symm rfl
theorem n_gain {h : Hp} {c : Nat} {cn : Nat → Nat} (X : MX (mT h) c cn) (p v : Int32) : gCi 3 0 0 yX10_gain cX10_gain 4 (some .int) [.ref 50, .int p, .int v] h (some (.int (if (wnF (ipF p (nI (cn 1))) (siF v (nI (cn 3))) (thF (gI (mT h) 52 16) p)) = 0 then gnM (mT h) c cn (pn p) v else -100))) (mR (mT h) (wnF (ipF p (nI (cn 1))) (siF v (nI (cn 3))) (thF (gI (mT h) 52 16) p))) := by
  refine g_entry (lv := [.ref 50, .int p, .int v, .retAddr 0]) 1 pn_X10 rfl rfl rfl ?_
  refine g_aL0 dX10_gain_0 ?_
  refine g_iconst dX10_gain_1 ?_
  refine g_pI0 lf_X10_39 (X.S.l 50 rfl) (X.S.k 50 rfl rfl) dX10_gain_2 ?_
  show gY _ _ _ _ _ _ _ _ _ _ _ _ _ (mT h)
  generalize mT h = h at X ⊢
  refine g_aL0 dX10_gain_5 ?_
  refine g_iL1 dX10_gain_6 ?_
  refine g_iL2 dX10_gain_7 ?_
  refine e_v2i (d_refusesSeen X _ _) lm_X10_398 dX10_gain_8 (X.S.l 50 rfl) (X.S.k 50 rfl rfl) rfl rfl rfl rfl ?_
  refine g_iS3 dX10_gain_11 rfl rfl ?_
  refine g_iL3 dX10_gain_12 ?_
  refine g_ifle dX10_gain_13 (fun c13 => ?_) (fun c13 => ?_)
  · obtain ⟨P, hP, rfl⟩ := ip1 (by have := X.b1; omega) (wn0 (wn_le c13)).1
    have hP8 : P < 8 := by have := X.b1; omega
    have eP := pn_nI (n := P) (by omega)
    have hv : ¬ siF v (nI (cn 3)) = 0 := (wn0 (wn_le c13)).2.1
    refine g_aL0 dX10_gain_24 ?_
    refine g_aL0 dX10_gain_25 ?_
    refine g_iL1 dX10_gain_26 ?_
    refine g_iL2 dX10_gain_27 ?_
    refine e_v2i (d_gainOf X hP8 hv) lm_X10_501 dX10_gain_28 (X.S.l 50 rfl) (X.S.k 50 rfl rfl) rfl rfl rfl rfl ?_
    refine e_v1i (d_good X.S _) lm_X10_49 dX10_gain_31 (X.S.l 50 rfl) (X.S.k 50 rfl rfl) rfl rfl rfl rfl ?_
    exact e_iret rfl dX10_gain_34 rfl rfl (by rw [if_pos (wn_le c13), eP]) (by rw [wn_le c13])
  · refine g_aL0 dX10_gain_16 ?_
    refine g_iL3 dX10_gain_17 ?_
    refine e_v1i (d_lost X.S _) lm_X10_498 dX10_gain_18 (X.S.l 50 rfl) (X.S.k 50 rfl rfl) rfl rfl rfl rfl ?_
    refine g_goto dX10_gain_21 ?_
    exact e_iret rfl dX10_gain_34 rfl rfl (by rw [if_neg (wn_gt c13)]) rfl
theorem z_gain {h : Hp} (S : SX (mT h)) (hz : gR (mT h) 50 3 = none) (p v : Int32) : gCi 3 0 0 yX10_gain cX10_gain 4 (some .int) [.ref 50, .int p, .int v] h (some (.int (-100))) (mR (mT h) 1) := by
  refine g_entry (lv := [.ref 50, .int p, .int v, .retAddr 0]) 1 pn_X10 rfl rfl rfl ?_
  refine g_aL0 dX10_gain_0 ?_
  refine g_iconst dX10_gain_1 ?_
  refine g_pI0 lf_X10_39 (S.l 50 rfl) (S.k 50 rfl rfl) dX10_gain_2 ?_
  show gY _ _ _ _ _ _ _ _ _ _ _ _ _ (mT h)
  generalize mT h = h at S hz ⊢
  refine g_aL0 dX10_gain_5 ?_
  refine g_iL1 dX10_gain_6 ?_
  refine g_iL2 dX10_gain_7 ?_
  refine e_v2i (z_refusesSeen S hz _ _) lm_X10_398 dX10_gain_8 (S.l 50 rfl) (S.k 50 rfl rfl) rfl rfl rfl rfl ?_
  refine g_iS3 dX10_gain_11 rfl rfl ?_
  refine g_iL3 dX10_gain_12 ?_
  refine g_ifle dX10_gain_13 (fun c13 => absurd c13 (by decide)) (fun c13 => ?_)
  refine g_aL0 dX10_gain_16 ?_
  refine g_iL3 dX10_gain_17 ?_
  refine e_v1i (d_lost S _) lm_X10_498 dX10_gain_18 (S.l 50 rfl) (S.k 50 rfl rfl) rfl rfl rfl rfl ?_
  refine g_goto dX10_gain_21 ?_
  exact e_iret rfl dX10_gain_34 rfl rfl rfl rfl
theorem d_scratchesOf {h : Hp} {c : Nat} {cn : Nat → Nat} (X : MX h c cn) {P : Nat} (hP8 : P < 8) {v : Int32} (hv : ¬ siF v (nI (cn 3)) = 0) {W : Nat} (hW8 : W < 8) : gCi 2 0 0 yX10_scratchesOf cX10_scratchesOf 6 (some .int) [.ref 50, .int (nI P), .int v, .int (nI W)] h (some (.int (fsM (seM h c P v) (gI h (c + 3) W) (dkF (gI h (c + 4)) v) (gI h 52 (8 + P))))) h := by
  refine g_entry (lv := [.ref 50, .int (nI P), .int v, .int (nI W), .retAddr 0, .retAddr 0]) 2 pn_X10 rfl rfl rfl ?_
  refine g_aL0 dX10_scratchesOf_0 ?_
  refine g_iL1 dX10_scratchesOf_1 ?_
  refine g_iL2 dX10_scratchesOf_2 ?_
  refine e_v2i (d_seenOf X hP8 hv) lm_X10_401 dX10_scratchesOf_3 (X.S.l 50 rfl) (X.S.k 50 rfl rfl) rfl rfl rfl rfl ?_
  refine g_iS4 dX10_scratchesOf_6 rfl rfl ?_
  refine g_aL0 dX10_scratchesOf_8 ?_
  refine g_getR lf_X10_359 (X.S.l 50 rfl) (X.S.k 50 rfl rfl) X.C dX10_scratchesOf_9 ?_
  refine g_getRn lf_X10_292 (X.M.l 0 rfl) (X.M.k 0 rfl rfl) (X.M.r 17 (j := 3) rfl) dX10_scratchesOf_12 ?_
  refine g_iL3 dX10_scratchesOf_15 ?_
  refine g_ialoadN (X.M.l 3 rfl) (X.M.k 3 rfl rfl) (X.M.n 3 (n := 8) rfl rfl) hW8 (by decide) dX10_scratchesOf_16 ?_
  refine g_iL4 dX10_scratchesOf_17 ?_
  refine g_iconst dX10_scratchesOf_19 ?_
  refine g_ixor dX10_scratchesOf_20 ?_
  refine g_iand dX10_scratchesOf_21 ?_
  refine g_iS5 dX10_scratchesOf_22 rfl rfl ?_
  refine g_iL4 dX10_scratchesOf_24 ?_
  refine g_aL0 dX10_scratchesOf_26 ?_
  refine g_getR lf_X10_359 (X.S.l 50 rfl) (X.S.k 50 rfl rfl) X.C dX10_scratchesOf_27 ?_
  refine g_getRn lf_X10_292 (X.M.l 0 rfl) (X.M.k 0 rfl rfl) (X.M.r 17 (j := 3) rfl) dX10_scratchesOf_30 ?_
  refine g_iL3 dX10_scratchesOf_33 ?_
  refine g_ialoadN (X.M.l 3 rfl) (X.M.k 3 rfl rfl) (X.M.n 3 (n := 8) rfl rfl) hW8 (by decide) dX10_scratchesOf_34 ?_
  refine g_iconst dX10_scratchesOf_35 ?_
  refine g_ixor dX10_scratchesOf_36 ?_
  refine g_iand dX10_scratchesOf_37 ?_
  refine g_ifne dX10_scratchesOf_38 (fun c38 => ?_) (fun c38 => ?_)
  · refine g_bipush dX10_scratchesOf_62 ?_
    exact e_iret rfl dX10_scratchesOf_64 rfl rfl (if_neg c38).symm rfl
  · refine g_iL5 dX10_scratchesOf_41 ?_
    refine g_aL0 dX10_scratchesOf_43 ?_
    refine g_iL2 dX10_scratchesOf_44 ?_
    refine e_v1i (d_darkOf X hv) lm_X10_374 dX10_scratchesOf_45 (X.S.l 50 rfl) (X.S.k 50 rfl rfl) rfl rfl rfl rfl ?_
    refine g_aL0 dX10_scratchesOf_48 ?_
    refine g_getR lf_X10_17 (X.S.l 50 rfl) (X.S.k 50 rfl rfl) (X.S.r 50 20 (b := 52) rfl rfl) dX10_scratchesOf_49 ?_
    refine g_bipush dX10_scratchesOf_52 ?_
    refine g_iL1 dX10_scratchesOf_54 ?_
    refine g_iadd dX10_scratchesOf_55 ?_
    rw [show (8 : Int32) = nI 8 from rfl, nI_add]
    refine g_ialoadN (X.S.l 52 rfl) (X.S.k 52 rfl rfl) (X.S.n 52 (n := 17) rfl rfl) (show 8 + P < 17 from by omega) (by decide) dX10_scratchesOf_56 ?_
    refine g_ior dX10_scratchesOf_57 ?_
    refine g_iand dX10_scratchesOf_58 ?_
    refine g_ifeq dX10_scratchesOf_59 (fun c59 => ?_) (fun c59 => ?_)
    · refine g_iL5 dX10_scratchesOf_65 ?_
      refine e_s1i (d_bits _) lm_X10_392 dX10_scratchesOf_67 rfl rfl rfl rfl ?_
      exact e_iret rfl dX10_scratchesOf_70 rfl rfl ((if_pos c38).trans (if_pos c59)).symm rfl
    · refine g_bipush dX10_scratchesOf_62 ?_
      exact e_iret rfl dX10_scratchesOf_64 rfl rfl ((if_pos c38).trans (if_neg c59)).symm rfl
theorem n_scratches {h : Hp} {c : Nat} {cn : Nat → Nat} (X : MX (mT h) c cn) (p v wd : Int32) : gCi 3 0 0 yX10_scratches cX10_scratches 5 (some .int) [.ref 50, .int p, .int v, .int wd] h (some (.int (if (ipF wd (nI (cn 2))) = 0 then -1 else if (wnF (ipF p (nI (cn 1))) (siF v (nI (cn 3))) (thF (gI (mT h) 52 16) p)) = 0 then (fsM (seM (mT h) c (pn p) v) (gI (mT h) (c + 3) (pn wd)) (dkF (gI (mT h) (c + 4)) v) (gI (mT h) 52 (8 + (pn p)))) else -1))) (mR (mT h) (if (ipF wd (nI (cn 2))) = 0 then 1 else (wnF (ipF p (nI (cn 1))) (siF v (nI (cn 3))) (thF (gI (mT h) 52 16) p)))) := by
  refine g_entry (lv := [.ref 50, .int p, .int v, .int wd, .retAddr 0]) 1 pn_X10 rfl rfl rfl ?_
  refine g_aL0 dX10_scratches_0 ?_
  refine g_iconst dX10_scratches_1 ?_
  refine g_pI0 lf_X10_39 (X.S.l 50 rfl) (X.S.k 50 rfl rfl) dX10_scratches_2 ?_
  show gY _ _ _ _ _ _ _ _ _ _ _ _ _ (mT h)
  generalize mT h = h at X ⊢
  refine g_aL0 dX10_scratches_5 ?_
  refine g_iL3 dX10_scratches_6 ?_
  refine e_v1i (d_isWordOf X _) lm_X10_395 dX10_scratches_7 (X.S.l 50 rfl) (X.S.k 50 rfl rfl) rfl rfl rfl rfl ?_
  refine g_ifne dX10_scratches_10 (fun c10 => ?_) (fun c10 => ?_)
  · refine g_aL0 dX10_scratches_19 ?_
    refine g_iL1 dX10_scratches_20 ?_
    refine g_iL2 dX10_scratches_21 ?_
    refine e_v2i (d_refusesSeen X _ _) lm_X10_398 dX10_scratches_22 (X.S.l 50 rfl) (X.S.k 50 rfl rfl) rfl rfl rfl rfl ?_
    refine g_iS4 dX10_scratches_25 rfl rfl ?_
    refine g_iL4 dX10_scratches_27 ?_
    refine g_ifle dX10_scratches_29 (fun c29 => ?_) (fun c29 => ?_)
    · obtain ⟨P, hP, rfl⟩ := ip1 (by have := X.b1; omega) (wn0 (wn_le c29)).1
      have hP8 : P < 8 := by have := X.b1; omega
      have eP := pn_nI (n := P) (by omega)
      have hv : ¬ siF v (nI (cn 3)) = 0 := (wn0 (wn_le c29)).2.1
      obtain ⟨Q, hQ, rfl⟩ := ip1 (by have := X.b2; omega) c10
      have hQ8 : Q < 8 := by have := X.b2; omega
      have eQ := pn_nI (n := Q) (by omega)
      refine g_aL0 dX10_scratches_41 ?_
      refine g_aL0 dX10_scratches_42 ?_
      refine g_iL1 dX10_scratches_43 ?_
      refine g_iL2 dX10_scratches_44 ?_
      refine g_iL3 dX10_scratches_45 ?_
      refine e_v3i (d_scratchesOf X hP8 hv hQ8) lm_X10_477 dX10_scratches_46 (X.S.l 50 rfl) (X.S.k 50 rfl rfl) rfl rfl rfl rfl ?_
      refine e_v1i (d_good X.S _) lm_X10_49 dX10_scratches_49 (X.S.l 50 rfl) (X.S.k 50 rfl rfl) rfl rfl rfl rfl ?_
      exact e_iret rfl dX10_scratches_52 rfl rfl (by rw [if_neg c10, if_pos (wn_le c29), eP, eQ]) (by rw [if_neg c10, wn_le c29])
    · refine g_aL0 dX10_scratches_32 ?_
      refine g_iL4 dX10_scratches_33 ?_
      refine e_v1i (d_refused X.S _) lm_X10_45 dX10_scratches_35 (X.S.l 50 rfl) (X.S.k 50 rfl rfl) rfl rfl rfl rfl ?_
      refine g_goto dX10_scratches_38 ?_
      exact e_iret rfl dX10_scratches_52 rfl rfl ((if_neg c10).trans (if_neg (wn_gt c29))).symm (by rw [if_neg c10])
  · refine g_aL0 dX10_scratches_13 ?_
    refine g_iconst dX10_scratches_14 ?_
    refine e_v1i (d_refused X.S _) lm_X10_45 dX10_scratches_15 (X.S.l 50 rfl) (X.S.k 50 rfl rfl) rfl rfl rfl rfl ?_
    exact e_iret rfl dX10_scratches_18 rfl rfl (if_pos c10).symm (by rw [if_pos c10])
theorem z_scratches {h : Hp} (S : SX (mT h)) (hz : gR (mT h) 50 3 = none) (p v wd : Int32) : gCi 3 0 0 yX10_scratches cX10_scratches 5 (some .int) [.ref 50, .int p, .int v, .int wd] h (some (.int (-1))) (mR (mT h) 1) := by
  refine g_entry (lv := [.ref 50, .int p, .int v, .int wd, .retAddr 0]) 1 pn_X10 rfl rfl rfl ?_
  refine g_aL0 dX10_scratches_0 ?_
  refine g_iconst dX10_scratches_1 ?_
  refine g_pI0 lf_X10_39 (S.l 50 rfl) (S.k 50 rfl rfl) dX10_scratches_2 ?_
  show gY _ _ _ _ _ _ _ _ _ _ _ _ _ (mT h)
  generalize mT h = h at S hz ⊢
  refine g_aL0 dX10_scratches_5 ?_
  refine g_iL3 dX10_scratches_6 ?_
  refine e_v1i (z_isWordOf S hz _) lm_X10_395 dX10_scratches_7 (S.l 50 rfl) (S.k 50 rfl rfl) rfl rfl rfl rfl ?_
  refine g_ifne dX10_scratches_10 (fun c10 => absurd rfl c10) (fun c10 => ?_)
  refine g_aL0 dX10_scratches_13 ?_
  refine g_iconst dX10_scratches_14 ?_
  refine e_v1i (d_refused S _) lm_X10_45 dX10_scratches_15 (S.l 50 rfl) (S.k 50 rfl rfl) rfl rfl rfl rfl ?_
  exact e_iret rfl dX10_scratches_18 rfl rfl rfl rfl
def cdM (fs : Nat → Int32) : Nat → Nat → Int32 → Int32
  | 0, _, b => b
  | n + 1, i, b => if fs i = -2 then cdM fs n (i + 1) (b ||| 0) else cdM fs n (i + 1) (b ||| ((1 : Int32) <<< (nI i &&& 31)))
def vfM (wr : Nat → Int32) (wd : Int32) : Nat → Nat → Int32 → Int32
  | 0, _, b => b
  | n + 1, i, b => if wr i = wd then vfM wr wd n (i + 1) (b ||| ((1 : Int32) <<< (nI i &&& 31))) else vfM wr wd n (i + 1) (b ||| 0)
theorem n_could {h : Hp} {c : Nat} {cn : Nat → Nat} (X : MX (mT h) c cn) (p v : Int32) : gCi 3 0 0 yX10_could cX10_could 6 (some .int) [.ref 50, .int p, .int v] h (some (.int (if (wnF (ipF p (nI (cn 1))) (siF v (nI (cn 3))) (thF (gI (mT h) 52 16) p)) = 0 then cdM (fun i => (fsM (seM (mT h) c (pn p) v) (gI (mT h) (c + 3) i) (dkF (gI (mT h) (c + 4)) v) (gI (mT h) 52 (8 + (pn p))))) (cn 2) 0 0 else -1))) (mR (mT h) (wnF (ipF p (nI (cn 1))) (siF v (nI (cn 3))) (thF (gI (mT h) 52 16) p))) := by
  refine g_entry (lv := [.ref 50, .int p, .int v, .retAddr 0, .retAddr 0, .retAddr 0]) 3 pn_X10 rfl rfl rfl ?_
  refine g_aL0 dX10_could_0 ?_
  refine g_iconst dX10_could_1 ?_
  refine g_pI0 lf_X10_39 (X.S.l 50 rfl) (X.S.k 50 rfl rfl) dX10_could_2 ?_
  show gY _ _ _ _ _ _ _ _ _ _ _ _ _ (mT h)
  generalize mT h = h at X ⊢
  refine g_aL0 dX10_could_5 ?_
  refine g_iL1 dX10_could_6 ?_
  refine g_iL2 dX10_could_7 ?_
  refine e_v2i (d_refusesSeen X _ _) lm_X10_398 dX10_could_8 (X.S.l 50 rfl) (X.S.k 50 rfl rfl) rfl rfl rfl rfl ?_
  refine g_iS3 dX10_could_11 rfl rfl ?_
  refine g_iL3 dX10_could_12 ?_
  refine g_ifle dX10_could_13 (fun c13 => ?_) (fun c13 => ?_)
  · obtain ⟨P, hP, rfl⟩ := ip1 (by have := X.b1; omega) (wn0 (wn_le c13)).1
    have hP8 : P < 8 := by have := X.b1; omega
    have eP := pn_nI (n := P) (by omega)
    have hv : ¬ siF v (nI (cn 3)) = 0 := (wn0 (wn_le c13)).2.1
    have loop : ∀ (n i : Nat) (b : Int32), i + n = cn 2 → cdM (fun i => (fsM (seM h c P v) (gI h (c + 3) i) (dkF (gI h (c + 4)) v) (gI h 52 (8 + P)))) (cn 2) 0 0 = cdM (fun i => (fsM (seM h c P v) (gI h (c + 3) i) (dkF (gI h (c + 4)) v) (gI h 52 (8 + P)))) n i b → gY 3 0 0 yX10_could cX10_could 6 (some .int) 0 0 (fun v' h' => v' = (some (.int (if (wnF (ipF (nI P) (nI (cn 1))) (siF v (nI (cn 3))) (thF (gI h 52 16) (nI P))) = 0 then cdM (fun i => (fsM (seM h c (pn (nI P)) v) (gI h (c + 3) i) (dkF (gI h (c + 4)) v) (gI h 52 (8 + (pn (nI P)))))) (cn 2) 0 0 else -1))) ∧ h' = (mR h (wnF (ipF (nI P) (nI (cn 1))) (siF v (nI (cn 3))) (thF (gI h 52 16) (nI P))))) 28 [.ref 50, .int (nI P), .int v, .int (wnF (ipF (nI P) (nI (cn 1))) (siF v (nI (cn 3))) (thF (gI h 52 16) (nI P))), .int b, .int (nI i)] [] h := by
      intro n
      induction n with
      | zero =>
        intro i b hi he 
        refine g_iL5 dX10_could_28 ?_
        refine g_aL0 dX10_could_30 ?_
        refine g_getR lf_X10_359 (X.S.l 50 rfl) (X.S.k 50 rfl rfl) X.C dX10_could_31 ?_
        refine g_gI lf_X10_289 (X.M.l 0 rfl) (X.M.k 0 rfl rfl) dX10_could_34 ?_
        rw [X.c2]
        refine g_icge dX10_could_37 (fun c37 => ?_) (fun c37 => absurd (nI_le (by omega) (by have := X.b2; omega)) c37)
        refine g_aL0 dX10_could_72 ?_
        refine g_iL4 dX10_could_73 ?_
        refine e_v1i (d_good X.S _) lm_X10_49 dX10_could_75 (X.S.l 50 rfl) (X.S.k 50 rfl rfl) rfl rfl rfl rfl ?_
        exact e_iret rfl dX10_could_78 rfl rfl (by rw [if_pos (wn_le c13), eP]; exact he.symm) (by rw [wn_le c13])
      | succ n ih =>
        intro i b hi he 
        refine g_iL5 dX10_could_28 ?_
        refine g_aL0 dX10_could_30 ?_
        refine g_getR lf_X10_359 (X.S.l 50 rfl) (X.S.k 50 rfl rfl) X.C dX10_could_31 ?_
        refine g_gI lf_X10_289 (X.M.l 0 rfl) (X.M.k 0 rfl rfl) dX10_could_34 ?_
        rw [X.c2]
        refine g_icge dX10_could_37 (fun c37 => absurd c37 (nI_ge (by omega) (by have := X.b2; omega))) (fun c37 => ?_)
        refine g_iL4 dX10_could_40 ?_
        refine g_aL0 dX10_could_42 ?_
        refine g_iL1 dX10_could_43 ?_
        refine g_iL2 dX10_could_44 ?_
        refine g_iL5 dX10_could_45 ?_
        refine e_v3i (d_scratchesOf X hP8 hv (show i < 8 from by have := X.b2; omega)) lm_X10_477 dX10_could_47 (X.S.l 50 rfl) (X.S.k 50 rfl rfl) rfl rfl rfl rfl ?_
        refine g_bipush dX10_could_50 ?_
        refine g_icne dX10_could_52 (fun c52 => ?_) (fun c52 => ?_)
        · refine g_iconst dX10_could_59 ?_
          refine g_iL5 dX10_could_60 ?_
          refine g_ishl dX10_could_62 ?_
          refine g_ior dX10_could_63 ?_
          refine g_iS4 dX10_could_64 rfl rfl ?_
          refine g_ii5 dX10_could_66 rfl rfl ?_
          refine g_goto dX10_could_69 ?_
          rw [nI_1]
          exact ih (i + 1) _ (by omega) (he.trans (if_neg c52)) 
        · refine g_iconst dX10_could_55 ?_
          refine g_goto dX10_could_56 ?_
          refine g_ior dX10_could_63 ?_
          refine g_iS4 dX10_could_64 rfl rfl ?_
          refine g_ii5 dX10_could_66 rfl rfl ?_
          refine g_goto dX10_could_69 ?_
          rw [nI_1]
          exact ih (i + 1) _ (by omega) (he.trans (if_pos c52)) 
    refine g_iconst dX10_could_22 ?_
    refine g_iS4 dX10_could_23 rfl rfl ?_
    refine g_iconst dX10_could_25 ?_
    refine g_iS5 dX10_could_26 rfl rfl ?_
    exact loop (cn 2) 0 _ (by omega) rfl
  · refine g_aL0 dX10_could_16 ?_
    refine g_iL3 dX10_could_17 ?_
    refine e_v1i (d_refused X.S _) lm_X10_45 dX10_could_18 (X.S.l 50 rfl) (X.S.k 50 rfl rfl) rfl rfl rfl rfl ?_
    exact e_iret rfl dX10_could_21 rfl rfl (by rw [if_neg (wn_gt c13)]) rfl
theorem z_could {h : Hp} (S : SX (mT h)) (hz : gR (mT h) 50 3 = none) (p v : Int32) : gCi 3 0 0 yX10_could cX10_could 6 (some .int) [.ref 50, .int p, .int v] h (some (.int (-1))) (mR (mT h) 1) := by
  refine g_entry (lv := [.ref 50, .int p, .int v, .retAddr 0, .retAddr 0, .retAddr 0]) 3 pn_X10 rfl rfl rfl ?_
  refine g_aL0 dX10_could_0 ?_
  refine g_iconst dX10_could_1 ?_
  refine g_pI0 lf_X10_39 (S.l 50 rfl) (S.k 50 rfl rfl) dX10_could_2 ?_
  show gY _ _ _ _ _ _ _ _ _ _ _ _ _ (mT h)
  generalize mT h = h at S hz ⊢
  refine g_aL0 dX10_could_5 ?_
  refine g_iL1 dX10_could_6 ?_
  refine g_iL2 dX10_could_7 ?_
  refine e_v2i (z_refusesSeen S hz _ _) lm_X10_398 dX10_could_8 (S.l 50 rfl) (S.k 50 rfl rfl) rfl rfl rfl rfl ?_
  refine g_iS3 dX10_could_11 rfl rfl ?_
  refine g_iL3 dX10_could_12 ?_
  refine g_ifle dX10_could_13 (fun c13 => absurd c13 (by decide)) (fun c13 => ?_)
  refine g_aL0 dX10_could_16 ?_
  refine g_iL3 dX10_could_17 ?_
  refine e_v1i (d_refused S _) lm_X10_45 dX10_could_18 (S.l 50 rfl) (S.k 50 rfl rfl) rfl rfl rfl rfl ?_
  exact e_iret rfl dX10_could_21 rfl rfl rfl rfl
def vyM (h : Hp) (cn : Nat → Nat) (p wd : Int32) : Int32 := if (ipF p (nI (cn 1))) = 0 then 1 else if (ipF wd (nI (cn 2))) = 0 then 1 else if (thF (gI h 52 16) p) = 0 then 0 else 5
theorem n_viewsFor {h : Hp} {c : Nat} {cn : Nat → Nat} (X : MX (mT h) c cn) (p wd : Int32) : gCi 3 0 0 yX10_viewsFor cX10_viewsFor 5 (some .int) [.ref 50, .int p, .int wd] h (some (.int (if vyM (mT h) cn p wd = 0 then vfM (fun i => rdM (mT h) c cn (pn p) (nI i)) wd (cn 3) 0 0 else -1))) (mR (mT h) (vyM (mT h) cn p wd)) := by
  refine g_entry (lv := [.ref 50, .int p, .int wd, .retAddr 0, .retAddr 0]) 2 pn_X10 rfl rfl rfl ?_
  refine g_aL0 dX10_viewsFor_0 ?_
  refine g_iconst dX10_viewsFor_1 ?_
  refine g_pI0 lf_X10_39 (X.S.l 50 rfl) (X.S.k 50 rfl rfl) dX10_viewsFor_2 ?_
  show gY _ _ _ _ _ _ _ _ _ _ _ _ _ (mT h)
  generalize mT h = h at X ⊢
  refine g_aL0 dX10_viewsFor_5 ?_
  refine g_iL1 dX10_viewsFor_6 ?_
  refine e_v1i (d_isPane X _) lm_X10_377 dX10_viewsFor_7 (X.S.l 50 rfl) (X.S.k 50 rfl rfl) rfl rfl rfl rfl ?_
  refine g_ifeq dX10_viewsFor_10 (fun c10 => ?_) (fun c10 => ?_)
  · refine g_aL0 dX10_viewsFor_21 ?_
    refine g_iconst dX10_viewsFor_22 ?_
    refine e_v1i (d_refused X.S _) lm_X10_45 dX10_viewsFor_23 (X.S.l 50 rfl) (X.S.k 50 rfl rfl) rfl rfl rfl rfl ?_
    exact e_iret rfl dX10_viewsFor_26 rfl rfl (by rw [if_neg (show ¬ vyM h cn p wd = 0 from by rw [show vyM h cn p wd = 1 from (if_pos c10)]; decide)]) (by rw [show vyM h cn p wd = 1 from (if_pos c10)])
  · refine g_aL0 dX10_viewsFor_13 ?_
    refine g_iL2 dX10_viewsFor_14 ?_
    refine e_v1i (d_isWordOf X _) lm_X10_395 dX10_viewsFor_15 (X.S.l 50 rfl) (X.S.k 50 rfl rfl) rfl rfl rfl rfl ?_
    refine g_ifne dX10_viewsFor_18 (fun c18 => ?_) (fun c18 => ?_)
    · refine g_aL0 dX10_viewsFor_27 ?_
      refine g_iL1 dX10_viewsFor_28 ?_
      refine e_v1i (d_isBroken X.S _) lm_X10_383 dX10_viewsFor_29 (X.S.l 50 rfl) (X.S.k 50 rfl rfl) rfl rfl rfl rfl ?_
      refine g_ifeq dX10_viewsFor_32 (fun c32 => ?_) (fun c32 => ?_)
      · obtain ⟨P, hP, rfl⟩ := ip1 (by have := X.b1; omega) c10
        have hP8 : P < 8 := by have := X.b1; omega
        have eP := pn_nI (n := P) (by omega)
        have ey : vyM h cn (nI P) wd = 0 := (if_neg c10).trans ((if_neg c18).trans (if_pos c32))
        have loop : ∀ (n i : Nat) (b : Int32), i + n = cn 3 → vfM (fun i => rdM h c cn P (nI i)) wd (cn 3) 0 0 = vfM (fun i => rdM h c cn P (nI i)) wd n i b → gY 3 0 0 yX10_viewsFor cX10_viewsFor 5 (some .int) 0 0 (fun v' h' => v' = (some (.int (if vyM h cn (nI P) wd = 0 then vfM (fun i => rdM h c cn (pn (nI P)) (nI i)) wd (cn 3) 0 0 else -1))) ∧ h' = (mR h (vyM h cn (nI P) wd))) 46 [.ref 50, .int (nI P), .int wd, .int b, .int (nI i)] [] h := by
          intro n
          induction n with
          | zero =>
            intro i b hi he 
            refine g_iL4 dX10_viewsFor_46 ?_
            refine g_aL0 dX10_viewsFor_48 ?_
            refine g_getR lf_X10_359 (X.S.l 50 rfl) (X.S.k 50 rfl rfl) X.C dX10_viewsFor_49 ?_
            refine g_gI lf_X10_294 (X.M.l 0 rfl) (X.M.k 0 rfl rfl) dX10_viewsFor_52 ?_
            rw [X.c3]
            refine g_icge dX10_viewsFor_55 (fun c55 => ?_) (fun c55 => absurd (nI_le (by omega) (by have := X.b3; omega)) c55)
            refine g_aL0 dX10_viewsFor_90 ?_
            refine g_iL3 dX10_viewsFor_91 ?_
            refine e_v1i (d_good X.S _) lm_X10_49 dX10_viewsFor_92 (X.S.l 50 rfl) (X.S.k 50 rfl rfl) rfl rfl rfl rfl ?_
            exact e_iret rfl dX10_viewsFor_95 rfl rfl (by rw [if_pos ey, eP]; exact he.symm) (by rw [ey])
          | succ n ih =>
            intro i b hi he 
            refine g_iL4 dX10_viewsFor_46 ?_
            refine g_aL0 dX10_viewsFor_48 ?_
            refine g_getR lf_X10_359 (X.S.l 50 rfl) (X.S.k 50 rfl rfl) X.C dX10_viewsFor_49 ?_
            refine g_gI lf_X10_294 (X.M.l 0 rfl) (X.M.k 0 rfl rfl) dX10_viewsFor_52 ?_
            rw [X.c3]
            refine g_icge dX10_viewsFor_55 (fun c55 => absurd c55 (nI_ge (by omega) (by have := X.b3; omega))) (fun c55 => ?_)
            have hi3 : i < cn 3 := by omega
            have hv : ¬ siF (nI i) (nI (cn 3)) = 0 := by
              rw [show siF (nI i) (nI (cn 3)) = 1 from (if_neg (nI_n2 (by have := X.b3; omega))).trans (if_neg (by rw [ip_in hi3 (by have := X.b3; omega)]; decide))]
              decide
            refine g_iL3 dX10_viewsFor_58 ?_
            refine g_aL0 dX10_viewsFor_59 ?_
            refine g_aL0 dX10_viewsFor_60 ?_
            refine g_iL1 dX10_viewsFor_61 ?_
            refine g_iL4 dX10_viewsFor_62 ?_
            refine e_v2i (d_seenOf X hP8 hv) lm_X10_401 dX10_viewsFor_64 (X.S.l 50 rfl) (X.S.k 50 rfl rfl) rfl rfl rfl rfl ?_
            refine e_v1i (d_readOf X _) lm_X10_404 dX10_viewsFor_67 (X.S.l 50 rfl) (X.S.k 50 rfl rfl) rfl rfl rfl rfl ?_
            refine g_iL2 dX10_viewsFor_70 ?_
            refine g_icne dX10_viewsFor_71 (fun c71 => ?_) (fun c71 => ?_)
            · refine g_iconst dX10_viewsFor_81 ?_
              refine g_ior dX10_viewsFor_82 ?_
              refine g_iS3 dX10_viewsFor_83 rfl rfl ?_
              refine g_ii4 dX10_viewsFor_84 rfl rfl ?_
              refine g_goto dX10_viewsFor_87 ?_
              rw [nI_1]
              exact ih (i + 1) _ (by omega) (he.trans (if_neg c71)) 
            · refine g_iconst dX10_viewsFor_74 ?_
              refine g_iL4 dX10_viewsFor_75 ?_
              refine g_ishl dX10_viewsFor_77 ?_
              refine g_goto dX10_viewsFor_78 ?_
              refine g_ior dX10_viewsFor_82 ?_
              refine g_iS3 dX10_viewsFor_83 rfl rfl ?_
              refine g_ii4 dX10_viewsFor_84 rfl rfl ?_
              refine g_goto dX10_viewsFor_87 ?_
              rw [nI_1]
              exact ih (i + 1) _ (by omega) (he.trans (if_pos c71)) 
        refine g_iconst dX10_viewsFor_41 ?_
        refine g_iS3 dX10_viewsFor_42 rfl rfl ?_
        refine g_iconst dX10_viewsFor_43 ?_
        refine g_iS4 dX10_viewsFor_44 rfl rfl ?_
        exact loop (cn 3) 0 _ (by omega) rfl
      · refine g_aL0 dX10_viewsFor_35 ?_
        refine g_iconst dX10_viewsFor_36 ?_
        refine e_v1i (d_refused X.S _) lm_X10_45 dX10_viewsFor_37 (X.S.l 50 rfl) (X.S.k 50 rfl rfl) rfl rfl rfl rfl ?_
        exact e_iret rfl dX10_viewsFor_40 rfl rfl (by rw [if_neg (show ¬ vyM h cn p wd = 0 from by rw [show vyM h cn p wd = 5 from ((if_neg c10).trans ((if_neg c18).trans (if_neg c32)))]; decide)]) (by rw [show vyM h cn p wd = 5 from ((if_neg c10).trans ((if_neg c18).trans (if_neg c32)))])
    · refine g_aL0 dX10_viewsFor_21 ?_
      refine g_iconst dX10_viewsFor_22 ?_
      refine e_v1i (d_refused X.S _) lm_X10_45 dX10_viewsFor_23 (X.S.l 50 rfl) (X.S.k 50 rfl rfl) rfl rfl rfl rfl ?_
      exact e_iret rfl dX10_viewsFor_26 rfl rfl (by rw [if_neg (show ¬ vyM h cn p wd = 0 from by rw [show vyM h cn p wd = 1 from ((if_neg c10).trans (if_pos c18))]; decide)]) (by rw [show vyM h cn p wd = 1 from ((if_neg c10).trans (if_pos c18))])
theorem z_viewsFor {h : Hp} (S : SX (mT h)) (hz : gR (mT h) 50 3 = none) (p wd : Int32) : gCi 3 0 0 yX10_viewsFor cX10_viewsFor 5 (some .int) [.ref 50, .int p, .int wd] h (some (.int (-1))) (mR (mT h) 1) := by
  refine g_entry (lv := [.ref 50, .int p, .int wd, .retAddr 0, .retAddr 0]) 2 pn_X10 rfl rfl rfl ?_
  refine g_aL0 dX10_viewsFor_0 ?_
  refine g_iconst dX10_viewsFor_1 ?_
  refine g_pI0 lf_X10_39 (S.l 50 rfl) (S.k 50 rfl rfl) dX10_viewsFor_2 ?_
  show gY _ _ _ _ _ _ _ _ _ _ _ _ _ (mT h)
  generalize mT h = h at S hz ⊢
  refine g_aL0 dX10_viewsFor_5 ?_
  refine g_iL1 dX10_viewsFor_6 ?_
  refine e_v1i (z_isPane S hz _) lm_X10_377 dX10_viewsFor_7 (S.l 50 rfl) (S.k 50 rfl rfl) rfl rfl rfl rfl ?_
  refine g_ifeq dX10_viewsFor_10 (fun c10 => ?_) (fun c10 => absurd rfl c10)
  refine g_aL0 dX10_viewsFor_21 ?_
  refine g_iconst dX10_viewsFor_22 ?_
  refine e_v1i (d_refused S _) lm_X10_45 dX10_viewsFor_23 (S.l 50 rfl) (S.k 50 rfl rfl) rfl rfl rfl rfl ?_
  exact e_iret rfl dX10_viewsFor_26 rfl rfl rfl rfl

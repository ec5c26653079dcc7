/-! THE CLASS: Ways -/
theorem c_minutes {h : Hp} (S : SX h) : gCi 0 0 0 yX7_minutes cX7_minutes 1 (some .int) [.ref 45] h (some (.int (-(gJ h 45 7)).toInt32)) h := by
  refine g_entry (lv := [.ref 45]) 0 pn_X7 rfl rfl rfl ?_
  refine g_aL0 dX7_minutes_0 ?_
  refine g_getJ lf_X7_33 (S.l 45 rfl) (S.k 45 rfl rfl) dX7_minutes_1 ?_
  refine g_lneg dX7_minutes_4 ?_
  refine g_l2i dX7_minutes_5 ?_
  exact e_iret rfl dX7_minutes_6 rfl rfl rfl rfl
def coF (be : Nat → Int32) : Nat → Nat → Int32 → Int32
  | 0, _, b => b
  | n + 1, i, b => coF be n (i + 1) (b ||| ((1 : Int32) <<< (be i &&& 31)))
theorem c_corners {h : Hp} (S : SX h) {L : Nat} (hL : gI h 45 6 = nI L) (hL7 : L ≤ 7) : gCi 0 0 0 yX7_corners cX7_corners 3 (some .int) [.ref 45] h (some (.int (coF (gI h 47) L 0 0))) h := by
  refine g_entry (lv := [.ref 45, .retAddr 0, .retAddr 0]) 2 pn_X7 rfl rfl rfl ?_
  have loop : ∀ (n i : Nat) (b : Int32), i + n = L → coF (gI h 47) L 0 0 = coF (gI h 47) n i b → gY 0 0 0 yX7_corners cX7_corners 3 (some .int) 0 0 (fun v' h' => v' = (some (.int (coF (gI h 47) L 0 0))) ∧ h' = h) 4 [.ref 45, .int b, .int (nI i)] [] h := by
    intro n
    induction n with
    | zero =>
      intro i b hi he 
      refine g_iL2 dX7_corners_4 ?_
      refine g_aL0 dX7_corners_5 ?_
      refine g_gI lf_X7_37 (S.l 45 rfl) (S.k 45 rfl rfl) dX7_corners_6 ?_
      rw [hL]
      refine g_icge dX7_corners_9 (fun c9 => ?_) (fun c9 => absurd (nI_le (by omega) (by omega)) c9)
      refine g_iL1 dX7_corners_29 ?_
      exact e_iret rfl dX7_corners_30 rfl rfl he.symm rfl
    | succ n ih =>
      intro i b hi he 
      refine g_iL2 dX7_corners_4 ?_
      refine g_aL0 dX7_corners_5 ?_
      refine g_gI lf_X7_37 (S.l 45 rfl) (S.k 45 rfl rfl) dX7_corners_6 ?_
      rw [hL]
      refine g_icge dX7_corners_9 (fun c9 => absurd c9 (nI_ge (by omega) (by omega))) (fun c9 => ?_)
      refine g_iL1 dX7_corners_12 ?_
      refine g_iconst dX7_corners_13 ?_
      refine g_aL0 dX7_corners_14 ?_
      refine g_getR lf_X7_19 (S.l 45 rfl) (S.k 45 rfl rfl) (S.r 45 5 (b := 47) rfl rfl) dX7_corners_15 ?_
      refine g_iL2 dX7_corners_18 ?_
      refine g_ialoadN (S.l 47 rfl) (S.k 47 rfl rfl) (S.n 47 (n := 7) rfl rfl) (by omega) (by decide) dX7_corners_19 ?_
      refine g_ishl dX7_corners_20 ?_
      refine g_ior dX7_corners_21 ?_
      refine g_iS1 dX7_corners_22 rfl rfl ?_
      refine g_ii2 dX7_corners_23 rfl rfl ?_
      refine g_goto dX7_corners_26 ?_
      rw [nI_1]
      exact ih (i + 1) _ (by omega) he 
  refine g_iconst dX7_corners_0 ?_
  refine g_iS1 dX7_corners_1 rfl rfl ?_
  refine g_iconst dX7_corners_2 ?_
  refine g_iS2 dX7_corners_3 rfl rfl ?_
  exact loop L 0 _ (by omega) rfl
def wbF (by1 nb mi ri : Int32) (w : Int64) : Int64 := if by1 = 0 then w - mi.toInt64 else if nb = 0 then w / 100 * (100 - ri).toInt64 else w
theorem c_worthBehind {h : Hp} {t : Nat} (S : SX h) (hc : t = 3 ∨ t = 18) (hT : gR h 45 0 = some t) {s : Nat} (hs : s < 49) (w : Int64) : gCi 0 0 0 yX7_worthBehind cX7_worthBehind 4 (some .long) [.ref 45, .int (nI s), .long w] h (some (.long (wbF (gI h 45 2) (gI h 45 3) (gI h (t + 7) s) (gI h (t + 8) s) w))) h := by
  refine g_entry (lv := [.ref 45, .int (nI s), .long w, .retAddr 0]) 0 pn_X7 rfl rfl rfl ?_
  refine g_aL0 dX7_worthBehind_0 ?_
  refine g_gZ lf_X7_22 (S.l 45 rfl) (S.k 45 rfl rfl) dX7_worthBehind_1 ?_
  refine g_ifne dX7_worthBehind_4 (fun c4 => ?_) (fun c4 => ?_)
  · refine g_aL0 dX7_worthBehind_20 ?_
    refine g_gZ lf_X7_26 (S.l 45 rfl) (S.k 45 rfl rfl) dX7_worthBehind_21 ?_
    refine g_ifeq dX7_worthBehind_24 (fun c24 => ?_) (fun c24 => ?_)
    · refine g_lL2 dX7_worthBehind_31 ?_
      refine g_ldc2 dX7_worthBehind_32 lc_X7_68 ?_
      refine g_ldiv dX7_worthBehind_35 (by decide) ?_
      refine g_bipush dX7_worthBehind_36 ?_
      refine g_aL0 dX7_worthBehind_38 ?_
      refine g_getR lf_X7_7 (S.l 45 rfl) (S.k 45 rfl rfl) hT dX7_worthBehind_39 ?_
      refine g_getR lf_X7_70 (S.cl hc 0 rfl) (S.ck hc) (S.cr hc 12 (j := 8) rfl rfl) dX7_worthBehind_42 ?_
      refine g_iL1 dX7_worthBehind_45 ?_
      refine g_ialoadN (S.cl hc 8 rfl) (S.cka hc 8 rfl rfl) (S.cn hc 8 (n := 49) rfl rfl rfl) hs (by decide) dX7_worthBehind_46 ?_
      refine g_isub dX7_worthBehind_47 ?_
      refine g_i2l dX7_worthBehind_48 ?_
      refine g_lmul dX7_worthBehind_49 ?_
      exact e_lret rfl dX7_worthBehind_50 rfl rfl ((if_neg c4).trans (if_pos c24)).symm rfl
    · refine g_lL2 dX7_worthBehind_27 ?_
      refine g_goto dX7_worthBehind_28 ?_
      exact e_lret rfl dX7_worthBehind_50 rfl rfl ((if_neg c4).trans (if_neg c24)).symm rfl
  · refine g_lL2 dX7_worthBehind_7 ?_
    refine g_aL0 dX7_worthBehind_8 ?_
    refine g_getR lf_X7_7 (S.l 45 rfl) (S.k 45 rfl rfl) hT dX7_worthBehind_9 ?_
    refine g_getR lf_X7_61 (S.cl hc 0 rfl) (S.ck hc) (S.cr hc 11 (j := 7) rfl rfl) dX7_worthBehind_12 ?_
    refine g_iL1 dX7_worthBehind_15 ?_
    refine g_ialoadN (S.cl hc 7 rfl) (S.cka hc 7 rfl rfl) (S.cn hc 7 (n := 49) rfl rfl rfl) hs (by decide) dX7_worthBehind_16 ?_
    refine g_i2l dX7_worthBehind_17 ?_
    refine g_lsub dX7_worthBehind_18 ?_
    exact e_lret rfl dX7_worthBehind_19 rfl rfl (if_pos c4).symm rfl
def cpL : Nat → Nat → Hp → Hp
  | 0, _, h => h
  | n + 1, i, h => cpL n (i + 1) (pI h 47 i (gI h 46 i))
def kbS (h : Hp) (k : Nat) (w : Int64) : Hp := cpL k 0 (pJ (pI h 45 6 (nI k)) 45 7 w)
def kbH (h : Hp) (k : Nat) (w : Int64) : Hp := if gI h 45 6 ≤ 0 then kbS h k w else if 0 < lg_cmp w (gJ h 45 7) then kbS h k w else h
theorem c_keepIfBetter {h : Hp} (S : SX h) {k : Nat} (hk : k ≤ 7) (w : Int64) : gCi 0 0 0 yX7_keepIfBetter cX7_keepIfBetter 5 none [.ref 45, .int (nI k), .long w] h none (kbH h k w) := by
  refine g_entry (lv := [.ref 45, .int (nI k), .long w, .retAddr 0, .retAddr 0]) 1 pn_X7 rfl rfl rfl ?_
  have both : kbH h k w = kbS h k w → gY 0 0 0 yX7_keepIfBetter cX7_keepIfBetter 5 none 0 0 (fun v' h' => v' = none ∧ h' = (kbH h k w)) 17 [.ref 45, .int (nI k), .long w, .retAddr 0, .retAddr 0] [] h := by
    intro hb
    have loop : ∀ (n i : Nat) (hh : Hp), i + n = k → kbH h k w = cpL n i hh → SX hh → gY 0 0 0 yX7_keepIfBetter cX7_keepIfBetter 5 none 0 0 (fun v' h' => v' = none ∧ h' = (kbH h k w)) 30 [.ref 45, .int (nI k), .long w, .retAddr 0, .int (nI i)] [] hh := by
      intro n
      induction n with
      | zero =>
        intro i hh hi he S
        refine g_iL4 dX7_keepIfBetter_30 ?_
        refine g_iL1 dX7_keepIfBetter_32 ?_
        refine g_icge dX7_keepIfBetter_33 (fun c33 => ?_) (fun c33 => absurd (nI_le (by omega) (by omega)) c33)
        exact e_vret rfl dX7_keepIfBetter_56 rfl rfl he.symm
      | succ n ih =>
        intro i hh hi he S
        refine g_iL4 dX7_keepIfBetter_30 ?_
        refine g_iL1 dX7_keepIfBetter_32 ?_
        refine g_icge dX7_keepIfBetter_33 (fun c33 => absurd c33 (nI_ge (by omega) (by omega))) (fun c33 => ?_)
        refine g_aL0 dX7_keepIfBetter_36 ?_
        refine g_getR lf_X7_19 (S.l 45 rfl) (S.k 45 rfl rfl) (S.r 45 5 (b := 47) rfl rfl) dX7_keepIfBetter_37 ?_
        refine g_iL4 dX7_keepIfBetter_40 ?_
        refine g_aL0 dX7_keepIfBetter_42 ?_
        refine g_getR lf_X7_15 (S.l 45 rfl) (S.k 45 rfl rfl) (S.r 45 4 (b := 46) rfl rfl) dX7_keepIfBetter_43 ?_
        refine g_iL4 dX7_keepIfBetter_46 ?_
        refine g_ialoadN (S.l 46 rfl) (S.k 46 rfl rfl) (S.n 46 (n := 7) rfl rfl) (by omega) (by decide) dX7_keepIfBetter_48 ?_
        refine g_iastoreN (S.l 47 rfl) (S.k 47 rfl rfl) (S.n 47 (n := 7) rfl rfl) (by omega) (by decide) dX7_keepIfBetter_49 ?_
        refine g_ii4 dX7_keepIfBetter_50 rfl rfl ?_
        refine g_goto dX7_keepIfBetter_53 ?_
        rw [nI_1]
        exact ih (i + 1) _ (by omega) he S
    refine g_aL0 dX7_keepIfBetter_17 ?_
    refine g_iL1 dX7_keepIfBetter_18 ?_
    refine g_pI0 lf_X7_37 (S.l 45 rfl) (S.k 45 rfl rfl) dX7_keepIfBetter_19 ?_
    refine g_aL0 dX7_keepIfBetter_22 ?_
    refine g_lL2 dX7_keepIfBetter_23 ?_
    refine g_pJ0 lf_X7_33 (S.l 45 rfl) (S.k 45 rfl rfl) dX7_keepIfBetter_24 ?_
    refine g_iconst dX7_keepIfBetter_27 ?_
    refine g_iS4 dX7_keepIfBetter_28 rfl rfl ?_
    exact loop k 0 _ (by omega) hb S
  refine g_aL0 dX7_keepIfBetter_0 ?_
  refine g_gI lf_X7_37 (S.l 45 rfl) (S.k 45 rfl rfl) dX7_keepIfBetter_1 ?_
  refine g_ifle dX7_keepIfBetter_4 (fun c4 => ?_) (fun c4 => ?_)
  · exact both (if_pos c4)
  · refine g_lL2 dX7_keepIfBetter_7 ?_
    refine g_aL0 dX7_keepIfBetter_8 ?_
    refine g_getJ lf_X7_33 (S.l 45 rfl) (S.k 45 rfl rfl) dX7_keepIfBetter_9 ?_
    refine g_lcmp dX7_keepIfBetter_12 ?_
    refine g_ifgt dX7_keepIfBetter_13 (fun c13 => ?_) (fun c13 => ?_)
    · exact both ((if_neg c4).trans (if_pos c13))
    · exact e_vret rfl dX7_keepIfBetter_16 rfl rfl ((if_neg c4).trans (if_neg c13)).symm
def wkL (t : Nat) (rc : Hp → Nat → Int32 → Int64 → Hp) (a : Nat) (be : Int32) (w : Int64) : Nat → Nat → Hp → Hp
  | 0, _, h => h
  | n + 1, i, h => if bz be (nI i) = 0 then (if gI h (t + 7) (a * 7 + i) ≤ 0 then wkL t rc a be w n (i + 1) h else wkL t rc a be w n (i + 1) (rc h i (be ||| ((1 : Int32) <<< (nI i &&& 31))) (wbF (gI h 45 2) (gI h 45 3) (gI h (t + 7) (a * 7 + i)) (gI h (t + 8) (a * 7 + i)) w))) else wkL t rc a be w n (i + 1) h
def wkF (t C : Nat) : Nat → Hp → Nat → Nat → Int32 → Int64 → Hp
  | 0, h, _, _, _, _ => h
  | f + 1, h, a, st, be, w => if nI a = gI h 45 1 then kbH (pI h 46 st (nI a)) (st + 1) w else wkL t (fun h i b w => wkF t C f h i (st + 1) b w) a be w C 0 (pI h 46 st (nI a))
/-- what walking leaves as it was: all but the ways' own cells -/
def wkK (h' h : Hp) : Prop := h'.1 = h.1 ∧ h'.2.1 = h.2.1 ∧ h'.2.2.1 = h.2.2.1 ∧ h'.2.2.2.1 = h.2.2.2.1 ∧ (∀ b j, b ≠ 46 → b ≠ 47 → ¬ (b = 45 ∧ j = 6) → gI h' b j = gI h b j) ∧ ∀ b j, ¬ (b = 45 ∧ j = 7) → gJ h' b j = gJ h b j
theorem wkK.refl (h : Hp) : wkK h h := ⟨rfl, rfl, rfl, rfl, fun _ _ _ _ _ => rfl, fun _ _ _ => rfl⟩
theorem wkK.trans {a b c : Hp} (h1 : wkK a b) (h2 : wkK b c) : wkK a c := ⟨h1.1.trans h2.1, h1.2.1.trans h2.2.1, h1.2.2.1.trans h2.2.2.1, h1.2.2.2.1.trans h2.2.2.2.1, fun x j p q r => (h1.2.2.2.2.1 x j p q r).trans (h2.2.2.2.2.1 x j p q r), fun x j p => (h1.2.2.2.2.2 x j p).trans (h2.2.2.2.2.2 x j p)⟩
theorem wkK_46 (h : Hp) (k : Nat) (v : Int32) : wkK (pI h 46 k v) h := ⟨rfl, rfl, rfl, rfl, fun _ _ p _ _ => gIq p, fun _ _ _ => rfl⟩
theorem wkK_47 (h : Hp) (k : Nat) (v : Int32) : wkK (pI h 47 k v) h := ⟨rfl, rfl, rfl, rfl, fun _ _ _ p _ => gIq p, fun _ _ _ => rfl⟩
theorem wkK_45 (h : Hp) (v : Int32) : wkK (pI h 45 6 v) h := ⟨rfl, rfl, rfl, rfl, fun _ _ _ _ p => u2_n _ _ p, fun _ _ _ => rfl⟩
theorem wkK_J (h : Hp) (v : Int64) : wkK (pJ h 45 7 v) h := ⟨rfl, rfl, rfl, rfl, fun _ _ _ _ _ => rfl, fun _ _ p => u2_n _ _ p⟩
theorem wkK_cp : ∀ (n i : Nat) (h : Hp), wkK (cpL n i h) h
  | 0, _, h => wkK.refl h
  | n + 1, i, h => (wkK_cp n (i + 1) _).trans (wkK_47 h i _)
theorem wkK_kb (h : Hp) (k : Nat) (w : Int64) : wkK (kbH h k w) h := by
  have e : wkK (kbS h k w) h := (wkK_cp k 0 _).trans ((wkK_J _ _).trans (wkK_45 h _))
  unfold kbH
  split
  · exact e
  · split
    · exact e
    · exact wkK.refl h
theorem wkK_L (t : Nat) {rc : Hp → Nat → Int32 → Int64 → Hp} (hr : ∀ h i b w, wkK (rc h i b w) h) (a : Nat) (be : Int32) (w : Int64) : ∀ (n i : Nat) (h : Hp), wkK (wkL t rc a be w n i h) h
  | 0, _, h => wkK.refl h
  | n + 1, i, h => by
    unfold wkL
    split
    · split
      · exact wkK_L t hr a be w n (i + 1) h
      · exact (wkK_L t hr a be w n (i + 1) _).trans (hr _ _ _ _)
    · exact wkK_L t hr a be w n (i + 1) h
theorem wkK_F (t C : Nat) : ∀ (f : Nat) (h : Hp) (a st : Nat) (be : Int32) (w : Int64), wkK (wkF t C f h a st be w) h
  | 0, h, _, _, _, _ => wkK.refl h
  | f + 1, h, a, st, be, w => by
    unfold wkF
    split
    · exact (wkK_kb _ _ _).trans (wkK_46 h st _)
    · exact (wkK_L t (fun h i b w => wkK_F t C f h i (st + 1) b w) a be w C 0 _).trans (wkK_46 h st _)
theorem wkK.S {h h' : Hp} (k : wkK h' h) (S : SX h) : SX h' := S.eq k.1 k.2.1 k.2.2.1 k.2.2.2.1
theorem wkK.T {h h' : Hp} {t : Nat} (k : wkK h' h) (hT : gR h 45 0 = some t) : gR h' 45 0 = some t := (congrFun (congrFun k.2.2.2.1 45) 0).trans hT
theorem c_walk {t : Nat} (hc : t = 3 ∨ t = 18) {C : Nat} (hC7 : C ≤ 7) : ∀ (f : Nat) (h : Hp) (a st : Nat) (be : Int32) (w : Int64), SX h → gR h 45 0 = some t → gI h (t + 1) 4 = nI C → st + f = 7 → a < 7 → gCi (f + 1) 0 0 yX7_walk cX7_walk 8 none [.ref 45, .int (nI a), .int (nI st), .int be, .long w] h none (wkF t C f h a st be w) := by
  intro f
  induction f with
  | zero =>
    intro h a st be w S hT hC hf ha
    refine g_entry (lv := [.ref 45, .int (nI a), .int (nI st), .int be, .long w, .retAddr 0, .retAddr 0, .retAddr 0]) 2 pn_X7 rfl rfl rfl ?_
    obtain rfl : st = 7 := by omega
    refine g_iL2 dX7_walk_0 ?_
    refine g_bipush dX7_walk_1 ?_
    refine g_iclt dX7_walk_3 (fun c3 => absurd c3 (by decide)) (fun c3 => ?_)
    exact e_vret rfl dX7_walk_6 rfl rfl rfl
  | succ f ihf =>
    intro h a st be w S hT hC hf ha
    refine g_entry (lv := [.ref 45, .int (nI a), .int (nI st), .int be, .long w, .retAddr 0, .retAddr 0, .retAddr 0]) 2 pn_X7 rfl rfl rfl ?_
    refine g_iL2 dX7_walk_0 ?_
    refine g_bipush dX7_walk_1 ?_
    refine g_iclt dX7_walk_3 (fun c3 => ?_) (fun c3 => absurd (nI_lt (b := 7) (by omega) (by decide)) c3)
    refine g_aL0 dX7_walk_7 ?_
    refine g_getR lf_X7_15 (S.l 45 rfl) (S.k 45 rfl rfl) (S.r 45 4 (b := 46) rfl rfl) dX7_walk_8 ?_
    refine g_iL2 dX7_walk_11 ?_
    refine g_iL1 dX7_walk_12 ?_
    refine g_iastoreN (S.l 46 rfl) (S.k 46 rfl rfl) (S.n 46 (n := 7) rfl rfl) (by omega) (by decide) dX7_walk_13 ?_
    refine g_iL1 dX7_walk_14 ?_
    refine g_aL0 dX7_walk_15 ?_
    refine g_gI lf_X7_41 (S.l 45 rfl) (S.k 45 rfl rfl) dX7_walk_16 ?_
    rw [gIq (a := 46) (b := 45) (by decide)]
    refine g_icne dX7_walk_19 (fun c19 => ?_) (fun c19 => ?_)
    · refine g_iconst dX7_walk_32 ?_
      refine g_iS6 dX7_walk_33 rfl rfl ?_
      have loop : ∀ (n i : Nat) (v7 : Value) (hh : Hp), i + n = C → (wkF t C (f + 1) h a st be w) = wkL t (fun h i b w => wkF t C f h i (st + 1) b w) a be w n i hh → wkK hh (pI h 46 st (nI a)) → gY (f + 1 + 1) 0 0 yX7_walk cX7_walk 8 none 0 0 (fun v' h' => v' = none ∧ h' = (wkF t C (f + 1) h a st be w)) 35 [.ref 45, .int (nI a), .int (nI st), .int be, .long w, .retAddr 0, .int (nI i), v7] [] hh := by
        intro n
        induction n with
        | zero =>
          intro i v7 hh hi he kk
          have S1 : SX hh := kk.S S
          have hT1 : gR hh 45 0 = some t := kk.T hT
          have hC1 : gI hh (t + 1) 4 = nI C := (kk.2.2.2.2.1 _ _ (by omega) (by omega) (by omega)).trans ((gIq (by omega)).trans hC)
          refine g_iL6 dX7_walk_35 ?_
          refine g_aL0 dX7_walk_37 ?_
          refine g_getR lf_X7_7 (S1.l 45 rfl) (S1.k 45 rfl rfl) hT1 dX7_walk_38 ?_
          refine g_getR lf_X7_54 (S1.cl hc 0 rfl) (S1.ck hc) (S1.cr hc 0 (j := 1) rfl rfl) dX7_walk_41 ?_
          refine g_iconst dX7_walk_44 ?_
          refine g_ialoadK (S1.cl hc 1 rfl) (S1.cka hc 1 rfl rfl) (S1.cn hc 1 (n := 11) rfl rfl rfl) rfl (j := 4) rfl dX7_walk_45 ?_
          rw [hC1]
          refine g_icge dX7_walk_46 (fun c46 => ?_) (fun c46 => absurd (nI_le (by omega) (by omega)) c46)
          exact e_vret rfl dX7_walk_108 rfl rfl he.symm
        | succ n ih =>
          intro i v7 hh hi he kk
          have S1 : SX hh := kk.S S
          have hT1 : gR hh 45 0 = some t := kk.T hT
          have hC1 : gI hh (t + 1) 4 = nI C := (kk.2.2.2.2.1 _ _ (by omega) (by omega) (by omega)).trans ((gIq (by omega)).trans hC)
          refine g_iL6 dX7_walk_35 ?_
          refine g_aL0 dX7_walk_37 ?_
          refine g_getR lf_X7_7 (S1.l 45 rfl) (S1.k 45 rfl rfl) hT1 dX7_walk_38 ?_
          refine g_getR lf_X7_54 (S1.cl hc 0 rfl) (S1.ck hc) (S1.cr hc 0 (j := 1) rfl rfl) dX7_walk_41 ?_
          refine g_iconst dX7_walk_44 ?_
          refine g_ialoadK (S1.cl hc 1 rfl) (S1.cka hc 1 rfl rfl) (S1.cn hc 1 (n := 11) rfl rfl rfl) rfl (j := 4) rfl dX7_walk_45 ?_
          rw [hC1]
          refine g_icge dX7_walk_46 (fun c46 => absurd c46 (nI_ge (by omega) (by omega))) (fun c46 => ?_)
          refine g_iL1 dX7_walk_49 ?_
          refine g_iL6 dX7_walk_50 ?_
          refine e_s2i (c_street _ _) lm_X7_57 dX7_walk_52 rfl rfl rfl rfl ?_
          rw [show (7 : Int32) = nI 7 from rfl, pk_mul, nI_add]
          refine g_iS7 dX7_walk_55 rfl rfl ?_
          refine g_iL3 dX7_walk_57 ?_
          refine g_iL6 dX7_walk_58 ?_
          refine g_ishr dX7_walk_60 ?_
          refine g_iconst dX7_walk_61 ?_
          refine g_iand dX7_walk_62 ?_
          refine g_ifne dX7_walk_63 (fun c63 => ?_) (fun c63 => ?_)
          · refine g_ii6 dX7_walk_102 rfl rfl ?_
            refine g_goto dX7_walk_105 ?_
            rw [nI_1]
            exact ih (i + 1) _ _ (by omega) (he.trans (if_neg c63)) kk
          · refine g_aL0 dX7_walk_66 ?_
            refine g_getR lf_X7_7 (S1.l 45 rfl) (S1.k 45 rfl rfl) hT1 dX7_walk_67 ?_
            refine g_getR lf_X7_61 (S1.cl hc 0 rfl) (S1.ck hc) (S1.cr hc 11 (j := 7) rfl rfl) dX7_walk_70 ?_
            refine g_iL7 dX7_walk_73 ?_
            refine g_ialoadN (S1.cl hc 7 rfl) (S1.cka hc 7 rfl rfl) (S1.cn hc 7 (n := 49) rfl rfl rfl) (by omega) (by decide) dX7_walk_75 ?_
            refine g_ifle dX7_walk_76 (fun c76 => ?_) (fun c76 => ?_)
            · refine g_ii6 dX7_walk_102 rfl rfl ?_
              refine g_goto dX7_walk_105 ?_
              rw [nI_1]
              exact ih (i + 1) _ _ (by omega) (he.trans ((if_pos c63).trans (if_pos c76))) kk
            · refine g_aL0 dX7_walk_79 ?_
              refine g_iL6 dX7_walk_80 ?_
              refine g_iL2 dX7_walk_82 ?_
              refine g_iconst dX7_walk_83 ?_
              refine g_iadd dX7_walk_84 ?_
              rw [nI_1]
              refine g_iL3 dX7_walk_85 ?_
              refine g_iconst dX7_walk_86 ?_
              refine g_iL6 dX7_walk_87 ?_
              refine g_ishl dX7_walk_89 ?_
              refine g_ior dX7_walk_90 ?_
              refine g_aL0 dX7_walk_91 ?_
              refine g_iL7 dX7_walk_92 ?_
              refine g_lL4 dX7_walk_94 ?_
              refine e_v2l (c_worthBehind S1 hc hT1 (by omega) _) lm_X7_64 dX7_walk_96 (S1.l 45 rfl) (S1.k 45 rfl rfl) rfl rfl rfl rfl ?_
              refine e_v4u (ihf hh i (st + 1) _ _ S1 hT1 hC1 (by omega) (by omega)) lm_X7_46 dX7_walk_99 (S1.l 45 rfl) (S1.k 45 rfl rfl) (Nat.ble_eq_true_of_le (Nat.le_refl _)) rfl rfl rfl ?_
              refine g_ii6 dX7_walk_102 rfl rfl ?_
              refine g_goto dX7_walk_105 ?_
              rw [nI_1]
              exact ih (i + 1) _ _ (by omega) (he.trans ((if_pos c63).trans (if_neg c76))) ((wkK_F t C f hh i (st + 1) _ _).trans kk)
      exact loop C 0 _ _ (by omega) (if_neg c19) (wkK.refl _)
    · refine g_aL0 dX7_walk_22 ?_
      refine g_iL2 dX7_walk_23 ?_
      refine g_iconst dX7_walk_24 ?_
      refine g_iadd dX7_walk_25 ?_
      rw [nI_1]
      refine g_lL4 dX7_walk_26 ?_
      refine e_v2u (c_keepIfBetter (h := (pI h 46 st (nI a))) S (by omega) w) lm_X7_50 dX7_walk_28 (S.l 45 rfl) (S.k 45 rfl rfl) rfl rfl rfl rfl ?_
      exact e_vret rfl dX7_walk_31 rfl rfl (if_pos c19).symm
def goS (h : Hp) (t : Nat) (to : Int32) : Hp := pJ (pI (pI (pR h 45 0 (some t)) 45 1 to) 45 6 0) 45 7 0
def goH (h : Hp) (t C fr : Nat) (to sh : Int32) : Hp := if bz sh (nI fr) = 0 then (if gI h 45 2 = 0 then wkF t C 7 (goS h t to) fr 0 (sh ||| ((1 : Int32) <<< (nI fr &&& 31))) 0 else wkF t C 7 (goS h t to) fr 0 (sh ||| ((1 : Int32) <<< (nI fr &&& 31))) 1000000000000) else goS h t to
theorem c_go {h : Hp} {t : Nat} (S : SX h) (hc : t = 3 ∨ t = 18) {C : Nat} (hC : gI h (t + 1) 4 = nI C) (hC7 : C ≤ 7) {fr : Nat} (hfr : fr < 7) (to sh : Int32) : gCi 9 0 0 yX7_go cX7_go 5 none [.ref 45, .ref t, .int (nI fr), .int to, .int sh] h none (goH h t C fr to sh) := by
  refine g_entry (lv := [.ref 45, .ref t, .int (nI fr), .int to, .int sh]) 0 pn_X7 rfl rfl rfl ?_
  have S0 := S.pR (a := 45) (k := 0) (some t) rfl
  have S1 : SX (goS h t to) := S0
  have hCg : gI (goS h t to) (t + 1) 4 = nI C := (gIq (by omega)).trans ((gIq (by omega)).trans hC)
  have hTg : gR (goS h t to) 45 0 = some t := u2_s (gR h) 45 0 (some t)
  refine g_aL0 dX7_go_0 ?_
  refine g_aL1 dX7_go_1 ?_
  refine g_pR0 lf_X7_7 (S.l 45 rfl) (S.k 45 rfl rfl) dX7_go_2 ?_
  refine g_aL0 dX7_go_5 ?_
  refine g_iL3 dX7_go_6 ?_
  refine g_pI0 lf_X7_41 (S0.l 45 rfl) (S0.k 45 rfl rfl) dX7_go_7 ?_
  refine g_aL0 dX7_go_10 ?_
  refine g_iconst dX7_go_11 ?_
  refine g_pI0 lf_X7_37 (S0.l 45 rfl) (S0.k 45 rfl rfl) dX7_go_12 ?_
  refine g_aL0 dX7_go_15 ?_
  refine g_lconst dX7_go_16 ?_
  refine g_pJ0 lf_X7_33 (S0.l 45 rfl) (S0.k 45 rfl rfl) dX7_go_17 ?_
  refine g_iL4 dX7_go_20 ?_
  refine g_iL2 dX7_go_22 ?_
  refine g_ishr dX7_go_23 ?_
  refine g_iconst dX7_go_24 ?_
  refine g_iand dX7_go_25 ?_
  refine g_ifne dX7_go_26 (fun c26 => ?_) (fun c26 => ?_)
  · exact e_vret rfl dX7_go_55 rfl rfl (if_neg c26).symm
  · refine g_aL0 dX7_go_29 ?_
    refine g_iL2 dX7_go_30 ?_
    refine g_iconst dX7_go_31 ?_
    refine g_iL4 dX7_go_32 ?_
    refine g_iconst dX7_go_34 ?_
    refine g_iL2 dX7_go_35 ?_
    refine g_ishl dX7_go_36 ?_
    refine g_ior dX7_go_37 ?_
    refine g_aL0 dX7_go_38 ?_
    refine g_gZ lf_X7_22 (S1.l 45 rfl) (S1.k 45 rfl rfl) dX7_go_39 ?_
    rw [show gI (pJ (pI (pI (pR h 45 0 (some t)) 45 1 to) 45 6 0) 45 7 0) 45 2 = gI h 45 2 from rfl]
    refine g_ifeq dX7_go_42 (fun c42 => ?_) (fun c42 => ?_)
    · refine g_lconst dX7_go_51 ?_
      refine e_v4u (c_walk hc hC7 7 (goS h t to) fr 0 _ _ S1 hTg hCg rfl hfr) lm_X7_46 dX7_go_52 (S1.l 45 rfl) (S1.k 45 rfl rfl) rfl rfl rfl rfl ?_
      exact e_vret rfl dX7_go_55 rfl rfl ((if_pos c26).trans (if_pos c42)).symm
    · refine g_ldc2 dX7_go_45 lc_X7_44 ?_
      refine g_goto dX7_go_48 ?_
      refine e_v4u (c_walk hc hC7 7 (goS h t to) fr 0 _ _ S1 hTg hCg rfl hfr) lm_X7_46 dX7_go_52 (S1.l 45 rfl) (S1.k 45 rfl rfl) rfl rfl rfl rfl ?_
      exact e_vret rfl dX7_go_55 rfl rfl ((if_pos c26).trans (if_neg c42)).symm
theorem c_goSoonest {h : Hp} {t : Nat} (S : SX h) (hc : t = 3 ∨ t = 18) {C : Nat} (hC : gI h (t + 1) 4 = nI C) (hC7 : C ≤ 7) {fr : Nat} (hfr : fr < 7) (to sh : Int32) : gCi 10 0 0 yX7_goSoonest cX7_goSoonest 5 none [.ref 45, .ref t, .int (nI fr), .int to, .int sh] h none (goH (pI (pI h 45 2 0) 45 3 0) t C fr to sh) := by
  refine g_entry (lv := [.ref 45, .ref t, .int (nI fr), .int to, .int sh]) 0 pn_X7 rfl rfl rfl ?_
  refine g_aL0 dX7_goSoonest_0 ?_
  refine g_iconst dX7_goSoonest_1 ?_
  refine g_pZ0 lf_X7_22 (by decide) (S.l 45 rfl) (S.k 45 rfl rfl) dX7_goSoonest_2 ?_
  refine g_aL0 dX7_goSoonest_5 ?_
  refine g_iconst dX7_goSoonest_6 ?_
  refine g_pZ0 lf_X7_26 (by decide) (S.l 45 rfl) (S.k 45 rfl rfl) dX7_goSoonest_7 ?_
  refine g_aL0 dX7_goSoonest_10 ?_
  refine g_aL1 dX7_goSoonest_11 ?_
  refine g_iL2 dX7_goSoonest_12 ?_
  refine g_iL3 dX7_goSoonest_13 ?_
  refine g_iL4 dX7_goSoonest_14 ?_
  refine e_v4u (c_go (h := pI (pI h 45 2 0) 45 3 0) S hc ((gIq (by omega)).trans ((gIq (by omega)).trans hC)) hC7 hfr to sh) lm_X7_29 dX7_goSoonest_16 (S.l 45 rfl) (S.k 45 rfl rfl) rfl rfl rfl rfl ?_
  exact e_vret rfl dX7_goSoonest_19 rfl rfl rfl
theorem c_goSafest {h : Hp} {t : Nat} (S : SX h) (hc : t = 3 ∨ t = 18) {C : Nat} (hC : gI h (t + 1) 4 = nI C) (hC7 : C ≤ 7) {fr : Nat} (hfr : fr < 7) (to tk : Int32) (htk : tk = 0 ∨ tk = 1) : gCi 10 0 0 yX7_goSafest cX7_goSafest 5 none [.ref 45, .ref t, .int (nI fr), .int to, .int tk] h none (goH (pI (pI h 45 2 1) 45 3 tk) t C fr to 0) := by
  refine g_entry (lv := [.ref 45, .ref t, .int (nI fr), .int to, .int tk]) 0 pn_X7 rfl rfl rfl ?_
  refine g_aL0 dX7_goSafest_0 ?_
  refine g_iconst dX7_goSafest_1 ?_
  refine g_pZ0 lf_X7_22 (by decide) (S.l 45 rfl) (S.k 45 rfl rfl) dX7_goSafest_2 ?_
  refine g_aL0 dX7_goSafest_5 ?_
  refine g_iL4 dX7_goSafest_6 ?_
  refine g_pZ0 lf_X7_26 htk (S.l 45 rfl) (S.k 45 rfl rfl) dX7_goSafest_8 ?_
  refine g_aL0 dX7_goSafest_11 ?_
  refine g_aL1 dX7_goSafest_12 ?_
  refine g_iL2 dX7_goSafest_13 ?_
  refine g_iL3 dX7_goSafest_14 ?_
  refine g_iconst dX7_goSafest_15 ?_
  refine e_v4u (c_go (h := pI (pI h 45 2 1) 45 3 tk) S hc ((gIq (by omega)).trans ((gIq (by omega)).trans hC)) hC7 hfr to 0) lm_X7_29 dX7_goSafest_16 (S.l 45 rfl) (S.k 45 rfl rfl) rfl rfl rfl rfl ?_
  exact e_vret rfl dX7_goSafest_19 rfl rfl rfl
def gdF : Nat → Int64 → Int64 → Int64
  | 0, g, _ => g
  | n + 1, g, l => if lg_cmp l 0 = 0 then g else gdF n l (g - g / l * l)
def gdE (g : Int64) : Int64 := if lg_cmp g 0 ≤ 0 then 1 else g
theorem lg_n0 {l : Int64} (h : ¬ lg_cmp l 0 = 0) : ¬ l = 0 := fun z => h (by rw [z]; decide)
theorem c_greatestDivisor {h : Hp} (a b : Int64) : gCi 0 0 0 yX7_greatestDivisor cX7_greatestDivisor 11 (some .long) [.long a, .long b] h (some (.long (gdE (gdF 100 a b)))) h := by
  refine g_entry (lv := [.long a, .retAddr 0, .long b, .retAddr 0, .retAddr 0, .retAddr 0, .retAddr 0, .retAddr 0, .retAddr 0, .retAddr 0, .retAddr 0]) 7 pn_X7 rfl rfl rfl ?_
  have tail : ∀ (g l : Int64) (v8 v9 v10 : Value), gdF 100 a b = g → gY 0 0 0 yX7_greatestDivisor cX7_greatestDivisor 11 (some .long) 0 0 (fun v' h' => v' = (some (.long (gdE (gdF 100 a b)))) ∧ h' = h) 44 [.long a, .retAddr 0, .long b, .retAddr 0, .long g, .retAddr 0, .long l, .retAddr 0, v8, v9, v10] [] h := by
    intro g l v8 v9 v10 hg
    refine g_lL4 dX7_greatestDivisor_44 ?_
    refine g_lconst dX7_greatestDivisor_46 ?_
    refine g_lcmp dX7_greatestDivisor_47 ?_
    refine g_ifle dX7_greatestDivisor_48 (fun c48 => ?_) (fun c48 => ?_)
    · refine g_lconst dX7_greatestDivisor_56 ?_
      exact e_lret rfl dX7_greatestDivisor_57 rfl rfl (by rw [hg]; first | exact (if_pos c48).symm | exact (if_neg c48).symm) rfl
    · refine g_lL4 dX7_greatestDivisor_51 ?_
      refine g_goto dX7_greatestDivisor_53 ?_
      exact e_lret rfl dX7_greatestDivisor_57 rfl rfl (by rw [hg]; first | exact (if_pos c48).symm | exact (if_neg c48).symm) rfl
  have loop : ∀ (n i : Nat) (g : Int64) (l : Int64) (v9 : Value) (v10 : Value), i + n = 100 → gdF 100 a b = gdF n g l → gY 0 0 0 yX7_greatestDivisor cX7_greatestDivisor 11 (some .long) 0 0 (fun v' h' => v' = (some (.long (gdE (gdF 100 a b)))) ∧ h' = h) 9 [.long a, .retAddr 0, .long b, .retAddr 0, .long g, .retAddr 0, .long l, .retAddr 0, .int (nI i), v9, v10] [] h := by
    intro n
    induction n with
    | zero =>
      intro i g l v9 v10 hi he 
      refine g_iL8 dX7_greatestDivisor_9 ?_
      refine g_bipush dX7_greatestDivisor_11 ?_
      rw [show (100 : Int32) = nI 100 from rfl]
      refine g_icge dX7_greatestDivisor_13 (fun c13 => ?_) (fun c13 => absurd (nI_le (by omega) (by omega)) c13)
      exact tail _ _ _ _ _ he
    | succ n ih =>
      intro i g l v9 v10 hi he 
      refine g_iL8 dX7_greatestDivisor_9 ?_
      refine g_bipush dX7_greatestDivisor_11 ?_
      rw [show (100 : Int32) = nI 100 from rfl]
      refine g_icge dX7_greatestDivisor_13 (fun c13 => absurd c13 (nI_ge (by omega) (by omega))) (fun c13 => ?_)
      refine g_lL6 dX7_greatestDivisor_16 ?_
      refine g_lconst dX7_greatestDivisor_18 ?_
      refine g_lcmp dX7_greatestDivisor_19 ?_
      refine g_ifeq dX7_greatestDivisor_20 (fun c20 => ?_) (fun c20 => ?_)
      · exact tail _ _ _ _ _ (he.trans (if_pos c20))
      · refine g_lL4 dX7_greatestDivisor_23 ?_
        refine g_lL6 dX7_greatestDivisor_25 ?_
        refine g_lrem dX7_greatestDivisor_27 (lg_n0 c20) ?_
        refine g_lS9 dX7_greatestDivisor_28 rfl rfl ?_
        refine g_lL6 dX7_greatestDivisor_30 ?_
        refine g_lS4 dX7_greatestDivisor_32 rfl rfl ?_
        refine g_lL9 dX7_greatestDivisor_34 ?_
        refine g_lS6 dX7_greatestDivisor_36 rfl rfl ?_
        refine g_ii8 dX7_greatestDivisor_38 rfl rfl ?_
        refine g_goto dX7_greatestDivisor_41 ?_
        rw [nI_1]
        exact ih (i + 1) _ _ _ _ (by omega) (he.trans (if_neg c20)) 
  refine g_lL0 dX7_greatestDivisor_0 ?_
  refine g_lS4 dX7_greatestDivisor_1 rfl rfl ?_
  refine g_lL2 dX7_greatestDivisor_3 ?_
  refine g_lS6 dX7_greatestDivisor_4 rfl rfl ?_
  refine g_iconst dX7_greatestDivisor_6 ?_
  refine g_iS8 dX7_greatestDivisor_7 rfl rfl ?_
  exact loop 100 0 _ _ _ _ (by omega) rfl

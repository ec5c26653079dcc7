/-! THE CLASS: Panes: putty, the shelf, acts -/
def loF (lt : Nat → Int32) (set : Int32) : Nat → Nat → Int32 → Int32
  | 0, _, s => s
  | n + 1, i, s => if bz set (nI i) = 0 then loF lt set n (i + 1) s else loF lt set n (i + 1) (s + lt i)
abbrev liF (h : Hp) (t p : Nat) : Int32 := gI h t 1 * gI h t 2 - bcF (gI h 39 p)
theorem c_lightOf {h : Hp} {t : Nat} (S : SX h) (hc : t = 3 ∨ t = 18) (hT : gR h 38 0 = some t) {N : Nat} (hN : gI h (t + 1) 1 = nI N) (hN8 : N ≤ 8) (set : Int32) : gCi 2 0 0 yX2_lightOf cX2_lightOf 4 (some .int) [.ref 38, .int set] h (some (.int (loF (liF h t) set N 0 0))) h := by
  refine g_entry (lv := [.ref 38, .int set, .retAddr 0, .retAddr 0]) 2 pn_X2 rfl rfl rfl ?_
  have loop : ∀ (n i : Nat) (s : Int32), i + n = N → loF (liF h t) set N 0 0 = loF (liF h t) set n i s → gY 2 0 0 yX2_lightOf cX2_lightOf 4 (some .int) 0 0 (fun v' h' => v' = (some (.int (loF (liF h t) set N 0 0))) ∧ h' = h) 4 [.ref 38, .int set, .int s, .int (nI i)] [] h := by
    intro n
    induction n with
    | zero =>
      intro i s hi he 
      refine g_iL3 dX2_lightOf_4 ?_
      refine g_aL0 dX2_lightOf_5 ?_
      refine g_getR lf_X2_11 (S.l 38 rfl) (S.k 38 rfl rfl) hT dX2_lightOf_6 ?_
      refine g_getR lf_X2_47 (S.cl hc 0 rfl) (S.ck hc) (S.cr hc 0 rfl rfl) dX2_lightOf_9 ?_
      refine g_iconst dX2_lightOf_12 ?_
      refine g_ialoadK (S.cl hc 1 rfl) (S.cka hc 1 rfl rfl) (S.cn hc 1 (n := 11) rfl rfl rfl) rfl (j := 1) rfl dX2_lightOf_13 ?_
      rw [hN]
      refine g_icge dX2_lightOf_14 (fun c14 => ?_) (fun c14 => absurd (nI_le (by omega) (by omega)) c14)
      refine g_iL2 dX2_lightOf_39 ?_
      exact e_iret rfl dX2_lightOf_40 rfl rfl he.symm rfl
    | succ n ih =>
      intro i s hi he 
      refine g_iL3 dX2_lightOf_4 ?_
      refine g_aL0 dX2_lightOf_5 ?_
      refine g_getR lf_X2_11 (S.l 38 rfl) (S.k 38 rfl rfl) hT dX2_lightOf_6 ?_
      refine g_getR lf_X2_47 (S.cl hc 0 rfl) (S.ck hc) (S.cr hc 0 rfl rfl) dX2_lightOf_9 ?_
      refine g_iconst dX2_lightOf_12 ?_
      refine g_ialoadK (S.cl hc 1 rfl) (S.cka hc 1 rfl rfl) (S.cn hc 1 (n := 11) rfl rfl rfl) rfl (j := 1) rfl dX2_lightOf_13 ?_
      rw [hN]
      refine g_icge dX2_lightOf_14 (fun c14 => absurd c14 (nI_ge (by omega) (by omega))) (fun c14 => ?_)
      refine g_iL1 dX2_lightOf_17 ?_
      refine g_iL3 dX2_lightOf_18 ?_
      refine g_ishr dX2_lightOf_19 ?_
      refine g_iconst dX2_lightOf_20 ?_
      refine g_iand dX2_lightOf_21 ?_
      refine g_ifeq dX2_lightOf_22 (fun c22 => ?_) (fun c22 => ?_)
      · refine g_ii3 dX2_lightOf_33 rfl rfl ?_
        refine g_goto dX2_lightOf_36 ?_
        rw [nI_1]
        exact ih (i + 1) _ (by omega) (he.trans (if_pos c22)) 
      · refine g_iL2 dX2_lightOf_25 ?_
        refine g_aL0 dX2_lightOf_26 ?_
        refine g_iL3 dX2_lightOf_27 ?_
        refine e_v1i (c_light S hc hT (by omega)) lm_X2_102 dX2_lightOf_28 (S.l 38 rfl) (S.k 38 rfl rfl) rfl rfl rfl rfl ?_
        refine g_iadd dX2_lightOf_31 ?_
        refine g_iS2 dX2_lightOf_32 rfl rfl ?_
        refine g_ii3 dX2_lightOf_33 rfl rfl ?_
        refine g_goto dX2_lightOf_36 ?_
        rw [nI_1]
        exact ih (i + 1) _ (by omega) (he.trans (if_neg c22)) 
  refine g_iconst dX2_lightOf_0 ?_
  refine g_iS2 dX2_lightOf_1 rfl rfl ?_
  refine g_iconst dX2_lightOf_2 ?_
  refine g_iS3 dX2_lightOf_3 rfl rfl ?_
  exact loop N 0 _ (by omega) rfl
def bsF (lo : Int32 → Int32) (wh sl : Int32) : Nat → Nat → Int32 → Int32 → Int32
  | 0, _, b, _ => b
  | n + 1, i, b, l => if nI i &&& (wh ^^^ (-1)) = 0 then (if sl < lo (nI i) then bsF lo wh sl n (i + 1) b l else (if 0 < bcF (nI i) - bcF b then bsF lo wh sl n (i + 1) (nI i) (lo (nI i)) else (if bcF (nI i) - bcF b = 0 then (if lo (nI i) ≤ l then bsF lo wh sl n (i + 1) b l else bsF lo wh sl n (i + 1) (nI i) (lo (nI i))) else bsF lo wh sl n (i + 1) b l))) else bsF lo wh sl n (i + 1) b l
theorem c_bestForShelf {h : Hp} {t : Nat} (S : SX h) (hc : t = 3 ∨ t = 18) (hT : gR h 38 0 = some t) {N : Nat} (hN : gI h (t + 1) 1 = nI N) (hN8 : N ≤ 8) {U : Nat} (hU : ubF (gI h (t + 1) 1) (gI h 38 3) = nI U) (hU8 : U < 256) : gCi 3 0 0 yX2_bestForShelf cX2_bestForShelf 7 (some .int) [.ref 38] h (some (.int (bsF (fun set => loF (liF h t) set N 0 0) (nI U) (gI h t 5) U 1 0 0))) h := by
  refine g_entry (lv := [.ref 38, .retAddr 0, .retAddr 0, .retAddr 0, .retAddr 0, .retAddr 0, .retAddr 0]) 6 pn_X2 rfl rfl rfl ?_
  have loop : ∀ (n i : Nat) (b : Int32) (l : Int32) (v5 : Value) (v6 : Value), i + n = U + 1 → bsF (fun set => loF (liF h t) set N 0 0) (nI U) (gI h t 5) U 1 0 0 = bsF (fun set => loF (liF h t) set N 0 0) (nI U) (gI h t 5) n i b l → gY 3 0 0 yX2_bestForShelf cX2_bestForShelf 7 (some .int) 0 0 (fun v' h' => v' = (some (.int (bsF (fun set => loF (liF h t) set N 0 0) (nI U) (gI h t 5) U 1 0 0))) ∧ h' = h) 12 [.ref 38, .int b, .int l, .int (nI U), .int (nI i), v5, v6] [] h := by
    intro n
    induction n with
    | zero =>
      intro i b l v5 v6 hi he 
      refine g_iL4 dX2_bestForShelf_12 ?_
      refine g_iL3 dX2_bestForShelf_14 ?_
      refine g_icgt dX2_bestForShelf_15 (fun c15 => ?_) (fun c15 => absurd (nI_lt (by omega) (by omega)) c15)
      refine g_iL1 dX2_bestForShelf_87 ?_
      exact e_iret rfl dX2_bestForShelf_88 rfl rfl he.symm rfl
    | succ n ih =>
      intro i b l v5 v6 hi he 
      refine g_iL4 dX2_bestForShelf_12 ?_
      refine g_iL3 dX2_bestForShelf_14 ?_
      refine g_icgt dX2_bestForShelf_15 (fun c15 => absurd c15 (nI_nlt (by omega) (by omega))) (fun c15 => ?_)
      refine g_aL0 dX2_bestForShelf_18 ?_
      refine g_iL4 dX2_bestForShelf_19 ?_
      refine e_v1i (c_lightOf S hc hT hN hN8 _) lm_X2_96 dX2_bestForShelf_21 (S.l 38 rfl) (S.k 38 rfl rfl) rfl rfl rfl rfl ?_
      refine g_iS5 dX2_bestForShelf_24 rfl rfl ?_
      refine g_iL4 dX2_bestForShelf_26 ?_
      refine g_iL3 dX2_bestForShelf_28 ?_
      refine g_iconst dX2_bestForShelf_29 ?_
      refine g_ixor dX2_bestForShelf_30 ?_
      refine g_iand dX2_bestForShelf_31 ?_
      refine g_ifne dX2_bestForShelf_32 (fun c32 => ?_) (fun c32 => ?_)
      · refine g_ii4 dX2_bestForShelf_81 rfl rfl ?_
        refine g_goto dX2_bestForShelf_84 ?_
        rw [nI_1]
        exact ih (i + 1) _ _ _ _ (by omega) (he.trans (if_neg c32)) 
      · refine g_iL5 dX2_bestForShelf_35 ?_
        refine g_aL0 dX2_bestForShelf_37 ?_
        refine g_getR lf_X2_11 (S.l 38 rfl) (S.k 38 rfl rfl) hT dX2_bestForShelf_38 ?_
        refine g_gI lf_X2_99 (S.cl hc 0 rfl) (S.ck hc) dX2_bestForShelf_41 ?_
        refine g_icgt dX2_bestForShelf_44 (fun c44 => ?_) (fun c44 => ?_)
        · refine g_ii4 dX2_bestForShelf_81 rfl rfl ?_
          refine g_goto dX2_bestForShelf_84 ?_
          rw [nI_1]
          exact ih (i + 1) _ _ _ _ (by omega) (he.trans ((if_pos c32).trans (if_pos c44))) 
        · refine g_iL4 dX2_bestForShelf_47 ?_
          refine e_s1i (c_bitCount _) lm_X2_54 dX2_bestForShelf_49 rfl rfl rfl rfl ?_
          refine g_iL1 dX2_bestForShelf_52 ?_
          refine e_s1i (c_bitCount _) lm_X2_54 dX2_bestForShelf_53 rfl rfl rfl rfl ?_
          refine g_isub dX2_bestForShelf_56 ?_
          refine g_iS6 dX2_bestForShelf_57 rfl rfl ?_
          refine g_iL6 dX2_bestForShelf_59 ?_
          refine g_ifgt dX2_bestForShelf_61 (fun c61 => ?_) (fun c61 => ?_)
          · refine g_iL4 dX2_bestForShelf_75 ?_
            refine g_iS1 dX2_bestForShelf_77 rfl rfl ?_
            refine g_iL5 dX2_bestForShelf_78 ?_
            refine g_iS2 dX2_bestForShelf_80 rfl rfl ?_
            refine g_ii4 dX2_bestForShelf_81 rfl rfl ?_
            refine g_goto dX2_bestForShelf_84 ?_
            rw [nI_1]
            exact ih (i + 1) _ _ _ _ (by omega) (he.trans ((if_pos c32).trans ((if_neg c44).trans (if_pos c61)))) 
          · refine g_iL6 dX2_bestForShelf_64 ?_
            refine g_ifne dX2_bestForShelf_66 (fun c66 => ?_) (fun c66 => ?_)
            · refine g_ii4 dX2_bestForShelf_81 rfl rfl ?_
              refine g_goto dX2_bestForShelf_84 ?_
              rw [nI_1]
              exact ih (i + 1) _ _ _ _ (by omega) (he.trans ((if_pos c32).trans ((if_neg c44).trans ((if_neg c61).trans (if_neg c66))))) 
            · refine g_iL5 dX2_bestForShelf_69 ?_
              refine g_iL2 dX2_bestForShelf_71 ?_
              refine g_icle dX2_bestForShelf_72 (fun c72 => ?_) (fun c72 => ?_)
              · refine g_ii4 dX2_bestForShelf_81 rfl rfl ?_
                refine g_goto dX2_bestForShelf_84 ?_
                rw [nI_1]
                exact ih (i + 1) _ _ _ _ (by omega) (he.trans ((if_pos c32).trans ((if_neg c44).trans ((if_neg c61).trans ((if_pos c66).trans (if_pos c72)))))) 
              · refine g_iL4 dX2_bestForShelf_75 ?_
                refine g_iS1 dX2_bestForShelf_77 rfl rfl ?_
                refine g_iL5 dX2_bestForShelf_78 ?_
                refine g_iS2 dX2_bestForShelf_80 rfl rfl ?_
                refine g_ii4 dX2_bestForShelf_81 rfl rfl ?_
                refine g_goto dX2_bestForShelf_84 ?_
                rw [nI_1]
                exact ih (i + 1) _ _ _ _ (by omega) (he.trans ((if_pos c32).trans ((if_neg c44).trans ((if_neg c61).trans ((if_pos c66).trans (if_neg c72)))))) 
  refine g_iconst dX2_bestForShelf_0 ?_
  refine g_iS1 dX2_bestForShelf_1 rfl rfl ?_
  refine g_iconst dX2_bestForShelf_2 ?_
  refine g_iS2 dX2_bestForShelf_3 rfl rfl ?_
  refine g_aL0 dX2_bestForShelf_4 ?_
  refine e_v0i (c_unbroken S hc hT) lm_X2_93 dX2_bestForShelf_5 (S.l 38 rfl) (S.k 38 rfl rfl) rfl rfl rfl rfl ?_
  rw [hU]
  refine g_iS3 dX2_bestForShelf_8 rfl rfl ?_
  refine g_iconst dX2_bestForShelf_9 ?_
  refine g_iS4 dX2_bestForShelf_10 rfl rfl ?_
  exact loop U 1 _ _ _ _ (by omega) rfl
def hiL (rc : Int32 → Nat → Int32) (bits : Int32) : Nat → Nat → Int32
  | 0, _ => -2
  | n + 1, i => if bz bits (nI i) = 0 then hiL rc bits n (i + 1) else if rc (bits &&& (((1 : Int32) <<< (nI i &&& 31)) ^^^ (-1))) (i + 1) = -2 then hiL rc bits n (i + 1) else rc (bits &&& (((1 : Int32) <<< (nI i &&& 31)) ^^^ (-1))) (i + 1) ||| ((1 : Int32) <<< (nI i &&& 31))
def hiF (fw : Int32 → Int32) (C : Nat) : Nat → Int32 → Nat → Int32
  | 0, b, _ => if fw b = -2 then 0 else -2
  | k + 1, b, f => hiL (hiF fw C k) b (C - f) f
theorem c_hide {h : Hp} {t : Nat} (S : SX h) (hc : t = 3 ∨ t = 18) (hT : gR h 38 0 = some t) {N : Nat} (hN : gI h (t + 1) 2 = nI N) (hN8 : N ≤ 8) {C : Nat} (hC : gI h t 1 * gI h t 2 = nI C) (hC20 : C ≤ 20) : ∀ (k : Nat), k ≤ 4 → ∀ (b : Int32) (f : Nat), f ≤ C → gCi (k + 1) 0 0 yX2_hide cX2_hide 6 (some .int) [.ref 38, .int b, .int (nI f), .int (nI k)] h (some (.int (hiF (fun b => fwF (gI h (t + 4)) b N 0) C k b f))) h := by
  intro k
  induction k with
  | zero =>
    intro hk b f hf
    refine g_entry (lv := [.ref 38, .int b, .int (nI f), .int (nI 0), .retAddr 0, .retAddr 0]) 2 pn_X2 rfl rfl rfl ?_
    refine g_iL3 dX2_hide_0 ?_
    refine g_ifgt dX2_hide_1 (fun c1 => absurd c1 (by decide)) (fun c1 => ?_)
    refine g_aL0 dX2_hide_4 ?_
    refine g_getR lf_X2_11 (S.l 38 rfl) (S.k 38 rfl rfl) hT dX2_hide_5 ?_
    refine g_iL1 dX2_hide_8 ?_
    refine e_v1i (c_firstWord S hc hN hN8 _) lm_X2_67 dX2_hide_9 (S.cl hc 0 rfl) (S.ck hc) rfl rfl rfl rfl ?_
    refine g_bipush dX2_hide_12 ?_
    refine g_icne dX2_hide_14 (fun c14 => ?_) (fun c14 => ?_)
    · refine g_bipush dX2_hide_21 ?_
      exact e_iret rfl dX2_hide_23 rfl rfl (if_neg c14).symm rfl
    · refine g_iconst dX2_hide_17 ?_
      refine g_goto dX2_hide_18 ?_
      exact e_iret rfl dX2_hide_23 rfl rfl (if_pos c14).symm rfl
  | succ k ihk =>
    intro hk b f hf
    refine g_entry (lv := [.ref 38, .int b, .int (nI f), .int (nI (k + 1)), .retAddr 0, .retAddr 0]) 2 pn_X2 rfl rfl rfl ?_
    have loop : ∀ (n i : Nat) (v5 : Value), i + n = C → hiF (fun b => fwF (gI h (t + 4)) b N 0) C (k + 1) b f = hiL (hiF (fun b => fwF (gI h (t + 4)) b N 0) C k) b n i → gY (k + 1 + 1) 0 0 yX2_hide cX2_hide 6 (some .int) 0 0 (fun v' h' => v' = (some (.int (hiF (fun b => fwF (gI h (t + 4)) b N 0) C (k + 1) b f))) ∧ h' = h) 27 [.ref 38, .int b, .int (nI f), .int (nI (k + 1)), .int (nI i), v5] [] h := by
      intro n
      induction n with
      | zero =>
        intro i v5 hi he 
        refine g_iL4 dX2_hide_27 ?_
        refine g_aL0 dX2_hide_29 ?_
        refine g_getR lf_X2_11 (S.l 38 rfl) (S.k 38 rfl rfl) hT dX2_hide_30 ?_
        refine e_v0i (c_cells S hc) lm_X2_50 dX2_hide_33 (S.cl hc 0 rfl) (S.ck hc) rfl rfl rfl rfl ?_
        rw [hC]
        refine g_icge dX2_hide_36 (fun c36 => ?_) (fun c36 => absurd (nI_le (by omega) (by omega)) c36)
        refine g_bipush dX2_hide_90 ?_
        exact e_iret rfl dX2_hide_92 rfl rfl he.symm rfl
      | succ n ih =>
        intro i v5 hi he 
        refine g_iL4 dX2_hide_27 ?_
        refine g_aL0 dX2_hide_29 ?_
        refine g_getR lf_X2_11 (S.l 38 rfl) (S.k 38 rfl rfl) hT dX2_hide_30 ?_
        refine e_v0i (c_cells S hc) lm_X2_50 dX2_hide_33 (S.cl hc 0 rfl) (S.ck hc) rfl rfl rfl rfl ?_
        rw [hC]
        refine g_icge dX2_hide_36 (fun c36 => absurd c36 (nI_ge (by omega) (by omega))) (fun c36 => ?_)
        refine g_iL1 dX2_hide_39 ?_
        refine g_iL4 dX2_hide_40 ?_
        refine g_ishr dX2_hide_42 ?_
        refine g_iconst dX2_hide_43 ?_
        refine g_iand dX2_hide_44 ?_
        refine g_ifeq dX2_hide_45 (fun c45 => ?_) (fun c45 => ?_)
        · refine g_ii4 dX2_hide_84 rfl rfl ?_
          refine g_goto dX2_hide_87 ?_
          rw [nI_1]
          exact ih (i + 1) _ (by omega) (he.trans (if_pos c45)) 
        · refine g_aL0 dX2_hide_48 ?_
          refine g_iL1 dX2_hide_49 ?_
          refine g_iconst dX2_hide_50 ?_
          refine g_iL4 dX2_hide_51 ?_
          refine g_ishl dX2_hide_53 ?_
          refine g_iconst dX2_hide_54 ?_
          refine g_ixor dX2_hide_55 ?_
          refine g_iand dX2_hide_56 ?_
          refine g_iL4 dX2_hide_57 ?_
          refine g_iconst dX2_hide_59 ?_
          refine g_iadd dX2_hide_60 ?_
          refine g_iL3 dX2_hide_61 ?_
          refine g_iconst dX2_hide_62 ?_
          refine g_isub dX2_hide_63 ?_
          rw [nI_1, nI_pred]
          refine e_v3i (ihk (by omega) _ (i + 1) (by omega)) lm_X2_86 dX2_hide_64 (S.l 38 rfl) (S.k 38 rfl rfl) (Nat.ble_eq_true_of_le (Nat.le_refl _)) rfl rfl rfl ?_
          refine g_iS5 dX2_hide_67 rfl rfl ?_
          refine g_iL5 dX2_hide_69 ?_
          refine g_bipush dX2_hide_71 ?_
          refine g_iceq dX2_hide_73 (fun c73 => ?_) (fun c73 => ?_)
          · refine g_ii4 dX2_hide_84 rfl rfl ?_
            refine g_goto dX2_hide_87 ?_
            rw [nI_1]
            exact ih (i + 1) _ (by omega) (he.trans ((if_neg c45).trans (if_pos c73))) 
          · refine g_iL5 dX2_hide_76 ?_
            refine g_iconst dX2_hide_78 ?_
            refine g_iL4 dX2_hide_79 ?_
            refine g_ishl dX2_hide_81 ?_
            refine g_ior dX2_hide_82 ?_
            exact e_iret rfl dX2_hide_83 rfl rfl (he.trans ((if_neg c45).trans (if_neg c73))).symm rfl
    refine g_iL3 dX2_hide_0 ?_
    refine g_ifgt dX2_hide_1 (fun c1 => ?_) (fun c1 => absurd (by rw [← nI_0]; exact nI_lt (by omega) (by omega)) c1)
    refine g_iL2 dX2_hide_24 ?_
    refine g_iS4 dX2_hide_25 rfl rfl ?_
    exact loop (C - f) f _ (by omega) rfl
def lpF (hi : Nat → Int32) : Nat → Nat → Int32
  | 0, _ => -2
  | n + 1, i => if hi i = -2 then lpF hi n (i + 1) else hi i
theorem c_leastPutty {h : Hp} {t : Nat} (S : SX h) (hc : t = 3 ∨ t = 18) (hT : gR h 38 0 = some t) {N : Nat} (hN : gI h (t + 1) 2 = nI N) (hN8 : N ≤ 8) {C : Nat} (hC : gI h t 1 * gI h t 2 = nI C) (hC20 : C ≤ 20) {p : Nat} (hp : p < 8) (v : Int32) : gCi 6 0 0 yX2_leastPutty cX2_leastPutty 6 (some .int) [.ref 38, .int (nI p), .int v] h (some (.int (lpF (fun k => hiF (fun b => fwF (gI h (t + 4)) b N 0) C k (seF h t p v) 0) 5 0))) h := by
  refine g_entry (lv := [.ref 38, .int (nI p), .int v, .retAddr 0, .retAddr 0, .retAddr 0]) 3 pn_X2 rfl rfl rfl ?_
  have hid : ∀ (k : Nat), k ≤ 4 → ∀ (b : Int32), gCi 5 0 0 yX2_hide cX2_hide 6 (some .int) [.ref 38, .int b, .int 0, .int (nI k)] h (some (.int (hiF (fun b => fwF (gI h (t + 4)) b N 0) C k b 0))) h := by
    intro k hk b
    exact gCi_deep (by omega) (c_hide S hc hT hN hN8 hC hC20 k hk b 0 (Nat.zero_le _))
  have loop : ∀ (n i : Nat) (v5 : Value), i + n = 5 → lpF (fun k => hiF (fun b => fwF (gI h (t + 4)) b N 0) C k (seF h t p v) 0) 5 0 = lpF (fun k => hiF (fun b => fwF (gI h (t + 4)) b N 0) C k (seF h t p v) 0) n i → gY 6 0 0 yX2_leastPutty cX2_leastPutty 6 (some .int) 0 0 (fun v' h' => v' = (some (.int (lpF (fun k => hiF (fun b => fwF (gI h (t + 4)) b N 0) C k (seF h t p v) 0) 5 0))) ∧ h' = h) 10 [.ref 38, .int (nI p), .int v, .int (seF h t p v), .int (nI i), v5] [] h := by
    intro n
    induction n with
    | zero =>
      intro i v5 hi he 
      refine g_iL4 dX2_leastPutty_10 ?_
      refine g_iconst dX2_leastPutty_12 ?_
      rw [show (4 : Int32) = nI 4 from rfl]
      refine g_icgt dX2_leastPutty_13 (fun c13 => ?_) (fun c13 => absurd (nI_lt (by omega) (by omega)) c13)
      refine g_bipush dX2_leastPutty_42 ?_
      exact e_iret rfl dX2_leastPutty_44 rfl rfl he.symm rfl
    | succ n ih =>
      intro i v5 hi he 
      refine g_iL4 dX2_leastPutty_10 ?_
      refine g_iconst dX2_leastPutty_12 ?_
      rw [show (4 : Int32) = nI 4 from rfl]
      refine g_icgt dX2_leastPutty_13 (fun c13 => absurd c13 (nI_nlt (by omega) (by omega))) (fun c13 => ?_)
      refine g_aL0 dX2_leastPutty_16 ?_
      refine g_iL3 dX2_leastPutty_17 ?_
      refine g_iconst dX2_leastPutty_18 ?_
      refine g_iL4 dX2_leastPutty_19 ?_
      refine e_v3i (hid i (by omega) _) lm_X2_86 dX2_leastPutty_21 (S.l 38 rfl) (S.k 38 rfl rfl) rfl rfl rfl rfl ?_
      refine g_iS5 dX2_leastPutty_24 rfl rfl ?_
      refine g_iL5 dX2_leastPutty_26 ?_
      refine g_bipush dX2_leastPutty_28 ?_
      refine g_iceq dX2_leastPutty_30 (fun c30 => ?_) (fun c30 => ?_)
      · refine g_ii4 dX2_leastPutty_36 rfl rfl ?_
        refine g_goto dX2_leastPutty_39 ?_
        rw [nI_1]
        exact ih (i + 1) _ (by omega) (he.trans (if_pos c30)) 
      · refine g_iL5 dX2_leastPutty_33 ?_
        exact e_iret rfl dX2_leastPutty_35 rfl rfl (he.trans (if_neg c30)).symm rfl
  refine g_aL0 dX2_leastPutty_0 ?_
  refine g_iL1 dX2_leastPutty_1 ?_
  refine g_iL2 dX2_leastPutty_2 ?_
  refine e_v2i (c_seenBits S hc hT hp _) lm_X2_63 dX2_leastPutty_3 (S.l 38 rfl) (S.k 38 rfl rfl) rfl rfl rfl rfl ?_
  refine g_iS3 dX2_leastPutty_6 rfl rfl ?_
  refine g_iconst dX2_leastPutty_7 ?_
  refine g_iS4 dX2_leastPutty_8 rfl rfl ?_
  exact loop 5 0 _ (by omega) rfl
/-- an act, or its undoing -/
def chH (h : Hp) (s : Int32) (p : Nat) (c : Int32) : Hp := if s = 0 then pI h 39 p (gI h 39 p ^^^ ((1 : Int32) <<< (c &&& 31))) else if s = 1 then pI h 40 p (gI h 40 p ^^^ ((1 : Int32) <<< (c &&& 31))) else pI h 38 3 (gI h 38 3 ^^^ ((1 : Int32) <<< (nI p &&& 31)))
theorem chH_1 (h : Hp) (s : Int32) (p : Nat) (c : Int32) : (chH h s p c).1 = h.1 ∧ (chH h s p c).2.1 = h.2.1 ∧ (chH h s p c).2.2.1 = h.2.2.1 ∧ (chH h s p c).2.2.2.1 = h.2.2.2.1 ∧ (chH h s p c).2.2.2.2.2 = h.2.2.2.2.2 := by
  unfold chH
  split
  · exact ⟨rfl, rfl, rfl, rfl, rfl⟩
  · split <;> exact ⟨rfl, rfl, rfl, rfl, rfl⟩
theorem SX.eq {h h' : Hp} (S : SX h) (h1 : h'.1 = h.1) (h2 : h'.2.1 = h.2.1) (h3 : h'.2.2.1 = h.2.2.1) (h4 : h'.2.2.2.1 = h.2.2.2.1) : SX h' := by
  unfold SX at S ⊢
  rw [show gL h' = gL h from congrArg Prod.fst h1, show gK h' = gK h from h2, show gN h' = gN h from h3, show gR h' = gR h from h4]
  exact S
theorem chH_S {h : Hp} (S : SX h) (s : Int32) (p : Nat) (c : Int32) : SX (chH h s p c) := S.eq (chH_1 h s p c).1 (chH_1 h s p c).2.1 (chH_1 h s p c).2.2.1 (chH_1 h s p c).2.2.2.1
theorem chH_I {h : Hp} (s : Int32) (p : Nat) (c : Int32) (b j : Nat) (h1 : b ≠ 39) (h2 : b ≠ 40) (h3 : ¬ (b = 38 ∧ j = 3)) : gI (chH h s p c) b j = gI h b j := by
  unfold chH
  split
  · exact u2_n _ _ (fun z => h1 z.1)
  · split
    · exact u2_n _ _ (fun z => h2 z.1)
    · exact u2_n _ _ h3
theorem c_change {h : Hp} (S : SX h) (s : Int32) {p : Nat} (hp : p < 8) (c : Int32) : gCi 0 0 0 yX2_change cX2_change 4 none [.ref 38, .int s, .int (nI p), .int c] h none (chH h s p c) := by
  refine g_entry (lv := [.ref 38, .int s, .int (nI p), .int c]) 0 pn_X2 rfl rfl rfl ?_
  refine g_iL1 dX2_change_0 ?_
  refine g_ifne dX2_change_1 (fun c1 => ?_) (fun c1 => ?_)
  · refine g_iL1 dX2_change_19 ?_
    refine g_iconst dX2_change_20 ?_
    refine g_icne dX2_change_21 (fun c21 => ?_) (fun c21 => ?_)
    · refine g_aL0 dX2_change_39 ?_
      refine g_dup dX2_change_40 rfl ?_
      refine g_gI lf_X2_37 (S.l 38 rfl) (S.k 38 rfl rfl) dX2_change_41 ?_
      refine g_iconst dX2_change_44 ?_
      refine g_iL2 dX2_change_45 ?_
      refine g_ishl dX2_change_46 ?_
      refine g_ixor dX2_change_47 ?_
      refine g_pI0 lf_X2_37 (S.l 38 rfl) (S.k 38 rfl rfl) dX2_change_48 ?_
      exact e_vret rfl dX2_change_51 rfl rfl ((if_neg c1).trans (if_neg c21)).symm
    · refine g_aL0 dX2_change_24 ?_
      refine g_getR lf_X2_21 (S.l 38 rfl) (S.k 38 rfl rfl) (S.r 38 2 rfl rfl) dX2_change_25 ?_
      refine g_iL2 dX2_change_28 ?_
      refine g_dup2 dX2_change_29 rfl rfl ?_
      refine g_ialoadN (S.l 40 rfl) (S.k 40 rfl rfl) (S.n 40 (n := 8) rfl rfl) hp (by decide) dX2_change_30 ?_
      refine g_iconst dX2_change_31 ?_
      refine g_iL3 dX2_change_32 ?_
      refine g_ishl dX2_change_33 ?_
      refine g_ixor dX2_change_34 ?_
      refine g_iastoreN (S.l 40 rfl) (S.k 40 rfl rfl) (S.n 40 (n := 8) rfl rfl) hp (by decide) dX2_change_35 ?_
      refine g_goto dX2_change_36 ?_
      exact e_vret rfl dX2_change_51 rfl rfl ((if_neg c1).trans (if_pos c21)).symm
  · refine g_aL0 dX2_change_4 ?_
    refine g_getR lf_X2_17 (S.l 38 rfl) (S.k 38 rfl rfl) (S.r 38 1 rfl rfl) dX2_change_5 ?_
    refine g_iL2 dX2_change_8 ?_
    refine g_dup2 dX2_change_9 rfl rfl ?_
    refine g_ialoadN (S.l 39 rfl) (S.k 39 rfl rfl) (S.n 39 (n := 8) rfl rfl) hp (by decide) dX2_change_10 ?_
    refine g_iconst dX2_change_11 ?_
    refine g_iL3 dX2_change_12 ?_
    refine g_ishl dX2_change_13 ?_
    refine g_ixor dX2_change_14 ?_
    refine g_iastoreN (S.l 39 rfl) (S.k 39 rfl rfl) (S.n 39 (n := 8) rfl rfl) hp (by decide) dX2_change_15 ?_
    refine g_goto dX2_change_16 ?_
    exact e_vret rfl dX2_change_51 rfl rfl (if_pos c1).symm
def fgS (h : Hp) (i : Nat) : Hp :=
  let a := pI h 41 i (gI h 41 (i + 1))
  let b := pI a 42 i (gI a 42 (i + 1))
  pI b 43 i (gI b 43 (i + 1))
def fgL : Nat → Nat → Hp → Hp
  | 0, _, h => h
  | n + 1, i, h => fgL n (i + 1) (fgS h i)
def fgH (h : Hp) : Hp := fgL 15 0 (pI h 38 7 15)
theorem fgL_S : ∀ (n i : Nat) {h : Hp}, SX h → SX (fgL n i h)
  | 0, _, _, S => S
  | n + 1, i, h, S => fgL_S n (i + 1) (h := fgS h i) S
theorem fgL_I : ∀ (n i : Nat) (h : Hp) (b j : Nat), b ≠ 41 → b ≠ 42 → b ≠ 43 → gI (fgL n i h) b j = gI h b j
  | 0, _, _, _, _, _, _, _ => rfl
  | n + 1, i, h, b, j, h1, h2, h3 => by
    rw [fgL, fgL_I n (i + 1) _ b j h1 h2 h3]
    show u2 _ 43 _ _ b j = _
    rw [u2_n _ _ (fun z => h3 z.1)]
    show u2 _ 42 _ _ b j = _
    rw [u2_n _ _ (fun z => h2 z.1)]
    show u2 _ 41 _ _ b j = _
    rw [u2_n _ _ (fun z => h1 z.1)]
theorem c_forgetOldest {h : Hp} (S : SX h) : gCi 0 0 0 yX2_forgetOldest cX2_forgetOldest 2 none [.ref 38] h none (fgH h) := by
  refine g_entry (lv := [.ref 38, .retAddr 0]) 1 pn_X2 rfl rfl rfl ?_
  have loop : ∀ (n i : Nat) (hh : Hp), i + n = 15 → fgH h = fgL n i hh → SX hh → gI hh 38 7 = nI 15 → gY 0 0 0 yX2_forgetOldest cX2_forgetOldest 2 none 0 0 (fun v' h' => v' = none ∧ h' = (fgH h)) 8 [.ref 38, .int (nI i)] [] hh := by
    intro n
    induction n with
    | zero =>
      intro i hh hi he S hA
      refine g_iL1 dX2_forgetOldest_8 ?_
      refine g_aL0 dX2_forgetOldest_9 ?_
      refine g_gI lf_X2_41 (S.l 38 rfl) (S.k 38 rfl rfl) dX2_forgetOldest_10 ?_
      rw [show gI _ 38 7 = nI 15 from hA]
      refine g_icge dX2_forgetOldest_13 (fun c13 => ?_) (fun c13 => absurd (nI_le (by omega) (by omega)) c13)
      exact e_vret rfl dX2_forgetOldest_64 rfl rfl he.symm
    | succ n ih =>
      intro i hh hi he S hA
      refine g_iL1 dX2_forgetOldest_8 ?_
      refine g_aL0 dX2_forgetOldest_9 ?_
      refine g_gI lf_X2_41 (S.l 38 rfl) (S.k 38 rfl rfl) dX2_forgetOldest_10 ?_
      rw [show gI _ 38 7 = nI 15 from hA]
      refine g_icge dX2_forgetOldest_13 (fun c13 => absurd c13 (nI_ge (by omega) (by omega))) (fun c13 => ?_)
      refine g_aL0 dX2_forgetOldest_16 ?_
      refine g_getR lf_X2_24 (S.l 38 rfl) (S.k 38 rfl rfl) (S.r 38 4 rfl rfl) dX2_forgetOldest_17 ?_
      refine g_iL1 dX2_forgetOldest_20 ?_
      refine g_aL0 dX2_forgetOldest_21 ?_
      refine g_getR lf_X2_24 (S.l 38 rfl) (S.k 38 rfl rfl) (S.r 38 4 rfl rfl) dX2_forgetOldest_22 ?_
      refine g_iL1 dX2_forgetOldest_25 ?_
      refine g_iconst dX2_forgetOldest_26 ?_
      refine g_iadd dX2_forgetOldest_27 ?_
      rw [nI_1]
      refine g_ialoadN (S.l 41 rfl) (S.k 41 rfl rfl) (S.n 41 (n := 16) rfl rfl) (by omega) (by decide) dX2_forgetOldest_28 ?_
      refine g_iastoreN (S.l 41 rfl) (S.k 41 rfl rfl) (S.n 41 (n := 16) rfl rfl) (by omega) (by decide) dX2_forgetOldest_29 ?_
      refine g_aL0 dX2_forgetOldest_30 ?_
      refine g_getR lf_X2_27 (S.l 38 rfl) (S.k 38 rfl rfl) (S.r 38 5 rfl rfl) dX2_forgetOldest_31 ?_
      refine g_iL1 dX2_forgetOldest_34 ?_
      refine g_aL0 dX2_forgetOldest_35 ?_
      refine g_getR lf_X2_27 (S.l 38 rfl) (S.k 38 rfl rfl) (S.r 38 5 rfl rfl) dX2_forgetOldest_36 ?_
      refine g_iL1 dX2_forgetOldest_39 ?_
      refine g_iconst dX2_forgetOldest_40 ?_
      refine g_iadd dX2_forgetOldest_41 ?_
      rw [nI_1]
      refine g_ialoadN (S.l 42 rfl) (S.k 42 rfl rfl) (S.n 42 (n := 16) rfl rfl) (by omega) (by decide) dX2_forgetOldest_42 ?_
      refine g_iastoreN (S.l 42 rfl) (S.k 42 rfl rfl) (S.n 42 (n := 16) rfl rfl) (by omega) (by decide) dX2_forgetOldest_43 ?_
      refine g_aL0 dX2_forgetOldest_44 ?_
      refine g_getR lf_X2_30 (S.l 38 rfl) (S.k 38 rfl rfl) (S.r 38 6 rfl rfl) dX2_forgetOldest_45 ?_
      refine g_iL1 dX2_forgetOldest_48 ?_
      refine g_aL0 dX2_forgetOldest_49 ?_
      refine g_getR lf_X2_30 (S.l 38 rfl) (S.k 38 rfl rfl) (S.r 38 6 rfl rfl) dX2_forgetOldest_50 ?_
      refine g_iL1 dX2_forgetOldest_53 ?_
      refine g_iconst dX2_forgetOldest_54 ?_
      refine g_iadd dX2_forgetOldest_55 ?_
      rw [nI_1]
      refine g_ialoadN (S.l 43 rfl) (S.k 43 rfl rfl) (S.n 43 (n := 16) rfl rfl) (by omega) (by decide) dX2_forgetOldest_56 ?_
      refine g_iastoreN (S.l 43 rfl) (S.k 43 rfl rfl) (S.n 43 (n := 16) rfl rfl) (by omega) (by decide) dX2_forgetOldest_57 ?_
      refine g_ii1 dX2_forgetOldest_58 rfl rfl ?_
      refine g_goto dX2_forgetOldest_61 ?_
      rw [nI_1]
      exact ih (i + 1) _ (by omega) he S hA
  refine g_aL0 dX2_forgetOldest_0 ?_
  refine g_bipush dX2_forgetOldest_1 ?_
  refine g_pI0 lf_X2_41 (S.l 38 rfl) (S.k 38 rfl rfl) dX2_forgetOldest_3 ?_
  refine g_iconst dX2_forgetOldest_6 ?_
  refine g_iS1 dX2_forgetOldest_7 rfl rfl ?_
  exact loop 15 0 _ (by omega) rfl S rfl

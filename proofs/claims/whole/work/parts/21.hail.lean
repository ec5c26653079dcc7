/-! THE CLASS: Twins, Hail, Ways -/
abbrev mkL (f s th : Int32) : Int32 := th &&& ((f ||| s) ^^^ (-1))
abbrev mkOk (f fd s sd th : Int32) : Prop := f &&& fd = 0 ∧ s &&& sd = 0 ∧ (f ||| s) &&& (th ^^^ (-1)) = 0 ∧ (mkL f s th &&& (sd ^^^ (-1))) &&& (fd ^^^ (-1)) = 0
def mkH (h : Hp) (f fd s sd th : Int32) : Hp := if mkOk f fd s sd th then pI (pI h 48 0 (f ||| (mkL f s th &&& (sd ^^^ (-1))))) 48 1 (s ||| (mkL f s th &&& sd)) else h
theorem c_make {h : Hp} (S : SX h) (f fd s sd th : Int32) : gCi 0 0 0 yX6_make cX6_make 11 (some .boolean) [.ref 48, .int f, .int fd, .int s, .int sd, .int th] h (some (.int (b2 (mkOk f fd s sd th)))) (mkH h f fd s sd th) := by
  refine g_entry (lv := [.ref 48, .int f, .int fd, .int s, .int sd, .int th, .retAddr 0, .retAddr 0, .retAddr 0, .retAddr 0, .retAddr 0]) 5 pn_X6 rfl rfl rfl ?_
  refine g_iL5 dX6_make_0 ?_
  refine g_iL1 dX6_make_2 ?_
  refine g_iL3 dX6_make_3 ?_
  refine g_ior dX6_make_4 ?_
  refine g_iconst dX6_make_5 ?_
  refine g_ixor dX6_make_6 ?_
  refine g_iand dX6_make_7 ?_
  refine g_iS6 dX6_make_8 rfl rfl ?_
  refine g_iL6 dX6_make_10 ?_
  refine g_iL4 dX6_make_12 ?_
  refine g_iand dX6_make_14 ?_
  refine g_iS7 dX6_make_15 rfl rfl ?_
  refine g_iL6 dX6_make_17 ?_
  refine g_iL4 dX6_make_19 ?_
  refine g_iconst dX6_make_21 ?_
  refine g_ixor dX6_make_22 ?_
  refine g_iand dX6_make_23 ?_
  refine g_iS8 dX6_make_24 rfl rfl ?_
  refine g_iL1 dX6_make_26 ?_
  refine g_iL2 dX6_make_27 ?_
  refine g_iand dX6_make_28 ?_
  refine g_ifne dX6_make_29 (fun c29 => ?_) (fun c29 => ?_)
  · refine g_iconst dX6_make_43 ?_
    refine g_iS9 dX6_make_44 rfl rfl ?_
    refine g_iL1 dX6_make_46 ?_
    refine g_iL3 dX6_make_47 ?_
    refine g_ior dX6_make_48 ?_
    refine g_iL5 dX6_make_49 ?_
    refine g_iconst dX6_make_51 ?_
    refine g_ixor dX6_make_52 ?_
    refine g_iand dX6_make_53 ?_
    refine g_ifne dX6_make_54 (fun c54 => ?_) (fun c54 => ?_)
    · refine g_iconst dX6_make_70 ?_
      refine g_iS10 dX6_make_71 rfl rfl ?_
      refine g_iL9 dX6_make_73 ?_
      refine g_ifeq dX6_make_75 (fun c75 => ?_) (fun c75 => absurd rfl c75)
      refine g_iconst dX6_make_83 ?_
      exact e_zret rfl (by decide) dX6_make_84 rfl rfl (b2_f (fun z => c29 z.1)).symm (if_neg (fun z => c29 z.1)).symm
    · refine g_iL8 dX6_make_57 ?_
      refine g_iL2 dX6_make_59 ?_
      refine g_iconst dX6_make_60 ?_
      refine g_ixor dX6_make_61 ?_
      refine g_iand dX6_make_62 ?_
      refine g_ifne dX6_make_63 (fun c63 => ?_) (fun c63 => ?_)
      · refine g_iconst dX6_make_70 ?_
        refine g_iS10 dX6_make_71 rfl rfl ?_
        refine g_iL9 dX6_make_73 ?_
        refine g_ifeq dX6_make_75 (fun c75 => ?_) (fun c75 => absurd rfl c75)
        refine g_iconst dX6_make_83 ?_
        exact e_zret rfl (by decide) dX6_make_84 rfl rfl (b2_f (fun z => c29 z.1)).symm (if_neg (fun z => c29 z.1)).symm
      · refine g_iconst dX6_make_66 ?_
        refine g_goto dX6_make_67 ?_
        refine g_iS10 dX6_make_71 rfl rfl ?_
        refine g_iL9 dX6_make_73 ?_
        refine g_ifeq dX6_make_75 (fun c75 => ?_) (fun c75 => absurd rfl c75)
        refine g_iconst dX6_make_83 ?_
        exact e_zret rfl (by decide) dX6_make_84 rfl rfl (b2_f (fun z => c29 z.1)).symm (if_neg (fun z => c29 z.1)).symm
  · refine g_iL3 dX6_make_32 ?_
    refine g_iL4 dX6_make_33 ?_
    refine g_iand dX6_make_35 ?_
    refine g_ifne dX6_make_36 (fun c36 => ?_) (fun c36 => ?_)
    · refine g_iconst dX6_make_43 ?_
      refine g_iS9 dX6_make_44 rfl rfl ?_
      refine g_iL1 dX6_make_46 ?_
      refine g_iL3 dX6_make_47 ?_
      refine g_ior dX6_make_48 ?_
      refine g_iL5 dX6_make_49 ?_
      refine g_iconst dX6_make_51 ?_
      refine g_ixor dX6_make_52 ?_
      refine g_iand dX6_make_53 ?_
      refine g_ifne dX6_make_54 (fun c54 => ?_) (fun c54 => ?_)
      · refine g_iconst dX6_make_70 ?_
        refine g_iS10 dX6_make_71 rfl rfl ?_
        refine g_iL9 dX6_make_73 ?_
        refine g_ifeq dX6_make_75 (fun c75 => ?_) (fun c75 => absurd rfl c75)
        refine g_iconst dX6_make_83 ?_
        exact e_zret rfl (by decide) dX6_make_84 rfl rfl (b2_f (fun z => c36 z.2.1)).symm (if_neg (fun z => c36 z.2.1)).symm
      · refine g_iL8 dX6_make_57 ?_
        refine g_iL2 dX6_make_59 ?_
        refine g_iconst dX6_make_60 ?_
        refine g_ixor dX6_make_61 ?_
        refine g_iand dX6_make_62 ?_
        refine g_ifne dX6_make_63 (fun c63 => ?_) (fun c63 => ?_)
        · refine g_iconst dX6_make_70 ?_
          refine g_iS10 dX6_make_71 rfl rfl ?_
          refine g_iL9 dX6_make_73 ?_
          refine g_ifeq dX6_make_75 (fun c75 => ?_) (fun c75 => absurd rfl c75)
          refine g_iconst dX6_make_83 ?_
          exact e_zret rfl (by decide) dX6_make_84 rfl rfl (b2_f (fun z => c36 z.2.1)).symm (if_neg (fun z => c36 z.2.1)).symm
        · refine g_iconst dX6_make_66 ?_
          refine g_goto dX6_make_67 ?_
          refine g_iS10 dX6_make_71 rfl rfl ?_
          refine g_iL9 dX6_make_73 ?_
          refine g_ifeq dX6_make_75 (fun c75 => ?_) (fun c75 => absurd rfl c75)
          refine g_iconst dX6_make_83 ?_
          exact e_zret rfl (by decide) dX6_make_84 rfl rfl (b2_f (fun z => c36 z.2.1)).symm (if_neg (fun z => c36 z.2.1)).symm
    · refine g_iconst dX6_make_39 ?_
      refine g_goto dX6_make_40 ?_
      refine g_iS9 dX6_make_44 rfl rfl ?_
      refine g_iL1 dX6_make_46 ?_
      refine g_iL3 dX6_make_47 ?_
      refine g_ior dX6_make_48 ?_
      refine g_iL5 dX6_make_49 ?_
      refine g_iconst dX6_make_51 ?_
      refine g_ixor dX6_make_52 ?_
      refine g_iand dX6_make_53 ?_
      refine g_ifne dX6_make_54 (fun c54 => ?_) (fun c54 => ?_)
      · refine g_iconst dX6_make_70 ?_
        refine g_iS10 dX6_make_71 rfl rfl ?_
        refine g_iL9 dX6_make_73 ?_
        refine g_ifeq dX6_make_75 (fun c75 => absurd c75 (by decide)) (fun c75 => ?_)
        refine g_iL10 dX6_make_78 ?_
        refine g_ifne dX6_make_80 (fun c80 => absurd rfl c80) (fun c80 => ?_)
        refine g_iconst dX6_make_83 ?_
        exact e_zret rfl (by decide) dX6_make_84 rfl rfl (b2_f (fun z => c54 z.2.2.1)).symm (if_neg (fun z => c54 z.2.2.1)).symm
      · refine g_iL8 dX6_make_57 ?_
        refine g_iL2 dX6_make_59 ?_
        refine g_iconst dX6_make_60 ?_
        refine g_ixor dX6_make_61 ?_
        refine g_iand dX6_make_62 ?_
        refine g_ifne dX6_make_63 (fun c63 => ?_) (fun c63 => ?_)
        · refine g_iconst dX6_make_70 ?_
          refine g_iS10 dX6_make_71 rfl rfl ?_
          refine g_iL9 dX6_make_73 ?_
          refine g_ifeq dX6_make_75 (fun c75 => absurd c75 (by decide)) (fun c75 => ?_)
          refine g_iL10 dX6_make_78 ?_
          refine g_ifne dX6_make_80 (fun c80 => absurd rfl c80) (fun c80 => ?_)
          refine g_iconst dX6_make_83 ?_
          exact e_zret rfl (by decide) dX6_make_84 rfl rfl (b2_f (fun z => c63 z.2.2.2)).symm (if_neg (fun z => c63 z.2.2.2)).symm
        · refine g_iconst dX6_make_66 ?_
          refine g_goto dX6_make_67 ?_
          refine g_iS10 dX6_make_71 rfl rfl ?_
          refine g_iL9 dX6_make_73 ?_
          refine g_ifeq dX6_make_75 (fun c75 => absurd c75 (by decide)) (fun c75 => ?_)
          refine g_iL10 dX6_make_78 ?_
          refine g_ifne dX6_make_80 (fun c80 => ?_) (fun c80 => absurd c80 (by decide))
          refine g_aL0 dX6_make_85 ?_
          refine g_iL1 dX6_make_86 ?_
          refine g_iL8 dX6_make_87 ?_
          refine g_ior dX6_make_89 ?_
          refine g_pI0 lf_X6_7 (S.l 48 rfl) (S.k 48 rfl rfl) dX6_make_90 ?_
          refine g_aL0 dX6_make_93 ?_
          refine g_iL3 dX6_make_94 ?_
          refine g_iL7 dX6_make_95 ?_
          refine g_ior dX6_make_97 ?_
          refine g_pI0 lf_X6_13 (S.l 48 rfl) (S.k 48 rfl rfl) dX6_make_98 ?_
          refine g_iconst dX6_make_101 ?_
          exact e_zret rfl (by decide) dX6_make_102 rfl rfl (b2_t ⟨c29, c36, c54, c63⟩).symm (if_pos (show mkOk f fd s sd th from ⟨c29, c36, c54, c63⟩)).symm
theorem c_twStrokes {h : Hp} (S : SX h) : gCi 1 0 0 yX6_strokes cX6_strokes 1 (some .int) [.ref 48] h (some (.int (bcF (gI h 48 0) + bcF (gI h 48 1)))) h := by
  refine g_entry (lv := [.ref 48]) 0 pn_X6 rfl rfl rfl ?_
  refine g_aL0 dX6_strokes_0 ?_
  refine g_gI lf_X6_7 (S.l 48 rfl) (S.k 48 rfl rfl) dX6_strokes_1 ?_
  refine e_s1i (c_bitCount _) lm_X6_16 dX6_strokes_4 rfl rfl rfl rfl ?_
  refine g_aL0 dX6_strokes_7 ?_
  refine g_gI lf_X6_13 (S.l 48 rfl) (S.k 48 rfl rfl) dX6_strokes_8 ?_
  refine e_s1i (c_bitCount _) lm_X6_16 dX6_strokes_11 rfl rfl rfl rfl ?_
  refine g_iadd dX6_strokes_14 ?_
  exact e_iret rfl dX6_strokes_15 rfl rfl rfl rfl
def drN (s : Nat) : Nat := (75 * s + 74) % 65537
theorem drN_lt (s : Nat) : drN s ≤ 65536 := by have := Nat.mod_lt (75 * s + 74) (show 0 < 65537 by decide); unfold drN; omega
/-- the hail's three fields -/
def h3 (h : Hp) (s r m : Int32) : Hp := pI (pI (pI h 49 0 s) 49 1 r) 49 2 m
theorem pI_cong {h : Hp} {f g : Nat → Nat → Int32} (e : f = g) : ((h.1, h.2.1, h.2.2.1, h.2.2.2.1, f, h.2.2.2.2.2) : Hp) = (h.1, h.2.1, h.2.2.1, h.2.2.2.1, g, h.2.2.2.2.2) := by rw [e]
theorem h3_0 (h : Hp) (s r m x : Int32) : pI (h3 h s r m) 49 0 x = h3 h x r m := pI_cong (by
  funext b j
  simp only [h3, pI, u2]
  by_cases hb : b = 49 <;> by_cases h0 : j = 0 <;> by_cases h1 : j = 1 <;> by_cases h2 : j = 2 <;> simp_all)
theorem h3_1 (h : Hp) (s r m x : Int32) : pI (h3 h s r m) 49 1 x = h3 h s x m := pI_cong (by
  funext b j
  simp only [h3, pI, u2]
  by_cases hb : b = 49 <;> by_cases h0 : j = 0 <;> by_cases h1 : j = 1 <;> by_cases h2 : j = 2 <;> simp_all)
theorem h3_2 (h : Hp) (s r m x : Int32) : pI (h3 h s r m) 49 2 x = h3 h s r x := pI_cong (by
  funext b j
  simp only [h3, pI, u2]
  by_cases hb : b = 49 <;> by_cases h0 : j = 0 <;> by_cases h1 : j = 1 <;> by_cases h2 : j = 2 <;> simp_all)
theorem h3_I0 (h : Hp) (s r m : Int32) : gI (h3 h s r m) 49 0 = s := rfl
theorem h3_I1 (h : Hp) (s r m : Int32) : gI (h3 h s r m) 49 1 = r := rfl
theorem h3_I2 (h : Hp) (s r m : Int32) : gI (h3 h s r m) 49 2 = m := rfl
theorem h3_n (h : Hp) (s r m : Int32) {b j : Nat} (hb : ¬ b = 49) : gI (h3 h s r m) b j = gI h b j := by
  unfold h3
  rw [gIq hb, gIq hb, gIq hb]
theorem c_draw {h : Hp} (S : SX h) {s : Nat} (hs : s ≤ 65536) (r m : Int32) : gCi 0 0 0 yX1_draw cX1_draw 1 (some .int) [.ref 49] (h3 h (nI s) r m) (some (.int (nI (drN s)))) (h3 h (nI (drN s)) r m) := by
  refine g_entry (lv := [.ref 49]) 0 pn_X1 rfl rfl rfl ?_
  refine g_aL0 dX1_draw_0 ?_
  refine g_bipush dX1_draw_1 ?_
  rw [show (75 : Int32) = nI 75 from rfl]
  refine g_aL0 dX1_draw_3 ?_
  refine g_gI lf_X1_7 (S.l 49 rfl) (S.k 49 rfl rfl) dX1_draw_4 ?_
  rw [h3_I0]
  refine g_imul dX1_draw_7 ?_
  rw [pk_mul]
  refine g_bipush dX1_draw_8 ?_
  rw [show (74 : Int32) = nI 74 from rfl]
  refine g_iadd dX1_draw_10 ?_
  rw [nI_add]
  refine g_ldc dX1_draw_11 lc_X1_38 ?_
  rw [show (65537 : Int32) = nI 65537 from rfl]
  refine g_irem dX1_draw_13 (by decide) ?_
  rw [pk_rem (by omega) (by decide) (by decide), show (75 * s + 74) % 65537 = drN s from rfl]
  refine g_pI0 lf_X1_7 (S.l 49 rfl) (S.k 49 rfl rfl) dX1_draw_14 ?_
  rw [h3_0]
  refine g_aL0 dX1_draw_17 ?_
  refine g_gI lf_X1_7 (S.l 49 rfl) (S.k 49 rfl rfl) dX1_draw_18 ?_
  exact e_iret rfl dX1_draw_21 rfl rfl rfl rfl
def stF (kd : Nat → Int32) (N s : Nat) (r : Int32) : Int32 := if kd (s % N) = 1 then r else r &&& (((1 : Int32) <<< (nI (s % N) &&& 31)) ^^^ (-1))
theorem c_strike {h : Hp} {t : Nat} (S : SX h) (hc : t = 3 ∨ t = 18) {N : Nat} (hN : gI h (t + 1) 1 = nI N) (hN0 : 0 < N) (hN8 : N ≤ 8) {s : Nat} (hs : s ≤ 65536) (r m : Int32) : gCi 1 0 0 yX1_strike cX1_strike 4 none [.ref 49, .ref t] (h3 h (nI s) r m) none (h3 h (nI (drN s)) (stF (gI h (t + 2)) N (drN s) r) m) := by
  have hmod : drN s % N < N := Nat.mod_lt _ hN0
  have hdl := drN_lt s
  refine g_entry (lv := [.ref 49, .ref t, .retAddr 0, .retAddr 0]) 2 pn_X1 rfl rfl rfl ?_
  refine g_aL1 dX1_strike_0 ?_
  refine g_getR lf_X1_39 (S.cl hc 0 rfl) (S.ck hc) (S.cr hc 0 (j := 1) rfl rfl) dX1_strike_1 ?_
  refine g_iconst dX1_strike_4 ?_
  refine g_ialoadK (S.cl hc 1 rfl) (S.cka hc 1 rfl rfl) (S.cn hc 1 (n := 11) rfl rfl rfl) rfl (j := 1) rfl dX1_strike_5 ?_
  rw [h3_n _ _ _ _ (by omega), hN]
  refine g_iS2 dX1_strike_6 rfl rfl ?_
  refine g_iL2 dX1_strike_7 ?_
  refine g_ifle dX1_strike_8 (fun c8 => absurd c8 (nI_nle hN0 (by omega))) (fun c8 => ?_)
  refine g_aL0 dX1_strike_11 ?_
  refine e_v0i (c_draw S hs r m) lm_X1_19 dX1_strike_12 (S.l 49 rfl) (S.k 49 rfl rfl) rfl rfl rfl rfl ?_
  refine g_iL2 dX1_strike_15 ?_
  refine g_irem dX1_strike_16 (nI_ne0 hN0 (by omega)) ?_
  rw [pk_rem (by omega) hN0 (by omega)]
  refine g_iS3 dX1_strike_17 rfl rfl ?_
  refine g_aL1 dX1_strike_18 ?_
  refine g_getR lf_X1_43 (S.cl hc 0 rfl) (S.ck hc) (S.cr hc 6 (j := 2) rfl rfl) dX1_strike_19 ?_
  refine g_iL3 dX1_strike_22 ?_
  refine g_ialoadN (S.cl hc 2 rfl) (S.cka hc 2 rfl rfl) (S.cn hc 2 (n := 8) rfl rfl rfl) (by omega) (by decide) dX1_strike_23 ?_
  rw [h3_n _ _ _ _ (by omega)]
  refine g_iconst dX1_strike_24 ?_
  refine g_iceq dX1_strike_25 (fun c25 => ?_) (fun c25 => ?_)
  · try rw [h3_1]
    exact e_vret rfl dX1_strike_42 rfl rfl (by unfold stF; first | rw [if_pos c25] | rw [if_neg c25])
  · refine g_aL0 dX1_strike_28 ?_
    refine g_dup dX1_strike_29 rfl ?_
    refine g_gI lf_X1_13 (S.l 49 rfl) (S.k 49 rfl rfl) dX1_strike_30 ?_
    refine g_iconst dX1_strike_33 ?_
    refine g_iL3 dX1_strike_34 ?_
    refine g_ishl dX1_strike_35 ?_
    refine g_iconst dX1_strike_36 ?_
    refine g_ixor dX1_strike_37 ?_
    refine g_iand dX1_strike_38 ?_
    rw [h3_I1]
    refine g_pI0 lf_X1_13 (S.l 49 rfl) (S.k 49 rfl rfl) dX1_strike_39 ?_
    try rw [h3_1]
    exact e_vret rfl dX1_strike_42 rfl rfl (by unfold stF; first | rw [if_pos c25] | rw [if_neg c25])
def meF (kd : Nat → Int32) : Nat → Nat → Int32 → Int32
  | 0, _, r => r
  | n + 1, i, r => if kd i = 2 then meF kd n (i + 1) (r &&& (((1 : Int32) <<< (nI i &&& 31)) ^^^ (-1))) else meF kd n (i + 1) r
theorem c_melt {h : Hp} {t : Nat} (S : SX h) (hc : t = 3 ∨ t = 18) {N : Nat} (hN : gI h (t + 1) 1 = nI N) (hN0 : 0 < N) (hN8 : N ≤ 8) (s r0 m : Int32) : gCi 0 0 0 yX1_melt cX1_melt 3 none [.ref 49, .ref t] (h3 h s r0 m) none (h3 h s (meF (gI h (t + 2)) N 0 r0) m) := by
  refine g_entry (lv := [.ref 49, .ref t, .retAddr 0]) 1 pn_X1 rfl rfl rfl ?_
  have loop : ∀ (n i : Nat) (r : Int32), i + n = N → meF (gI h (t + 2)) N 0 r0 = meF (gI h (t + 2)) n i r → gY 0 0 0 yX1_melt cX1_melt 3 none 0 0 (fun v' h' => v' = none ∧ h' = (h3 h s (meF (gI h (t + 2)) N 0 r0) m)) 2 [.ref 49, .ref t, .int (nI i)] [] (h3 h s r m) := by
    intro n
    induction n with
    | zero =>
      intro i r hi he 
      refine g_iL2 dX1_melt_2 ?_
      refine g_aL1 dX1_melt_3 ?_
      refine g_getR lf_X1_39 (S.cl hc 0 rfl) (S.ck hc) (S.cr hc 0 (j := 1) rfl rfl) dX1_melt_4 ?_
      refine g_iconst dX1_melt_7 ?_
      refine g_ialoadK (S.cl hc 1 rfl) (S.cka hc 1 rfl rfl) (S.cn hc 1 (n := 11) rfl rfl rfl) rfl (j := 1) rfl dX1_melt_8 ?_
      rw [h3_n _ _ _ _ (by omega), hN]
      refine g_icge dX1_melt_9 (fun c9 => ?_) (fun c9 => absurd (nI_le (by omega) (by omega)) c9)
      exact e_vret rfl dX1_melt_42 rfl rfl (by rw [he]; rfl)
    | succ n ih =>
      intro i r hi he 
      refine g_iL2 dX1_melt_2 ?_
      refine g_aL1 dX1_melt_3 ?_
      refine g_getR lf_X1_39 (S.cl hc 0 rfl) (S.ck hc) (S.cr hc 0 (j := 1) rfl rfl) dX1_melt_4 ?_
      refine g_iconst dX1_melt_7 ?_
      refine g_ialoadK (S.cl hc 1 rfl) (S.cka hc 1 rfl rfl) (S.cn hc 1 (n := 11) rfl rfl rfl) rfl (j := 1) rfl dX1_melt_8 ?_
      rw [h3_n _ _ _ _ (by omega), hN]
      refine g_icge dX1_melt_9 (fun c9 => absurd c9 (nI_ge (by omega) (by omega))) (fun c9 => ?_)
      refine g_aL1 dX1_melt_12 ?_
      refine g_getR lf_X1_43 (S.cl hc 0 rfl) (S.ck hc) (S.cr hc 6 (j := 2) rfl rfl) dX1_melt_13 ?_
      refine g_iL2 dX1_melt_16 ?_
      refine g_ialoadN (S.cl hc 2 rfl) (S.cka hc 2 rfl rfl) (S.cn hc 2 (n := 8) rfl rfl rfl) (by omega) (by decide) dX1_melt_17 ?_
      rw [h3_n _ _ _ _ (by omega)]
      refine g_iconst dX1_melt_18 ?_
      refine g_icne dX1_melt_19 (fun c19 => ?_) (fun c19 => ?_)
      · try rw [h3_1]
        refine g_ii2 dX1_melt_36 rfl rfl ?_
        refine g_goto dX1_melt_39 ?_
        rw [nI_1]
        exact ih (i + 1) _ (by omega) (he.trans (if_neg c19)) 
      · refine g_aL0 dX1_melt_22 ?_
        refine g_dup dX1_melt_23 rfl ?_
        refine g_gI lf_X1_13 (S.l 49 rfl) (S.k 49 rfl rfl) dX1_melt_24 ?_
        refine g_iconst dX1_melt_27 ?_
        refine g_iL2 dX1_melt_28 ?_
        refine g_ishl dX1_melt_29 ?_
        refine g_iconst dX1_melt_30 ?_
        refine g_ixor dX1_melt_31 ?_
        refine g_iand dX1_melt_32 ?_
        rw [h3_I1]
        refine g_pI0 lf_X1_13 (S.l 49 rfl) (S.k 49 rfl rfl) dX1_melt_33 ?_
        try rw [h3_1]
        refine g_ii2 dX1_melt_36 rfl rfl ?_
        refine g_goto dX1_melt_39 ?_
        rw [nI_1]
        exact ih (i + 1) _ (by omega) (he.trans (if_pos c19)) 
  refine g_iconst dX1_melt_0 ?_
  refine g_iS2 dX1_melt_1 rfl rfl ?_
  exact loop N 0 _ (by omega) rfl
def paF (hl ic : Int32) (kd : Nat → Int32) (N : Nat) : Nat → Nat → Nat → Int32 → Int32 → Nat × Int32 × Int32
  | 0, _, s, r, m => (s, r, m)
  | n + 1, i, s, r, m => if hl ≤ nI (drN s % 100) then (if nI i = ic then paF hl ic kd N n (i + 1) (drN s) (meF kd N 0 r) m else paF hl ic kd N n (i + 1) (drN s) r m) else (if nI i = ic then paF hl ic kd N n (i + 1) (drN (drN s)) (meF kd N 0 (stF kd N (drN (drN s)) r)) (m + 1) else paF hl ic kd N n (i + 1) (drN (drN s)) (stF kd N (drN (drN s)) r) (m + 1))
abbrev paT (h : Hp) (q : Nat × Int32 × Int32) : Hp := h3 h (nI q.1) q.2.1 q.2.2
theorem c_pass {h : Hp} {t : Nat} (S : SX h) (hc : t = 3 ∨ t = 18) {N : Nat} (hN : gI h (t + 1) 1 = nI N) (hN0 : 0 < N) (hN8 : N ≤ 8) {s0 : Nat} (hs0 : s0 ≤ 65536) (r0 : Int32) {D : Nat} (hD : D ≤ 99) : gCi 2 0 0 yX1_pass cX1_pass 6 none [.ref 49, .ref t, .int r0, .int (nI s0), .int (nI D)] h none (paT h (paF (gI h t 3) (gI h t 4) (gI h (t + 2)) N D 1 s0 r0 0)) := by
  refine g_entry (lv := [.ref 49, .ref t, .int r0, .int (nI s0), .int (nI D), .retAddr 0]) 1 pn_X1 rfl rfl rfl ?_
  have loop : ∀ (n i : Nat) (s : Nat) (r : Int32) (m : Int32), i + n = D + 1 → paF (gI h t 3) (gI h t 4) (gI h (t + 2)) N D 1 s0 r0 0 = paF (gI h t 3) (gI h t 4) (gI h (t + 2)) N n i s r m → s ≤ 65536 → gY 2 0 0 yX1_pass cX1_pass 6 none 0 0 (fun v' h' => v' = none ∧ h' = (paT h (paF (gI h t 3) (gI h t 4) (gI h (t + 2)) N D 1 s0 r0 0))) 18 [.ref 49, .ref t, .int r0, .int (nI s0), .int (nI D), .int (nI i)] [] (h3 h (nI s) r m) := by
    intro n
    induction n with
    | zero =>
      intro i s r m hi he hs
      refine g_iL5 dX1_pass_18 ?_
      refine g_iL4 dX1_pass_20 ?_
      refine g_icgt dX1_pass_22 (fun c22 => ?_) (fun c22 => absurd (nI_lt (by omega) (by omega)) c22)
      exact e_vret rfl dX1_pass_74 rfl rfl (by rw [he]; rfl)
    | succ n ih =>
      intro i s r m hi he hs
      refine g_iL5 dX1_pass_18 ?_
      refine g_iL4 dX1_pass_20 ?_
      refine g_icgt dX1_pass_22 (fun c22 => absurd c22 (nI_nlt (by omega) (by omega))) (fun c22 => ?_)
      refine g_aL0 dX1_pass_25 ?_
      refine e_v0i (c_draw S hs r m) lm_X1_19 dX1_pass_26 (S.l 49 rfl) (S.k 49 rfl rfl) rfl rfl rfl rfl ?_
      have hd1 := drN_lt s
      refine g_bipush dX1_pass_29 ?_
      rw [show (100 : Int32) = nI 100 from rfl]
      refine g_irem dX1_pass_31 (by decide) ?_
      rw [pk_rem (by omega) (by decide) (by decide)]
      refine g_aL1 dX1_pass_32 ?_
      refine g_gI lf_X1_23 (S.cl hc 0 rfl) (S.ck hc) dX1_pass_33 ?_
      rw [h3_n _ _ _ _ (by omega)]
      refine g_icge dX1_pass_36 (fun c36 => ?_) (fun c36 => ?_)
      · refine g_iL5 dX1_pass_54 ?_
        refine g_aL1 dX1_pass_56 ?_
        refine g_gI lf_X1_32 (S.cl hc 0 rfl) (S.ck hc) dX1_pass_57 ?_
        rw [h3_n _ _ _ _ (by omega)]
        refine g_icne dX1_pass_60 (fun c60 => ?_) (fun c60 => ?_)
        · refine g_ii5 dX1_pass_68 rfl rfl ?_
          refine g_goto dX1_pass_71 ?_
          rw [nI_1]
          exact ih (i + 1) _ _ _ (by omega) (he.trans ((if_pos c36).trans (if_neg c60))) (by first | exact drN_lt _ | exact hs)
        · refine g_aL0 dX1_pass_63 ?_
          refine g_aL1 dX1_pass_64 ?_
          refine e_v1u (c_melt S hc hN hN0 hN8 _ _ _) lm_X1_35 dX1_pass_65 (S.l 49 rfl) (S.k 49 rfl rfl) rfl rfl rfl rfl ?_
          refine g_ii5 dX1_pass_68 rfl rfl ?_
          refine g_goto dX1_pass_71 ?_
          rw [nI_1]
          exact ih (i + 1) _ _ _ (by omega) (he.trans ((if_pos c36).trans (if_pos c60))) (by first | exact drN_lt _ | exact hs)
      · refine g_aL0 dX1_pass_39 ?_
        refine g_dup dX1_pass_40 rfl ?_
        refine g_gI lf_X1_16 (S.l 49 rfl) (S.k 49 rfl rfl) dX1_pass_41 ?_
        refine g_iconst dX1_pass_44 ?_
        rw [h3_I2]
        refine g_iadd dX1_pass_45 ?_
        refine g_pI0 lf_X1_16 (S.l 49 rfl) (S.k 49 rfl rfl) dX1_pass_46 ?_
        rw [h3_2]
        refine g_aL0 dX1_pass_49 ?_
        refine g_aL1 dX1_pass_50 ?_
        refine e_v1u (c_strike S hc hN hN0 hN8 hd1 r (m + 1)) lm_X1_28 dX1_pass_51 (S.l 49 rfl) (S.k 49 rfl rfl) rfl rfl rfl rfl ?_
        refine g_iL5 dX1_pass_54 ?_
        refine g_aL1 dX1_pass_56 ?_
        refine g_gI lf_X1_32 (S.cl hc 0 rfl) (S.ck hc) dX1_pass_57 ?_
        rw [h3_n _ _ _ _ (by omega)]
        refine g_icne dX1_pass_60 (fun c60 => ?_) (fun c60 => ?_)
        · refine g_ii5 dX1_pass_68 rfl rfl ?_
          refine g_goto dX1_pass_71 ?_
          rw [nI_1]
          exact ih (i + 1) _ _ _ (by omega) (he.trans ((if_neg c36).trans (if_neg c60))) (by first | exact drN_lt _ | exact hs)
        · refine g_aL0 dX1_pass_63 ?_
          refine g_aL1 dX1_pass_64 ?_
          refine e_v1u (c_melt S hc hN hN0 hN8 _ _ _) lm_X1_35 dX1_pass_65 (S.l 49 rfl) (S.k 49 rfl rfl) rfl rfl rfl rfl ?_
          refine g_ii5 dX1_pass_68 rfl rfl ?_
          refine g_goto dX1_pass_71 ?_
          rw [nI_1]
          exact ih (i + 1) _ _ _ (by omega) (he.trans ((if_neg c36).trans (if_pos c60))) (by first | exact drN_lt _ | exact hs)
  refine g_aL0 dX1_pass_0 ?_
  refine g_iL3 dX1_pass_1 ?_
  refine g_pI0 lf_X1_7 (S.l 49 rfl) (S.k 49 rfl rfl) dX1_pass_2 ?_
  refine g_aL0 dX1_pass_5 ?_
  refine g_iL2 dX1_pass_6 ?_
  refine g_pI0 lf_X1_13 (S.l 49 rfl) (S.k 49 rfl rfl) dX1_pass_7 ?_
  refine g_aL0 dX1_pass_10 ?_
  refine g_iconst dX1_pass_11 ?_
  refine g_pI0 lf_X1_16 (S.l 49 rfl) (S.k 49 rfl rfl) dX1_pass_12 ?_
  refine g_iconst dX1_pass_15 ?_
  refine g_iS5 dX1_pass_16 rfl rfl ?_
  exact loop D 1 _ _ _ (by omega) rfl hs0

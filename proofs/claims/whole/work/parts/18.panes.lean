/-! THE CLASS: Panes, what it answers -/
/-- a contract holds at every greater depth -/
theorem gCi_deep {d d' RC RS nL : Nat} {y : MethodName} {cc : ByteArray} {ret : Option FieldType} {args : List Value} {h h2 : Hp} {r : Option Value} (hd : d ≤ d') (hC : gCi d RC RS y cc nL ret args h r h2) : gCi d' RC RS y cc nL ret args h r h2 := by
  intro l G p e ha hc hk s m a below hf happ hP hK
  refine hC l G p e ha hc hk s m a below hf ?_ hP hK
  obtain ⟨g1, g2, g3, g4, g5, g6, g7, g8⟩ := (Spec.appliesLoose_iff hf).mp happ
  refine (Spec.appliesLoose_iff hf).mpr ⟨g1, g2, g3, g4, g5, g6, ?_, g8⟩
  have e1 : (headSpec (Cond.code y cc nL ret :: gtb) (grm d' RC RS)).room = grm d' RC RS := rfl
  have e2 : (headSpec (Cond.code y cc nL ret :: gtb) (grm d RC RS)).room = grm d RC RS := rfl
  rw [e1] at g7
  rw [e2]
  simp only [State.hasRoom, Bool.and_eq_true, decide_eq_true_eq] at g7 ⊢
  have h1 := g7.1.1.1.1
  have h2 := g7.1.1.1.2
  refine ⟨⟨⟨⟨?_, ?_⟩, g7.1.1.2⟩, g7.1.2⟩, g7.2⟩
  · simp only [grm] at h1 ⊢; omega
  · simp only [grm] at h2 ⊢; exact ⟨by omega, by omega, by omega, by omega, h2.2.2.2.2⟩
theorem c_isBroken {h : Hp} (S : SX h) (p : Int32) : gCi 0 0 0 yX2_isBroken cX2_isBroken 2 (some .boolean) [.ref 38, .int p] h (some (.int (thF (gI h 38 3) p))) h := by
  refine g_entry (lv := [.ref 38, .int p]) 0 pn_X2 rfl rfl rfl ?_
  refine g_aL0 dX2_isBroken_0 ?_
  refine g_gI lf_X2_37 (S.l 38 rfl) (S.k 38 rfl rfl) dX2_isBroken_1 ?_
  refine g_iL1 dX2_isBroken_4 ?_
  refine g_ishr dX2_isBroken_5 ?_
  refine g_iconst dX2_isBroken_6 ?_
  refine g_iand dX2_isBroken_7 ?_
  refine g_ifeq dX2_isBroken_8 (fun c8 => ?_) (fun c8 => ?_)
  · refine g_iconst dX2_isBroken_15 ?_
    exact e_zret rfl (by decide) dX2_isBroken_16 rfl rfl (if_pos c8).symm rfl
  · refine g_iconst dX2_isBroken_11 ?_
    refine g_goto dX2_isBroken_12 ?_
    exact e_zret rfl (by decide) dX2_isBroken_16 rfl rfl (if_neg c8).symm rfl
def ubF (cn br : Int32) : Int32 := (((1 : Int32) <<< (cn &&& 31)) - 1) &&& (br ^^^ (-1))
theorem c_unbroken {h : Hp} {t : Nat} (S : SX h) (hc : t = 3 ∨ t = 18) (hT : gR h 38 0 = some t) : gCi 0 0 0 yX2_unbroken cX2_unbroken 1 (some .int) [.ref 38] h (some (.int (ubF (gI h (t + 1) 1) (gI h 38 3)))) h := by
  refine g_entry (lv := [.ref 38]) 0 pn_X2 rfl rfl rfl ?_
  refine g_iconst dX2_unbroken_0 ?_
  refine g_aL0 dX2_unbroken_1 ?_
  refine g_getR lf_X2_11 (S.l 38 rfl) (S.k 38 rfl rfl) hT dX2_unbroken_2 ?_
  refine g_getR lf_X2_47 (S.cl hc 0 rfl) (S.ck hc) (S.cr hc 0 rfl rfl) dX2_unbroken_5 ?_
  refine g_iconst dX2_unbroken_8 ?_
  refine g_ialoadK (S.cl hc 1 rfl) (S.cka hc 1 rfl rfl) (S.cn hc 1 (n := 11) rfl rfl rfl) rfl (j := 1) rfl dX2_unbroken_9 ?_
  refine g_ishl dX2_unbroken_10 ?_
  refine g_iconst dX2_unbroken_11 ?_
  refine g_isub dX2_unbroken_12 ?_
  refine g_aL0 dX2_unbroken_13 ?_
  refine g_gI lf_X2_37 (S.l 38 rfl) (S.k 38 rfl rfl) dX2_unbroken_14 ?_
  refine g_iconst dX2_unbroken_17 ?_
  refine g_ixor dX2_unbroken_18 ?_
  refine g_iand dX2_unbroken_19 ?_
  exact e_iret rfl dX2_unbroken_20 rfl rfl rfl rfl
theorem c_light {h : Hp} {t : Nat} (S : SX h) (hc : t = 3 ∨ t = 18) (hT : gR h 38 0 = some t) {p : Nat} (hp : p < 8) : gCi 1 0 0 yX2_light cX2_light 2 (some .int) [.ref 38, .int (nI p)] h (some (.int (gI h t 1 * gI h t 2 - bcF (gI h 39 p)))) h := by
  refine g_entry (lv := [.ref 38, .int (nI p)]) 0 pn_X2 rfl rfl rfl ?_
  refine g_aL0 dX2_light_0 ?_
  refine g_getR lf_X2_11 (S.l 38 rfl) (S.k 38 rfl rfl) hT dX2_light_1 ?_
  refine e_v0i (c_cells S hc) lm_X2_50 dX2_light_4 (S.cl hc 0 rfl) (S.ck hc) rfl rfl rfl rfl ?_
  refine g_aL0 dX2_light_7 ?_
  refine g_getR lf_X2_17 (S.l 38 rfl) (S.k 38 rfl rfl) (S.r 38 1 rfl rfl) dX2_light_8 ?_
  refine g_iL1 dX2_light_11 ?_
  refine g_ialoadN (S.l 39 rfl) (S.k 39 rfl rfl) (S.n 39 (n := 8) rfl rfl) hp (by decide) dX2_light_12 ?_
  refine e_s1i (c_bitCount _) lm_X2_54 dX2_light_13 rfl rfl rfl rfl ?_
  refine g_isub dX2_light_16 ?_
  exact e_iret rfl dX2_light_17 rfl rfl rfl rfl
def sbF (st pu dk : Int32) : Int32 := (st &&& (pu ^^^ (-1))) &&& (dk ^^^ (-1))
/-- what is seen of pane p against view v -/
abbrev seF (h : Hp) (t p : Nat) (v : Int32) : Int32 := sbF (gI h 39 p) (gI h 40 p) (dkF (gI h (t + 5)) v)
theorem c_seenBits {h : Hp} {t : Nat} (S : SX h) (hc : t = 3 ∨ t = 18) (hT : gR h 38 0 = some t) {p : Nat} (hp : p < 8) (v : Int32) : gCi 1 0 0 yX2_seenBits cX2_seenBits 3 (some .int) [.ref 38, .int (nI p), .int v] h (some (.int (seF h t p v))) h := by
  refine g_entry (lv := [.ref 38, .int (nI p), .int v]) 0 pn_X2 rfl rfl rfl ?_
  refine g_aL0 dX2_seenBits_0 ?_
  refine g_getR lf_X2_17 (S.l 38 rfl) (S.k 38 rfl rfl) (S.r 38 1 rfl rfl) dX2_seenBits_1 ?_
  refine g_iL1 dX2_seenBits_4 ?_
  refine g_ialoadN (S.l 39 rfl) (S.k 39 rfl rfl) (S.n 39 (n := 8) rfl rfl) hp (by decide) dX2_seenBits_5 ?_
  refine g_aL0 dX2_seenBits_6 ?_
  refine g_getR lf_X2_21 (S.l 38 rfl) (S.k 38 rfl rfl) (S.r 38 2 rfl rfl) dX2_seenBits_7 ?_
  refine g_iL1 dX2_seenBits_10 ?_
  refine g_ialoadN (S.l 40 rfl) (S.k 40 rfl rfl) (S.n 40 (n := 8) rfl rfl) hp (by decide) dX2_seenBits_11 ?_
  refine g_iconst dX2_seenBits_12 ?_
  refine g_ixor dX2_seenBits_13 ?_
  refine g_iand dX2_seenBits_14 ?_
  refine g_aL0 dX2_seenBits_15 ?_
  refine g_getR lf_X2_11 (S.l 38 rfl) (S.k 38 rfl rfl) hT dX2_seenBits_16 ?_
  refine g_iL2 dX2_seenBits_19 ?_
  refine e_v1i (c_darkOf S hc _) lm_X2_60 dX2_seenBits_20 (S.cl hc 0 rfl) (S.ck hc) rfl rfl rfl rfl ?_
  refine g_iconst dX2_seenBits_23 ?_
  refine g_ixor dX2_seenBits_24 ?_
  refine g_iand dX2_seenBits_25 ?_
  exact e_iret rfl dX2_seenBits_26 rfl rfl rfl rfl
abbrev wrF (h : Hp) (t N p : Nat) (v : Int32) : Int32 := fwF (gI h (t + 4)) (seF h t p v) N 0
theorem c_wordRead {h : Hp} {t : Nat} (S : SX h) (hc : t = 3 ∨ t = 18) (hT : gR h 38 0 = some t) {N : Nat} (hN : gI h (t + 1) 2 = nI N) (hN8 : N ≤ 8) {p : Nat} (hp : p < 8) (v : Int32) : gCi 2 0 0 yX2_wordRead cX2_wordRead 3 (some .int) [.ref 38, .int (nI p), .int v] h (some (.int (wrF h t N p v))) h := by
  refine g_entry (lv := [.ref 38, .int (nI p), .int v]) 0 pn_X2 rfl rfl rfl ?_
  refine g_aL0 dX2_wordRead_0 ?_
  refine g_getR lf_X2_11 (S.l 38 rfl) (S.k 38 rfl rfl) hT dX2_wordRead_1 ?_
  refine g_aL0 dX2_wordRead_4 ?_
  refine g_iL1 dX2_wordRead_5 ?_
  refine g_iL2 dX2_wordRead_6 ?_
  refine e_v2i (c_seenBits S hc hT hp _) lm_X2_63 dX2_wordRead_7 (S.l 38 rfl) (S.k 38 rfl rfl) rfl rfl rfl rfl ?_
  refine e_v1i (c_firstWord S hc hN hN8 _) lm_X2_67 dX2_wordRead_10 (S.cl hc 0 rfl) (S.ck hc) rfl rfl rfl rfl ?_
  exact e_iret rfl dX2_wordRead_13 rfl rfl rfl rfl
abbrev ltF (h : Hp) (t p q : Nat) : Int32 := seF h t p (-2) ||| seF h t q (-2)
theorem c_laidTogether {h : Hp} {t : Nat} (S : SX h) (hc : t = 3 ∨ t = 18) (hT : gR h 38 0 = some t) {p q : Nat} (hp : p < 8) (hq : q < 8) : gCi 2 0 0 yX2_laidTogether cX2_laidTogether 3 (some .int) [.ref 38, .int (nI p), .int (nI q)] h (some (.int (ltF h t p q))) h := by
  refine g_entry (lv := [.ref 38, .int (nI p), .int (nI q)]) 0 pn_X2 rfl rfl rfl ?_
  refine g_aL0 dX2_laidTogether_0 ?_
  refine g_iL1 dX2_laidTogether_1 ?_
  refine g_bipush dX2_laidTogether_2 ?_
  refine e_v2i (c_seenBits S hc hT hp _) lm_X2_63 dX2_laidTogether_4 (S.l 38 rfl) (S.k 38 rfl rfl) rfl rfl rfl rfl ?_
  refine g_aL0 dX2_laidTogether_7 ?_
  refine g_iL2 dX2_laidTogether_8 ?_
  refine g_bipush dX2_laidTogether_9 ?_
  refine e_v2i (c_seenBits S hc hT hq _) lm_X2_63 dX2_laidTogether_11 (S.l 38 rfl) (S.k 38 rfl rfl) rfl rfl rfl rfl ?_
  refine g_ior dX2_laidTogether_14 ?_
  exact e_iret rfl dX2_laidTogether_15 rfl rfl rfl rfl
def fpI (br : Nat → Int32) (lt : Nat → Nat → Int32) (b rest : Int32) (p : Nat) : Nat → Nat → Int32
  | 0, _ => rest
  | m + 1, q => if br p = 0 then (if br q = 0 then (if lt p q = b then 10 * nI p + nI q else fpI br lt b rest p m (q + 1)) else fpI br lt b rest p m (q + 1)) else fpI br lt b rest p m (q + 1)
def fpO (br : Nat → Int32) (lt : Nat → Nat → Int32) (b : Int32) (N : Nat) : Nat → Nat → Int32
  | 0, _ => -2
  | n + 1, p => fpI br lt b (fpO br lt b N n (p + 1)) p (N - (p + 1)) (p + 1)
theorem c_firstPair {h : Hp} {t : Nat} (S : SX h) (hc : t = 3 ∨ t = 18) (hT : gR h 38 0 = some t) {N : Nat} (hN : gI h (t + 1) 1 = nI N) (hN8 : N ≤ 8) (b : Int32) : gCi 3 0 0 yX2_firstPair cX2_firstPair 4 (some .int) [.ref 38, .int b] h (some (.int (fpO (fun p => thF (gI h 38 3) (nI p)) (ltF h t) b N N 0))) h := by
  refine g_entry (lv := [.ref 38, .int b, .retAddr 0, .retAddr 0]) 2 pn_X2 rfl rfl rfl ?_
  have loop : ∀ (n i : Nat) (v3 : Value), i + n = N → fpO (fun p => thF (gI h 38 3) (nI p)) (ltF h t) b N N 0 = fpO (fun p => thF (gI h 38 3) (nI p)) (ltF h t) b N n i → gY 3 0 0 yX2_firstPair cX2_firstPair 4 (some .int) 0 0 (fun v' h' => v' = (some (.int (fpO (fun p => thF (gI h 38 3) (nI p)) (ltF h t) b N N 0))) ∧ h' = h) 2 [.ref 38, .int b, .int (nI i), v3] [] h := by
    intro n
    induction n with
    | zero =>
      intro i v3 hi he 
      refine g_iL2 dX2_firstPair_2 ?_
      refine g_aL0 dX2_firstPair_3 ?_
      refine g_getR lf_X2_11 (S.l 38 rfl) (S.k 38 rfl rfl) hT dX2_firstPair_4 ?_
      refine g_getR lf_X2_47 (S.cl hc 0 rfl) (S.ck hc) (S.cr hc 0 rfl rfl) dX2_firstPair_7 ?_
      refine g_iconst dX2_firstPair_10 ?_
      refine g_ialoadK (S.cl hc 1 rfl) (S.cka hc 1 rfl rfl) (S.cn hc 1 (n := 11) rfl rfl rfl) rfl (j := 1) rfl dX2_firstPair_11 ?_
      rw [hN]
      refine g_icge dX2_firstPair_12 (fun c12 => ?_) (fun c12 => absurd (nI_le (by omega) (by omega)) c12)
      refine g_bipush dX2_firstPair_77 ?_
      exact e_iret rfl dX2_firstPair_79 rfl rfl he.symm rfl
    | succ n ih =>
      intro i v3 hi he 
      refine g_iL2 dX2_firstPair_2 ?_
      refine g_aL0 dX2_firstPair_3 ?_
      refine g_getR lf_X2_11 (S.l 38 rfl) (S.k 38 rfl rfl) hT dX2_firstPair_4 ?_
      refine g_getR lf_X2_47 (S.cl hc 0 rfl) (S.ck hc) (S.cr hc 0 rfl rfl) dX2_firstPair_7 ?_
      refine g_iconst dX2_firstPair_10 ?_
      refine g_ialoadK (S.cl hc 1 rfl) (S.cka hc 1 rfl rfl) (S.cn hc 1 (n := 11) rfl rfl rfl) rfl (j := 1) rfl dX2_firstPair_11 ?_
      rw [hN]
      refine g_icge dX2_firstPair_12 (fun c12 => absurd c12 (nI_ge (by omega) (by omega))) (fun c12 => ?_)
      refine g_iL2 dX2_firstPair_15 ?_
      refine g_iconst dX2_firstPair_16 ?_
      refine g_iadd dX2_firstPair_17 ?_
      refine g_iS3 dX2_firstPair_18 rfl rfl ?_
      rw [nI_1]
      have loop2 : ∀ (m q : Nat) , q + m = N → fpO (fun p => thF (gI h 38 3) (nI p)) (ltF h t) b N N 0 = fpI (fun p => thF (gI h 38 3) (nI p)) (ltF h t) b (fpO (fun p => thF (gI h 38 3) (nI p)) (ltF h t) b N n (i + 1)) i m q → gY 3 0 0 yX2_firstPair cX2_firstPair 4 (some .int) 0 0 (fun v' h' => v' = (some (.int (fpO (fun p => thF (gI h 38 3) (nI p)) (ltF h t) b N N 0))) ∧ h' = h) 19 [.ref 38, .int b, .int (nI i), .int (nI q)] [] h := by
        intro m
        induction m with
        | zero =>
          intro q  hi2 he2 
          refine g_iL3 dX2_firstPair_19 ?_
          refine g_aL0 dX2_firstPair_20 ?_
          refine g_getR lf_X2_11 (S.l 38 rfl) (S.k 38 rfl rfl) hT dX2_firstPair_21 ?_
          refine g_getR lf_X2_47 (S.cl hc 0 rfl) (S.ck hc) (S.cr hc 0 rfl rfl) dX2_firstPair_24 ?_
          refine g_iconst dX2_firstPair_27 ?_
          refine g_ialoadK (S.cl hc 1 rfl) (S.cka hc 1 rfl rfl) (S.cn hc 1 (n := 11) rfl rfl rfl) rfl (j := 1) rfl dX2_firstPair_28 ?_
          rw [hN]
          refine g_icge dX2_firstPair_29 (fun c29 => ?_) (fun c29 => absurd (nI_le (by omega) (by omega)) c29)
          refine g_ii2 dX2_firstPair_71 rfl rfl ?_
          refine g_goto dX2_firstPair_74 ?_
          rw [nI_1]
          exact ih (i + 1) _ (by omega) he2
        | succ m ih2 =>
          intro q  hi2 he2 
          refine g_iL3 dX2_firstPair_19 ?_
          refine g_aL0 dX2_firstPair_20 ?_
          refine g_getR lf_X2_11 (S.l 38 rfl) (S.k 38 rfl rfl) hT dX2_firstPair_21 ?_
          refine g_getR lf_X2_47 (S.cl hc 0 rfl) (S.ck hc) (S.cr hc 0 rfl rfl) dX2_firstPair_24 ?_
          refine g_iconst dX2_firstPair_27 ?_
          refine g_ialoadK (S.cl hc 1 rfl) (S.cka hc 1 rfl rfl) (S.cn hc 1 (n := 11) rfl rfl rfl) rfl (j := 1) rfl dX2_firstPair_28 ?_
          rw [hN]
          refine g_icge dX2_firstPair_29 (fun c29 => absurd c29 (nI_ge (by omega) (by omega))) (fun c29 => ?_)
          refine g_aL0 dX2_firstPair_32 ?_
          refine g_iL2 dX2_firstPair_33 ?_
          refine e_v1i (c_isBroken S _) lm_X2_70 dX2_firstPair_34 (S.l 38 rfl) (S.k 38 rfl rfl) rfl rfl rfl rfl ?_
          refine g_ifne dX2_firstPair_37 (fun c37 => ?_) (fun c37 => ?_)
          · refine g_ii3 dX2_firstPair_65 rfl rfl ?_
            refine g_goto dX2_firstPair_68 ?_
            rw [nI_1]
            exact ih2 (q + 1)  (by omega) (he2.trans (if_neg c37)) 
          · refine g_aL0 dX2_firstPair_40 ?_
            refine g_iL3 dX2_firstPair_41 ?_
            refine e_v1i (c_isBroken S _) lm_X2_70 dX2_firstPair_42 (S.l 38 rfl) (S.k 38 rfl rfl) rfl rfl rfl rfl ?_
            refine g_ifne dX2_firstPair_45 (fun c45 => ?_) (fun c45 => ?_)
            · refine g_ii3 dX2_firstPair_65 rfl rfl ?_
              refine g_goto dX2_firstPair_68 ?_
              rw [nI_1]
              exact ih2 (q + 1)  (by omega) (he2.trans ((if_pos c37).trans (if_neg c45))) 
            · refine g_aL0 dX2_firstPair_48 ?_
              refine g_iL2 dX2_firstPair_49 ?_
              refine g_iL3 dX2_firstPair_50 ?_
              refine e_v2i (c_laidTogether S hc hT (by omega) (by omega)) lm_X2_74 dX2_firstPair_51 (S.l 38 rfl) (S.k 38 rfl rfl) rfl rfl rfl rfl ?_
              refine g_iL1 dX2_firstPair_54 ?_
              refine g_icne dX2_firstPair_55 (fun c55 => ?_) (fun c55 => ?_)
              · refine g_ii3 dX2_firstPair_65 rfl rfl ?_
                refine g_goto dX2_firstPair_68 ?_
                rw [nI_1]
                exact ih2 (q + 1)  (by omega) (he2.trans ((if_pos c37).trans ((if_pos c45).trans (if_neg c55)))) 
              · refine g_bipush dX2_firstPair_58 ?_
                refine g_iL2 dX2_firstPair_60 ?_
                refine g_imul dX2_firstPair_61 ?_
                refine g_iL3 dX2_firstPair_62 ?_
                refine g_iadd dX2_firstPair_63 ?_
                exact e_iret rfl dX2_firstPair_64 rfl rfl (he2.trans ((if_pos c37).trans ((if_pos c45).trans (if_pos c55)))).symm rfl
      exact loop2 (N - (i + 1)) (i + 1) (by omega) he
  refine g_iconst dX2_firstPair_0 ?_
  refine g_iS2 dX2_firstPair_1 rfl rfl ?_
  exact loop N 0 _ (by omega) rfl
def rcF (th : Int32) (wr : Nat → Int32) : Nat → Nat → Int32 → Int32
  | 0, _, c => c
  | n + 1, i, c => if thF th (nI i) = 0 then rcF th wr n (i + 1) c else if wr i = -2 then rcF th wr n (i + 1) c else rcF th wr n (i + 1) (c ||| ((1 : Int32) <<< (nI i &&& 31)))
theorem c_readingCorners {h : Hp} {t : Nat} (S : SX h) (hc : t = 3 ∨ t = 18) (hT : gR h 38 0 = some t) {N : Nat} (hN : gI h (t + 1) 2 = nI N) (hN8 : N ≤ 8) {C : Nat} (hC : gI h (t + 1) 4 = nI C) (hC7 : C ≤ 7) {p : Nat} (hp : p < 8) : gCi 3 0 0 yX2_readingCorners cX2_readingCorners 4 (some .int) [.ref 38, .int (nI p)] h (some (.int (rcF (gI h t 13) (fun c => wrF h t N p (gI h (t + 6) c)) C 0 0))) h := by
  refine g_entry (lv := [.ref 38, .int (nI p), .retAddr 0, .retAddr 0]) 2 pn_X2 rfl rfl rfl ?_
  have loop : ∀ (n i : Nat) (c : Int32), i + n = C → rcF (gI h t 13) (fun c => wrF h t N p (gI h (t + 6) c)) C 0 0 = rcF (gI h t 13) (fun c => wrF h t N p (gI h (t + 6) c)) n i c → gY 3 0 0 yX2_readingCorners cX2_readingCorners 4 (some .int) 0 0 (fun v' h' => v' = (some (.int (rcF (gI h t 13) (fun c => wrF h t N p (gI h (t + 6) c)) C 0 0))) ∧ h' = h) 4 [.ref 38, .int (nI p), .int c, .int (nI i)] [] h := by
    intro n
    induction n with
    | zero =>
      intro i c hi he 
      refine g_iL3 dX2_readingCorners_4 ?_
      refine g_aL0 dX2_readingCorners_5 ?_
      refine g_getR lf_X2_11 (S.l 38 rfl) (S.k 38 rfl rfl) hT dX2_readingCorners_6 ?_
      refine g_getR lf_X2_47 (S.cl hc 0 rfl) (S.ck hc) (S.cr hc 0 rfl rfl) dX2_readingCorners_9 ?_
      refine g_iconst dX2_readingCorners_12 ?_
      refine g_ialoadK (S.cl hc 1 rfl) (S.cka hc 1 rfl rfl) (S.cn hc 1 (n := 11) rfl rfl rfl) rfl (j := 4) rfl dX2_readingCorners_13 ?_
      rw [hC]
      refine g_icge dX2_readingCorners_14 (fun c14 => ?_) (fun c14 => absurd (nI_le (by omega) (by omega)) c14)
      refine g_iL2 dX2_readingCorners_59 ?_
      exact e_iret rfl dX2_readingCorners_60 rfl rfl he.symm rfl
    | succ n ih =>
      intro i c hi he 
      refine g_iL3 dX2_readingCorners_4 ?_
      refine g_aL0 dX2_readingCorners_5 ?_
      refine g_getR lf_X2_11 (S.l 38 rfl) (S.k 38 rfl rfl) hT dX2_readingCorners_6 ?_
      refine g_getR lf_X2_47 (S.cl hc 0 rfl) (S.ck hc) (S.cr hc 0 rfl rfl) dX2_readingCorners_9 ?_
      refine g_iconst dX2_readingCorners_12 ?_
      refine g_ialoadK (S.cl hc 1 rfl) (S.cka hc 1 rfl rfl) (S.cn hc 1 (n := 11) rfl rfl rfl) rfl (j := 4) rfl dX2_readingCorners_13 ?_
      rw [hC]
      refine g_icge dX2_readingCorners_14 (fun c14 => absurd c14 (nI_ge (by omega) (by omega))) (fun c14 => ?_)
      refine g_aL0 dX2_readingCorners_17 ?_
      refine g_getR lf_X2_11 (S.l 38 rfl) (S.k 38 rfl rfl) hT dX2_readingCorners_18 ?_
      refine g_iL3 dX2_readingCorners_21 ?_
      refine e_v1i (c_hasThief S hc _) lm_X2_77 dX2_readingCorners_22 (S.cl hc 0 rfl) (S.ck hc) rfl rfl rfl rfl ?_
      refine g_ifeq dX2_readingCorners_25 (fun c25 => ?_) (fun c25 => ?_)
      · refine g_ii3 dX2_readingCorners_53 rfl rfl ?_
        refine g_goto dX2_readingCorners_56 ?_
        rw [nI_1]
        exact ih (i + 1) _ (by omega) (he.trans (if_pos c25)) 
      · refine g_aL0 dX2_readingCorners_28 ?_
        refine g_iL1 dX2_readingCorners_29 ?_
        refine g_aL0 dX2_readingCorners_30 ?_
        refine g_getR lf_X2_11 (S.l 38 rfl) (S.k 38 rfl rfl) hT dX2_readingCorners_31 ?_
        refine g_getR lf_X2_80 (S.cl hc 0 rfl) (S.ck hc) (S.cr hc 10 rfl rfl) dX2_readingCorners_34 ?_
        refine g_iL3 dX2_readingCorners_37 ?_
        refine g_ialoadN (S.cl hc 6 rfl) (S.cka hc 6 rfl rfl) (S.cn hc 6 (n := 7) rfl rfl rfl) (by omega) (by decide) dX2_readingCorners_38 ?_
        refine e_v2i (c_wordRead S hc hT hN hN8 hp _) lm_X2_83 dX2_readingCorners_39 (S.l 38 rfl) (S.k 38 rfl rfl) rfl rfl rfl rfl ?_
        refine g_bipush dX2_readingCorners_42 ?_
        refine g_iceq dX2_readingCorners_44 (fun c44 => ?_) (fun c44 => ?_)
        · refine g_ii3 dX2_readingCorners_53 rfl rfl ?_
          refine g_goto dX2_readingCorners_56 ?_
          rw [nI_1]
          exact ih (i + 1) _ (by omega) (he.trans ((if_neg c25).trans (if_pos c44))) 
        · refine g_iL2 dX2_readingCorners_47 ?_
          refine g_iconst dX2_readingCorners_48 ?_
          refine g_iL3 dX2_readingCorners_49 ?_
          refine g_ishl dX2_readingCorners_50 ?_
          refine g_ior dX2_readingCorners_51 ?_
          refine g_iS2 dX2_readingCorners_52 rfl rfl ?_
          refine g_ii3 dX2_readingCorners_53 rfl rfl ?_
          refine g_goto dX2_readingCorners_56 ?_
          rw [nI_1]
          exact ih (i + 1) _ (by omega) (he.trans ((if_neg c25).trans (if_neg c44))) 
  refine g_iconst dX2_readingCorners_0 ?_
  refine g_iS2 dX2_readingCorners_1 rfl rfl ?_
  refine g_iconst dX2_readingCorners_2 ?_
  refine g_iS3 dX2_readingCorners_3 rfl rfl ?_
  exact loop C 0 _ (by omega) rfl
def fsF (b wd dk pu : Int32) : Int32 := if b &&& (wd ^^^ (-1)) = 0 then (if (wd &&& (b ^^^ (-1))) &&& (dk ||| pu) = 0 then bcF (wd &&& (b ^^^ (-1))) else -2) else -2
theorem c_fewestScratches {h : Hp} {t : Nat} (S : SX h) (hc : t = 3 ∨ t = 18) (hT : gR h 38 0 = some t) {p : Nat} (hp : p < 8) (v : Int32) {w : Nat} (hw : w < 8) : gCi 2 0 0 yX2_fewestScratches cX2_fewestScratches 8 (some .int) [.ref 38, .int (nI p), .int v, .int (nI w)] h (some (.int (fsF (seF h t p v) (gI h (t + 4) w) (dkF (gI h (t + 5)) v) (gI h 40 p)))) h := by
  refine g_entry (lv := [.ref 38, .int (nI p), .int v, .int (nI w), .retAddr 0, .retAddr 0, .retAddr 0, .retAddr 0]) 4 pn_X2 rfl rfl rfl ?_
  refine g_aL0 dX2_fewestScratches_0 ?_
  refine g_iL1 dX2_fewestScratches_1 ?_
  refine g_iL2 dX2_fewestScratches_2 ?_
  refine e_v2i (c_seenBits S hc hT hp _) lm_X2_63 dX2_fewestScratches_3 (S.l 38 rfl) (S.k 38 rfl rfl) rfl rfl rfl rfl ?_
  refine g_iS4 dX2_fewestScratches_6 rfl rfl ?_
  refine g_aL0 dX2_fewestScratches_8 ?_
  refine g_getR lf_X2_11 (S.l 38 rfl) (S.k 38 rfl rfl) hT dX2_fewestScratches_9 ?_
  refine g_getR lf_X2_90 (S.cl hc 0 rfl) (S.ck hc) (S.cr hc 8 rfl rfl) dX2_fewestScratches_12 ?_
  refine g_iL3 dX2_fewestScratches_15 ?_
  refine g_ialoadN (S.cl hc 4 rfl) (S.cka hc 4 rfl rfl) (S.cn hc 4 (n := 8) rfl rfl rfl) hw (by decide) dX2_fewestScratches_16 ?_
  refine g_iL4 dX2_fewestScratches_17 ?_
  refine g_iconst dX2_fewestScratches_19 ?_
  refine g_ixor dX2_fewestScratches_20 ?_
  refine g_iand dX2_fewestScratches_21 ?_
  refine g_iS5 dX2_fewestScratches_22 rfl rfl ?_
  refine g_iL4 dX2_fewestScratches_24 ?_
  refine g_aL0 dX2_fewestScratches_26 ?_
  refine g_getR lf_X2_11 (S.l 38 rfl) (S.k 38 rfl rfl) hT dX2_fewestScratches_27 ?_
  refine g_getR lf_X2_90 (S.cl hc 0 rfl) (S.ck hc) (S.cr hc 8 rfl rfl) dX2_fewestScratches_30 ?_
  refine g_iL3 dX2_fewestScratches_33 ?_
  refine g_ialoadN (S.cl hc 4 rfl) (S.cka hc 4 rfl rfl) (S.cn hc 4 (n := 8) rfl rfl rfl) hw (by decide) dX2_fewestScratches_34 ?_
  refine g_iconst dX2_fewestScratches_35 ?_
  refine g_ixor dX2_fewestScratches_36 ?_
  refine g_iand dX2_fewestScratches_37 ?_
  refine g_ifeq dX2_fewestScratches_38 (fun c38 => ?_) (fun c38 => ?_)
  · refine g_iconst dX2_fewestScratches_45 ?_
    refine g_iS6 dX2_fewestScratches_46 rfl rfl ?_
    refine g_iL5 dX2_fewestScratches_48 ?_
    refine g_aL0 dX2_fewestScratches_50 ?_
    refine g_getR lf_X2_11 (S.l 38 rfl) (S.k 38 rfl rfl) hT dX2_fewestScratches_51 ?_
    refine g_iL2 dX2_fewestScratches_54 ?_
    refine e_v1i (c_darkOf S hc _) lm_X2_60 dX2_fewestScratches_55 (S.cl hc 0 rfl) (S.ck hc) rfl rfl rfl rfl ?_
    refine g_aL0 dX2_fewestScratches_58 ?_
    refine g_getR lf_X2_21 (S.l 38 rfl) (S.k 38 rfl rfl) (S.r 38 2 rfl rfl) dX2_fewestScratches_59 ?_
    refine g_iL1 dX2_fewestScratches_62 ?_
    refine g_ialoadN (S.l 40 rfl) (S.k 40 rfl rfl) (S.n 40 (n := 8) rfl rfl) hp (by decide) dX2_fewestScratches_63 ?_
    refine g_ior dX2_fewestScratches_64 ?_
    refine g_iand dX2_fewestScratches_65 ?_
    refine g_ifeq dX2_fewestScratches_66 (fun c66 => ?_) (fun c66 => ?_)
    · refine g_iconst dX2_fewestScratches_73 ?_
      refine g_iS7 dX2_fewestScratches_74 rfl rfl ?_
      refine g_iL6 dX2_fewestScratches_76 ?_
      refine g_ifne dX2_fewestScratches_78 (fun c78 => absurd rfl c78) (fun c78 => ?_)
      refine g_iL7 dX2_fewestScratches_81 ?_
      refine g_ifeq dX2_fewestScratches_83 (fun c83 => ?_) (fun c83 => absurd rfl c83)
      refine g_iL5 dX2_fewestScratches_91 ?_
      refine e_s1i (c_bitCount _) lm_X2_54 dX2_fewestScratches_93 rfl rfl rfl rfl ?_
      exact e_iret rfl dX2_fewestScratches_96 rfl rfl ((if_pos c38).trans (if_pos c66)).symm rfl
    · refine g_iconst dX2_fewestScratches_69 ?_
      refine g_goto dX2_fewestScratches_70 ?_
      refine g_iS7 dX2_fewestScratches_74 rfl rfl ?_
      refine g_iL6 dX2_fewestScratches_76 ?_
      refine g_ifne dX2_fewestScratches_78 (fun c78 => absurd rfl c78) (fun c78 => ?_)
      refine g_iL7 dX2_fewestScratches_81 ?_
      refine g_ifeq dX2_fewestScratches_83 (fun c83 => absurd c83 (by decide)) (fun c83 => ?_)
      refine g_bipush dX2_fewestScratches_86 ?_
      refine g_goto dX2_fewestScratches_88 ?_
      exact e_iret rfl dX2_fewestScratches_96 rfl rfl ((if_pos c38).trans (if_neg c66)).symm rfl
  · refine g_iconst dX2_fewestScratches_41 ?_
    refine g_goto dX2_fewestScratches_42 ?_
    refine g_iS6 dX2_fewestScratches_46 rfl rfl ?_
    refine g_iL5 dX2_fewestScratches_48 ?_
    refine g_aL0 dX2_fewestScratches_50 ?_
    refine g_getR lf_X2_11 (S.l 38 rfl) (S.k 38 rfl rfl) hT dX2_fewestScratches_51 ?_
    refine g_iL2 dX2_fewestScratches_54 ?_
    refine e_v1i (c_darkOf S hc _) lm_X2_60 dX2_fewestScratches_55 (S.cl hc 0 rfl) (S.ck hc) rfl rfl rfl rfl ?_
    refine g_aL0 dX2_fewestScratches_58 ?_
    refine g_getR lf_X2_21 (S.l 38 rfl) (S.k 38 rfl rfl) (S.r 38 2 rfl rfl) dX2_fewestScratches_59 ?_
    refine g_iL1 dX2_fewestScratches_62 ?_
    refine g_ialoadN (S.l 40 rfl) (S.k 40 rfl rfl) (S.n 40 (n := 8) rfl rfl) hp (by decide) dX2_fewestScratches_63 ?_
    refine g_ior dX2_fewestScratches_64 ?_
    refine g_iand dX2_fewestScratches_65 ?_
    refine g_ifeq dX2_fewestScratches_66 (fun c66 => ?_) (fun c66 => ?_)
    · refine g_iconst dX2_fewestScratches_73 ?_
      refine g_iS7 dX2_fewestScratches_74 rfl rfl ?_
      refine g_iL6 dX2_fewestScratches_76 ?_
      refine g_ifne dX2_fewestScratches_78 (fun c78 => ?_) (fun c78 => absurd c78 (by decide))
      refine g_bipush dX2_fewestScratches_86 ?_
      refine g_goto dX2_fewestScratches_88 ?_
      exact e_iret rfl dX2_fewestScratches_96 rfl rfl (if_neg c38).symm rfl
    · refine g_iconst dX2_fewestScratches_69 ?_
      refine g_goto dX2_fewestScratches_70 ?_
      refine g_iS7 dX2_fewestScratches_74 rfl rfl ?_
      refine g_iL6 dX2_fewestScratches_76 ?_
      refine g_ifne dX2_fewestScratches_78 (fun c78 => ?_) (fun c78 => absurd c78 (by decide))
      refine g_bipush dX2_fewestScratches_86 ?_
      refine g_goto dX2_fewestScratches_88 ?_
      exact e_iret rfl dX2_fewestScratches_96 rfl rfl (if_neg c38).symm rfl
def whF (b wr : Int32) : Int32 := if wr = -2 then bcF b else -(bcF b)
theorem c_writerHas {h : Hp} {t : Nat} (S : SX h) (hc : t = 3 ∨ t = 18) (hT : gR h 38 0 = some t) {N : Nat} (hN : gI h (t + 1) 2 = nI N) (hN8 : N ≤ 8) {p : Nat} (hp : p < 8) (v : Int32) : gCi 3 0 0 yX2_writerHas cX2_writerHas 4 (some .int) [.ref 38, .int (nI p), .int v] h (some (.int (whF (seF h t p v) (wrF h t N p v)))) h := by
  refine g_entry (lv := [.ref 38, .int (nI p), .int v, .retAddr 0]) 1 pn_X2 rfl rfl rfl ?_
  refine g_aL0 dX2_writerHas_0 ?_
  refine g_iL1 dX2_writerHas_1 ?_
  refine g_iL2 dX2_writerHas_2 ?_
  refine e_v2i (c_seenBits S hc hT hp _) lm_X2_63 dX2_writerHas_3 (S.l 38 rfl) (S.k 38 rfl rfl) rfl rfl rfl rfl ?_
  refine e_s1i (c_bitCount _) lm_X2_54 dX2_writerHas_6 rfl rfl rfl rfl ?_
  refine g_iS3 dX2_writerHas_9 rfl rfl ?_
  refine g_aL0 dX2_writerHas_10 ?_
  refine g_iL1 dX2_writerHas_11 ?_
  refine g_iL2 dX2_writerHas_12 ?_
  refine e_v2i (c_wordRead S hc hT hN hN8 hp _) lm_X2_83 dX2_writerHas_13 (S.l 38 rfl) (S.k 38 rfl rfl) rfl rfl rfl rfl ?_
  refine g_bipush dX2_writerHas_16 ?_
  refine g_icne dX2_writerHas_18 (fun c18 => ?_) (fun c18 => ?_)
  · refine g_iL3 dX2_writerHas_25 ?_
    refine g_ineg dX2_writerHas_26 ?_
    exact e_iret rfl dX2_writerHas_27 rfl rfl (if_neg c18).symm rfl
  · refine g_iL3 dX2_writerHas_21 ?_
    refine g_goto dX2_writerHas_22 ?_
    exact e_iret rfl dX2_writerHas_27 rfl rfl (if_pos c18).symm rfl
def voF (c : Int32) : Int32 := if c = 0 then -2 else c - 1
theorem c_viewOf {h : Hp} (c : Int32) : gCi 0 0 0 yX2_viewOf cX2_viewOf 1 (some .int) [.int c] h (some (.int (voF c))) h := by
  refine g_entry (lv := [.int c]) 0 pn_X2 rfl rfl rfl ?_
  refine g_iL0 dX2_viewOf_0 ?_
  refine g_ifne dX2_viewOf_1 (fun c1 => ?_) (fun c1 => ?_)
  · refine g_iL0 dX2_viewOf_9 ?_
    refine g_iconst dX2_viewOf_10 ?_
    refine g_isub dX2_viewOf_11 ?_
    exact e_iret rfl dX2_viewOf_12 rfl rfl (if_neg c1).symm rfl
  · refine g_bipush dX2_viewOf_4 ?_
    refine g_goto dX2_viewOf_6 ?_
    exact e_iret rfl dX2_viewOf_12 rfl rfl (if_pos c1).symm rfl
def irB (wh : Nat → Int32) (now : Int32) : Nat → Nat → Int32
  | 0, _ => 1
  | n + 1, i => if now ≤ wh i then irB wh now n (i + 1) else 0
def irA (br wh : Nat → Int32) (now fin : Int32) : Nat → Nat → Int32
  | 0, _ => fin
  | n + 1, i => if br i = 0 then (if wh i ≤ now then irA br wh now fin n (i + 1) else 0) else irA br wh now fin n (i + 1)
/-- is (p, c) a rest; wh: what the writer has by a pane and a choice -/
def irF (br : Nat → Int32) (wh : Nat → Int32 → Int32) (P V p : Nat) (c : Int32) : Int32 := if br p = 0 then irA br (fun q => wh q (voF c)) (wh p (voF c)) (irB (fun k => wh p (voF (nI k))) (wh p (voF c)) (V + 1) 0) P 0 else 0
theorem c_isRest {h : Hp} {t : Nat} (S : SX h) (hc : t = 3 ∨ t = 18) (hT : gR h 38 0 = some t) {N : Nat} (hN : gI h (t + 1) 2 = nI N) (hN8 : N ≤ 8) {P : Nat} (hP : gI h (t + 1) 1 = nI P) (hP8 : P ≤ 8) {V : Nat} (hV : gI h (t + 1) 3 = nI V) (hV6 : V ≤ 6) {p : Nat} (hp : p < 8) (c : Int32) : gCi 4 0 0 yX2_isRest cX2_isRest 5 (some .boolean) [.ref 38, .int (nI p), .int c] h (some (.int (irF (fun p => thF (gI h 38 3) (nI p)) (fun p v => whF (seF h t p v) (wrF h t N p v)) P V p c))) h := by
  refine g_entry (lv := [.ref 38, .int (nI p), .int c, .retAddr 0, .retAddr 0]) 2 pn_X2 rfl rfl rfl ?_
  refine g_aL0 dX2_isRest_0 ?_
  refine g_iL1 dX2_isRest_1 ?_
  refine e_v1i (c_isBroken S _) lm_X2_70 dX2_isRest_2 (S.l 38 rfl) (S.k 38 rfl rfl) rfl rfl rfl rfl ?_
  refine g_ifeq dX2_isRest_5 (fun c5 => ?_) (fun c5 => ?_)
  · refine g_aL0 dX2_isRest_10 ?_
    refine g_iL1 dX2_isRest_11 ?_
    refine g_iL2 dX2_isRest_12 ?_
    refine e_s1i (c_viewOf _) lm_X2_105 dX2_isRest_13 rfl rfl rfl rfl ?_
    refine e_v2i (c_writerHas S hc hT hN hN8 (by omega) _) lm_X2_108 dX2_isRest_16 (S.l 38 rfl) (S.k 38 rfl rfl) rfl rfl rfl rfl ?_
    refine g_iS3 dX2_isRest_19 rfl rfl ?_
    refine g_iconst dX2_isRest_20 ?_
    refine g_iS4 dX2_isRest_21 rfl rfl ?_
    have loop : ∀ (n i : Nat) , i + n = P → irF (fun p => thF (gI h 38 3) (nI p)) (fun p v => whF (seF h t p v) (wrF h t N p v)) P V p c = irA (fun p => thF (gI h 38 3) (nI p)) (fun q => (fun p v => whF (seF h t p v) (wrF h t N p v)) q (voF c)) ((fun p v => whF (seF h t p v) (wrF h t N p v)) p (voF c)) (irB (fun k => (fun p v => whF (seF h t p v) (wrF h t N p v)) p (voF (nI k))) ((fun p v => whF (seF h t p v) (wrF h t N p v)) p (voF c)) (V + 1) 0) n i → gY 4 0 0 yX2_isRest cX2_isRest 5 (some .boolean) 0 0 (fun v' h' => v' = (some (.int (irF (fun p => thF (gI h 38 3) (nI p)) (fun p v => whF (seF h t p v) (wrF h t N p v)) P V p c))) ∧ h' = h) 23 [.ref 38, .int (nI p), .int c, .int ((fun p v => whF (seF h t p v) (wrF h t N p v)) p (voF c)), .int (nI i)] [] h := by
      intro n
      induction n with
      | zero =>
        intro i  hi he 
        refine g_iL4 dX2_isRest_23 ?_
        refine g_aL0 dX2_isRest_25 ?_
        refine g_getR lf_X2_11 (S.l 38 rfl) (S.k 38 rfl rfl) hT dX2_isRest_26 ?_
        refine g_getR lf_X2_47 (S.cl hc 0 rfl) (S.ck hc) (S.cr hc 0 rfl rfl) dX2_isRest_29 ?_
        refine g_iconst dX2_isRest_32 ?_
        refine g_ialoadK (S.cl hc 1 rfl) (S.cka hc 1 rfl rfl) (S.cn hc 1 (n := 11) rfl rfl rfl) rfl (j := 1) rfl dX2_isRest_33 ?_
        rw [hP]
        refine g_icge dX2_isRest_34 (fun c34 => ?_) (fun c34 => absurd (nI_le (by omega) (by omega)) c34)
        refine g_iconst dX2_isRest_68 ?_
        refine g_iS4 dX2_isRest_69 rfl rfl ?_
        have loop2 : ∀ (m k : Nat) , k + m = V + 1 → irF (fun p => thF (gI h 38 3) (nI p)) (fun p v => whF (seF h t p v) (wrF h t N p v)) P V p c = irB (fun k => (fun p v => whF (seF h t p v) (wrF h t N p v)) p (voF (nI k))) ((fun p v => whF (seF h t p v) (wrF h t N p v)) p (voF c)) m k → gY 4 0 0 yX2_isRest cX2_isRest 5 (some .boolean) 0 0 (fun v' h' => v' = (some (.int (irF (fun p => thF (gI h 38 3) (nI p)) (fun p v => whF (seF h t p v) (wrF h t N p v)) P V p c))) ∧ h' = h) 71 [.ref 38, .int (nI p), .int c, .int ((fun p v => whF (seF h t p v) (wrF h t N p v)) p (voF c)), .int (nI k)] [] h := by
          intro m
          induction m with
          | zero =>
            intro k  hi2 he2 
            refine g_iL4 dX2_isRest_71 ?_
            refine g_aL0 dX2_isRest_73 ?_
            refine g_getR lf_X2_11 (S.l 38 rfl) (S.k 38 rfl rfl) hT dX2_isRest_74 ?_
            refine g_getR lf_X2_47 (S.cl hc 0 rfl) (S.ck hc) (S.cr hc 0 rfl rfl) dX2_isRest_77 ?_
            refine g_iconst dX2_isRest_80 ?_
            refine g_ialoadK (S.cl hc 1 rfl) (S.cka hc 1 rfl rfl) (S.cn hc 1 (n := 11) rfl rfl rfl) rfl (j := 3) rfl dX2_isRest_81 ?_
            rw [hV]
            refine g_icgt dX2_isRest_82 (fun c82 => ?_) (fun c82 => absurd (nI_lt (by omega) (by omega)) c82)
            refine g_iconst dX2_isRest_107 ?_
            exact e_zret rfl (by decide) dX2_isRest_108 rfl rfl he2.symm rfl
          | succ m ih2 =>
            intro k  hi2 he2 
            refine g_iL4 dX2_isRest_71 ?_
            refine g_aL0 dX2_isRest_73 ?_
            refine g_getR lf_X2_11 (S.l 38 rfl) (S.k 38 rfl rfl) hT dX2_isRest_74 ?_
            refine g_getR lf_X2_47 (S.cl hc 0 rfl) (S.ck hc) (S.cr hc 0 rfl rfl) dX2_isRest_77 ?_
            refine g_iconst dX2_isRest_80 ?_
            refine g_ialoadK (S.cl hc 1 rfl) (S.cka hc 1 rfl rfl) (S.cn hc 1 (n := 11) rfl rfl rfl) rfl (j := 3) rfl dX2_isRest_81 ?_
            rw [hV]
            refine g_icgt dX2_isRest_82 (fun c82 => absurd c82 (nI_nlt (by omega) (by omega))) (fun c82 => ?_)
            refine g_aL0 dX2_isRest_85 ?_
            refine g_iL1 dX2_isRest_86 ?_
            refine g_iL4 dX2_isRest_87 ?_
            refine e_s1i (c_viewOf _) lm_X2_105 dX2_isRest_89 rfl rfl rfl rfl ?_
            refine e_v2i (c_writerHas S hc hT hN hN8 (by omega) _) lm_X2_108 dX2_isRest_92 (S.l 38 rfl) (S.k 38 rfl rfl) rfl rfl rfl rfl ?_
            refine g_iL3 dX2_isRest_95 ?_
            refine g_icge dX2_isRest_96 (fun c96 => ?_) (fun c96 => ?_)
            · refine g_ii4 dX2_isRest_101 rfl rfl ?_
              refine g_goto dX2_isRest_104 ?_
              rw [nI_1]
              exact ih2 (k + 1)  (by omega) (he2.trans (if_pos c96)) 
            · refine g_iconst dX2_isRest_99 ?_
              exact e_zret rfl (by decide) dX2_isRest_100 rfl rfl (he2.trans (if_neg c96)).symm rfl
        exact loop2 (V + 1) 0 (by omega) he
      | succ n ih =>
        intro i  hi he 
        refine g_iL4 dX2_isRest_23 ?_
        refine g_aL0 dX2_isRest_25 ?_
        refine g_getR lf_X2_11 (S.l 38 rfl) (S.k 38 rfl rfl) hT dX2_isRest_26 ?_
        refine g_getR lf_X2_47 (S.cl hc 0 rfl) (S.ck hc) (S.cr hc 0 rfl rfl) dX2_isRest_29 ?_
        refine g_iconst dX2_isRest_32 ?_
        refine g_ialoadK (S.cl hc 1 rfl) (S.cka hc 1 rfl rfl) (S.cn hc 1 (n := 11) rfl rfl rfl) rfl (j := 1) rfl dX2_isRest_33 ?_
        rw [hP]
        refine g_icge dX2_isRest_34 (fun c34 => absurd c34 (nI_ge (by omega) (by omega))) (fun c34 => ?_)
        refine g_aL0 dX2_isRest_37 ?_
        refine g_iL4 dX2_isRest_38 ?_
        refine e_v1i (c_isBroken S _) lm_X2_70 dX2_isRest_40 (S.l 38 rfl) (S.k 38 rfl rfl) rfl rfl rfl rfl ?_
        refine g_ifne dX2_isRest_43 (fun c43 => ?_) (fun c43 => ?_)
        · refine g_ii4 dX2_isRest_62 rfl rfl ?_
          refine g_goto dX2_isRest_65 ?_
          rw [nI_1]
          exact ih (i + 1)  (by omega) (he.trans (if_neg c43)) 
        · refine g_aL0 dX2_isRest_46 ?_
          refine g_iL4 dX2_isRest_47 ?_
          refine g_iL2 dX2_isRest_49 ?_
          refine e_s1i (c_viewOf _) lm_X2_105 dX2_isRest_50 rfl rfl rfl rfl ?_
          refine e_v2i (c_writerHas S hc hT hN hN8 (by omega) _) lm_X2_108 dX2_isRest_53 (S.l 38 rfl) (S.k 38 rfl rfl) rfl rfl rfl rfl ?_
          refine g_iL3 dX2_isRest_56 ?_
          refine g_icle dX2_isRest_57 (fun c57 => ?_) (fun c57 => ?_)
          · refine g_ii4 dX2_isRest_62 rfl rfl ?_
            refine g_goto dX2_isRest_65 ?_
            rw [nI_1]
            exact ih (i + 1)  (by omega) (he.trans ((if_pos c43).trans (if_pos c57))) 
          · refine g_iconst dX2_isRest_60 ?_
            exact e_zret rfl (by decide) dX2_isRest_61 rfl rfl (he.trans ((if_pos c43).trans (if_neg c57))).symm rfl
    exact loop P 0 (by omega) (if_pos c5)
  · refine g_iconst dX2_isRest_8 ?_
    exact e_zret rfl (by decide) dX2_isRest_9 rfl rfl (if_neg c5).symm rfl

/-! THE CLASS: Panes: acts done, undone, marks; Tape; Twins; Hail -/
theorem gIq {h : Hp} {a k : Nat} {v : Int32} {b j : Nat} (hb : ¬ b = a) : gI (pI h a k v) b j = gI h b j := u2_n _ _ (fun z => hb z.1)
theorem gIk {h : Hp} {a k : Nat} {v : Int32} {b j : Nat} (hb : ¬ j = k) : gI (pI h a k v) b j = gI h b j := u2_n _ _ (fun z => hb z.2)
theorem gIs (h : Hp) (a k : Nat) (v : Int32) : gI (pI h a k v) a k = v := u2_s _ _ _ _
theorem gIJ (h : Hp) (a k : Nat) (v : Int64) : gI (pJ h a k v) = gI h := rfl
theorem SX.pR {h : Hp} (S : SX h) {a k : Nat} (v : Option Nat) (hs : rX a k = none) : SX (pR h a k v) := by
  refine ⟨S.1, S.2.1, S.2.2.1, fun b j c hb hr => ?_⟩
  by_cases z : b = a ∧ j = k
  · rw [z.1, z.2, hs] at hr; cases hr
  · exact (u2_n _ _ z).trans (S.2.2.2 b j c hb hr)
/-- an act is kept -/
def pfH (h : Hp) (a : Nat) (s : Int32) (p : Nat) (c : Int32) : Hp := pI (pI (pI (pI h 41 a s) 42 a (nI p)) 43 a c) 38 7 (nI a + 1)
theorem fgH_A (h : Hp) : gI (fgH h) 38 7 = nI 15 := (fgL_I 15 0 _ 38 7 (by decide) (by decide) (by decide)).trans rfl
theorem fgH_S {h : Hp} (S : SX h) : SX (fgH h) := fgL_S 15 0 (h := pI h 38 7 15) S
theorem c_perform1 {h : Hp} (S : SX h) {A : Nat} (hA : gI h 38 7 = nI A) (hA16 : A < 16) (s : Int32) {p : Nat} (hp : p < 8) (c : Int32) : gCi 1 0 0 yX2_perform cX2_perform 4 none [.ref 38, .int s, .int (nI p), .int c] h none (pfH (chH h s p c) A s p c) := by
  refine g_entry (lv := [.ref 38, .int s, .int (nI p), .int c]) 0 pn_X2 rfl rfl rfl ?_
  refine g_aL0 dX2_perform_0 ?_
  refine g_iL1 dX2_perform_1 ?_
  refine g_iL2 dX2_perform_2 ?_
  refine g_iL3 dX2_perform_3 ?_
  refine e_v3u (c_change S s hp c) lm_X2_111 dX2_perform_4 (S.l 38 rfl) (S.k 38 rfl rfl) rfl rfl rfl rfl ?_
  have S1 := chH_S S s p c
  have hA1 : gI (chH h s p c) 38 7 = nI A := (chH_I s p c 38 7 (by decide) (by decide) (by decide)).trans hA
  refine g_aL0 dX2_perform_7 ?_
  refine g_gI lf_X2_41 (S1.l 38 rfl) (S1.k 38 rfl rfl) dX2_perform_8 ?_
  refine g_bipush dX2_perform_11 ?_
  rw [hA1]
  refine g_iclt dX2_perform_13 (fun c13 => ?_) (fun c13 => absurd (nI_lt (b := 16) hA16 (by decide)) c13)
  refine g_aL0 dX2_perform_20 ?_
  refine g_getR lf_X2_24 (S1.l 38 rfl) (S1.k 38 rfl rfl) (S1.r 38 4 (b := 41) rfl rfl) dX2_perform_21 ?_
  refine g_aL0 dX2_perform_24 ?_
  refine g_gI lf_X2_41 (S1.l 38 rfl) (S1.k 38 rfl rfl) dX2_perform_25 ?_
  rw [hA1]
  refine g_iL1 dX2_perform_28 ?_
  refine g_iastoreN (S1.l 41 rfl) (S1.k 41 rfl rfl) (S1.n 41 (n := 16) rfl rfl) (by omega) (by decide) dX2_perform_29 ?_
  refine g_aL0 dX2_perform_30 ?_
  refine g_getR lf_X2_27 (S1.l 38 rfl) (S1.k 38 rfl rfl) (S1.r 38 5 (b := 42) rfl rfl) dX2_perform_31 ?_
  refine g_aL0 dX2_perform_34 ?_
  refine g_gI lf_X2_41 (S1.l 38 rfl) (S1.k 38 rfl rfl) dX2_perform_35 ?_
  rw [gIq (a := 41) (b := 38) (by decide), hA1]
  refine g_iL2 dX2_perform_38 ?_
  refine g_iastoreN (S1.l 42 rfl) (S1.k 42 rfl rfl) (S1.n 42 (n := 16) rfl rfl) (by omega) (by decide) dX2_perform_39 ?_
  refine g_aL0 dX2_perform_40 ?_
  refine g_getR lf_X2_30 (S1.l 38 rfl) (S1.k 38 rfl rfl) (S1.r 38 6 (b := 43) rfl rfl) dX2_perform_41 ?_
  refine g_aL0 dX2_perform_44 ?_
  refine g_gI lf_X2_41 (S1.l 38 rfl) (S1.k 38 rfl rfl) dX2_perform_45 ?_
  rw [gIq (a := 42) (b := 38) (by decide), gIq (a := 41) (b := 38) (by decide), hA1]
  refine g_iL3 dX2_perform_48 ?_
  refine g_iastoreN (S1.l 43 rfl) (S1.k 43 rfl rfl) (S1.n 43 (n := 16) rfl rfl) (by omega) (by decide) dX2_perform_49 ?_
  refine g_aL0 dX2_perform_50 ?_
  refine g_dup dX2_perform_51 rfl ?_
  refine g_gI lf_X2_41 (S1.l 38 rfl) (S1.k 38 rfl rfl) dX2_perform_52 ?_
  refine g_iconst dX2_perform_55 ?_
  rw [gIq (a := 43) (b := 38) (by decide), gIq (a := 42) (b := 38) (by decide), gIq (a := 41) (b := 38) (by decide), hA1]
  refine g_iadd dX2_perform_56 ?_
  refine g_pI0 lf_X2_41 (S1.l 38 rfl) (S1.k 38 rfl rfl) dX2_perform_57 ?_
  exact e_vret rfl dX2_perform_60 rfl rfl rfl
theorem c_perform2 {h : Hp} (S : SX h) (hA : gI h 38 7 = nI 16) (s : Int32) {p : Nat} (hp : p < 8) (c : Int32) : gCi 1 0 0 yX2_perform cX2_perform 4 none [.ref 38, .int s, .int (nI p), .int c] h none (pfH (fgH (chH h s p c)) 15 s p c) := by
  refine g_entry (lv := [.ref 38, .int s, .int (nI p), .int c]) 0 pn_X2 rfl rfl rfl ?_
  refine g_aL0 dX2_perform_0 ?_
  refine g_iL1 dX2_perform_1 ?_
  refine g_iL2 dX2_perform_2 ?_
  refine g_iL3 dX2_perform_3 ?_
  refine e_v3u (c_change S s hp c) lm_X2_111 dX2_perform_4 (S.l 38 rfl) (S.k 38 rfl rfl) rfl rfl rfl rfl ?_
  have S1 := chH_S S s p c
  have hA1 : gI (chH h s p c) 38 7 = nI 16 := (chH_I s p c 38 7 (by decide) (by decide) (by decide)).trans hA
  refine g_aL0 dX2_perform_7 ?_
  refine g_gI lf_X2_41 (S1.l 38 rfl) (S1.k 38 rfl rfl) dX2_perform_8 ?_
  refine g_bipush dX2_perform_11 ?_
  rw [hA1]
  refine g_iclt dX2_perform_13 (fun c13 => absurd c13 (by decide)) (fun c13 => ?_)
  refine g_aL0 dX2_perform_16 ?_
  refine e_v0u (c_forgetOldest S1) lm_X2_115 dX2_perform_17 (S1.l 38 rfl) (S1.k 38 rfl rfl) rfl rfl rfl rfl ?_
  have S2 := fgH_S S1
  have hA2 := fgH_A (chH h s p c)
  refine g_aL0 dX2_perform_20 ?_
  refine g_getR lf_X2_24 (S2.l 38 rfl) (S2.k 38 rfl rfl) (S2.r 38 4 (b := 41) rfl rfl) dX2_perform_21 ?_
  refine g_aL0 dX2_perform_24 ?_
  refine g_gI lf_X2_41 (S2.l 38 rfl) (S2.k 38 rfl rfl) dX2_perform_25 ?_
  rw [hA2]
  refine g_iL1 dX2_perform_28 ?_
  refine g_iastoreN (S2.l 41 rfl) (S2.k 41 rfl rfl) (S2.n 41 (n := 16) rfl rfl) (by omega) (by decide) dX2_perform_29 ?_
  refine g_aL0 dX2_perform_30 ?_
  refine g_getR lf_X2_27 (S2.l 38 rfl) (S2.k 38 rfl rfl) (S2.r 38 5 (b := 42) rfl rfl) dX2_perform_31 ?_
  refine g_aL0 dX2_perform_34 ?_
  refine g_gI lf_X2_41 (S2.l 38 rfl) (S2.k 38 rfl rfl) dX2_perform_35 ?_
  rw [gIq (a := 41) (b := 38) (by decide), hA2]
  refine g_iL2 dX2_perform_38 ?_
  refine g_iastoreN (S2.l 42 rfl) (S2.k 42 rfl rfl) (S2.n 42 (n := 16) rfl rfl) (by omega) (by decide) dX2_perform_39 ?_
  refine g_aL0 dX2_perform_40 ?_
  refine g_getR lf_X2_30 (S2.l 38 rfl) (S2.k 38 rfl rfl) (S2.r 38 6 (b := 43) rfl rfl) dX2_perform_41 ?_
  refine g_aL0 dX2_perform_44 ?_
  refine g_gI lf_X2_41 (S2.l 38 rfl) (S2.k 38 rfl rfl) dX2_perform_45 ?_
  rw [gIq (a := 42) (b := 38) (by decide), gIq (a := 41) (b := 38) (by decide), hA2]
  refine g_iL3 dX2_perform_48 ?_
  refine g_iastoreN (S2.l 43 rfl) (S2.k 43 rfl rfl) (S2.n 43 (n := 16) rfl rfl) (by omega) (by decide) dX2_perform_49 ?_
  refine g_aL0 dX2_perform_50 ?_
  refine g_dup dX2_perform_51 rfl ?_
  refine g_gI lf_X2_41 (S2.l 38 rfl) (S2.k 38 rfl rfl) dX2_perform_52 ?_
  refine g_iconst dX2_perform_55 ?_
  rw [gIq (a := 43) (b := 38) (by decide), gIq (a := 42) (b := 38) (by decide), gIq (a := 41) (b := 38) (by decide), hA2]
  refine g_iadd dX2_perform_56 ?_
  refine g_pI0 lf_X2_41 (S2.l 38 rfl) (S2.k 38 rfl rfl) dX2_perform_57 ?_
  exact e_vret rfl dX2_perform_60 rfl rfl rfl
theorem c_takeBack0 {h : Hp} (S : SX h) (hA : gI h 38 7 = 0) : gCi 1 0 0 yX2_takeBack cX2_takeBack 1 (some .boolean) [.ref 38] h (some (.int 0)) h := by
  refine g_entry (lv := [.ref 38]) 0 pn_X2 rfl rfl rfl ?_
  refine g_aL0 dX2_takeBack_0 ?_
  refine g_gI lf_X2_41 (S.l 38 rfl) (S.k 38 rfl rfl) dX2_takeBack_1 ?_
  rw [hA]
  refine g_ifne dX2_takeBack_4 (fun c4 => absurd rfl c4) (fun c4 => ?_)
  refine g_iconst dX2_takeBack_7 ?_
  exact e_zret rfl (by decide) dX2_takeBack_8 rfl rfl rfl rfl
theorem c_takeBack1 {h : Hp} (S : SX h) {A : Nat} (hA : gI h 38 7 = nI (A + 1)) (hA16 : A < 16) {p : Nat} (hq : gI h 42 A = nI p) (hp : p < 8) : gCi 1 0 0 yX2_takeBack cX2_takeBack 1 (some .boolean) [.ref 38] h (some (.int 1)) (chH (pI h 38 7 (nI A)) (gI h 41 A) p (gI h 43 A)) := by
  refine g_entry (lv := [.ref 38]) 0 pn_X2 rfl rfl rfl ?_
  refine g_aL0 dX2_takeBack_0 ?_
  refine g_gI lf_X2_41 (S.l 38 rfl) (S.k 38 rfl rfl) dX2_takeBack_1 ?_
  rw [hA]
  refine g_ifne dX2_takeBack_4 (fun c4 => ?_) (fun c4 => absurd c4 (nI_ne0 (by omega) (by omega)))
  refine g_aL0 dX2_takeBack_9 ?_
  refine g_dup dX2_takeBack_10 rfl ?_
  refine g_gI lf_X2_41 (S.l 38 rfl) (S.k 38 rfl rfl) dX2_takeBack_11 ?_
  rw [hA]
  refine g_iconst dX2_takeBack_14 ?_
  refine g_isub dX2_takeBack_15 ?_
  rw [nI_pred]
  refine g_pI0 lf_X2_41 (S.l 38 rfl) (S.k 38 rfl rfl) dX2_takeBack_16 ?_
  refine g_aL0 dX2_takeBack_19 ?_
  refine g_aL0 dX2_takeBack_20 ?_
  refine g_getR lf_X2_24 (S.l 38 rfl) (S.k 38 rfl rfl) (S.r 38 4 (b := 41) rfl rfl) dX2_takeBack_21 ?_
  refine g_aL0 dX2_takeBack_24 ?_
  refine g_gI lf_X2_41 (S.l 38 rfl) (S.k 38 rfl rfl) dX2_takeBack_25 ?_
  rw [gIs]
  refine g_ialoadN (S.l 41 rfl) (S.k 41 rfl rfl) (S.n 41 (n := 16) rfl rfl) hA16 (by decide) dX2_takeBack_28 ?_
  rw [gIq (a := 38) (b := 41) (by decide)]
  refine g_aL0 dX2_takeBack_29 ?_
  refine g_getR lf_X2_27 (S.l 38 rfl) (S.k 38 rfl rfl) (S.r 38 5 (b := 42) rfl rfl) dX2_takeBack_30 ?_
  refine g_aL0 dX2_takeBack_33 ?_
  refine g_gI lf_X2_41 (S.l 38 rfl) (S.k 38 rfl rfl) dX2_takeBack_34 ?_
  rw [gIs]
  refine g_ialoadN (S.l 42 rfl) (S.k 42 rfl rfl) (S.n 42 (n := 16) rfl rfl) hA16 (by decide) dX2_takeBack_37 ?_
  rw [gIq (a := 38) (b := 42) (by decide), hq]
  refine g_aL0 dX2_takeBack_38 ?_
  refine g_getR lf_X2_30 (S.l 38 rfl) (S.k 38 rfl rfl) (S.r 38 6 (b := 43) rfl rfl) dX2_takeBack_39 ?_
  refine g_aL0 dX2_takeBack_42 ?_
  refine g_gI lf_X2_41 (S.l 38 rfl) (S.k 38 rfl rfl) dX2_takeBack_43 ?_
  rw [gIs]
  refine g_ialoadN (S.l 43 rfl) (S.k 43 rfl rfl) (S.n 43 (n := 16) rfl rfl) hA16 (by decide) dX2_takeBack_46 ?_
  rw [gIq (a := 38) (b := 43) (by decide)]
  refine e_v3u (c_change (h := (pI h 38 7 (nI A))) S _ hp _) lm_X2_111 dX2_takeBack_47 (S.l 38 rfl) (S.k 38 rfl rfl) rfl rfl rfl rfl ?_
  refine g_iconst dX2_takeBack_50 ?_
  exact e_zret rfl (by decide) dX2_takeBack_51 rfl rfl rfl rfl
def kpS (m : Nat) (h : Hp) (i : Nat) : Hp :=
  let a := pI h 44 (m * 17 + i) (gI h 39 i)
  pI a 44 (m * 17 + 8 + i) (gI a 40 i)
def kpL (m : Nat) : Nat → Nat → Hp → Hp
  | 0, _, h => h
  | n + 1, i, h => kpL m n (i + 1) (kpS m h i)
def kpE (m : Nat) (h : Hp) : Hp := pI (pI h 44 (m * 17 + 16) (gI h 38 3)) 38 9 (nI m + 1)
theorem kpL_I (m : Nat) : ∀ (n i : Nat) (h : Hp) (b j : Nat), b ≠ 44 → gI (kpL m n i h) b j = gI h b j
  | 0, _, _, _, _, _ => rfl
  | n + 1, i, h, b, j, h1 => by
    rw [kpL, kpL_I m n (i + 1) _ b j h1]
    show u2 _ 44 _ _ b j = _
    rw [u2_n _ _ (fun z => h1 z.1)]
    show u2 _ 44 _ _ b j = _
    rw [u2_n _ _ (fun z => h1 z.1)]
theorem c_keep0 {h : Hp} (S : SX h) (hm : gI h 38 9 = nI 3) : gCi 0 0 0 yX2_keep cX2_keep 3 (some .boolean) [.ref 38] h (some (.int 0)) h := by
  refine g_entry (lv := [.ref 38, .retAddr 0, .retAddr 0]) 2 pn_X2 rfl rfl rfl ?_
  refine g_aL0 dX2_keep_0 ?_
  refine g_gI lf_X2_44 (S.l 38 rfl) (S.k 38 rfl rfl) dX2_keep_1 ?_
  refine g_iconst dX2_keep_4 ?_
  rw [hm]
  refine g_iclt dX2_keep_5 (fun c5 => absurd c5 (by decide)) (fun c5 => ?_)
  refine g_iconst dX2_keep_8 ?_
  exact e_zret rfl (by decide) dX2_keep_9 rfl rfl rfl rfl
theorem c_keep1 {h : Hp} (S : SX h) {m : Nat} (hm : gI h 38 9 = nI m) (hm3 : m < 3) : gCi 0 0 0 yX2_keep cX2_keep 3 (some .boolean) [.ref 38] h (some (.int 1)) (kpE m (kpL m 8 0 h)) := by
  refine g_entry (lv := [.ref 38, .retAddr 0, .retAddr 0]) 2 pn_X2 rfl rfl rfl ?_
  have loop : ∀ (n i : Nat) (hh : Hp), i + n = 8 → kpL m 8 0 h = kpL m n i hh → SX hh → gI hh 38 9 = nI m → gY 0 0 0 yX2_keep cX2_keep 3 (some .boolean) 0 0 (fun v' h' => v' = (some (.int 1)) ∧ h' = (kpE m (kpL m 8 0 h))) 20 [.ref 38, .int (nI (m * 17)), .int (nI i)] [] hh := by
    intro n
    induction n with
    | zero =>
      intro i hh hi he S hm
      refine g_iL2 dX2_keep_20 ?_
      refine g_bipush dX2_keep_21 ?_
      rw [show (8 : Int32) = nI 8 from rfl]
      refine g_icge dX2_keep_23 (fun c23 => ?_) (fun c23 => absurd (nI_le (by omega) (by omega)) c23)
      refine g_aL0 dX2_keep_63 ?_
      refine g_getR lf_X2_33 (S.l 38 rfl) (S.k 38 rfl rfl) (S.r 38 8 (b := 44) rfl rfl) dX2_keep_64 ?_
      refine g_iL1 dX2_keep_67 ?_
      refine g_bipush dX2_keep_68 ?_
      rw [show (16 : Int32) = nI 16 from rfl]
      refine g_iadd dX2_keep_70 ?_
      rw [nI_add]
      refine g_aL0 dX2_keep_71 ?_
      refine g_gI lf_X2_37 (S.l 38 rfl) (S.k 38 rfl rfl) dX2_keep_72 ?_
      refine g_iastoreN (S.l 44 rfl) (S.k 44 rfl rfl) (S.n 44 (n := 51) rfl rfl) (by omega) (by decide) dX2_keep_75 ?_
      refine g_aL0 dX2_keep_76 ?_
      refine g_dup dX2_keep_77 rfl ?_
      refine g_gI lf_X2_44 (S.l 38 rfl) (S.k 38 rfl rfl) dX2_keep_78 ?_
      rw [gIq (a := 44) (b := 38) (by decide), hm]
      refine g_iconst dX2_keep_81 ?_
      refine g_iadd dX2_keep_82 ?_
      refine g_pI0 lf_X2_44 (S.l 38 rfl) (S.k 38 rfl rfl) dX2_keep_83 ?_
      refine g_iconst dX2_keep_86 ?_
      exact e_zret rfl (by decide) dX2_keep_87 rfl rfl rfl (by rw [he]; rfl)
    | succ n ih =>
      intro i hh hi he S hm
      refine g_iL2 dX2_keep_20 ?_
      refine g_bipush dX2_keep_21 ?_
      rw [show (8 : Int32) = nI 8 from rfl]
      refine g_icge dX2_keep_23 (fun c23 => absurd c23 (nI_ge (by omega) (by omega))) (fun c23 => ?_)
      refine g_aL0 dX2_keep_26 ?_
      refine g_getR lf_X2_33 (S.l 38 rfl) (S.k 38 rfl rfl) (S.r 38 8 (b := 44) rfl rfl) dX2_keep_27 ?_
      refine g_iL1 dX2_keep_30 ?_
      refine g_iL2 dX2_keep_31 ?_
      refine g_iadd dX2_keep_32 ?_
      rw [nI_add]
      refine g_aL0 dX2_keep_33 ?_
      refine g_getR lf_X2_17 (S.l 38 rfl) (S.k 38 rfl rfl) (S.r 38 1 (b := 39) rfl rfl) dX2_keep_34 ?_
      refine g_iL2 dX2_keep_37 ?_
      refine g_ialoadN (S.l 39 rfl) (S.k 39 rfl rfl) (S.n 39 (n := 8) rfl rfl) (by omega) (by decide) dX2_keep_38 ?_
      refine g_iastoreN (S.l 44 rfl) (S.k 44 rfl rfl) (S.n 44 (n := 51) rfl rfl) (by omega) (by decide) dX2_keep_39 ?_
      refine g_aL0 dX2_keep_40 ?_
      refine g_getR lf_X2_33 (S.l 38 rfl) (S.k 38 rfl rfl) (S.r 38 8 (b := 44) rfl rfl) dX2_keep_41 ?_
      refine g_iL1 dX2_keep_44 ?_
      refine g_bipush dX2_keep_45 ?_
      rw [show (8 : Int32) = nI 8 from rfl]
      refine g_iadd dX2_keep_47 ?_
      rw [nI_add]
      refine g_iL2 dX2_keep_48 ?_
      refine g_iadd dX2_keep_49 ?_
      rw [nI_add]
      refine g_aL0 dX2_keep_50 ?_
      refine g_getR lf_X2_21 (S.l 38 rfl) (S.k 38 rfl rfl) (S.r 38 2 (b := 40) rfl rfl) dX2_keep_51 ?_
      refine g_iL2 dX2_keep_54 ?_
      refine g_ialoadN (S.l 40 rfl) (S.k 40 rfl rfl) (S.n 40 (n := 8) rfl rfl) (by omega) (by decide) dX2_keep_55 ?_
      refine g_iastoreN (S.l 44 rfl) (S.k 44 rfl rfl) (S.n 44 (n := 51) rfl rfl) (by omega) (by decide) dX2_keep_56 ?_
      refine g_ii2 dX2_keep_57 rfl rfl ?_
      refine g_goto dX2_keep_60 ?_
      rw [nI_1]
      exact ih (i + 1) _ (by omega) he S hm
  refine g_aL0 dX2_keep_0 ?_
  refine g_gI lf_X2_44 (S.l 38 rfl) (S.k 38 rfl rfl) dX2_keep_1 ?_
  refine g_iconst dX2_keep_4 ?_
  rw [hm]
  refine g_iclt dX2_keep_5 (fun c5 => ?_) (fun c5 => absurd (nI_lt (b := 3) hm3 (by decide)) c5)
  refine g_aL0 dX2_keep_10 ?_
  refine g_gI lf_X2_44 (S.l 38 rfl) (S.k 38 rfl rfl) dX2_keep_11 ?_
  rw [hm]
  refine g_bipush dX2_keep_14 ?_
  rw [show (17 : Int32) = nI 17 from rfl]
  refine g_imul dX2_keep_16 ?_
  rw [pk_mul]
  refine g_iS1 dX2_keep_17 rfl rfl ?_
  refine g_iconst dX2_keep_18 ?_
  refine g_iS2 dX2_keep_19 rfl rfl ?_
  exact loop 8 0 _ (by omega) rfl S hm
def rsS (m : Nat) (h : Hp) (i : Nat) : Hp :=
  let a := pI h 39 i (gI h 44 (m * 17 + i))
  pI a 40 i (gI a 44 (m * 17 + 8 + i))
def rsL (m : Nat) : Nat → Nat → Hp → Hp
  | 0, _, h => h
  | n + 1, i, h => rsL m n (i + 1) (rsS m h i)
def rsE (m : Nat) (h : Hp) : Hp := pI (pI h 38 3 (gI h 44 (m * 17 + 16))) 38 7 0
theorem rsL_I (m : Nat) : ∀ (n i : Nat) (h : Hp) (b j : Nat), b ≠ 39 → b ≠ 40 → gI (rsL m n i h) b j = gI h b j
  | 0, _, _, _, _, _, _ => rfl
  | n + 1, i, h, b, j, h1, h2 => by
    rw [rsL, rsL_I m n (i + 1) _ b j h1 h2]
    show u2 _ 40 _ _ b j = _
    rw [u2_n _ _ (fun z => h2 z.1)]
    show u2 _ 39 _ _ b j = _
    rw [u2_n _ _ (fun z => h1 z.1)]
theorem c_restore0 {h : Hp} (S : SX h) {M : Nat} (hm : gI h 38 9 = nI M) (k : Int32) (hk : k < 0 ∨ ¬ k < nI M) : gCi 0 0 0 yX2_restore cX2_restore 4 (some .boolean) [.ref 38, .int k] h (some (.int 0)) h := by
  refine g_entry (lv := [.ref 38, .int k, .retAddr 0, .retAddr 0]) 2 pn_X2 rfl rfl rfl ?_
  refine g_iL1 dX2_restore_0 ?_
  refine g_iflt dX2_restore_1 (fun c1 => ?_) (fun c1 => ?_)
  · refine g_iconst dX2_restore_12 ?_
    exact e_zret rfl (by decide) dX2_restore_13 rfl rfl rfl rfl
  · refine g_iL1 dX2_restore_4 ?_
    refine g_aL0 dX2_restore_5 ?_
    refine g_gI lf_X2_44 (S.l 38 rfl) (S.k 38 rfl rfl) dX2_restore_6 ?_
    rw [hm]
    refine g_iclt dX2_restore_9 (fun c9 => absurd hk (by rintro (z | z); exact c1 z; exact z c9)) (fun c9 => ?_)
    refine g_iconst dX2_restore_12 ?_
    exact e_zret rfl (by decide) dX2_restore_13 rfl rfl rfl rfl
theorem c_restore1 {h : Hp} (S : SX h) {M m : Nat} (hm : gI h 38 9 = nI M) (hM3 : M ≤ 3) (hk : m < M) : gCi 0 0 0 yX2_restore cX2_restore 4 (some .boolean) [.ref 38, .int (nI m)] h (some (.int 1)) (rsE m (rsL m 8 0 h)) := by
  refine g_entry (lv := [.ref 38, .int (nI m), .retAddr 0, .retAddr 0]) 2 pn_X2 rfl rfl rfl ?_
  have loop : ∀ (n i : Nat) (hh : Hp), i + n = 8 → rsL m 8 0 h = rsL m n i hh → SX hh → gY 0 0 0 yX2_restore cX2_restore 4 (some .boolean) 0 0 (fun v' h' => v' = (some (.int 1)) ∧ h' = (rsE m (rsL m 8 0 h))) 21 [.ref 38, .int (nI m), .int (nI (m * 17)), .int (nI i)] [] hh := by
    intro n
    induction n with
    | zero =>
      intro i hh hi he S
      refine g_iL3 dX2_restore_21 ?_
      refine g_bipush dX2_restore_22 ?_
      rw [show (8 : Int32) = nI 8 from rfl]
      refine g_icge dX2_restore_24 (fun c24 => ?_) (fun c24 => absurd (nI_le (by omega) (by omega)) c24)
      refine g_aL0 dX2_restore_64 ?_
      refine g_aL0 dX2_restore_65 ?_
      refine g_getR lf_X2_33 (S.l 38 rfl) (S.k 38 rfl rfl) (S.r 38 8 (b := 44) rfl rfl) dX2_restore_66 ?_
      refine g_iL2 dX2_restore_69 ?_
      refine g_bipush dX2_restore_70 ?_
      rw [show (16 : Int32) = nI 16 from rfl]
      refine g_iadd dX2_restore_72 ?_
      rw [nI_add]
      refine g_ialoadN (S.l 44 rfl) (S.k 44 rfl rfl) (S.n 44 (n := 51) rfl rfl) (by omega) (by decide) dX2_restore_73 ?_
      refine g_pI0 lf_X2_37 (S.l 38 rfl) (S.k 38 rfl rfl) dX2_restore_74 ?_
      refine g_aL0 dX2_restore_77 ?_
      refine g_iconst dX2_restore_78 ?_
      refine g_pI0 lf_X2_41 (S.l 38 rfl) (S.k 38 rfl rfl) dX2_restore_79 ?_
      refine g_iconst dX2_restore_82 ?_
      exact e_zret rfl (by decide) dX2_restore_83 rfl rfl rfl (by rw [he]; rfl)
    | succ n ih =>
      intro i hh hi he S
      refine g_iL3 dX2_restore_21 ?_
      refine g_bipush dX2_restore_22 ?_
      rw [show (8 : Int32) = nI 8 from rfl]
      refine g_icge dX2_restore_24 (fun c24 => absurd c24 (nI_ge (by omega) (by omega))) (fun c24 => ?_)
      refine g_aL0 dX2_restore_27 ?_
      refine g_getR lf_X2_17 (S.l 38 rfl) (S.k 38 rfl rfl) (S.r 38 1 (b := 39) rfl rfl) dX2_restore_28 ?_
      refine g_iL3 dX2_restore_31 ?_
      refine g_aL0 dX2_restore_32 ?_
      refine g_getR lf_X2_33 (S.l 38 rfl) (S.k 38 rfl rfl) (S.r 38 8 (b := 44) rfl rfl) dX2_restore_33 ?_
      refine g_iL2 dX2_restore_36 ?_
      refine g_iL3 dX2_restore_37 ?_
      refine g_iadd dX2_restore_38 ?_
      rw [nI_add]
      refine g_ialoadN (S.l 44 rfl) (S.k 44 rfl rfl) (S.n 44 (n := 51) rfl rfl) (by omega) (by decide) dX2_restore_39 ?_
      refine g_iastoreN (S.l 39 rfl) (S.k 39 rfl rfl) (S.n 39 (n := 8) rfl rfl) (by omega) (by decide) dX2_restore_40 ?_
      refine g_aL0 dX2_restore_41 ?_
      refine g_getR lf_X2_21 (S.l 38 rfl) (S.k 38 rfl rfl) (S.r 38 2 (b := 40) rfl rfl) dX2_restore_42 ?_
      refine g_iL3 dX2_restore_45 ?_
      refine g_aL0 dX2_restore_46 ?_
      refine g_getR lf_X2_33 (S.l 38 rfl) (S.k 38 rfl rfl) (S.r 38 8 (b := 44) rfl rfl) dX2_restore_47 ?_
      refine g_iL2 dX2_restore_50 ?_
      refine g_bipush dX2_restore_51 ?_
      rw [show (8 : Int32) = nI 8 from rfl]
      refine g_iadd dX2_restore_53 ?_
      rw [nI_add]
      refine g_iL3 dX2_restore_54 ?_
      refine g_iadd dX2_restore_55 ?_
      rw [nI_add]
      refine g_ialoadN (S.l 44 rfl) (S.k 44 rfl rfl) (S.n 44 (n := 51) rfl rfl) (by omega) (by decide) dX2_restore_56 ?_
      refine g_iastoreN (S.l 40 rfl) (S.k 40 rfl rfl) (S.n 40 (n := 8) rfl rfl) (by omega) (by decide) dX2_restore_57 ?_
      refine g_ii3 dX2_restore_58 rfl rfl ?_
      refine g_goto dX2_restore_61 ?_
      rw [nI_1]
      exact ih (i + 1) _ (by omega) he S
  refine g_iL1 dX2_restore_0 ?_
  refine g_iflt dX2_restore_1 (fun c1 => absurd c1 (nI_pos (by omega))) (fun c1 => ?_)
  refine g_iL1 dX2_restore_4 ?_
  refine g_aL0 dX2_restore_5 ?_
  refine g_gI lf_X2_44 (S.l 38 rfl) (S.k 38 rfl rfl) dX2_restore_6 ?_
  rw [hm]
  refine g_iclt dX2_restore_9 (fun c9 => ?_) (fun c9 => absurd (nI_lt hk (by omega)) c9)
  refine g_iL1 dX2_restore_14 ?_
  refine g_bipush dX2_restore_15 ?_
  rw [show (17 : Int32) = nI 17 from rfl]
  refine g_imul dX2_restore_17 ?_
  rw [pk_mul]
  refine g_iS2 dX2_restore_18 rfl rfl ?_
  refine g_iconst dX2_restore_19 ?_
  refine g_iS3 dX2_restore_20 rfl rfl ?_
  exact loop 8 0 _ (by omega) rfl S
def bgS (t : Nat) (h : Hp) (i : Nat) : Hp :=
  let a := pI h 39 i (gI h (t + 3) i)
  pI a 40 i 0
def bgL (t : Nat) : Nat → Nat → Hp → Hp
  | 0, _, h => h
  | n + 1, i, h => bgL t n (i + 1) (bgS t h i)
def bgE (h : Hp) : Hp := pI (pI (pI h 38 3 0) 38 7 0) 38 9 0
def bgH (h : Hp) (t : Nat) : Hp := bgE (bgL t 8 0 (pR h 38 0 (some t)))
theorem c_begin {h : Hp} {t : Nat} (S : SX h) (hc : t = 3 ∨ t = 18) : gCi 0 0 0 yX2_begin cX2_begin 3 none [.ref 38, .ref t] h none (bgH h t) := by
  refine g_entry (lv := [.ref 38, .ref t, .retAddr 0]) 1 pn_X2 rfl rfl rfl ?_
  refine g_aL0 dX2_begin_0 ?_
  refine g_aL1 dX2_begin_1 ?_
  refine g_pR0 lf_X2_11 (S.l 38 rfl) (S.k 38 rfl rfl) dX2_begin_2 ?_
  have S1 := S.pR (a := 38) (k := 0) (some t) rfl
  have loop : ∀ (n i : Nat) (hh : Hp), i + n = 8 → bgL t 8 0 (pR h 38 0 (some t)) = bgL t n i hh → SX hh → gY 0 0 0 yX2_begin cX2_begin 3 none 0 0 (fun v' h' => v' = none ∧ h' = (bgH h t)) 7 [.ref 38, .ref t, .int (nI i)] [] hh := by
    intro n
    induction n with
    | zero =>
      intro i hh hi he S1
      refine g_iL2 dX2_begin_7 ?_
      refine g_bipush dX2_begin_8 ?_
      rw [show (8 : Int32) = nI 8 from rfl]
      refine g_icge dX2_begin_10 (fun c10 => ?_) (fun c10 => absurd (nI_le (by omega) (by omega)) c10)
      refine g_aL0 dX2_begin_38 ?_
      refine g_iconst dX2_begin_39 ?_
      refine g_pI0 lf_X2_37 (S1.l 38 rfl) (S1.k 38 rfl rfl) dX2_begin_40 ?_
      refine g_aL0 dX2_begin_43 ?_
      refine g_iconst dX2_begin_44 ?_
      refine g_pI0 lf_X2_41 (S1.l 38 rfl) (S1.k 38 rfl rfl) dX2_begin_45 ?_
      refine g_aL0 dX2_begin_48 ?_
      refine g_iconst dX2_begin_49 ?_
      refine g_pI0 lf_X2_44 (S1.l 38 rfl) (S1.k 38 rfl rfl) dX2_begin_50 ?_
      exact e_vret rfl dX2_begin_53 rfl rfl (by unfold bgH; rw [he]; rfl)
    | succ n ih =>
      intro i hh hi he S1
      refine g_iL2 dX2_begin_7 ?_
      refine g_bipush dX2_begin_8 ?_
      rw [show (8 : Int32) = nI 8 from rfl]
      refine g_icge dX2_begin_10 (fun c10 => absurd c10 (nI_ge (by omega) (by omega))) (fun c10 => ?_)
      refine g_aL0 dX2_begin_13 ?_
      refine g_getR lf_X2_17 (S1.l 38 rfl) (S1.k 38 rfl rfl) (S1.r 38 1 (b := 39) rfl rfl) dX2_begin_14 ?_
      refine g_iL2 dX2_begin_17 ?_
      refine g_aL1 dX2_begin_18 ?_
      refine g_getR lf_X2_36 (S1.cl hc 0 rfl) (S1.ck hc) (S1.cr hc 7 (j := 3) rfl rfl) dX2_begin_19 ?_
      refine g_iL2 dX2_begin_22 ?_
      refine g_ialoadN (S1.cl hc 3 rfl) (S1.cka hc 3 rfl rfl) (S1.cn hc 3 (n := 8) rfl rfl rfl) (by omega) (by decide) dX2_begin_23 ?_
      refine g_iastoreN (S1.l 39 rfl) (S1.k 39 rfl rfl) (S1.n 39 (n := 8) rfl rfl) (by omega) (by decide) dX2_begin_24 ?_
      refine g_aL0 dX2_begin_25 ?_
      refine g_getR lf_X2_21 (S1.l 38 rfl) (S1.k 38 rfl rfl) (S1.r 38 2 (b := 40) rfl rfl) dX2_begin_26 ?_
      refine g_iL2 dX2_begin_29 ?_
      refine g_iconst dX2_begin_30 ?_
      refine g_iastoreN (S1.l 40 rfl) (S1.k 40 rfl rfl) (S1.n 40 (n := 8) rfl rfl) (by omega) (by decide) dX2_begin_31 ?_
      refine g_ii2 dX2_begin_32 rfl rfl ?_
      refine g_goto dX2_begin_35 ?_
      rw [nI_1]
      exact ih (i + 1) _ (by omega) he S1
  refine g_iconst dX2_begin_5 ?_
  refine g_iS2 dX2_begin_6 rfl rfl ?_
  exact loop 8 0 _ (by omega) rfl S1
def hrF (n : Int32) : Int32 := if 1100 < n + 20 then 0 else 1
theorem c_hasRoom {h : Hp} (S : SX h) : gCi 0 0 0 yX4_hasRoom cX4_hasRoom 1 (some .boolean) [.ref 1] h (some (.int (hrF (gI h 1 1)))) h := by
  refine g_entry (lv := [.ref 1]) 0 pn_X4 rfl rfl rfl ?_
  refine g_aL0 dX4_hasRoom_0 ?_
  refine g_gI lf_X4_13 (S.l 1 rfl) (S.k 1 rfl rfl) dX4_hasRoom_1 ?_
  refine g_bipush dX4_hasRoom_4 ?_
  refine g_iadd dX4_hasRoom_6 ?_
  refine g_sipush dX4_hasRoom_7 ?_
  refine g_icgt dX4_hasRoom_10 (fun c10 => ?_) (fun c10 => ?_)
  · refine g_iconst dX4_hasRoom_17 ?_
    exact e_zret rfl (by decide) dX4_hasRoom_18 rfl rfl (if_pos c10).symm rfl
  · refine g_iconst dX4_hasRoom_13 ?_
    refine g_goto dX4_hasRoom_14 ?_
    exact e_zret rfl (by decide) dX4_hasRoom_18 rfl rfl (if_neg c10).symm rfl
def ptS (v : Int32) (h : Hp) (n : Nat) (k : Int32) : Hp := pI (pI h 2 n (v >>> (k &&& 31)).toInt8.toInt32) 1 1 (nI n + 1)
def ptH (h : Hp) (n : Nat) (v : Int32) : Hp := ptS v (ptS v (ptS v (ptS v h n 24) (n + 1) 16) (n + 2) 8) (n + 3) 0
theorem i8i8 (x : Int32) : x.toInt8.toInt32.toInt8.toInt32 = x.toInt8.toInt32 := congrArg Int8.toInt32 (Int8.toInt8_toInt32 x.toInt8)
theorem c_tput {h : Hp} (S : SX h) {n : Nat} (hn : gI h 1 1 = nI n) (hn2 : n + 4 ≤ 1100) (v : Int32) : gCi 0 0 0 yX4_put cX4_put 3 none [.ref 1, .int v] h none (ptH h n v) := by
  refine g_entry (lv := [.ref 1, .int v, .retAddr 0]) 1 pn_X4 rfl rfl rfl ?_
  have step : ∀ (hh : Hp) (a : Nat) (k : Int32), SX hh → gI hh 1 1 = nI a → a < 1100 → ¬ k < 0 → gY 0 0 0 yX4_put cX4_put 3 none 0 0 (fun v' h' => v' = none ∧ h' = (ptH h n v)) 3 [.ref 1, .int v, .int (k + (-8))] [] (ptS v hh a k) → gY 0 0 0 yX4_put cX4_put 3 none 0 0 (fun v' h' => v' = none ∧ h' = (ptH h n v)) 3 [.ref 1, .int v, .int k] [] hh := by
    intro hh a k S hn ha hk nx
    refine g_iL2 dX4_put_3 ?_
    refine g_iflt dX4_put_4 (fun c4 => absurd c4 hk) (fun c4 => ?_)
    refine g_aL0 dX4_put_7 ?_
    refine g_gI lf_X4_13 (S.l 1 rfl) (S.k 1 rfl rfl) dX4_put_8 ?_
    refine g_sipush dX4_put_11 ?_
    rw [hn]
    refine g_icge dX4_put_14 (fun c14 => absurd c14 (nI_ge (b := 1100) ha (by decide))) (fun c14 => ?_)
    refine g_aL0 dX4_put_17 ?_
    refine g_getR lf_X4_9 (S.l 1 rfl) (S.k 1 rfl rfl) (S.r 1 0 (b := 2) rfl rfl) dX4_put_18 ?_
    refine g_aL0 dX4_put_21 ?_
    refine g_gI lf_X4_13 (S.l 1 rfl) (S.k 1 rfl rfl) dX4_put_22 ?_
    rw [hn]
    refine g_iL1 dX4_put_25 ?_
    refine g_iL2 dX4_put_26 ?_
    refine g_ishr dX4_put_27 ?_
    refine g_i2b dX4_put_28 ?_
    refine g_bastoreN (S.l 2 rfl) (S.k 2 rfl rfl) (S.n 2 (n := 1100) rfl rfl) ha (by decide) dX4_put_29 ?_
    rw [i8i8]
    refine g_aL0 dX4_put_30 ?_
    refine g_dup dX4_put_31 rfl ?_
    refine g_gI lf_X4_13 (S.l 1 rfl) (S.k 1 rfl rfl) dX4_put_32 ?_
    rw [gIq (a := 2) (b := 1) (by decide), hn]
    refine g_iconst dX4_put_35 ?_
    refine g_iadd dX4_put_36 ?_
    refine g_pI0 lf_X4_13 (S.l 1 rfl) (S.k 1 rfl rfl) dX4_put_37 ?_
    refine g_ii2 dX4_put_40 rfl rfl ?_
    refine g_goto dX4_put_43 ?_
    exact nx
  refine g_bipush dX4_put_0 ?_
  refine g_iS2 dX4_put_2 rfl rfl ?_
  refine step h n 24 S hn (by omega) (by decide) ?_
  refine step _ (n + 1) _ S (nI_1 n) (by omega) (by decide) ?_
  refine step _ (n + 2) _ S (nI_1 (n + 1)) (by omega) (by decide) ?_
  refine step _ (n + 3) _ S (nI_1 (n + 2)) (by omega) (by decide) ?_
  refine g_iL2 dX4_put_3 ?_
  refine g_iflt dX4_put_4 (fun c4 => ?_) (fun c4 => absurd (by decide) c4)
  exact e_vret rfl dX4_put_46 rfl rfl rfl

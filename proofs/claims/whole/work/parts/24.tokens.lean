/-! THE CLASS: Tokens -/
def ck3 (b : Int32) : Int32 := if b = 59 then 3 else if b = 44 then 4 else 5
def ck2 (b : Int32) : Int32 := if b < 48 then ck3 b else if 57 < b then ck3 b else 2
/-- the sort that a byte begins: 1 a letter, 2 a digit, 3 ; 4 , 5 none -/
def ck (b : Int32) : Int32 := if b < 97 then ck2 b else if 122 < b then ck2 b else 1
def sAt (tx : Nat → Int32) (en p : Nat) : Int32 := if nI p < nI en then ck (tx p) else 0
theorem c_sortAt {h : Hp} (S : SX h) {en : Nat} (hen : gI h 34 1 = nI en) (hen2 : en ≤ 1100) {p : Nat} (hp : p ≤ en) : gCi 0 0 0 yX5_sortAt cX5_sortAt 3 (some .int) [.ref 34, .int (nI p)] h (some (.int (sAt (gI h 2) en p))) h := by
  refine g_entry (lv := [.ref 34, .int (nI p), .retAddr 0]) 1 pn_X5 rfl rfl rfl ?_
  refine g_iL1 dX5_sortAt_0 ?_
  refine g_aL0 dX5_sortAt_1 ?_
  refine g_gI lf_X5_16 (S.l 34 rfl) (S.k 34 rfl rfl) dX5_sortAt_2 ?_
  rw [hen]
  refine g_iclt dX5_sortAt_5 (fun c5 => ?_) (fun c5 => ?_)
  · refine g_aL0 dX5_sortAt_10 ?_
    refine g_getR lf_X5_13 (S.l 34 rfl) (S.k 34 rfl rfl) (S.r 34 0 (b := 2) rfl rfl) dX5_sortAt_11 ?_
    refine g_iL1 dX5_sortAt_14 ?_
    have hlt : p < en := (nI_ltI (by omega) (by omega)).mp c5
    refine g_baloadN (S.l 2 rfl) (S.k 2 rfl rfl) (S.n 2 (n := 1100) rfl rfl) (by omega) (by decide) dX5_sortAt_15 ?_
    refine g_iS2 dX5_sortAt_16 rfl rfl ?_
    refine g_iL2 dX5_sortAt_17 ?_
    refine g_bipush dX5_sortAt_18 ?_
    refine g_iclt dX5_sortAt_20 (fun c20 => ?_) (fun c20 => ?_)
    · refine g_iL2 dX5_sortAt_31 ?_
      refine g_bipush dX5_sortAt_32 ?_
      refine g_iclt dX5_sortAt_34 (fun c34 => ?_) (fun c34 => ?_)
      · refine g_iL2 dX5_sortAt_45 ?_
        refine g_bipush dX5_sortAt_46 ?_
        refine g_icne dX5_sortAt_48 (fun c48 => ?_) (fun c48 => ?_)
        · refine g_iL2 dX5_sortAt_53 ?_
          refine g_bipush dX5_sortAt_54 ?_
          refine g_icne dX5_sortAt_56 (fun c56 => ?_) (fun c56 => ?_)
          · refine g_iconst dX5_sortAt_63 ?_
            exact e_iret rfl dX5_sortAt_64 rfl rfl ((if_pos c5).trans ((if_pos c20).trans ((if_pos c34).trans ((if_neg c48).trans (if_neg c56))))).symm rfl
          · refine g_iconst dX5_sortAt_59 ?_
            refine g_goto dX5_sortAt_60 ?_
            exact e_iret rfl dX5_sortAt_64 rfl rfl ((if_pos c5).trans ((if_pos c20).trans ((if_pos c34).trans ((if_neg c48).trans (if_pos c56))))).symm rfl
        · refine g_iconst dX5_sortAt_51 ?_
          exact e_iret rfl dX5_sortAt_52 rfl rfl ((if_pos c5).trans ((if_pos c20).trans ((if_pos c34).trans (if_pos c48)))).symm rfl
      · refine g_iL2 dX5_sortAt_37 ?_
        refine g_bipush dX5_sortAt_38 ?_
        refine g_icgt dX5_sortAt_40 (fun c40 => ?_) (fun c40 => ?_)
        · refine g_iL2 dX5_sortAt_45 ?_
          refine g_bipush dX5_sortAt_46 ?_
          refine g_icne dX5_sortAt_48 (fun c48 => ?_) (fun c48 => ?_)
          · refine g_iL2 dX5_sortAt_53 ?_
            refine g_bipush dX5_sortAt_54 ?_
            refine g_icne dX5_sortAt_56 (fun c56 => ?_) (fun c56 => ?_)
            · refine g_iconst dX5_sortAt_63 ?_
              exact e_iret rfl dX5_sortAt_64 rfl rfl ((if_pos c5).trans ((if_pos c20).trans ((if_neg c34).trans ((if_pos c40).trans ((if_neg c48).trans (if_neg c56)))))).symm rfl
            · refine g_iconst dX5_sortAt_59 ?_
              refine g_goto dX5_sortAt_60 ?_
              exact e_iret rfl dX5_sortAt_64 rfl rfl ((if_pos c5).trans ((if_pos c20).trans ((if_neg c34).trans ((if_pos c40).trans ((if_neg c48).trans (if_pos c56)))))).symm rfl
          · refine g_iconst dX5_sortAt_51 ?_
            exact e_iret rfl dX5_sortAt_52 rfl rfl ((if_pos c5).trans ((if_pos c20).trans ((if_neg c34).trans ((if_pos c40).trans (if_pos c48))))).symm rfl
        · refine g_iconst dX5_sortAt_43 ?_
          exact e_iret rfl dX5_sortAt_44 rfl rfl ((if_pos c5).trans ((if_pos c20).trans ((if_neg c34).trans (if_neg c40)))).symm rfl
    · refine g_iL2 dX5_sortAt_23 ?_
      refine g_bipush dX5_sortAt_24 ?_
      refine g_icgt dX5_sortAt_26 (fun c26 => ?_) (fun c26 => ?_)
      · refine g_iL2 dX5_sortAt_31 ?_
        refine g_bipush dX5_sortAt_32 ?_
        refine g_iclt dX5_sortAt_34 (fun c34 => ?_) (fun c34 => ?_)
        · refine g_iL2 dX5_sortAt_45 ?_
          refine g_bipush dX5_sortAt_46 ?_
          refine g_icne dX5_sortAt_48 (fun c48 => ?_) (fun c48 => ?_)
          · refine g_iL2 dX5_sortAt_53 ?_
            refine g_bipush dX5_sortAt_54 ?_
            refine g_icne dX5_sortAt_56 (fun c56 => ?_) (fun c56 => ?_)
            · refine g_iconst dX5_sortAt_63 ?_
              exact e_iret rfl dX5_sortAt_64 rfl rfl ((if_pos c5).trans ((if_neg c20).trans ((if_pos c26).trans ((if_pos c34).trans ((if_neg c48).trans (if_neg c56)))))).symm rfl
            · refine g_iconst dX5_sortAt_59 ?_
              refine g_goto dX5_sortAt_60 ?_
              exact e_iret rfl dX5_sortAt_64 rfl rfl ((if_pos c5).trans ((if_neg c20).trans ((if_pos c26).trans ((if_pos c34).trans ((if_neg c48).trans (if_pos c56)))))).symm rfl
          · refine g_iconst dX5_sortAt_51 ?_
            exact e_iret rfl dX5_sortAt_52 rfl rfl ((if_pos c5).trans ((if_neg c20).trans ((if_pos c26).trans ((if_pos c34).trans (if_pos c48))))).symm rfl
        · refine g_iL2 dX5_sortAt_37 ?_
          refine g_bipush dX5_sortAt_38 ?_
          refine g_icgt dX5_sortAt_40 (fun c40 => ?_) (fun c40 => ?_)
          · refine g_iL2 dX5_sortAt_45 ?_
            refine g_bipush dX5_sortAt_46 ?_
            refine g_icne dX5_sortAt_48 (fun c48 => ?_) (fun c48 => ?_)
            · refine g_iL2 dX5_sortAt_53 ?_
              refine g_bipush dX5_sortAt_54 ?_
              refine g_icne dX5_sortAt_56 (fun c56 => ?_) (fun c56 => ?_)
              · refine g_iconst dX5_sortAt_63 ?_
                exact e_iret rfl dX5_sortAt_64 rfl rfl ((if_pos c5).trans ((if_neg c20).trans ((if_pos c26).trans ((if_neg c34).trans ((if_pos c40).trans ((if_neg c48).trans (if_neg c56))))))).symm rfl
              · refine g_iconst dX5_sortAt_59 ?_
                refine g_goto dX5_sortAt_60 ?_
                exact e_iret rfl dX5_sortAt_64 rfl rfl ((if_pos c5).trans ((if_neg c20).trans ((if_pos c26).trans ((if_neg c34).trans ((if_pos c40).trans ((if_neg c48).trans (if_pos c56))))))).symm rfl
            · refine g_iconst dX5_sortAt_51 ?_
              exact e_iret rfl dX5_sortAt_52 rfl rfl ((if_pos c5).trans ((if_neg c20).trans ((if_pos c26).trans ((if_neg c34).trans ((if_pos c40).trans (if_pos c48)))))).symm rfl
          · refine g_iconst dX5_sortAt_43 ?_
            exact e_iret rfl dX5_sortAt_44 rfl rfl ((if_pos c5).trans ((if_neg c20).trans ((if_pos c26).trans ((if_neg c34).trans (if_neg c40))))).symm rfl
      · refine g_iconst dX5_sortAt_29 ?_
        exact e_iret rfl dX5_sortAt_30 rfl rfl ((if_pos c5).trans ((if_neg c20).trans (if_neg c26))).symm rfl
  · refine g_iconst dX5_sortAt_8 ?_
    exact e_iret rfl dX5_sortAt_9 rfl rfl (if_neg c5).symm rfl
/-- over the blanks -/
def skF (tx : Nat → Int32) : Nat → Nat → Nat
  | 0, p => p
  | n + 1, p => if tx p = 32 then skF tx n (p + 1) else p
theorem skF_le (tx : Nat → Int32) : ∀ (n p : Nat), p ≤ skF tx n p ∧ skF tx n p ≤ p + n
  | 0, p => ⟨Nat.le_refl _, Nat.le_refl _⟩
  | n + 1, p => by
    unfold skF
    split
    · have := skF_le tx n (p + 1); omega
    · omega
/-- how many from p + l on are of sort s, too -/
def rnF (tx : Nat → Int32) (en p : Nat) (s : Int32) : Nat → Nat → Nat
  | 0, l => l
  | n + 1, l => if sAt tx en (p + l) = s then rnF tx en p s n (l + 1) else l
theorem rnF_le (tx : Nat → Int32) (en p : Nat) (s : Int32) : ∀ (n l : Nat), l ≤ rnF tx en p s n l ∧ rnF tx en p s n l ≤ l + n
  | 0, l => ⟨Nat.le_refl _, Nat.le_refl _⟩
  | n + 1, l => by
    unfold rnF
    split
    · have := rnF_le tx en p s n (l + 1); omega
    · omega
def tkP (tx : Nat → Int32) (en q : Nat) : Nat := skF tx (en - q) q
def tk0 (tx : Nat → Int32) (en q : Nat) : Int32 := sAt tx en (tkP tx en q)
def tkL (tx : Nat → Int32) (en q : Nat) : Nat := if tk0 tx en q = 1 ∨ tk0 tx en q = 2 then rnF tx en (tkP tx en q) (tk0 tx en q) (en - (tkP tx en q + 1)) 1 else if tk0 tx en q = 0 then 0 else 1
def tkS (tx : Nat → Int32) (en q : Nat) : Int32 := if tk0 tx en q = 1 then (if tkL tx en q ≤ 8 then 1 else 5) else if tk0 tx en q = 2 then (if tkL tx en q ≤ 2 then 2 else 5) else tk0 tx en q
theorem tkP_le {tx : Nat → Int32} {en q : Nat} (h : q ≤ en) : q ≤ tkP tx en q ∧ tkP tx en q ≤ en := by have := skF_le tx (en - q) q; unfold tkP; omega
theorem sAt_out {tx : Nat → Int32} {en p : Nat} (h : en ≤ p) (hp : p < 2 ^ 31) : sAt tx en p = 0 := if_neg (nI_nlt h hp)
theorem tk0_lt {tx : Nat → Int32} {en q : Nat} (h : q ≤ en) (he : en ≤ 1100) (h0 : ¬ tk0 tx en q = 0) : tkP tx en q < en := by
  have := tkP_le (tx := tx) h
  rcases Nat.lt_or_ge (tkP tx en q) en with z | z
  · exact z
  · exact absurd (sAt_out z (by omega)) h0
theorem tkL_le {tx : Nat → Int32} {en q : Nat} (h : q ≤ en) (he : en ≤ 1100) : tkP tx en q + tkL tx en q ≤ en := by
  have h1 := tkP_le (tx := tx) h
  unfold tkL
  split
  · rename_i z
    have h2 := tk0_lt (tx := tx) h he (fun e => by rw [e] at z; exact absurd z (by decide))
    have h3 := rnF_le tx en (tkP tx en q) (tk0 tx en q) (en - (tkP tx en q + 1)) 1
    omega
  · split
    · omega
    · rename_i z
      have h2 := tk0_lt (tx := tx) h he z
      omega
/-- the token's three fields -/
def t3 (h : Hp) (p s l : Int32) : Hp := pI (pI (pI h 34 3 p) 34 2 s) 34 4 l
theorem t3_2 (h : Hp) (p s l x : Int32) : pI (t3 h p s l) 34 2 x = t3 h p x l := pI_cong (by
  funext b j
  simp only [t3, pI, u2]
  by_cases hb : b = 34 <;> by_cases h0 : j = 2 <;> by_cases h1 : j = 3 <;> by_cases h2 : j = 4 <;> simp_all)
theorem t3_4 (h : Hp) (p s l x : Int32) : pI (t3 h p s l) 34 4 x = t3 h p s x := pI_cong (by
  funext b j
  simp only [t3, pI, u2]
  by_cases hb : b = 34 <;> by_cases h0 : j = 2 <;> by_cases h1 : j = 3 <;> by_cases h2 : j = 4 <;> simp_all)
theorem t3_n (h : Hp) (p s l : Int32) {b j : Nat} (hb : ¬ (b = 34 ∧ (j = 2 ∨ j = 3 ∨ j = 4))) : gI (t3 h p s l) b j = gI h b j := by
  unfold t3
  show u2 _ 34 4 _ b j = _
  rw [u2_n _ _ (by omega)]
  show u2 _ 34 2 _ b j = _
  rw [u2_n _ _ (by omega)]
  show u2 _ 34 3 _ b j = _
  rw [u2_n _ _ (by omega)]
theorem t3_I2 (h : Hp) (p s l : Int32) : gI (t3 h p s l) 34 2 = s := rfl
theorem t3_I3 (h : Hp) (p s l : Int32) : gI (t3 h p s l) 34 3 = p := rfl
theorem t3_I4 (h : Hp) (p s l : Int32) : gI (t3 h p s l) 34 4 = l := rfl
/-- the token from q on -/
def tkH (h : Hp) (en q : Nat) : Hp := t3 h (nI (tkP (gI h 2) en q)) (tkS (gI h 2) en q) (nI (tkL (gI h 2) en q))
theorem tkS_no {tx : Nat → Int32} {en q : Nat} (h1 : ¬ tk0 tx en q = 1) (h2 : ¬ tk0 tx en q = 2) : tkS tx en q = tk0 tx en q := by unfold tkS; rw [if_neg h1, if_neg h2]
theorem c_step {h : Hp} (S : SX h) {en : Nat} (hen : gI h 34 1 = nI en) (hen2 : en ≤ 1100) {a b : Nat} (ha : gI h 34 3 = nI a) (hb : gI h 34 4 = nI b) (hab : a + b ≤ en) : gCi 1 0 0 yX5_step cX5_step 2 none [.ref 34] h none (tkH h en (a + b)) := by
  refine g_entry (lv := [.ref 34, .retAddr 0]) 1 pn_X5 rfl rfl rfl ?_
  have hP := tkP_le (tx := gI h 2) hab
  have hLe := tkL_le (tx := gI h 2) hab hen2
  have last : ∀ v1 : Value, (tk0 (gI h 2) en (a + b)) = 1 ∨ (tk0 (gI h 2) en (a + b)) = 2 → gY 1 0 0 yX5_step cX5_step 2 none 0 0 (fun v' h' => v' = none ∧ h' = (tkH h en (a + b))) 131 [.ref 34, v1] [] (t3 h (nI (tkP (gI h 2) en (a + b))) (tk0 (gI h 2) en (a + b)) (nI (tkL (gI h 2) en (a + b)))) := by
    intro v1 hs
    rcases hs with hs | hs
    · refine g_aL0 dX5_step_131 ?_
      refine g_gI lf_X5_26 (S.l 34 rfl) (S.k 34 rfl rfl) dX5_step_132 ?_
      rw [t3_I4]
      refine g_aL0 dX5_step_135 ?_
      refine g_gI lf_X5_20 (S.l 34 rfl) (S.k 34 rfl rfl) dX5_step_136 ?_
      rw [t3_I2]
      refine g_iconst dX5_step_139 ?_
      refine g_icne dX5_step_140 (fun c140 => absurd hs c140) (fun c140 => ?_)
      refine g_bipush dX5_step_143 ?_
      refine g_goto dX5_step_145 ?_
      refine g_icle dX5_step_149 (fun c149 => ?_) (fun c149 => ?_)
      · exact e_vret rfl dX5_step_157 rfl rfl (by unfold tkH tkS; rw [(if_pos (show tk0 (gI h 2) en (a + b) = 1 from hs)), if_pos ((nI_leI (b := 8) (by omega) (by decide)).mp c149), hs])
      · refine g_aL0 dX5_step_152 ?_
        refine g_iconst dX5_step_153 ?_
        refine g_pI0 lf_X5_20 (S.l 34 rfl) (S.k 34 rfl rfl) dX5_step_154 ?_
        rw [t3_2]
        exact e_vret rfl dX5_step_157 rfl rfl (by unfold tkH tkS; rw [(if_pos (show tk0 (gI h 2) en (a + b) = 1 from hs)), if_neg (fun z => c149 ((nI_leI (b := 8) (by omega) (by decide)).mpr z))])
    · refine g_aL0 dX5_step_131 ?_
      refine g_gI lf_X5_26 (S.l 34 rfl) (S.k 34 rfl rfl) dX5_step_132 ?_
      rw [t3_I4]
      refine g_aL0 dX5_step_135 ?_
      refine g_gI lf_X5_20 (S.l 34 rfl) (S.k 34 rfl rfl) dX5_step_136 ?_
      rw [t3_I2]
      refine g_iconst dX5_step_139 ?_
      refine g_icne dX5_step_140 (fun c140 => ?_) (fun c140 => absurd (hs.symm.trans c140) (by decide))
      refine g_iconst dX5_step_148 ?_
      refine g_icle dX5_step_149 (fun c149 => ?_) (fun c149 => ?_)
      · exact e_vret rfl dX5_step_157 rfl rfl (by unfold tkH tkS; rw [((if_neg (show ¬ tk0 (gI h 2) en (a + b) = 1 from fun z => by rw [z] at hs; exact absurd hs (by decide))).trans (if_pos (show tk0 (gI h 2) en (a + b) = 2 from hs))), if_pos ((nI_leI (b := 2) (by omega) (by decide)).mp c149), hs])
      · refine g_aL0 dX5_step_152 ?_
        refine g_iconst dX5_step_153 ?_
        refine g_pI0 lf_X5_20 (S.l 34 rfl) (S.k 34 rfl rfl) dX5_step_154 ?_
        rw [t3_2]
        exact e_vret rfl dX5_step_157 rfl rfl (by unfold tkH tkS; rw [((if_neg (show ¬ tk0 (gI h 2) en (a + b) = 1 from fun z => by rw [z] at hs; exact absurd hs (by decide))).trans (if_pos (show tk0 (gI h 2) en (a + b) = 2 from hs))), if_neg (fun z => c149 ((nI_leI (b := 2) (by omega) (by decide)).mpr z))])
  have run : ∀ (n l : Nat) (v1 : Value), (tkP (gI h 2) en (a + b)) + l + n = en → ((tk0 (gI h 2) en (a + b)) = 1 ∨ (tk0 (gI h 2) en (a + b)) = 2) → (tkL (gI h 2) en (a + b)) = rnF (gI h 2) en (tkP (gI h 2) en (a + b)) (tk0 (gI h 2) en (a + b)) n l → gY 1 0 0 yX5_step cX5_step 2 none 0 0 (fun v' h' => v' = none ∧ h' = (tkH h en (a + b))) 82 [.ref 34, v1] [] (t3 h (nI (tkP (gI h 2) en (a + b))) (tk0 (gI h 2) en (a + b)) (nI l)) := by
    intro n
    induction n with
    | zero =>
      intro l v1 hl hs he
      refine g_aL0 dX5_step_82 ?_
      refine g_gI lf_X5_23 (S.l 34 rfl) (S.k 34 rfl rfl) dX5_step_83 ?_
      rw [t3_I3]
      refine g_aL0 dX5_step_86 ?_
      refine g_gI lf_X5_26 (S.l 34 rfl) (S.k 34 rfl rfl) dX5_step_87 ?_
      rw [t3_I4]
      refine g_iadd dX5_step_90 ?_
      rw [nI_add]
      refine g_aL0 dX5_step_91 ?_
      refine g_gI lf_X5_16 (S.l 34 rfl) (S.k 34 rfl rfl) dX5_step_92 ?_
      rw [t3_n _ _ _ _ (by omega), hen]
      refine g_icge dX5_step_95 (fun c95 => ?_) (fun c95 => absurd (nI_le (by omega) (by omega)) c95)
      rw [show l = (tkL (gI h 2) en (a + b)) from he.symm]
      exact last v1 hs
    | succ n ih =>
      intro l v1 hl hs he
      refine g_aL0 dX5_step_82 ?_
      refine g_gI lf_X5_23 (S.l 34 rfl) (S.k 34 rfl rfl) dX5_step_83 ?_
      rw [t3_I3]
      refine g_aL0 dX5_step_86 ?_
      refine g_gI lf_X5_26 (S.l 34 rfl) (S.k 34 rfl rfl) dX5_step_87 ?_
      rw [t3_I4]
      refine g_iadd dX5_step_90 ?_
      rw [nI_add]
      refine g_aL0 dX5_step_91 ?_
      refine g_gI lf_X5_16 (S.l 34 rfl) (S.k 34 rfl rfl) dX5_step_92 ?_
      rw [t3_n _ _ _ _ (by omega), hen]
      refine g_icge dX5_step_95 (fun c95 => absurd c95 (nI_ge (by omega) (by omega))) (fun c95 => ?_)
      refine g_aL0 dX5_step_98 ?_
      refine g_aL0 dX5_step_99 ?_
      refine g_gI lf_X5_23 (S.l 34 rfl) (S.k 34 rfl rfl) dX5_step_100 ?_
      rw [t3_I3]
      refine g_aL0 dX5_step_103 ?_
      refine g_gI lf_X5_26 (S.l 34 rfl) (S.k 34 rfl rfl) dX5_step_104 ?_
      rw [t3_I4]
      refine g_iadd dX5_step_107 ?_
      rw [nI_add]
      refine e_v1i (c_sortAt (h := t3 h (nI (tkP (gI h 2) en (a + b))) (tk0 (gI h 2) en (a + b)) (nI l)) S ((t3_n _ _ _ _ (by omega)).trans hen) hen2 (by omega)) lm_X5_38 dX5_step_108 (S.l 34 rfl) (S.k 34 rfl rfl) rfl rfl rfl rfl ?_
      refine g_aL0 dX5_step_111 ?_
      refine g_gI lf_X5_20 (S.l 34 rfl) (S.k 34 rfl rfl) dX5_step_112 ?_
      rw [t3_I2]
      refine g_icne dX5_step_115 (fun c115 => ?_) (fun c115 => ?_)
      · have e9 : (tkL (gI h 2) en (a + b)) = l := he.trans (if_neg c115)
        rw [show l = (tkL (gI h 2) en (a + b)) from e9.symm]
        exact last v1 hs
      · refine g_aL0 dX5_step_118 ?_
        refine g_dup dX5_step_119 rfl ?_
        refine g_gI lf_X5_26 (S.l 34 rfl) (S.k 34 rfl rfl) dX5_step_120 ?_
        rw [t3_I4]
        refine g_iconst dX5_step_123 ?_
        refine g_iadd dX5_step_124 ?_
        refine g_pI0 lf_X5_26 (S.l 34 rfl) (S.k 34 rfl rfl) dX5_step_125 ?_
        refine g_goto dX5_step_128 ?_
        rw [t3_4, nI_1]
        exact ih (l + 1) v1 (by omega) hs (he.trans (if_pos c115))
  have rest : gY 1 0 0 yX5_step cX5_step 2 none 0 0 (fun v' h' => v' = none ∧ h' = (tkH h en (a + b))) 35 [.ref 34, .int (nI (tkP (gI h 2) en (a + b)))] [] h := by
    refine g_aL0 dX5_step_35 ?_
    refine g_iL1 dX5_step_36 ?_
    refine g_pI0 lf_X5_23 (S.l 34 rfl) (S.k 34 rfl rfl) dX5_step_37 ?_
    refine g_aL0 dX5_step_40 ?_
    refine g_aL0 dX5_step_41 ?_
    refine g_iL1 dX5_step_42 ?_
    refine e_v1i (c_sortAt (h := (pI h 34 3 (nI (tkP (gI h 2) en (a + b))))) S hen hen2 hP.2) lm_X5_38 dX5_step_43 (S.l 34 rfl) (S.k 34 rfl rfl) rfl rfl rfl rfl ?_
    refine g_pI0 lf_X5_20 (S.l 34 rfl) (S.k 34 rfl rfl) dX5_step_46 ?_
    refine g_aL0 dX5_step_49 ?_
    refine g_aL0 dX5_step_50 ?_
    refine g_gI lf_X5_20 (S.l 34 rfl) (S.k 34 rfl rfl) dX5_step_51 ?_
    rw [show gI (pI (pI h 34 3 (nI (tkP (gI h 2) en (a + b)))) 34 2 (sAt (gI (pI h 34 3 (nI (tkP (gI h 2) en (a + b)))) 2) en (tkP (gI h 2) en (a + b)))) 34 2 = (tk0 (gI h 2) en (a + b)) from rfl]
    refine g_ifne dX5_step_54 (fun c54 => ?_) (fun c54 => ?_)
    · refine g_iconst dX5_step_61 ?_
      refine g_pI0 lf_X5_26 (S.l 34 rfl) (S.k 34 rfl rfl) dX5_step_62 ?_
      rw [show pI (pI (pI h 34 3 (nI (tkP (gI h 2) en (a + b)))) 34 2 (sAt (gI (pI h 34 3 (nI (tkP (gI h 2) en (a + b)))) 2) en (tkP (gI h 2) en (a + b)))) 34 4 1 = t3 h (nI (tkP (gI h 2) en (a + b))) (tk0 (gI h 2) en (a + b)) (nI 1) from rfl]
      have c54 : ¬ (tk0 (gI h 2) en (a + b)) = 0 := c54
      have hlt := tk0_lt (tx := gI h 2) hab hen2 c54
      refine g_aL0 dX5_step_65 ?_
      refine g_gI lf_X5_20 (S.l 34 rfl) (S.k 34 rfl rfl) dX5_step_66 ?_
      rw [t3_I2]
      refine g_iconst dX5_step_69 ?_
      refine g_iceq dX5_step_70 (fun c70 => ?_) (fun c70 => ?_)
      · exact run (en - ((tkP (gI h 2) en (a + b)) + 1)) 1 _ (by omega) (Or.inl c70) (by show tkL _ _ _ = _; unfold tkL; rw [if_pos (Or.inl c70)])
      · refine g_aL0 dX5_step_73 ?_
        refine g_gI lf_X5_20 (S.l 34 rfl) (S.k 34 rfl rfl) dX5_step_74 ?_
        rw [t3_I2]
        refine g_iconst dX5_step_77 ?_
        refine g_iceq dX5_step_78 (fun c78 => ?_) (fun c78 => ?_)
        · exact run (en - ((tkP (gI h 2) en (a + b)) + 1)) 1 _ (by omega) (Or.inr c78) (by show tkL _ _ _ = _; unfold tkL; rw [if_pos (Or.inr c78)])
        · exact e_vret rfl dX5_step_81 rfl rfl (by unfold tkH; rw [tkS_no c70 c78]; unfold tkL; rw [if_neg (by rintro (z | z); exact c70 z; exact c78 z), if_neg c54])
    · refine g_iconst dX5_step_57 ?_
      refine g_goto dX5_step_58 ?_
      refine g_pI0 lf_X5_26 (S.l 34 rfl) (S.k 34 rfl rfl) dX5_step_62 ?_
      rw [show pI (pI (pI h 34 3 (nI (tkP (gI h 2) en (a + b)))) 34 2 (sAt (gI (pI h 34 3 (nI (tkP (gI h 2) en (a + b)))) 2) en (tkP (gI h 2) en (a + b)))) 34 4 0 = t3 h (nI (tkP (gI h 2) en (a + b))) (tk0 (gI h 2) en (a + b)) 0 from rfl]
      have c54 : (tk0 (gI h 2) en (a + b)) = 0 := c54
      refine g_aL0 dX5_step_65 ?_
      refine g_gI lf_X5_20 (S.l 34 rfl) (S.k 34 rfl rfl) dX5_step_66 ?_
      rw [t3_I2, c54]
      refine g_iconst dX5_step_69 ?_
      refine g_iceq dX5_step_70 (fun c70 => absurd c70 (by decide)) (fun c70 => ?_)
      refine g_aL0 dX5_step_73 ?_
      refine g_gI lf_X5_20 (S.l 34 rfl) (S.k 34 rfl rfl) dX5_step_74 ?_
      rw [t3_I2]
      refine g_iconst dX5_step_77 ?_
      refine g_iceq dX5_step_78 (fun c78 => absurd c78 (by decide)) (fun c78 => ?_)
      exact e_vret rfl dX5_step_81 rfl rfl (by unfold tkH; rw [tkS_no (by rw [c54]; decide) (by rw [c54]; decide), c54]; unfold tkL; rw [if_neg (by rw [c54]; decide), if_pos c54]; rfl)
  have blanks : ∀ (n p : Nat), p + n = en → (tkP (gI h 2) en (a + b)) = skF (gI h 2) n p → gY 1 0 0 yX5_step cX5_step 2 none 0 0 (fun v' h' => v' = none ∧ h' = (tkH h en (a + b))) 10 [.ref 34, .int (nI p)] [] h := by
    intro n
    induction n with
    | zero =>
      intro p hp he
      refine g_iL1 dX5_step_10 ?_
      refine g_aL0 dX5_step_11 ?_
      refine g_gI lf_X5_16 (S.l 34 rfl) (S.k 34 rfl rfl) dX5_step_12 ?_
      rw [hen]
      refine g_icge dX5_step_15 (fun c15 => ?_) (fun c15 => absurd (nI_le (by omega) (by omega)) c15)
      rw [show p = (tkP (gI h 2) en (a + b)) from he.symm]
      exact rest
    | succ n ih =>
      intro p hp he
      refine g_iL1 dX5_step_10 ?_
      refine g_aL0 dX5_step_11 ?_
      refine g_gI lf_X5_16 (S.l 34 rfl) (S.k 34 rfl rfl) dX5_step_12 ?_
      rw [hen]
      refine g_icge dX5_step_15 (fun c15 => absurd c15 (nI_ge (by omega) (by omega))) (fun c15 => ?_)
      refine g_aL0 dX5_step_18 ?_
      refine g_getR lf_X5_13 (S.l 34 rfl) (S.k 34 rfl rfl) (S.r 34 0 (b := 2) rfl rfl) dX5_step_19 ?_
      refine g_iL1 dX5_step_22 ?_
      refine g_baloadN (S.l 2 rfl) (S.k 2 rfl rfl) (S.n 2 (n := 1100) rfl rfl) (by omega) (by decide) dX5_step_23 ?_
      refine g_bipush dX5_step_24 ?_
      refine g_icne dX5_step_26 (fun c26 => ?_) (fun c26 => ?_)
      · have e9 : (tkP (gI h 2) en (a + b)) = p := he.trans (if_neg c26)
        rw [show p = (tkP (gI h 2) en (a + b)) from e9.symm]
        exact rest
      · refine g_ii1 dX5_step_29 rfl rfl ?_
        refine g_goto dX5_step_32 ?_
        rw [nI_1]
        exact ih (p + 1) (by omega) (he.trans (if_pos c26))
  refine g_aL0 dX5_step_0 ?_
  refine g_gI lf_X5_23 (S.l 34 rfl) (S.k 34 rfl rfl) dX5_step_1 ?_
  rw [ha]
  refine g_aL0 dX5_step_4 ?_
  refine g_gI lf_X5_26 (S.l 34 rfl) (S.k 34 rfl rfl) dX5_step_5 ?_
  rw [hb]
  refine g_iadd dX5_step_8 ?_
  rw [nI_add]
  refine g_iS1 dX5_step_9 rfl rfl ?_
  exact blanks (en - (a + b)) (a + b) (by omega) rfl
/-- do the l letters from p on spell the String constant k -/
def eqF (tx : Nat → Int32) (p k : Nat) : Nat → Nat → Int32
  | 0, _ => 1
  | n + 1, i => if tx (p + i) = gch k i then eqF tx p k n (i + 1) else 0
def isF (tx : Nat → Int32) (s : Int32) (p l k : Nat) : Int32 := if s = 1 then (if nI l = nI (gbl k) then eqF tx p k l 0 else 0) else 0
theorem c_is {h : Hp} (S : SX h) {p l : Nat} (hp : gI h 34 3 = nI p) (hl : gI h 34 4 = nI l) (hpl : p + l ≤ 1100) {k : Nat} (hk : k < 36) {x : UInt32} (hx : ¬ x = 0 ∧ x.toNat - 1 = k) : gCi 4 0 0 yX5_is cX5_is 3 (some .boolean) [.ref 34, .float x] h (some (.int (isF (gI h 2) (gI h 34 2) p l k))) h := by
  refine g_entry (lv := [.ref 34, .float x, .retAddr 0]) 1 pn_X5 rfl rfl rfl ?_
  refine g_aL0 dX5_is_0 ?_
  refine g_gI lf_X5_20 (S.l 34 rfl) (S.k 34 rfl rfl) dX5_is_1 ?_
  refine g_iconst dX5_is_4 ?_
  refine g_icne dX5_is_5 (fun c5 => ?_) (fun c5 => ?_)
  · refine g_iconst dX5_is_19 ?_
    exact e_zret rfl (by decide) dX5_is_20 rfl rfl (if_neg c5).symm rfl
  · refine g_aL0 dX5_is_8 ?_
    refine g_gI lf_X5_26 (S.l 34 rfl) (S.k 34 rfl rfl) dX5_is_9 ?_
    rw [hl]
    refine g_sL1 dX5_is_12 ?_
    refine g_slen hk hx ll_X5_42 rfl rfl rfl rfl dX5_is_13 ?_
    refine g_iceq dX5_is_16 (fun c16 => ?_) (fun c16 => ?_)
    · have e16 : l = gbl k := (nI_eq (by omega) (by have := gbl_lt k hk; omega)).mp c16
      have loop : ∀ (n i : Nat) , i + n = l → isF (gI h 2) (gI h 34 2) p l k = eqF (gI h 2) p k n i → gY 4 0 0 yX5_is cX5_is 3 (some .boolean) 0 0 (fun v' h' => v' = (some (.int (isF (gI h 2) (gI h 34 2) p l k))) ∧ h' = h) 23 [.ref 34, .float x, .int (nI i)] [] h := by
        intro n
        induction n with
        | zero =>
          intro i  hi he 
          refine g_iL2 dX5_is_23 ?_
          refine g_aL0 dX5_is_24 ?_
          refine g_gI lf_X5_26 (S.l 34 rfl) (S.k 34 rfl rfl) dX5_is_25 ?_
          rw [hl]
          refine g_icge dX5_is_28 (fun c28 => ?_) (fun c28 => absurd (nI_le (by omega) (by omega)) c28)
          refine g_iconst dX5_is_58 ?_
          exact e_zret rfl (by decide) dX5_is_59 rfl rfl he.symm rfl
        | succ n ih =>
          intro i  hi he 
          refine g_iL2 dX5_is_23 ?_
          refine g_aL0 dX5_is_24 ?_
          refine g_gI lf_X5_26 (S.l 34 rfl) (S.k 34 rfl rfl) dX5_is_25 ?_
          rw [hl]
          refine g_icge dX5_is_28 (fun c28 => absurd c28 (nI_ge (by omega) (by omega))) (fun c28 => ?_)
          refine g_aL0 dX5_is_31 ?_
          refine g_getR lf_X5_13 (S.l 34 rfl) (S.k 34 rfl rfl) (S.r 34 0 (b := 2) rfl rfl) dX5_is_32 ?_
          refine g_aL0 dX5_is_35 ?_
          refine g_gI lf_X5_23 (S.l 34 rfl) (S.k 34 rfl rfl) dX5_is_36 ?_
          rw [hp]
          refine g_iL2 dX5_is_39 ?_
          refine g_iadd dX5_is_40 ?_
          rw [nI_add]
          refine g_baloadN (S.l 2 rfl) (S.k 2 rfl rfl) (S.n 2 (n := 1100) rfl rfl) (by omega) (by decide) dX5_is_41 ?_
          refine g_sL1 dX5_is_42 ?_
          refine g_iL2 dX5_is_43 ?_
          refine g_schar hk hx (by omega) ll_X5_47 rfl rfl rfl rfl dX5_is_44 ?_
          refine g_iceq dX5_is_47 (fun c47 => ?_) (fun c47 => ?_)
          · refine g_ii2 dX5_is_52 rfl rfl ?_
            refine g_goto dX5_is_55 ?_
            rw [nI_1]
            exact ih (i + 1)  (by omega) (he.trans (if_pos c47)) 
          · refine g_iconst dX5_is_50 ?_
            exact e_zret rfl (by decide) dX5_is_51 rfl rfl (he.trans (if_neg c47)).symm rfl
      refine g_iconst dX5_is_21 ?_
      refine g_iS2 dX5_is_22 rfl rfl ?_
      exact loop l 0 (by omega) ((if_pos c5).trans (if_pos c16))
    · refine g_iconst dX5_is_19 ?_
      exact e_zret rfl (by decide) dX5_is_20 rfl rfl ((if_pos c5).trans (if_neg c16)).symm rfl
theorem c_letter {h : Hp} (S : SX h) {p l : Nat} (hp : gI h 34 3 = nI p) (hl : gI h 34 4 = nI l) (hpl : p + l ≤ 1100) {j : Nat} (hj : j < l) : gCi 0 0 0 yX5_letter cX5_letter 2 (some .int) [.ref 34, .int (nI j)] h (some (.int (gI h 2 (p + j)))) h := by
  refine g_entry (lv := [.ref 34, .int (nI j)]) 0 pn_X5 rfl rfl rfl ?_
  refine g_iL1 dX5_letter_0 ?_
  refine g_iflt dX5_letter_1 (fun c1 => absurd c1 (nI_pos (by omega))) (fun c1 => ?_)
  refine g_iL1 dX5_letter_4 ?_
  refine g_aL0 dX5_letter_5 ?_
  refine g_gI lf_X5_26 (S.l 34 rfl) (S.k 34 rfl rfl) dX5_letter_6 ?_
  rw [hl]
  refine g_icge dX5_letter_9 (fun c9 => absurd c9 (nI_ge hj (by omega))) (fun c9 => ?_)
  refine g_aL0 dX5_letter_12 ?_
  refine g_getR lf_X5_13 (S.l 34 rfl) (S.k 34 rfl rfl) (S.r 34 0 (b := 2) rfl rfl) dX5_letter_13 ?_
  refine g_aL0 dX5_letter_16 ?_
  refine g_gI lf_X5_23 (S.l 34 rfl) (S.k 34 rfl rfl) dX5_letter_17 ?_
  rw [hp]
  refine g_iL1 dX5_letter_20 ?_
  refine g_iadd dX5_letter_21 ?_
  rw [nI_add]
  refine g_baloadN (S.l 2 rfl) (S.k 2 rfl rfl) (S.n 2 (n := 1100) rfl rfl) (by omega) (by decide) dX5_letter_22 ?_
  refine g_goto dX5_letter_23 ?_
  exact e_iret rfl dX5_letter_27 rfl rfl rfl rfl
def kyF (tx : Nat → Int32) (p : Nat) : Nat → Nat → Int64 → Int64
  | 0, _, a => a
  | n + 1, i, a => kyF tx p n (i + 1) ((a <<< ((5 : Int32).toInt64 &&& 63)) + (tx (p + i) - 97 + 1).toInt64)
def vlF (tx : Nat → Int32) (p : Nat) : Nat → Nat → Int32 → Int32
  | 0, _, a => a
  | n + 1, i, a => vlF tx p n (i + 1) (10 * a + (tx (p + i) - 48))
theorem c_key {h : Hp} (S : SX h) {p l : Nat} (hp : gI h 34 3 = nI p) (hl : gI h 34 4 = nI l) (hpl : p + l ≤ 1100) : gCi 0 0 0 yX5_key cX5_key 4 (some .long) [.ref 34] h (some (.long (kyF (gI h 2) p l 0 0))) h := by
  refine g_entry (lv := [.ref 34, .retAddr 0, .retAddr 0, .retAddr 0]) 3 pn_X5 rfl rfl rfl ?_
  have loop : ∀ (n i : Nat) (a : Int64), i + n = l → kyF (gI h 2) p l 0 0 = kyF (gI h 2) p n i a → gY 0 0 0 yX5_key cX5_key 4 (some .long) 0 0 (fun v' h' => v' = (some (.long (kyF (gI h 2) p l 0 0))) ∧ h' = h) 4 [.ref 34, .long a, .retAddr 0, .int (nI i)] [] h := by
    intro n
    induction n with
    | zero =>
      intro i a hi he 
      refine g_iL3 dX5_key_4 ?_
      refine g_aL0 dX5_key_5 ?_
      refine g_gI lf_X5_26 (S.l 34 rfl) (S.k 34 rfl rfl) dX5_key_6 ?_
      rw [hl]
      refine g_icge dX5_key_9 (fun c9 => ?_) (fun c9 => absurd (nI_le (by omega) (by omega)) c9)
      refine g_lL1 dX5_key_40 ?_
      exact e_lret rfl dX5_key_41 rfl rfl he.symm rfl
    | succ n ih =>
      intro i a hi he 
      refine g_iL3 dX5_key_4 ?_
      refine g_aL0 dX5_key_5 ?_
      refine g_gI lf_X5_26 (S.l 34 rfl) (S.k 34 rfl rfl) dX5_key_6 ?_
      rw [hl]
      refine g_icge dX5_key_9 (fun c9 => absurd c9 (nI_ge (by omega) (by omega))) (fun c9 => ?_)
      refine g_lL1 dX5_key_12 ?_
      refine g_iconst dX5_key_13 ?_
      refine g_lshl dX5_key_14 ?_
      refine g_aL0 dX5_key_15 ?_
      refine g_getR lf_X5_13 (S.l 34 rfl) (S.k 34 rfl rfl) (S.r 34 0 (b := 2) rfl rfl) dX5_key_16 ?_
      refine g_aL0 dX5_key_19 ?_
      refine g_gI lf_X5_23 (S.l 34 rfl) (S.k 34 rfl rfl) dX5_key_20 ?_
      rw [hp]
      refine g_iL3 dX5_key_23 ?_
      refine g_iadd dX5_key_24 ?_
      rw [nI_add]
      refine g_baloadN (S.l 2 rfl) (S.k 2 rfl rfl) (S.n 2 (n := 1100) rfl rfl) (by omega) (by decide) dX5_key_25 ?_
      refine g_bipush dX5_key_26 ?_
      refine g_isub dX5_key_28 ?_
      refine g_iconst dX5_key_29 ?_
      refine g_iadd dX5_key_30 ?_
      refine g_i2l dX5_key_31 ?_
      refine g_ladd dX5_key_32 ?_
      refine g_lS1 dX5_key_33 rfl rfl ?_
      refine g_ii3 dX5_key_34 rfl rfl ?_
      refine g_goto dX5_key_37 ?_
      rw [nI_1]
      exact ih (i + 1) _ (by omega) he 
  refine g_lconst dX5_key_0 ?_
  refine g_lS1 dX5_key_1 rfl rfl ?_
  refine g_iconst dX5_key_2 ?_
  refine g_iS3 dX5_key_3 rfl rfl ?_
  exact loop l 0 _ (by omega) rfl
theorem c_value {h : Hp} (S : SX h) {p l : Nat} (hp : gI h 34 3 = nI p) (hl : gI h 34 4 = nI l) (hpl : p + l ≤ 1100) : gCi 0 0 0 yX5_value cX5_value 3 (some .int) [.ref 34] h (some (.int (vlF (gI h 2) p l 0 0))) h := by
  refine g_entry (lv := [.ref 34, .retAddr 0, .retAddr 0]) 2 pn_X5 rfl rfl rfl ?_
  have loop : ∀ (n i : Nat) (a : Int32), i + n = l → vlF (gI h 2) p l 0 0 = vlF (gI h 2) p n i a → gY 0 0 0 yX5_value cX5_value 3 (some .int) 0 0 (fun v' h' => v' = (some (.int (vlF (gI h 2) p l 0 0))) ∧ h' = h) 4 [.ref 34, .int a, .int (nI i)] [] h := by
    intro n
    induction n with
    | zero =>
      intro i a hi he 
      refine g_iL2 dX5_value_4 ?_
      refine g_aL0 dX5_value_5 ?_
      refine g_gI lf_X5_26 (S.l 34 rfl) (S.k 34 rfl rfl) dX5_value_6 ?_
      rw [hl]
      refine g_icge dX5_value_9 (fun c9 => ?_) (fun c9 => absurd (nI_le (by omega) (by omega)) c9)
      refine g_iL1 dX5_value_38 ?_
      exact e_iret rfl dX5_value_39 rfl rfl he.symm rfl
    | succ n ih =>
      intro i a hi he 
      refine g_iL2 dX5_value_4 ?_
      refine g_aL0 dX5_value_5 ?_
      refine g_gI lf_X5_26 (S.l 34 rfl) (S.k 34 rfl rfl) dX5_value_6 ?_
      rw [hl]
      refine g_icge dX5_value_9 (fun c9 => absurd c9 (nI_ge (by omega) (by omega))) (fun c9 => ?_)
      refine g_bipush dX5_value_12 ?_
      refine g_iL1 dX5_value_14 ?_
      refine g_imul dX5_value_15 ?_
      refine g_aL0 dX5_value_16 ?_
      refine g_getR lf_X5_13 (S.l 34 rfl) (S.k 34 rfl rfl) (S.r 34 0 (b := 2) rfl rfl) dX5_value_17 ?_
      refine g_aL0 dX5_value_20 ?_
      refine g_gI lf_X5_23 (S.l 34 rfl) (S.k 34 rfl rfl) dX5_value_21 ?_
      rw [hp]
      refine g_iL2 dX5_value_24 ?_
      refine g_iadd dX5_value_25 ?_
      rw [nI_add]
      refine g_baloadN (S.l 2 rfl) (S.k 2 rfl rfl) (S.n 2 (n := 1100) rfl rfl) (by omega) (by decide) dX5_value_26 ?_
      refine g_bipush dX5_value_27 ?_
      refine g_isub dX5_value_29 ?_
      refine g_iadd dX5_value_30 ?_
      refine g_iS1 dX5_value_31 rfl rfl ?_
      refine g_ii2 dX5_value_32 rfl rfl ?_
      refine g_goto dX5_value_35 ?_
      rw [nI_1]
      exact ih (i + 1) _ (by omega) he 
  refine g_iconst dX5_value_0 ?_
  refine g_iS1 dX5_value_1 rfl rfl ?_
  refine g_iconst dX5_value_2 ?_
  refine g_iS2 dX5_value_3 rfl rfl ?_
  exact loop l 0 _ (by omega) rfl
def opS (h : Hp) (n : Nat) : Hp := pI (pI (pI h 34 1 (nI n)) 34 3 0) 34 4 0
theorem min_n {n : Nat} (h : n ≤ 1100) : (if nI 1100 < nI n then nI 1100 else nI n) = nI n := if_neg (nI_nlt h (by decide))
theorem c_open {h : Hp} (S : SX h) {n : Nat} (hn : n ≤ 1100) : gCi 2 0 0 yX5_open cX5_open 2 none [.ref 34, .int (nI n)] h none (tkH (opS h n) n 0) := by
  refine g_entry (lv := [.ref 34, .int (nI n)]) 0 pn_X5 rfl rfl rfl ?_
  refine g_aL0 dX5_open_0 ?_
  refine g_iL1 dX5_open_1 ?_
  refine g_aL0 dX5_open_2 ?_
  refine g_getR lf_X5_13 (S.l 34 rfl) (S.k 34 rfl rfl) (S.r 34 0 (b := 2) rfl rfl) dX5_open_3 ?_
  refine g_alen (S.l 2 rfl) (Or.inl (S.k 2 rfl rfl)) dX5_open_6 ?_
  rw [S.n 2 (n := 1100) rfl rfl]
  refine g_mmin lmin lmin_s in_J9 lmin_c rfl rfl rfl rfl dX5_open_7 ?_
  rw [min_n hn]
  refine g_pI0 lf_X5_16 (S.l 34 rfl) (S.k 34 rfl rfl) dX5_open_10 ?_
  refine g_aL0 dX5_open_13 ?_
  refine g_iconst dX5_open_14 ?_
  refine g_pI0 lf_X5_23 (S.l 34 rfl) (S.k 34 rfl rfl) dX5_open_15 ?_
  refine g_aL0 dX5_open_18 ?_
  refine g_iconst dX5_open_19 ?_
  refine g_pI0 lf_X5_26 (S.l 34 rfl) (S.k 34 rfl rfl) dX5_open_20 ?_
  refine g_aL0 dX5_open_23 ?_
  refine e_v0u (c_step (h := opS h n) (en := n) (a := 0) (b := 0) S rfl hn rfl rfl (Nat.zero_le _)) lm_X5_35 dX5_open_24 (S.l 34 rfl) (S.k 34 rfl rfl) rfl rfl rfl rfl ?_
  exact e_vret rfl dX5_open_27 rfl rfl rfl

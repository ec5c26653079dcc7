/-! THE REFERENCE'S PARSER: goesOn -/
theorem tkS_v {tx : Nat → Int32} {en q : Nat} : tkS tx en q = tkS tx en q := rfl
theorem ck_v (b : Int32) : ck b = 1 ∨ ck b = 2 ∨ ck b = 3 ∨ ck b = 4 ∨ ck b = 5 := by
  unfold ck ck2 ck3
  repeat' split
  all_goals decide
theorem sA_v (tx : Nat → Int32) (en p : Nat) : sAt tx en p = 0 ∨ sAt tx en p = 1 ∨ sAt tx en p = 2 ∨ sAt tx en p = 3 ∨ sAt tx en p = 4 ∨ sAt tx en p = 5 := by
  unfold sAt
  split
  · exact Or.inr (ck_v _)
  · exact Or.inl rfl
theorem d_goesOn {tx : Nat → Int32} (B : BY tx) {en : Nat} (he : en ≤ 1100) {h : Hp} (S : SX h) (hx : gI h 51 = tx) (hen : gI h 50 7 = nI en) {q : Nat} (hq : gI h 50 8 = nI q) (hqe : q ≤ en) (hs : ¬ gI h 50 9 = 5) (h13 : gI h 50 13 = 0) (hL : LB h) : gC 1 0 0 yX10_goesOn cX10_goesOn 3 none [.ref 50] h (fun v h' => v = none ∧ GO h' h ∧ LB h' ∧ RK tx en h' q) := by
  have hP := tkP_le (tx := tx) hqe
  have hPd : tkP tx en q = skF tx (en - q) q := rfl
  generalize hPe : tkP tx en q = P at hP hPd
  have hx' : ∀ {g : Hp}, GO g h → gI g 51 = tx := fun k => (funext fun j => k.2.2.2.2.1 51 j (by omega)).trans hx
  have hen' : ∀ {g : Hp}, GO g h → gI g 50 7 = nI en := fun k => (k.2.2.2.2.1 50 7 (by omega)).trans hen
  have h13' : ∀ {g : Hp}, GO g h → gI g 50 13 = 0 := fun k => (k.2.2.2.2.1 50 13 (by omega)).trans h13
  refine g_entry (lv := [.ref 50, .retAddr 0, .retAddr 0]) 2 pn_X10 rfl rfl rfl ?_
  have wordL : sAt tx en P = 1 → ∀ (n l : Nat) (g : Hp) (v1 : Int32), P + l + n = en → rnF tx en P 1 (en - P) 0 = rnF tx en P 1 n l → GO g h → gI g 50 8 = nI (P + l) → gI g 50 9 = 0 → gI g 50 10 = nI P → gI g 50 11 = 0 → gI g 50 16 = nI P → (l ≤ 8 → gJ g 50 17 = kyF tx P l 0 0) → gY 1 0 0 yX10_goesOn cX10_goesOn 3 none 0 0 (fun v h' => v = none ∧ GO h' h ∧ LB h' ∧ RK tx en h' q) 97 [.ref 50, .int v1, .int (nI l)] [] g := by
    intro hs1 n
    have ht0 : tk0 tx en q = 1 := by unfold tk0; rw [hPe]; exact hs1
    have hPn : P < en := by
      rcases Nat.lt_or_ge P en with z | z
      · exact z
      · rw [sAt_out z (by omega)] at hs1; exact absurd hs1 (by decide)
    have hL1 : tkL tx en q = rnF tx en P 1 (en - P) 0 := by
      unfold tkL
      rw [if_pos (Or.inl ht0), ht0, hPe, show en - P = (en - (P + 1)) + 1 by omega, rnF, if_pos (by exact hs1)]
    induction n with
    | zero =>
      intro l g v1 hl hr k h8 h9 h10 h11 h16 h17
      have hstop : rnF tx en P 1 0 l = l := rfl
      have hb := ba_s (p := P + l) B he (by omega)
      have hns : ¬ sAt tx en (P + l) = 1 := by rw [sAt_out (by omega) (by omega)]; decide
      refine g_aL0 dX10_goesOn_97 ?_
      refine g_aL0 dX10_goesOn_98 ?_
      refine g_gI lf_X10_74 ((k.S S).l 50 rfl) ((k.S S).k 50 rfl rfl) dX10_goesOn_99 ?_
      rw [h8]
      refine e_v1i (d_byteAt (k.S S) (hx' k) (hen' k) he (p := P + l) (by omega)) lm_X10_77 dX10_goesOn_102 ((k.S S).l 50 rfl) ((k.S S).k 50 rfl rfl) rfl rfl rfl rfl ?_
      refine e_s1i (d_isLetter _) lm_X10_86 dX10_goesOn_105 rfl rfl rfl rfl ?_
      rw [hb.1, if_neg hns]
      refine g_ifeq dX10_goesOn_108 (fun c108 => ?_) (fun c108 => absurd rfl c108)
      have hLl : tkL tx en q = l := by rw [hL1, hr]; exact hstop
      refine g_aL0 dX10_goesOn_160 ?_
      refine g_iL2 dX10_goesOn_161 ?_
      refine g_pI0 lf_X10_97 ((k.S S).l 50 rfl) ((k.S S).k 50 rfl rfl) dX10_goesOn_162 ?_
      refine g_iL2 dX10_goesOn_165 ?_
      refine g_bipush dX10_goesOn_166 ?_
      refine g_icgt dX10_goesOn_168 (fun c168 => ?_) (fun c168 => ?_)
      · refine g_vret rfl dX10_goesOn_294 rfl rfl ?_
        have h8l : ¬ tkL tx en q ≤ 8 := by
          rw [hLl]
          intro z
          exact absurd c168 (nI_nlt (b := l) (a := 8) z (by decide))
        have hS5 : tkS tx en q = 5 := by unfold tkS; rw [if_pos ht0, if_neg h8l]
        refine ⟨rfl, (GO_I _ _ (by omega)).trans k, ⟨⟨l, by omega, gIs _ _ _ _⟩, ⟨P, by omega, (gIk (by decide)).trans h16⟩⟩, hqe, ?_, ?_, ?_, ?_, ?_, ?_, ?_⟩
        · rw [hS5]; exact (gIk (by decide)).trans h9
        · rw [hPe]; exact (gIk (by decide)).trans h10
        · exact fun z => absurd hS5 z
        · rw [hS5]; exact (gIk (by decide)).trans h11
        · rw [hS5]; exact fun z => absurd z (by decide)
        · rw [hS5]; exact fun z => absurd z (by decide)
        · exact (gIk (by decide)).trans (h13' k)
      · refine g_aL0 dX10_goesOn_171 ?_
        refine g_iconst dX10_goesOn_172 ?_
        refine g_pI0 lf_X10_71 ((k.S S).l 50 rfl) ((k.S S).k 50 rfl rfl) dX10_goesOn_173 ?_
        refine g_goto dX10_goesOn_176 ?_
        refine g_vret rfl dX10_goesOn_294 rfl rfl ?_
        have h8l : l ≤ 8 := by
          rcases Nat.lt_or_ge 8 l with z | z
          · exact absurd (nI_lt (a := 8) z (by omega)) c168
          · exact z
        have hS1 : tkS tx en q = 1 := by unfold tkS; rw [if_pos ht0, hLl, if_pos h8l]
        refine ⟨rfl, (GO_I _ _ (by omega)).trans ((GO_I _ _ (by omega)).trans k), ⟨⟨l, by omega, (gIk (by decide)).trans (gIs _ _ _ _)⟩, ⟨P, by omega, (gIk (by decide)).trans ((gIk (by decide)).trans h16)⟩⟩, hqe, ?_, ?_, ?_, ?_, ?_, ?_, ?_⟩
        · rw [hS1]; exact gIs _ _ _ _
        · rw [hPe]; exact (gIk (by decide)).trans ((gIk (by decide)).trans h10)
        · intro _
          unfold nx
          rw [hPe, hLl]; exact (gIk (by decide)).trans ((gIk (by decide)).trans h8)
        · rw [hS1]; exact (gIk (by decide)).trans ((gIk (by decide)).trans h11)
        · intro _
          unfold kyP
          rw [hLl, hPe]
          exact ⟨h17 h8l, (gIk (by decide)).trans (gIs _ _ _ _), (gIk (by decide)).trans ((gIk (by decide)).trans h16)⟩
        · rw [hS1]; exact fun z => absurd z (by decide)
        · exact (gIk (by decide)).trans ((gIk (by decide)).trans (h13' k))
    | succ n ih =>
      intro l g v1 hl hr k h8 h9 h10 h11 h16 h17
      have hb := ba_s (p := P + l) B he (by omega)
      refine g_aL0 dX10_goesOn_97 ?_
      refine g_aL0 dX10_goesOn_98 ?_
      refine g_gI lf_X10_74 ((k.S S).l 50 rfl) ((k.S S).k 50 rfl rfl) dX10_goesOn_99 ?_
      rw [h8]
      refine e_v1i (d_byteAt (k.S S) (hx' k) (hen' k) he (p := P + l) (by omega)) lm_X10_77 dX10_goesOn_102 ((k.S S).l 50 rfl) ((k.S S).k 50 rfl rfl) rfl rfl rfl rfl ?_
      refine e_s1i (d_isLetter _) lm_X10_86 dX10_goesOn_105 rfl rfl rfl rfl ?_
      refine g_ifeq dX10_goesOn_108 (fun c108 => ?_) (fun c108 => ?_)
      · have hns : ¬ sAt tx en (P + l) = 1 := fun z => by rw [hb.1, if_pos z] at c108; exact absurd c108 (by decide)
        have hstop : rnF tx en P 1 (n + 1) l = l := by rw [rnF, if_neg hns]
        have hLl : tkL tx en q = l := by rw [hL1, hr]; exact hstop
        refine g_aL0 dX10_goesOn_160 ?_
        refine g_iL2 dX10_goesOn_161 ?_
        refine g_pI0 lf_X10_97 ((k.S S).l 50 rfl) ((k.S S).k 50 rfl rfl) dX10_goesOn_162 ?_
        refine g_iL2 dX10_goesOn_165 ?_
        refine g_bipush dX10_goesOn_166 ?_
        refine g_icgt dX10_goesOn_168 (fun c168 => ?_) (fun c168 => ?_)
        · refine g_vret rfl dX10_goesOn_294 rfl rfl ?_
          have h8l : ¬ tkL tx en q ≤ 8 := by
            rw [hLl]
            intro z
            exact absurd c168 (nI_nlt (b := l) (a := 8) z (by decide))
          have hS5 : tkS tx en q = 5 := by unfold tkS; rw [if_pos ht0, if_neg h8l]
          refine ⟨rfl, (GO_I _ _ (by omega)).trans k, ⟨⟨l, by omega, gIs _ _ _ _⟩, ⟨P, by omega, (gIk (by decide)).trans h16⟩⟩, hqe, ?_, ?_, ?_, ?_, ?_, ?_, ?_⟩
          · rw [hS5]; exact (gIk (by decide)).trans h9
          · rw [hPe]; exact (gIk (by decide)).trans h10
          · exact fun z => absurd hS5 z
          · rw [hS5]; exact (gIk (by decide)).trans h11
          · rw [hS5]; exact fun z => absurd z (by decide)
          · rw [hS5]; exact fun z => absurd z (by decide)
          · exact (gIk (by decide)).trans (h13' k)
        · refine g_aL0 dX10_goesOn_171 ?_
          refine g_iconst dX10_goesOn_172 ?_
          refine g_pI0 lf_X10_71 ((k.S S).l 50 rfl) ((k.S S).k 50 rfl rfl) dX10_goesOn_173 ?_
          refine g_goto dX10_goesOn_176 ?_
          refine g_vret rfl dX10_goesOn_294 rfl rfl ?_
          have h8l : l ≤ 8 := by
            rcases Nat.lt_or_ge 8 l with z | z
            · exact absurd (nI_lt (a := 8) z (by omega)) c168
            · exact z
          have hS1 : tkS tx en q = 1 := by unfold tkS; rw [if_pos ht0, hLl, if_pos h8l]
          refine ⟨rfl, (GO_I _ _ (by omega)).trans ((GO_I _ _ (by omega)).trans k), ⟨⟨l, by omega, (gIk (by decide)).trans (gIs _ _ _ _)⟩, ⟨P, by omega, (gIk (by decide)).trans ((gIk (by decide)).trans h16)⟩⟩, hqe, ?_, ?_, ?_, ?_, ?_, ?_, ?_⟩
          · rw [hS1]; exact gIs _ _ _ _
          · rw [hPe]; exact (gIk (by decide)).trans ((gIk (by decide)).trans h10)
          · intro _
            unfold nx
            rw [hPe, hLl]; exact (gIk (by decide)).trans ((gIk (by decide)).trans h8)
          · rw [hS1]; exact (gIk (by decide)).trans ((gIk (by decide)).trans h11)
          · intro _
            unfold kyP
            rw [hLl, hPe]
            exact ⟨h17 h8l, (gIk (by decide)).trans (gIs _ _ _ _), (gIk (by decide)).trans ((gIk (by decide)).trans h16)⟩
          · rw [hS1]; exact fun z => absurd z (by decide)
          · exact (gIk (by decide)).trans ((gIk (by decide)).trans (h13' k))
      · have hs2 : sAt tx en (P + l) = 1 := by
          by_cases z : sAt tx en (P + l) = 1
          · exact z
          · rw [hb.1, if_neg z] at c108; exact absurd rfl c108
        refine g_iL2 dX10_goesOn_111 ?_
        refine g_bipush dX10_goesOn_112 ?_
        refine g_icge dX10_goesOn_114 (fun c114 => ?_) (fun c114 => ?_)
        · have hl8 : 8 ≤ l := by
            rcases Nat.lt_or_ge l 8 with z | z
            · exact absurd c114 (nI_ge (b := 8) z (by decide))
            · exact z
          refine g_ii2 dX10_goesOn_144 rfl rfl ?_
          refine g_aL0 dX10_goesOn_147 ?_
          refine g_dup dX10_goesOn_148 rfl ?_
          refine g_gI lf_X10_74 ((k.S S).l 50 rfl) ((k.S S).k 50 rfl rfl) dX10_goesOn_149 ?_
          rw [h8]
          refine g_iconst dX10_goesOn_152 ?_
          refine g_iadd dX10_goesOn_153 ?_
          refine g_pI0 lf_X10_74 ((k.S S).l 50 rfl) ((k.S S).k 50 rfl rfl) dX10_goesOn_154 ?_
          refine g_goto dX10_goesOn_157 ?_
          rw [nI_1, nI_1]
          exact ih (l + 1) _ _ (by omega) (hr.trans (by rw [rnF, if_pos hs2])) ((GO_I _ _ (by omega)).trans k) (gIs _ _ _ _) ((gIk (by decide)).trans h9) ((gIk (by decide)).trans h10) ((gIk (by decide)).trans h11) ((gIk (by decide)).trans h16) (fun z => by omega)
        · have hl8 : l < 8 := by
            rcases Nat.lt_or_ge l 8 with z | z
            · exact z
            · exact absurd (nI_le (a := 8) z (by omega)) c114
          refine g_aL0 dX10_goesOn_117 ?_
          refine g_ldc2 dX10_goesOn_118 lc_X10_65 ?_
          refine g_aL0 dX10_goesOn_121 ?_
          refine g_getJ lf_X10_90 ((k.S S).l 50 rfl) ((k.S S).k 50 rfl rfl) dX10_goesOn_122 ?_
          refine g_lmul dX10_goesOn_125 ?_
          refine g_aL0 dX10_goesOn_126 ?_
          refine g_aL0 dX10_goesOn_127 ?_
          refine g_gI lf_X10_74 ((k.S S).l 50 rfl) ((k.S S).k 50 rfl rfl) dX10_goesOn_128 ?_
          rw [h8]
          refine e_v1i (d_byteAt (k.S S) (hx' k) (hen' k) he (p := P + l) (by omega)) lm_X10_77 dX10_goesOn_131 ((k.S S).l 50 rfl) ((k.S S).k 50 rfl rfl) rfl rfl rfl rfl ?_
          rw [hb.2.2.2.2.2.2 (Or.inl hs2)]
          refine g_bipush dX10_goesOn_134 ?_
          refine g_isub dX10_goesOn_136 ?_
          refine g_iconst dX10_goesOn_137 ?_
          refine g_iadd dX10_goesOn_138 ?_
          refine g_i2l dX10_goesOn_139 ?_
          refine g_ladd dX10_goesOn_140 ?_
          refine g_pJ0 lf_X10_90 ((k.S S).l 50 rfl) ((k.S S).k 50 rfl rfl) dX10_goesOn_141 ?_
          refine g_ii2 dX10_goesOn_144 rfl rfl ?_
          refine g_aL0 dX10_goesOn_147 ?_
          refine g_dup dX10_goesOn_148 rfl ?_
          refine g_gI lf_X10_74 ((k.S S).l 50 rfl) ((k.S S).k 50 rfl rfl) dX10_goesOn_149 ?_
          rw [show ∀ x, gI (pJ g 50 17 x) 50 8 = nI (P + l) from fun _ => h8]
          refine g_iconst dX10_goesOn_152 ?_
          refine g_iadd dX10_goesOn_153 ?_
          refine g_pI0 lf_X10_74 ((k.S S).l 50 rfl) ((k.S S).k 50 rfl rfl) dX10_goesOn_154 ?_
          refine g_goto dX10_goesOn_157 ?_
          rw [nI_1, nI_1]
          exact ih (l + 1) _ _ (by omega) (hr.trans (by rw [rnF, if_pos hs2])) ((GO_I _ _ (by omega)).trans ((GO_J _ _).trans k)) (gIs _ _ _ _) ((gIk (by decide)).trans h9) ((gIk (by decide)).trans h10) ((gIk (by decide)).trans h11) ((gIk (by decide)).trans h16) (fun _ => by
            rw [ky_sn, Nat.zero_add, ← h17 (by omega)]
            exact u2_s (gJ g) 50 17 _)
  have numL : sAt tx en P = 2 → ∀ (n l : Nat) (g : Hp) (v1 : Int32), P + l + n = en → rnF tx en P 2 (en - P) 0 = rnF tx en P 2 n l → GO g h → LB g → gI g 50 8 = nI (P + l) → gI g 50 9 = 0 → gI g 50 10 = nI P → gI g 50 11 = 0 → (l ≤ 2 → gI g 50 12 = vlF tx P l 0 0) → gY 1 0 0 yX10_goesOn cX10_goesOn 3 none 0 0 (fun v h' => v = none ∧ GO h' h ∧ LB h' ∧ RK tx en h' q) 191 [.ref 50, .int v1, .int (nI l)] [] g := by
    intro hs1 n
    have ht0 : tk0 tx en q = 2 := by unfold tk0; rw [hPe]; exact hs1
    have hPn : P < en := by
      rcases Nat.lt_or_ge P en with z | z
      · exact z
      · rw [sAt_out z (by omega)] at hs1; exact absurd hs1 (by decide)
    have hL1 : tkL tx en q = rnF tx en P 2 (en - P) 0 := by
      unfold tkL
      rw [if_pos (Or.inr ht0), ht0, hPe, show en - P = (en - (P + 1)) + 1 by omega, rnF, if_pos (by exact hs1)]
    have hn1 : ¬ tk0 tx en q = 1 := by rw [ht0]; decide
    induction n with
    | zero =>
      intro l g v1 hl hr k hLg h8 h9 h10 h11 h12
      have hstop : rnF tx en P 2 0 l = l := rfl
      have hb := ba_s (p := P + l) B he (by omega)
      have hns : ¬ sAt tx en (P + l) = 2 := by rw [sAt_out (by omega) (by omega)]; decide
      refine g_aL0 dX10_goesOn_191 ?_
      refine g_aL0 dX10_goesOn_192 ?_
      refine g_gI lf_X10_74 ((k.S S).l 50 rfl) ((k.S S).k 50 rfl rfl) dX10_goesOn_193 ?_
      rw [h8]
      refine e_v1i (d_byteAt (k.S S) (hx' k) (hen' k) he (p := P + l) (by omega)) lm_X10_77 dX10_goesOn_196 ((k.S S).l 50 rfl) ((k.S S).k 50 rfl rfl) rfl rfl rfl rfl ?_
      refine e_s1i (d_isDigit _) lm_X10_100 dX10_goesOn_199 rfl rfl rfl rfl ?_
      rw [hb.2.1, if_neg hns]
      refine g_ifeq dX10_goesOn_202 (fun c202 => ?_) (fun c202 => absurd rfl c202)
      have hLl : tkL tx en q = l := by rw [hL1, hr]; exact hstop
      refine g_iL2 dX10_goesOn_249 ?_
      refine g_iconst dX10_goesOn_250 ?_
      refine g_icgt dX10_goesOn_251 (fun c251 => ?_) (fun c251 => ?_)
      · refine g_vret rfl dX10_goesOn_294 rfl rfl ?_
        have h2l : ¬ tkL tx en q ≤ 2 := by
          rw [hLl]
          intro z
          exact absurd c251 (nI_nlt (b := l) (a := 2) z (by decide))
        have hS5 : tkS tx en q = 5 := by unfold tkS; rw [if_neg hn1, if_pos ht0, if_neg h2l]
        refine ⟨rfl, k, hLg, hqe, ?_, ?_, ?_, ?_, ?_, ?_, ?_⟩
        · rw [hS5]; exact h9
        · rw [hPe]; exact h10
        · exact fun z => absurd hS5 z
        · rw [hS5]; exact h11
        · rw [hS5]; exact fun z => absurd z (by decide)
        · rw [hS5]; exact fun z => absurd z (by decide)
        · exact h13' k
      · refine g_aL0 dX10_goesOn_254 ?_
        refine g_iconst dX10_goesOn_255 ?_
        refine g_pI0 lf_X10_71 ((k.S S).l 50 rfl) ((k.S S).k 50 rfl rfl) dX10_goesOn_256 ?_
        refine g_goto dX10_goesOn_259 ?_
        refine g_vret rfl dX10_goesOn_294 rfl rfl ?_
        have h2l : l ≤ 2 := by
          rcases Nat.lt_or_ge 2 l with z | z
          · exact absurd (nI_lt (a := 2) z (by omega)) c251
          · exact z
        have hS2 : tkS tx en q = 2 := by unfold tkS; rw [if_neg hn1, if_pos ht0, hLl, if_pos h2l]
        refine ⟨rfl, (GO_I _ _ (by omega)).trans k, ⟨hLg.1.imp fun a z => ⟨z.1, (gIk (by decide)).trans z.2⟩, hLg.2.imp fun a z => ⟨z.1, (gIk (by decide)).trans z.2⟩⟩, hqe, ?_, ?_, ?_, ?_, ?_, ?_, ?_⟩
        · rw [hS2]; exact gIs _ _ _ _
        · rw [hPe]; exact (gIk (by decide)).trans h10
        · intro _
          unfold nx
          rw [hPe, hLl]; exact (gIk (by decide)).trans h8
        · rw [hS2]; exact (gIk (by decide)).trans h11
        · rw [hS2]; exact fun z => absurd z (by decide)
        · intro _
          unfold vlP
          rw [hLl, hPe]
          exact (gIk (by decide)).trans (h12 h2l)
        · exact (gIk (by decide)).trans (h13' k)
    | succ n ih =>
      intro l g v1 hl hr k hLg h8 h9 h10 h11 h12
      have hb := ba_s (p := P + l) B he (by omega)
      refine g_aL0 dX10_goesOn_191 ?_
      refine g_aL0 dX10_goesOn_192 ?_
      refine g_gI lf_X10_74 ((k.S S).l 50 rfl) ((k.S S).k 50 rfl rfl) dX10_goesOn_193 ?_
      rw [h8]
      refine e_v1i (d_byteAt (k.S S) (hx' k) (hen' k) he (p := P + l) (by omega)) lm_X10_77 dX10_goesOn_196 ((k.S S).l 50 rfl) ((k.S S).k 50 rfl rfl) rfl rfl rfl rfl ?_
      refine e_s1i (d_isDigit _) lm_X10_100 dX10_goesOn_199 rfl rfl rfl rfl ?_
      refine g_ifeq dX10_goesOn_202 (fun c202 => ?_) (fun c202 => ?_)
      · have hns : ¬ sAt tx en (P + l) = 2 := fun z => by rw [hb.2.1, if_pos z] at c202; exact absurd c202 (by decide)
        have hstop : rnF tx en P 2 (n + 1) l = l := by rw [rnF, if_neg hns]
        have hLl : tkL tx en q = l := by rw [hL1, hr]; exact hstop
        refine g_iL2 dX10_goesOn_249 ?_
        refine g_iconst dX10_goesOn_250 ?_
        refine g_icgt dX10_goesOn_251 (fun c251 => ?_) (fun c251 => ?_)
        · refine g_vret rfl dX10_goesOn_294 rfl rfl ?_
          have h2l : ¬ tkL tx en q ≤ 2 := by
            rw [hLl]
            intro z
            exact absurd c251 (nI_nlt (b := l) (a := 2) z (by decide))
          have hS5 : tkS tx en q = 5 := by unfold tkS; rw [if_neg hn1, if_pos ht0, if_neg h2l]
          refine ⟨rfl, k, hLg, hqe, ?_, ?_, ?_, ?_, ?_, ?_, ?_⟩
          · rw [hS5]; exact h9
          · rw [hPe]; exact h10
          · exact fun z => absurd hS5 z
          · rw [hS5]; exact h11
          · rw [hS5]; exact fun z => absurd z (by decide)
          · rw [hS5]; exact fun z => absurd z (by decide)
          · exact h13' k
        · refine g_aL0 dX10_goesOn_254 ?_
          refine g_iconst dX10_goesOn_255 ?_
          refine g_pI0 lf_X10_71 ((k.S S).l 50 rfl) ((k.S S).k 50 rfl rfl) dX10_goesOn_256 ?_
          refine g_goto dX10_goesOn_259 ?_
          refine g_vret rfl dX10_goesOn_294 rfl rfl ?_
          have h2l : l ≤ 2 := by
            rcases Nat.lt_or_ge 2 l with z | z
            · exact absurd (nI_lt (a := 2) z (by omega)) c251
            · exact z
          have hS2 : tkS tx en q = 2 := by unfold tkS; rw [if_neg hn1, if_pos ht0, hLl, if_pos h2l]
          refine ⟨rfl, (GO_I _ _ (by omega)).trans k, ⟨hLg.1.imp fun a z => ⟨z.1, (gIk (by decide)).trans z.2⟩, hLg.2.imp fun a z => ⟨z.1, (gIk (by decide)).trans z.2⟩⟩, hqe, ?_, ?_, ?_, ?_, ?_, ?_, ?_⟩
          · rw [hS2]; exact gIs _ _ _ _
          · rw [hPe]; exact (gIk (by decide)).trans h10
          · intro _
            unfold nx
            rw [hPe, hLl]; exact (gIk (by decide)).trans h8
          · rw [hS2]; exact (gIk (by decide)).trans h11
          · rw [hS2]; exact fun z => absurd z (by decide)
          · intro _
            unfold vlP
            rw [hLl, hPe]
            exact (gIk (by decide)).trans (h12 h2l)
          · exact (gIk (by decide)).trans (h13' k)
      · have hs2 : sAt tx en (P + l) = 2 := by
          by_cases z : sAt tx en (P + l) = 2
          · exact z
          · rw [hb.2.1, if_neg z] at c202; exact absurd rfl c202
        refine g_iL2 dX10_goesOn_205 ?_
        refine g_iconst dX10_goesOn_206 ?_
        refine g_icge dX10_goesOn_207 (fun c207 => ?_) (fun c207 => ?_)
        · have hl2 : 2 ≤ l := by
            rcases Nat.lt_or_ge l 2 with z | z
            · exact absurd c207 (nI_ge (b := 2) z (by decide))
            · exact z
          refine g_ii2 dX10_goesOn_233 rfl rfl ?_
          refine g_aL0 dX10_goesOn_236 ?_
          refine g_dup dX10_goesOn_237 rfl ?_
          refine g_gI lf_X10_74 ((k.S S).l 50 rfl) ((k.S S).k 50 rfl rfl) dX10_goesOn_238 ?_
          rw [show gI _ 50 8 = nI (P + l) from h8]
          refine g_iconst dX10_goesOn_241 ?_
          refine g_iadd dX10_goesOn_242 ?_
          refine g_pI0 lf_X10_74 ((k.S S).l 50 rfl) ((k.S S).k 50 rfl rfl) dX10_goesOn_243 ?_
          refine g_goto dX10_goesOn_246 ?_
          rw [nI_1, nI_1]
          exact ih (l + 1) _ _ (by omega) (hr.trans (by rw [rnF, if_pos hs2])) ((GO_I _ _ (by omega)).trans k) ⟨hLg.1.imp fun a z => ⟨z.1, (gIk (by decide)).trans z.2⟩, hLg.2.imp fun a z => ⟨z.1, (gIk (by decide)).trans z.2⟩⟩ (gIs _ _ _ _) ((gIk (by decide)).trans h9) ((gIk (by decide)).trans h10) ((gIk (by decide)).trans h11) (fun z => by omega)
        · have hl2 : l < 2 := by
            rcases Nat.lt_or_ge l 2 with z | z
            · exact z
            · exact absurd (nI_le (a := 2) z (by omega)) c207
          refine g_aL0 dX10_goesOn_210 ?_
          refine g_bipush dX10_goesOn_211 ?_
          refine g_aL0 dX10_goesOn_213 ?_
          refine g_gI lf_X10_103 ((k.S S).l 50 rfl) ((k.S S).k 50 rfl rfl) dX10_goesOn_214 ?_
          refine g_imul dX10_goesOn_217 ?_
          refine g_aL0 dX10_goesOn_218 ?_
          refine g_aL0 dX10_goesOn_219 ?_
          refine g_gI lf_X10_74 ((k.S S).l 50 rfl) ((k.S S).k 50 rfl rfl) dX10_goesOn_220 ?_
          rw [h8]
          refine e_v1i (d_byteAt (k.S S) (hx' k) (hen' k) he (p := P + l) (by omega)) lm_X10_77 dX10_goesOn_223 ((k.S S).l 50 rfl) ((k.S S).k 50 rfl rfl) rfl rfl rfl rfl ?_
          rw [hb.2.2.2.2.2.2 (Or.inr hs2)]
          refine g_iadd dX10_goesOn_226 ?_
          refine g_bipush dX10_goesOn_227 ?_
          refine g_isub dX10_goesOn_229 ?_
          refine g_pI0 lf_X10_103 ((k.S S).l 50 rfl) ((k.S S).k 50 rfl rfl) dX10_goesOn_230 ?_
          refine g_ii2 dX10_goesOn_233 rfl rfl ?_
          refine g_aL0 dX10_goesOn_236 ?_
          refine g_dup dX10_goesOn_237 rfl ?_
          refine g_gI lf_X10_74 ((k.S S).l 50 rfl) ((k.S S).k 50 rfl rfl) dX10_goesOn_238 ?_
          rw [show gI _ 50 8 = nI (P + l) from ((gIk (by decide)).trans h8)]
          refine g_iconst dX10_goesOn_241 ?_
          refine g_iadd dX10_goesOn_242 ?_
          refine g_pI0 lf_X10_74 ((k.S S).l 50 rfl) ((k.S S).k 50 rfl rfl) dX10_goesOn_243 ?_
          refine g_goto dX10_goesOn_246 ?_
          rw [nI_1, nI_1]
          exact ih (l + 1) _ _ (by omega) (hr.trans (by rw [rnF, if_pos hs2])) ((GO_I _ _ (by omega)).trans ((GO_I _ _ (by omega)).trans k)) ⟨hLg.1.imp fun a z => ⟨z.1, (gIk (by decide)).trans ((gIk (by decide)).trans z.2)⟩, hLg.2.imp fun a z => ⟨z.1, (gIk (by decide)).trans ((gIk (by decide)).trans z.2)⟩⟩ (gIs _ _ _ _) ((gIk (by decide)).trans ((gIk (by decide)).trans h9)) ((gIk (by decide)).trans ((gIk (by decide)).trans h10)) ((gIk (by decide)).trans ((gIk (by decide)).trans h11)) (fun _ => by
            rw [vl_sn, Nat.zero_add, ← h12 (by omega)]
            exact (gIk (by decide)).trans (gIs _ _ _ _))
  have main : ∀ (g : Hp), GO g h → LB g → gI g 50 8 = nI P → gY 1 0 0 yX10_goesOn cX10_goesOn 3 none 0 0 (fun v h' => v = none ∧ GO h' h ∧ LB h' ∧ RK tx en h' q) 35 [.ref 50, .retAddr 0, .retAddr 0] [] g := by
    intro g k0 hL0 h8
    have hb := ba_s (p := P) B he (by omega)
    have ht : tk0 tx en q = sAt tx en P := by unfold tk0; rw [hPe]
    refine g_aL0 dX10_goesOn_35 ?_
    refine g_aL0 dX10_goesOn_36 ?_
    refine g_gI lf_X10_74 ((k0.S S).l 50 rfl) ((k0.S S).k 50 rfl rfl) dX10_goesOn_37 ?_
    rw [h8]
    refine g_pI0 lf_X10_80 ((k0.S S).l 50 rfl) ((k0.S S).k 50 rfl rfl) dX10_goesOn_40 ?_
    refine g_aL0 dX10_goesOn_43 ?_
    refine g_iconst dX10_goesOn_44 ?_
    refine g_pI0 lf_X10_71 ((k0.S S).l 50 rfl) ((k0.S S).k 50 rfl rfl) dX10_goesOn_45 ?_
    refine g_aL0 dX10_goesOn_48 ?_
    refine g_iconst dX10_goesOn_49 ?_
    refine g_pI0 lf_X10_83 ((k0.S S).l 50 rfl) ((k0.S S).k 50 rfl rfl) dX10_goesOn_50 ?_
    have k : GO (pI (pI (pI g 50 10 (nI P)) 50 9 0) 50 11 0) h := (GO_I _ _ (by omega)).trans ((GO_I _ _ (by omega)).trans ((GO_I _ _ (by omega)).trans k0))
    have i8 : gI (pI (pI (pI g 50 10 (nI P)) 50 9 0) 50 11 0) 50 8 = nI P := (gIk (by decide)).trans ((gIk (by decide)).trans ((gIk (by decide)).trans h8))
    have i9 : gI (pI (pI (pI g 50 10 (nI P)) 50 9 0) 50 11 0) 50 9 = 0 := (gIk (by decide)).trans (gIs _ _ _ _)
    have i10 : gI (pI (pI (pI g 50 10 (nI P)) 50 9 0) 50 11 0) 50 10 = nI P := (gIk (by decide)).trans ((gIk (by decide)).trans (gIs _ _ _ _))
    have i11 : gI (pI (pI (pI g 50 10 (nI P)) 50 9 0) 50 11 0) 50 11 = 0 := gIs _ _ _ _
    have iL : LB (pI (pI (pI g 50 10 (nI P)) 50 9 0) 50 11 0) := ⟨hL0.1.imp fun a z => ⟨z.1, (gIk (by decide)).trans ((gIk (by decide)).trans ((gIk (by decide)).trans z.2))⟩, hL0.2.imp fun a z => ⟨z.1, (gIk (by decide)).trans ((gIk (by decide)).trans ((gIk (by decide)).trans z.2))⟩⟩
    generalize (pI (pI (pI g 50 10 (nI P)) 50 9 0) 50 11 0) = g1 at k i8 i9 i10 i11 iL ⊢
    refine g_aL0 dX10_goesOn_53 ?_
    refine g_aL0 dX10_goesOn_54 ?_
    refine g_gI lf_X10_74 ((k.S S).l 50 rfl) ((k.S S).k 50 rfl rfl) dX10_goesOn_55 ?_
    rw [i8]
    refine e_v1i (d_byteAt (k.S S) (hx' k) (hen' k) he (p := P) (by omega)) lm_X10_77 dX10_goesOn_58 ((k.S S).l 50 rfl) ((k.S S).k 50 rfl rfl) rfl rfl rfl rfl ?_
    refine g_iS1 dX10_goesOn_61 rfl rfl ?_
    refine g_iconst dX10_goesOn_62 ?_
    refine g_iS2 dX10_goesOn_63 rfl rfl ?_
    refine g_iL1 dX10_goesOn_64 ?_
    refine g_iconst dX10_goesOn_65 ?_
    refine g_icne dX10_goesOn_66 (fun c66 => ?_) (fun c66 => ?_)
    · refine g_iL1 dX10_goesOn_77 ?_
      refine e_s1i (d_isLetter _) lm_X10_86 dX10_goesOn_78 rfl rfl rfl rfl ?_
      refine g_ifeq dX10_goesOn_81 (fun c81 => ?_) (fun c81 => ?_)
      · refine g_iL1 dX10_goesOn_179 ?_
        refine e_s1i (d_isDigit _) lm_X10_100 dX10_goesOn_180 rfl rfl rfl rfl ?_
        refine g_ifeq dX10_goesOn_183 (fun c183 => ?_) (fun c183 => ?_)
        · refine g_iL1 dX10_goesOn_262 ?_
          refine g_bipush dX10_goesOn_263 ?_
          refine g_iceq dX10_goesOn_265 (fun c265 => ?_) (fun c265 => ?_)
          · refine g_aL0 dX10_goesOn_274 ?_
            refine g_iconst dX10_goesOn_275 ?_
            refine g_pI0 lf_X10_71 ((k.S S).l 50 rfl) ((k.S S).k 50 rfl rfl) dX10_goesOn_276 ?_
            refine g_aL0 dX10_goesOn_279 ?_
            refine g_iL1 dX10_goesOn_280 ?_
            refine g_pI0 lf_X10_83 ((k.S S).l 50 rfl) ((k.S S).k 50 rfl rfl) dX10_goesOn_281 ?_
            refine g_aL0 dX10_goesOn_284 ?_
            refine g_dup dX10_goesOn_285 rfl ?_
            refine g_gI lf_X10_74 ((k.S S).l 50 rfl) ((k.S S).k 50 rfl rfl) dX10_goesOn_286 ?_
            rw [show gI _ 50 8 = nI P from (gIk (by decide)).trans ((gIk (by decide)).trans i8)]
            refine g_iconst dX10_goesOn_289 ?_
            refine g_iadd dX10_goesOn_290 ?_
            rw [nI_1]
            refine g_pI0 lf_X10_74 ((k.S S).l 50 rfl) ((k.S S).k 50 rfl rfl) dX10_goesOn_291 ?_
            have hs0 : sAt tx en P = 3 := hb.2.2.1.mp c265
            have ht0 : tk0 tx en q = 3 := ht.trans hs0
            have hS : tkS tx en q = 3 := (tkS_no (by rw [ht0]; decide) (by rw [ht0]; decide)).trans ht0
            have hLz : tkL tx en q = 1 := by unfold tkL; rw [if_neg (by rw [ht0]; decide), if_neg (by rw [ht0]; decide)]
            refine g_vret rfl dX10_goesOn_294 rfl rfl ⟨rfl, (GO_I _ _ (by omega)).trans ((GO_I _ _ (by omega)).trans ((GO_I _ _ (by omega)).trans k)), ⟨iL.1.imp fun a z => ⟨z.1, (gIk (by decide)).trans ((gIk (by decide)).trans ((gIk (by decide)).trans z.2))⟩, iL.2.imp fun a z => ⟨z.1, (gIk (by decide)).trans ((gIk (by decide)).trans ((gIk (by decide)).trans z.2))⟩⟩, hqe, ?_, ?_, ?_, ?_, ?_, ?_, ?_⟩
            · rw [hS]; exact (gIk (by decide)).trans ((gIk (by decide)).trans (gIs _ _ _ _))
            · rw [hPe]; exact (gIk (by decide)).trans ((gIk (by decide)).trans ((gIk (by decide)).trans i10))
            · intro _
              unfold nx
              rw [hPe, hLz]; exact gIs _ _ _ _
            · rw [hS]; exact (gIk (by decide)).trans ((gIs _ _ _ _).trans c265)
            · rw [hS]; exact fun z => absurd z (by decide)
            · rw [hS]; exact fun z => absurd z (by decide)
            · exact (gIk (by decide)).trans ((gIk (by decide)).trans ((gIk (by decide)).trans (h13' k)))
          · refine g_iL1 dX10_goesOn_268 ?_
            refine g_bipush dX10_goesOn_269 ?_
            refine g_icne dX10_goesOn_271 (fun c271 => ?_) (fun c271 => ?_)
            · have hs0 : sAt tx en P = 5 := by
                rcases sA_v tx en P with z | z | z | z | z | z
                · exact absurd (hb.2.2.2.2.1.mpr z) c66
                · rw [hb.1, if_pos z] at c81; exact absurd c81 (by decide)
                · rw [hb.2.1, if_pos z] at c183; exact absurd c183 (by decide)
                · exact absurd (hb.2.2.1.mpr z) c265
                · exact absurd (hb.2.2.2.1.mpr z) c271
                · exact z
              have ht0 : tk0 tx en q = 5 := ht.trans hs0
              have hS : tkS tx en q = 5 := (tkS_no (by rw [ht0]; decide) (by rw [ht0]; decide)).trans ht0
              refine g_vret rfl dX10_goesOn_294 rfl rfl ⟨rfl, k, iL, hqe, ?_, ?_, ?_, ?_, ?_, ?_, ?_⟩
              · rw [hS]; exact i9
              · rw [hPe]; exact i10
              · exact fun z => absurd hS z
              · rw [hS]; exact i11
              · rw [hS]; exact fun z => absurd z (by decide)
              · rw [hS]; exact fun z => absurd z (by decide)
              · exact h13' k
            · refine g_aL0 dX10_goesOn_274 ?_
              refine g_iconst dX10_goesOn_275 ?_
              refine g_pI0 lf_X10_71 ((k.S S).l 50 rfl) ((k.S S).k 50 rfl rfl) dX10_goesOn_276 ?_
              refine g_aL0 dX10_goesOn_279 ?_
              refine g_iL1 dX10_goesOn_280 ?_
              refine g_pI0 lf_X10_83 ((k.S S).l 50 rfl) ((k.S S).k 50 rfl rfl) dX10_goesOn_281 ?_
              refine g_aL0 dX10_goesOn_284 ?_
              refine g_dup dX10_goesOn_285 rfl ?_
              refine g_gI lf_X10_74 ((k.S S).l 50 rfl) ((k.S S).k 50 rfl rfl) dX10_goesOn_286 ?_
              rw [show gI _ 50 8 = nI P from (gIk (by decide)).trans ((gIk (by decide)).trans i8)]
              refine g_iconst dX10_goesOn_289 ?_
              refine g_iadd dX10_goesOn_290 ?_
              rw [nI_1]
              refine g_pI0 lf_X10_74 ((k.S S).l 50 rfl) ((k.S S).k 50 rfl rfl) dX10_goesOn_291 ?_
              have hs0 : sAt tx en P = 4 := hb.2.2.2.1.mp c271
              have ht0 : tk0 tx en q = 4 := ht.trans hs0
              have hS : tkS tx en q = 4 := (tkS_no (by rw [ht0]; decide) (by rw [ht0]; decide)).trans ht0
              have hLz : tkL tx en q = 1 := by unfold tkL; rw [if_neg (by rw [ht0]; decide), if_neg (by rw [ht0]; decide)]
              refine g_vret rfl dX10_goesOn_294 rfl rfl ⟨rfl, (GO_I _ _ (by omega)).trans ((GO_I _ _ (by omega)).trans ((GO_I _ _ (by omega)).trans k)), ⟨iL.1.imp fun a z => ⟨z.1, (gIk (by decide)).trans ((gIk (by decide)).trans ((gIk (by decide)).trans z.2))⟩, iL.2.imp fun a z => ⟨z.1, (gIk (by decide)).trans ((gIk (by decide)).trans ((gIk (by decide)).trans z.2))⟩⟩, hqe, ?_, ?_, ?_, ?_, ?_, ?_, ?_⟩
              · rw [hS]; exact (gIk (by decide)).trans ((gIk (by decide)).trans (gIs _ _ _ _))
              · rw [hPe]; exact (gIk (by decide)).trans ((gIk (by decide)).trans ((gIk (by decide)).trans i10))
              · intro _
                unfold nx
                rw [hPe, hLz]; exact gIs _ _ _ _
              · rw [hS]; exact (gIk (by decide)).trans ((gIs _ _ _ _).trans c271)
              · rw [hS]; exact fun z => absurd z (by decide)
              · rw [hS]; exact fun z => absurd z (by decide)
              · exact (gIk (by decide)).trans ((gIk (by decide)).trans ((gIk (by decide)).trans (h13' k)))
        · have hs1 : sAt tx en P = 2 := by
            by_cases z : sAt tx en P = 2
            · exact z
            · rw [hb.2.1, if_neg z] at c183; exact absurd rfl c183
          refine g_aL0 dX10_goesOn_186 ?_
          refine g_iconst dX10_goesOn_187 ?_
          refine g_pI0 lf_X10_103 ((k.S S).l 50 rfl) ((k.S S).k 50 rfl rfl) dX10_goesOn_188 ?_
          exact numL hs1 (en - P) 0 _ _ (by omega) rfl ((GO_I _ _ (by omega)).trans k) ⟨iL.1.imp fun a z => ⟨z.1, (gIk (by decide)).trans z.2⟩, iL.2.imp fun a z => ⟨z.1, (gIk (by decide)).trans z.2⟩⟩ ((gIk (by decide)).trans i8) ((gIk (by decide)).trans i9) ((gIk (by decide)).trans i10) ((gIk (by decide)).trans i11) (fun _ => gIs _ _ _ _)
      · have hs1 : sAt tx en P = 1 := by
          by_cases z : sAt tx en P = 1
          · exact z
          · rw [hb.1, if_neg z] at c81; exact absurd rfl c81
        refine g_aL0 dX10_goesOn_84 ?_
        refine g_lconst dX10_goesOn_85 ?_
        refine g_pJ0 lf_X10_90 ((k.S S).l 50 rfl) ((k.S S).k 50 rfl rfl) dX10_goesOn_86 ?_
        refine g_aL0 dX10_goesOn_89 ?_
        refine g_aL0 dX10_goesOn_90 ?_
        refine g_gI lf_X10_74 ((k.S S).l 50 rfl) ((k.S S).k 50 rfl rfl) dX10_goesOn_91 ?_
        rw [show gI (pJ g1 50 17 0) 50 8 = nI P from i8]
        refine g_pI0 lf_X10_94 ((k.S S).l 50 rfl) ((k.S S).k 50 rfl rfl) dX10_goesOn_94 ?_
        exact wordL hs1 (en - P) 0 _ _ (by omega) rfl ((GO_I _ _ (by omega)).trans ((GO_J _ _).trans k)) ((gIk (by decide)).trans i8) ((gIk (by decide)).trans i9) ((gIk (by decide)).trans i10) ((gIk (by decide)).trans i11) (gIs _ _ _ _) (fun _ => u2_s (gJ g1) 50 17 0)
    · refine g_aL0 dX10_goesOn_69 ?_
      refine g_iconst dX10_goesOn_70 ?_
      refine g_pI0 lf_X10_71 ((k.S S).l 50 rfl) ((k.S S).k 50 rfl rfl) dX10_goesOn_71 ?_
      refine g_goto dX10_goesOn_74 ?_
      have hs0 := hb.2.2.2.2.1.mp c66
      have ht0 : tk0 tx en q = 0 := ht.trans hs0
      have hS : tkS tx en q = 0 := (tkS_no (by rw [ht0]; decide) (by rw [ht0]; decide)).trans ht0
      have hLz : tkL tx en q = 0 := by unfold tkL; rw [if_neg (by rw [ht0]; decide), if_pos ht0]
      refine g_vret rfl dX10_goesOn_294 rfl rfl ⟨rfl, (GO_I _ _ (by omega)).trans k, ⟨iL.1.imp fun a z => ⟨z.1, (gIk (by decide)).trans z.2⟩, iL.2.imp fun a z => ⟨z.1, (gIk (by decide)).trans z.2⟩⟩, hqe, ?_, ?_, ?_, ?_, ?_, ?_, ?_⟩
      · rw [hS]; exact gIs _ _ _ _
      · rw [hPe]; exact (gIk (by decide)).trans i10
      · intro _
        unfold nx
        rw [hPe, hLz]; exact (gIk (by decide)).trans i8
      · rw [hS]; exact (gIk (by decide)).trans i11
      · rw [hS]; exact fun z => absurd z (by decide)
      · rw [hS]; exact fun z => absurd z (by decide)
      · exact (gIk (by decide)).trans (h13' k)
  have sp : ∀ (n p : Nat) (g : Hp), p + n = en → P = skF tx n p → GO g h → LB g → gI g 50 8 = nI p → gY 1 0 0 yX10_goesOn cX10_goesOn 3 none 0 0 (fun v h' => v = none ∧ GO h' h ∧ LB h' ∧ RK tx en h' q) 9 [.ref 50, .retAddr 0, .retAddr 0] [] g := by
    intro n
    induction n with
    | zero =>
      intro p g hp hsk k hL0 h8
      have hb := ba_s (p := p) B he (by omega)
      have hsk : P = p := hsk
      refine g_aL0 dX10_goesOn_9 ?_
      refine g_aL0 dX10_goesOn_10 ?_
      refine g_gI lf_X10_74 ((k.S S).l 50 rfl) ((k.S S).k 50 rfl rfl) dX10_goesOn_11 ?_
      rw [h8]
      refine e_v1i (d_byteAt (k.S S) (hx' k) (hen' k) he (p := p) (by omega)) lm_X10_77 dX10_goesOn_14 ((k.S S).l 50 rfl) ((k.S S).k 50 rfl rfl) rfl rfl rfl rfl ?_
      refine g_bipush dX10_goesOn_17 ?_
      refine g_icne dX10_goesOn_19 (fun c19 => ?_) (fun c19 => absurd (hb.2.2.2.2.2.1.mp c19).1 (by omega))
      exact main g k hL0 (by rw [hsk]; exact h8)
    | succ n ih =>
      intro p g hp hsk k hL0 h8
      have hb := ba_s (p := p) B he (by omega)
      refine g_aL0 dX10_goesOn_9 ?_
      refine g_aL0 dX10_goesOn_10 ?_
      refine g_gI lf_X10_74 ((k.S S).l 50 rfl) ((k.S S).k 50 rfl rfl) dX10_goesOn_11 ?_
      rw [h8]
      refine e_v1i (d_byteAt (k.S S) (hx' k) (hen' k) he (p := p) (by omega)) lm_X10_77 dX10_goesOn_14 ((k.S S).l 50 rfl) ((k.S S).k 50 rfl rfl) rfl rfl rfl rfl ?_
      refine g_bipush dX10_goesOn_17 ?_
      refine g_icne dX10_goesOn_19 (fun c19 => ?_) (fun c19 => ?_)
      · have hno : ¬ tx p = 32 := fun z => c19 (hb.2.2.2.2.2.1.mpr ⟨by omega, z⟩)
        exact main g k hL0 (by rw [hsk, skF, if_neg hno]; exact h8)
      · refine g_aL0 dX10_goesOn_22 ?_
        refine g_dup dX10_goesOn_23 rfl ?_
        refine g_gI lf_X10_74 ((k.S S).l 50 rfl) ((k.S S).k 50 rfl rfl) dX10_goesOn_24 ?_
        rw [h8]
        refine g_iconst dX10_goesOn_27 ?_
        refine g_iadd dX10_goesOn_28 ?_
        rw [nI_1]
        refine g_pI0 lf_X10_74 ((k.S S).l 50 rfl) ((k.S S).k 50 rfl rfl) dX10_goesOn_29 ?_
        refine g_goto dX10_goesOn_32 ?_
        exact ih (p + 1) _ (by omega) (hsk.trans (by rw [skF, if_pos (hb.2.2.2.2.2.1.mp c19).2])) ((GO_I _ _ (by omega)).trans k) ⟨hL0.1.imp fun a z => ⟨z.1, (gIk (by decide)).trans z.2⟩, hL0.2.imp fun a z => ⟨z.1, (gIk (by decide)).trans z.2⟩⟩ (gIs _ _ _ _)
  refine g_aL0 dX10_goesOn_0 ?_
  refine g_gI lf_X10_71 (S.l 50 rfl) (S.k 50 rfl rfl) dX10_goesOn_1 ?_
  refine g_iconst dX10_goesOn_4 ?_
  refine g_icne dX10_goesOn_5 (fun c5 => ?_) (fun c5 => absurd c5 hs)
  exact sp (en - q) q h (by omega) hPd (GO.refl h) hL hq

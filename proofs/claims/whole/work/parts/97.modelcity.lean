/-! THE REFERENCE'S city -/
def vbL (c : Nat) : Nat → Nat → Hp → Hp
  | 0, _, h => h
  | n + 1, i, h => vbL c n (i + 1) (pI (pI h 52 i (gI h (c + 2) i)) 52 (8 + i) 0)
def vbE (h : Hp) : Hp := pI (pI (pI h 52 16 0) 50 23 0) 50 24 0
theorem vbL_o (c : Nat) : ∀ (n i : Nat) (h : Hp), (vbL c n i h).1 = h.1 ∧ (vbL c n i h).2.1 = h.2.1 ∧ (vbL c n i h).2.2.1 = h.2.2.1 ∧ (vbL c n i h).2.2.2.1 = h.2.2.2.1 ∧ gJ (vbL c n i h) = gJ h ∧ ∀ b j, b ≠ 52 → gI (vbL c n i h) b j = gI h b j
  | 0, _, _ => ⟨rfl, rfl, rfl, rfl, rfl, fun _ _ _ => rfl⟩
  | n + 1, i, h => by
    obtain ⟨a, b, c', d, f, e⟩ := vbL_o c n (i + 1) (pI (pI h 52 i (gI h (c + 2) i)) 52 (8 + i) 0)
    exact ⟨a, b, c', d, f, fun x j hx => (e x j hx).trans ((gIq hx).trans (gIq hx))⟩
theorem vbL_v {c : Nat} (hc : 60 ≤ c) : ∀ (n i : Nat) (h : Hp), i + n ≤ 8 → (∀ x, x < i → gI (vbL c n i h) 52 x = gI h 52 x ∧ gI (vbL c n i h) 52 (8 + x) = gI h 52 (8 + x)) ∧ (∀ x, i ≤ x → x < i + n → gI (vbL c n i h) 52 x = gI h (c + 2) x ∧ gI (vbL c n i h) 52 (8 + x) = 0)
  | 0, i, h, _ => ⟨fun _ _ => ⟨rfl, rfl⟩, fun x h1 h2 => by omega⟩
  | n + 1, i, h, hi => by
    obtain ⟨p, q⟩ := vbL_v hc n (i + 1) (pI (pI h 52 i (gI h (c + 2) i)) 52 (8 + i) 0) (by omega)
    refine ⟨fun x hx => ?_, fun x h1 h2 => ?_⟩
    · obtain ⟨p1, p2⟩ := p x (by omega)
      refine ⟨p1.trans ?_, p2.trans ?_⟩
      · rw [gIk (by omega), gIk (by omega)]
      · rw [gIk (by omega), gIk (by omega)]
    · by_cases z : x = i
      · subst z
        obtain ⟨p1, p2⟩ := p x (by omega)
        refine ⟨p1.trans ?_, p2.trans (gIs _ _ _ _)⟩
        rw [gIk (by omega), gIs]
      · obtain ⟨q1, q2⟩ := q x (by omega) (by omega)
        refine ⟨q1.trans ?_, q2⟩
        rw [gIq (by omega), gIq (by omega)]
theorem g_cityOk {g : Hp} {c : Nat} (S : SX g) (M : MC g c) (C4 : gR g 50 4 = some c) (n : Int32) (v2 : Value) : gY 13 17 307 yX10_city cX10_city 3 (some .int) 17 307 (fun v' h' => v' = (some (.int (gI (vbE (vbL c 8 0 (pR g 50 3 (some c)))) c 4))) ∧ h' = (mR (vbE (vbL c 8 0 (pR g 50 3 (some c)))) 0)) 89 [.ref 50, .int n, v2] [] g := by
  refine g_aL0 dX10_city_89 ?_
  refine g_aL0 dX10_city_90 ?_
  refine g_getR lf_X10_167 (S.l 50 rfl) (S.k 50 rfl rfl) C4 dX10_city_91 ?_
  refine g_pR0 lf_X10_359 (S.l 50 rfl) (S.k 50 rfl rfl) dX10_city_94 ?_
  have S1 : SX (pR g 50 3 (some c)) := S.pR (a := 50) (k := 3) (some c) rfl
  have M1 : MC (pR g 50 3 (some c)) c := ⟨M.1, M.2.1, M.2.2.1, M.2.2.2.1, fun k j hj => (by
    have := M.1
    rw [show gR (pR g 50 3 (some c)) c k = gR g c k from u2_n _ _ (by omega)]
    exact M.2.2.2.2 k j hj)⟩
  have C1 : gR (pR g 50 3 (some c)) 50 3 = some c := rfl
  have loop : ∀ (n1 i : Nat) (hh : Hp), i + n1 = 8 → vbL c 8 0 (pR g 50 3 (some c)) = vbL c n1 i hh → SX hh → MC hh c → gR hh 50 3 = some c → gY 13 17 307 yX10_city cX10_city 3 (some .int) 17 307 (fun v' h' => v' = (some (.int (gI (vbE (vbL c 8 0 (pR g 50 3 (some c)))) c 4))) ∧ h' = (mR (vbE (vbL c 8 0 (pR g 50 3 (some c)))) 0)) 99 [.ref 50, .int n, .int (nI i)] [] hh := by
    intro n1
    induction n1 with
    | zero =>
      intro i hh hi he S1 M1 C1
      refine g_iL2 dX10_city_99 ?_
      refine g_bipush dX10_city_100 ?_
      rw [show (8 : Int32) = nI 8 from rfl]
      refine g_icge dX10_city_102 (fun c102 => ?_) (fun c102 => absurd (nI_le (by omega) (by omega)) c102)
      refine g_aL0 dX10_city_138 ?_
      refine g_getR lf_X10_17 (S1.l 50 rfl) (S1.k 50 rfl rfl) (S1.r 50 20 (b := 52) rfl rfl) dX10_city_139 ?_
      refine g_bipush dX10_city_142 ?_
      refine g_iconst dX10_city_144 ?_
      refine g_iastoreK (S1.l 52 rfl) (S1.k 52 rfl rfl) (S1.n 52 (n := 17) rfl rfl) rfl (j := 16) rfl dX10_city_145 ?_
      refine g_aL0 dX10_city_146 ?_
      refine g_iconst dX10_city_147 ?_
      refine g_pI0 lf_X10_361 (S1.l 50 rfl) (S1.k 50 rfl rfl) dX10_city_148 ?_
      refine g_aL0 dX10_city_151 ?_
      refine g_iconst dX10_city_152 ?_
      refine g_pI0 lf_X10_364 (S1.l 50 rfl) (S1.k 50 rfl rfl) dX10_city_153 ?_
      refine g_aL0 dX10_city_156 ?_
      refine g_aL0 dX10_city_157 ?_
      refine g_getR lf_X10_359 (S1.l 50 rfl) (S1.k 50 rfl rfl) C1 dX10_city_158 ?_
      refine g_gI lf_X10_215 (M1.l 0 rfl) (M1.k 0 rfl rfl) dX10_city_161 ?_
      refine e_v1i (d_good (h := pI (pI (pI hh 52 16 0) 50 23 0) 50 24 0) S1 _) lm_X10_49 dX10_city_164 (S1.l 50 rfl) (S1.k 50 rfl rfl) rfl rfl rfl rfl ?_
      exact e_iret rfl dX10_city_167 rfl rfl (by rw [he]; rfl) (by rw [he]; rfl)
    | succ n1 ih =>
      intro i hh hi he S1 M1 C1
      refine g_iL2 dX10_city_99 ?_
      refine g_bipush dX10_city_100 ?_
      rw [show (8 : Int32) = nI 8 from rfl]
      refine g_icge dX10_city_102 (fun c102 => absurd c102 (nI_ge (by omega) (by omega))) (fun c102 => ?_)
      refine g_aL0 dX10_city_105 ?_
      refine g_getR lf_X10_17 (S1.l 50 rfl) (S1.k 50 rfl rfl) (S1.r 50 20 (b := 52) rfl rfl) dX10_city_106 ?_
      refine g_iconst dX10_city_109 ?_
      refine g_iL2 dX10_city_110 ?_
      refine g_iadd dX10_city_111 ?_
      rw [Int32.zero_add]
      refine g_aL0 dX10_city_112 ?_
      refine g_getR lf_X10_359 (S1.l 50 rfl) (S1.k 50 rfl rfl) C1 dX10_city_113 ?_
      refine g_getRn lf_X10_286 (M1.l 0 rfl) (M1.k 0 rfl rfl) (M1.r 16 (j := 2) rfl) dX10_city_116 ?_
      refine g_iL2 dX10_city_119 ?_
      refine g_ialoadN (M1.l 2 rfl) (M1.k 2 rfl rfl) (M1.n 2 (n := 8) rfl rfl) (by omega) (by decide) dX10_city_120 ?_
      refine g_iastoreN (S1.l 52 rfl) (S1.k 52 rfl rfl) (S1.n 52 (n := 17) rfl rfl) (by omega) (by decide) dX10_city_121 ?_
      refine g_aL0 dX10_city_122 ?_
      refine g_getR lf_X10_17 (S1.l 50 rfl) (S1.k 50 rfl rfl) (S1.r 50 20 (b := 52) rfl rfl) dX10_city_123 ?_
      refine g_bipush dX10_city_126 ?_
      refine g_iL2 dX10_city_128 ?_
      refine g_iadd dX10_city_129 ?_
      rw [show (8 : Int32) + nI i = nI (8 + i) from nI_add 8 i]
      refine g_iconst dX10_city_130 ?_
      refine g_iastoreN (S1.l 52 rfl) (S1.k 52 rfl rfl) (S1.n 52 (n := 17) rfl rfl) (by omega) (by decide) dX10_city_131 ?_
      refine g_ii2 dX10_city_132 rfl rfl ?_
      refine g_goto dX10_city_135 ?_
      rw [nI_1]
      exact ih (i + 1) _ (by omega) he S1 M1 C1
  refine g_iconst dX10_city_97 ?_
  refine g_iS2 dX10_city_98 rfl rfl ?_
  exact loop 8 0 _ (by omega) rfl S1 M1 C1
theorem d_city0 {h : Hp} (S : SX h) {L : Nat} (hL : gI h 50 6 = nI L) (n : Int32) (hn : n < 0 ∨ nI L < n) : gC 13 17 307 yX10_city cX10_city 3 (some .int) [.ref 50, .int n] h (fun v h' => v = some (.int (-1)) ∧ h' = mR (mT h) 2) := by
  refine g_entry (lv := [.ref 50, .int n, .retAddr 0]) 1 pn_X10 rfl rfl rfl ?_
  refine g_aL0 dX10_city_0 ?_
  refine g_iconst dX10_city_1 ?_
  refine g_pI0 lf_X10_39 (S.l 50 rfl) (S.k 50 rfl rfl) dX10_city_2 ?_
  refine g_iL1 dX10_city_5 ?_
  refine g_iflt dX10_city_6 (fun c6 => ?_) (fun c6 => ?_)
  · refine g_aL0 dX10_city_17 ?_
    refine g_iconst dX10_city_18 ?_
    refine e_v1i (d_refused (h := mT h) ((FR_mT h).2.2.2.2.1 S) _) lm_X10_45 dX10_city_19 (S.l 50 rfl) (S.k 50 rfl rfl) rfl rfl rfl rfl ?_
    exact e_iret rfl dX10_city_22 rfl rfl rfl rfl
  · refine g_iL1 dX10_city_9 ?_
    refine g_aL0 dX10_city_10 ?_
    refine g_gI lf_X10_352 (S.l 50 rfl) (S.k 50 rfl rfl) dX10_city_11 ?_
    rw [show gI (pI h 50 0 0) 50 6 = nI L from hL]
    refine g_icle dX10_city_14 (fun c14 => absurd c14 (fun q => (hn.elim (fun z => c6 z) (fun z => Int32.not_lt.mpr q z)))) (fun c14 => ?_)
    refine g_aL0 dX10_city_17 ?_
    refine g_iconst dX10_city_18 ?_
    refine e_v1i (d_refused (h := mT h) ((FR_mT h).2.2.2.2.1 S) _) lm_X10_45 dX10_city_19 (S.l 50 rfl) (S.k 50 rfl rfl) rfl rfl rfl rfl ?_
    exact e_iret rfl dX10_city_22 rfl rfl rfl rfl
/-- what the reference's city leaves as it was, with a new city at c -/
def CF (c : Nat) (h' h : Hp) : Prop := SX h' ∧ LB h' ∧ gn h' = c + 17 ∧ (∀ b ∈ gL h, b ∈ gL h') ∧ (∀ x ∈ gL h', x < gn h') ∧ (∀ b, b < c → gK h' b = gK h b ∧ gN h' b = gN h b) ∧ (∀ b k, b < c → ¬ (b = 50 ∧ (k = 3 ∨ k = 4)) → gR h' b k = gR h b k) ∧ (∀ b j, b < c → b ≠ 50 → b ≠ 52 → gI h' b j = gI h b j) ∧ gI h' 50 6 = 0
def CQ (h : Hp) (tx : Nat → Int32) (N : Nat) (C : CT) (v : Option Value) (f : Hp) : Prop := CF (gn h) f h ∧ ((∃ e, parP tx N C = .error e ∧ v = some (.int (-1)) ∧ gR f 50 3 = gR h 50 3 ∧ (∀ j, gI f 52 j = gI h 52 j) ∧ gI f 50 23 = gI h 50 23 ∧ gI f 50 24 = gI h 50 24 ∧ gI f 50 1 = 4 ∧ gI f 50 2 = nI e.2 ∧ gI f 50 13 = e.1) ∨ (∃ x, parP tx N C = .ok x ∧ v = some (.int (x.2.1 1 1)) ∧ gR f 50 3 = some (gn h) ∧ MC f (gn h) ∧ RD f (gn h) x.2.1 ∧ (∀ j, j < 8 → gI f 52 j = gI f (gn h + 2) j ∧ gI f 52 (8 + j) = 0) ∧ gI f 52 16 = 0 ∧ gI f 50 23 = 0 ∧ gI f 50 24 = 0 ∧ gI f 50 1 = 0 ∧ gI f 50 2 = -1 ∧ gI f 50 13 = 0))
theorem zc_rd {h0 g : Hp} {c : Nat} {C : CT} (z : ZC C) (H : CH h0 g c 16) : RD g c C := by
  have e : ∀ a j, a ≤ 16 → ¬ (a = 0 ∧ j = 13) → gI g (c + a) j = 0 := fun a j ha hn => by rw [H.2.2.2.2.2.2.2 a ha j, if_neg hn]
  refine ⟨fun f hf => ?_, fun a j h1 h2 h3 => ?_, ?_⟩
  · rw [show gI g c f = 0 from e 0 f (by decide) (by omega)]
    have hc : f = 0 ∨ f = 1 ∨ f = 2 ∨ f = 3 ∨ f = 4 ∨ f = 5 ∨ f = 6 ∨ f = 7 ∨ f = 8 ∨ f = 9 ∨ f = 10 ∨ f = 11 ∨ f = 12 := by omega
    rcases hc with rfl | rfl | rfl | rfl | rfl | rfl | rfl | rfl | rfl | rfl | rfl | rfl | rfl
    · exact z.2.2.2.1.symm
    · exact z.2.2.2.2.1.symm
    · exact z.2.2.2.2.2.1.symm
    · exact z.2.2.2.2.2.2.1.symm
    · exact (z.1 1 (by decide)).symm
    · exact (z.1 2 (by decide)).symm
    · exact (z.1 3 (by decide)).symm
    · exact (z.1 4 (by decide)).symm
    · exact (z.1 5 (by decide)).symm
    · exact z.2.2.2.2.2.2.2.2.symm
    · exact (z.1 7 (by decide)).symm
    · exact (z.1 8 (by decide)).symm
    · exact (z.1 9 (by decide)).symm
  · rw [e a j (by omega) (by omega)]
    unfold lvF at h3
    by_cases y : a = 6 ∨ a = 7
    · rw [if_pos y] at h3
      rcases y with rfl | rfl
      · exact (z.2.1 j h3).symm
      · exact (z.2.2.1 j h3).symm
    · rw [if_neg y] at h3
      have hg : gpF a < 11 := by
        have : ∀ a : Fin 14, gpF a.1 < 11 := by decide
        exact this ⟨a, by omega⟩
      rw [zc_n z hg] at h3
      omega
  · show gI g c 13 = _
    rw [if_pos (z.1 10 (by decide))]
    have := H.2.2.2.2.2.2.2 0 (by decide) 13
    rwa [Nat.add_zero, if_pos ⟨rfl, rfl⟩] at this
theorem CF_PG {h0 h g : Hp} {c : Nat} (h6 : 60 ≤ c) (k : CF c h h0) (p : PG c g h) (L : LB g) : CF c g h0 := by
  obtain ⟨a1, a2, a3, a4, a5, a6, a7, a8, a9⟩ := k
  obtain ⟨p1, p2, p3, p4, p5, p6⟩ := p
  refine ⟨a1.eq p1 p2 p3 p4, L, ?_, ?_, ?_, fun b hb => ?_, fun b k hb hk => ?_, fun b j hb h1 h2 => ?_, ?_⟩
  · show g.1.2 = _
    rw [p1]; exact a3
  · show ∀ b ∈ gL h0, b ∈ g.1.1
    rw [p1]; exact a4
  · show ∀ x ∈ g.1.1, x < g.1.2
    rw [p1]; exact a5
  · show g.2.1 b = _ ∧ g.2.2.1 b = _
    rw [p2, p3]; exact a6 b hb
  · show g.2.2.2.1 b k = _
    rw [p4]; exact a7 b k hb hk
  · rw [p5 b j (by omega) (by omega)]; exact a8 b j hb h1 h2
  · rw [p5 50 6 (by omega) (by omega)]; exact a9
theorem CF_I {h0 h : Hp} {c : Nat} (h6 : 60 ≤ c) (k : CF c h h0) {a j : Nat} (v : Int32) (ha : a = 52 ∨ (a = 50 ∧ j ≠ 6 ∧ j ≠ 15 ∧ j ≠ 16)) : CF c (pI h a j v) h0 := by
  obtain ⟨a1, ⟨⟨l1, l2, l3⟩, ⟨l4, l5, l6⟩⟩, a3, a4, a5, a6, a7, a8, a9⟩ := k
  refine ⟨a1, ⟨⟨l1, l2, ?_⟩, ⟨l4, l5, ?_⟩⟩, a3, a4, a5, a6, a7, fun b i hb h1 h2 => ?_, ?_⟩
  · rw [show gI (pI h a j v) 50 15 = gI h 50 15 from u2_n _ _ (by omega)]; exact l3
  · rw [show gI (pI h a j v) 50 16 = gI h 50 16 from u2_n _ _ (by omega)]; exact l6
  · rw [gIq (by omega)]; exact a8 b i hb h1 h2
  · rw [show gI (pI h a j v) 50 6 = gI h 50 6 from u2_n _ _ (by omega)]; exact a9
theorem d_city1 {h : Hp} {tx : Nat → Int32} (S : SX h) (h60 : 60 ≤ gn h) (hv : ∀ x ∈ gL h, x < gn h) (hx : gI h 51 = tx) (B : BY tx) (hLB : LB h) {L N : Nat} (hL : gI h 50 6 = nI L) (hL2 : L ≤ 1100) (hN : N ≤ L) {C : CT} (z : ZC C) : gC 13 17 307 yX10_city cX10_city 3 (some .int) [.ref 50, .int (nI N)] h (CQ h tx N C) := by
  refine g_entry (lv := [.ref 50, .int (nI N), .retAddr 0]) 1 pn_X10 rfl rfl rfl ?_
  refine g_aL0 dX10_city_0 ?_
  refine g_iconst dX10_city_1 ?_
  refine g_pI0 lf_X10_39 (S.l 50 rfl) (S.k 50 rfl rfl) dX10_city_2 ?_
  refine g_iL1 dX10_city_5 ?_
  refine g_iflt dX10_city_6 (fun c6 => absurd c6 (nI_nn (by omega))) (fun c6 => ?_)
  refine g_iL1 dX10_city_9 ?_
  refine g_aL0 dX10_city_10 ?_
  refine g_gI lf_X10_352 (S.l 50 rfl) (S.k 50 rfl rfl) dX10_city_11 ?_
  rw [show gI (pI h 50 0 0) 50 6 = nI L from hL]
  refine g_icle dX10_city_14 (fun c14 => ?_) (fun c14 => absurd (nI_le hN (by omega)) c14)
  refine g_aL0 dX10_city_23 ?_
  refine g_iL1 dX10_city_24 ?_
  refine g_pI0 lf_X10_56 (S.l 50 rfl) (S.k 50 rfl rfl) dX10_city_25 ?_
  refine g_aL0 dX10_city_28 ?_
  refine g_iconst dX10_city_29 ?_
  refine g_pI0 lf_X10_352 (S.l 50 rfl) (S.k 50 rfl rfl) dX10_city_30 ?_
  refine g_aL0 dX10_city_33 ?_
  refine g_iconst dX10_city_34 ?_
  refine g_pI0 lf_X10_74 (S.l 50 rfl) (S.k 50 rfl rfl) dX10_city_35 ?_
  refine g_aL0 dX10_city_38 ?_
  refine g_iconst dX10_city_39 ?_
  refine g_pI0 lf_X10_110 (S.l 50 rfl) (S.k 50 rfl rfl) dX10_city_40 ?_
  show gY _ _ _ _ _ _ _ _ _ _ _ _ _ (pI (pI (pI (pI (mT h) 50 7 (nI N)) 50 6 0) 50 8 0) 50 13 0)
  have SA : SX (pI (pI (pI (pI (mT h) 50 7 (nI N)) 50 6 0) 50 8 0) 50 13 0) := S
  have e51 : gI (pI (pI (pI (pI (mT h) 50 7 (nI N)) 50 6 0) 50 8 0) 50 13 0) 51 = tx := hx
  have eN : gI (pI (pI (pI (pI (mT h) 50 7 (nI N)) 50 6 0) 50 8 0) 50 13 0) 50 7 = nI N := rfl
  have e8 : gI (pI (pI (pI (pI (mT h) 50 7 (nI N)) 50 6 0) 50 8 0) 50 13 0) 50 8 = nI 0 := rfl
  have e13 : gI (pI (pI (pI (pI (mT h) 50 7 (nI N)) 50 6 0) 50 8 0) 50 13 0) 50 13 = 0 := rfl
  have e6 : gI (pI (pI (pI (pI (mT h) 50 7 (nI N)) 50 6 0) 50 8 0) 50 13 0) 50 6 = 0 := rfl
  have LA : LB (pI (pI (pI (pI (mT h) 50 7 (nI N)) 50 6 0) 50 8 0) 50 13 0) := hLB
  have eg : gn (pI (pI (pI (pI (mT h) 50 7 (nI N)) 50 6 0) 50 8 0) 50 13 0) = gn h := rfl
  have eA : (pI (pI (pI (pI (mT h) 50 7 (nI N)) 50 6 0) 50 8 0) 50 13 0).1 = h.1 ∧ (pI (pI (pI (pI (mT h) 50 7 (nI N)) 50 6 0) 50 8 0) 50 13 0).2.1 = h.2.1 ∧ (pI (pI (pI (pI (mT h) 50 7 (nI N)) 50 6 0) 50 8 0) 50 13 0).2.2.1 = h.2.2.1 ∧ (pI (pI (pI (pI (mT h) 50 7 (nI N)) 50 6 0) 50 8 0) 50 13 0).2.2.2.1 = h.2.2.2.1 := ⟨rfl, rfl, rfl, rfl⟩
  have oA : ∀ b j, ¬ b = 50 → gI (pI (pI (pI (pI (mT h) 50 7 (nI N)) 50 6 0) 50 8 0) 50 13 0) b j = gI h b j := fun b j hb => by
    rw [gIq hb, gIq hb, gIq hb, gIq hb]; exact gIq hb
  have f23 : gI (pI (pI (pI (pI (mT h) 50 7 (nI N)) 50 6 0) 50 8 0) 50 13 0) 50 23 = gI h 50 23 := rfl
  have f24 : gI (pI (pI (pI (pI (mT h) 50 7 (nI N)) 50 6 0) 50 8 0) 50 13 0) 50 24 = gI h 50 24 := rfl
  generalize (pI (pI (pI (pI (mT h) 50 7 (nI N)) 50 6 0) 50 8 0) 50 13 0) = hA at SA e51 eN e8 e13 e6 LA eg eA oA f23 f24 ⊢
  have hvA : ∀ x ∈ gL hA, x < gn hA := by
    show ∀ x ∈ hA.1.1, x < hA.1.2
    rw [eA.1]; exact hv
  refine g_aL0 dX10_city_43 ?_
  refine g_new cls_X9 (by decide) lk_X10_172 ins_X9 in_X9 (by decide) (by decide) dX10_city_44 ?_
  refine g_dup dX10_city_47 rfl ?_
  refine g_n0 (d_cityInit hvA) lm_X10_355 dX10_city_48 rfl rfl rfl rfl (fun v h2 z2 => ?_)
  obtain ⟨rfl, H⟩ := z2
  have h6 : 60 ≤ gn hA := by rw [eg]; exact h60
  have S2 := H.S h6 SA
  have M2 := H.mc h6
  have h2c := H.2.2.2.2.1
  have LB2 : LB h2 := by
    obtain ⟨⟨l1, l2, l3⟩, ⟨l4, l5, l6⟩⟩ := LA
    exact ⟨⟨l1, l2, by rw [(h2c 50 (by omega)).2.2.2.1]; exact l3⟩, ⟨l4, l5, by rw [(h2c 50 (by omega)).2.2.2.1]; exact l6⟩⟩
  have R2 := zc_rd z H
  show gY _ _ _ _ _ _ _ _ _ _ _ _ [.ref (gn hA), .ref 50] h2
  refine g_pR0 lf_X10_167 (S2.l 50 rfl) (S2.k 50 rfl rfl) dX10_city_51 ?_
  refine g_aL0 dX10_city_54 ?_
  refine g_iconst dX10_city_55 ?_
  have S3 : SX (pR h2 50 4 (some (gn hA))) := S2.pR (a := 50) (k := 4) (some (gn hA)) rfl
  refine g_pI0 lf_X10_71 (S3.l 50 rfl) (S3.k 50 rfl rfl) dX10_city_56 ?_
  have S4 : SX (pI (pR h2 50 4 (some (gn hA))) 50 9 0) := S3
  have M4 : MC (pI (pR h2 50 4 (some (gn hA))) 50 9 0) (gn hA) := ⟨M2.1, M2.2.1, M2.2.2.1, M2.2.2.2.1, fun k j hj => by
    rw [show gR (pI (pR h2 50 4 (some (gn hA))) 50 9 0) (gn hA) k = gR h2 (gn hA) k from u2_n _ _ (by omega)]
    exact M2.2.2.2.2 k j hj⟩
  have i4 : ∀ b j, ¬ (b = 50 ∧ j = 9) → gI (pI (pR h2 50 4 (some (gn hA))) 50 9 0) b j = gI h2 b j := fun b j hb => u2_n _ _ hb
  have R4 : RD (pI (pR h2 50 4 (some (gn hA))) 50 9 0) (gn hA) C := by
    refine ⟨fun f hf => ?_, fun a j h1 h2 h3 => ?_, ?_⟩
    · rw [i4 _ _ (by omega)]; exact R2.1 f hf
    · rw [i4 _ _ (by omega)]; exact R2.2.1 a j h1 h2 h3
    · show gI (pI (pR h2 50 4 (some (gn hA))) 50 9 0) (gn hA) 13 = _
      rw [i4 _ _ (by omega)]; exact R2.2.2
  have lo50 : ∀ j, ¬ j = 9 → gI (pI (pR h2 50 4 (some (gn hA))) 50 9 0) 50 j = gI hA 50 j := fun j hj => by
    rw [i4 50 j (by omega), (h2c 50 (by omega)).2.2.2.1]
  have x4 : gI (pI (pR h2 50 4 (some (gn hA))) 50 9 0) 51 = tx := by
    rw [← e51, ← (h2c 51 (by omega)).2.2.2.1]; exact funext (fun j => i4 51 j (by omega))
  have L4 : LB (pI (pR h2 50 4 (some (gn hA))) 50 9 0) := LB2
  have C14 : gI (pI (pR h2 50 4 (some (gn hA))) 50 9 0) (gn hA) 14 = nI 0 := by
    rw [i4 _ _ (by omega)]
    have := H.2.2.2.2.2.2.2 0 (by decide) 14
    rwa [Nat.add_zero, if_neg (by omega)] at this
  have k4 : CF (gn h) (pI (pR h2 50 4 (some (gn hA))) 50 9 0) h := by
    refine ⟨S4, L4, ?_, fun b hb => ?_, H.2.2.2.1, fun b hb => ?_, fun b k hb hk => ?_, fun b j hb h1 h2' => ?_, ?_⟩
    · rw [← eg]; exact H.1
    · exact H.2.1 b (by show b ∈ hA.1.1; rw [eA.1]; exact hb)
    · have := h2c b (by omega)
      refine ⟨this.1.trans (congrFun eA.2.1 b), this.2.1.trans (congrFun eA.2.2.1 b)⟩
    · rw [show gR (pI (pR h2 50 4 (some (gn hA))) 50 9 0) b k = gR h2 b k from u2_n _ _ (by omega), (h2c b (by omega)).2.2.1]
      exact congrFun (congrFun eA.2.2.2 b) k
    · rw [i4 b j (by omega), (h2c b (by omega)).2.2.2.1]; exact oA b j h1
    · rw [lo50 6 (by decide)]; exact e6
  have v52 : ∀ j, gI (pI (pR h2 50 4 (some (gn hA))) 50 9 0) 52 j = gI h 52 j := fun j => by
    rw [i4 52 j (by omega), (h2c 52 (by omega)).2.2.2.1]; exact oA 52 j (by decide)
  have r3 : gR (pI (pR h2 50 4 (some (gn hA))) 50 9 0) 50 3 = gR h 50 3 := by
    show gR h2 50 3 = _
    rw [(h2c 50 (by omega)).2.2.1]
    exact congrFun (congrFun eA.2.2.2 50) 3
  have r4 : gR (pI (pR h2 50 4 (some (gn hA))) 50 9 0) 50 4 = some (gn hA) := rfl
  have n9 : ¬ gI (pI (pR h2 50 4 (some (gn hA))) 50 9 0) 50 9 = 5 := by rw [gIs]; decide
  have q8 := (lo50 8 (by decide)).trans e8
  have q7 := (lo50 7 (by decide)).trans eN
  have q13 := (lo50 13 (by decide)).trans e13
  have q23 := (lo50 23 (by decide)).trans f23
  have q24 := (lo50 24 (by decide)).trans f24
  generalize pI (pR h2 50 4 (some (gn hA))) 50 9 0 = h4 at S4 M4 R4 x4 L4 C14 k4 v52 r3 r4 n9 q8 q7 q13 q23 q24 ⊢
  rw [eg] at M4 R4 r4 C14 h6
  refine g_aL0 dX10_city_59 ?_
  refine r_v0u (d_goesOn B (show N ≤ 1100 by omega) S4 x4 q7 q8 (Nat.zero_le N) n9 q13 L4) lm_X10_123 dX10_city_60 (S4.l 50 rfl) (S4.k 50 rfl rfl) rfl rfl rfl rfl (fun v h' z => z.1) (fun h5 z5 => ?_)
  obtain ⟨-, G5, L5, r5⟩ := z5
  have g5 := G5.q
  have S5 := g5.S S4
  have b5 : RB tx N h5 (gn h) [] := RB.go ⟨S4, M4, r4, x4, q7, by omega, B, C14, by decide, fun i x e => (by cases e), fun x hx => (by cases hx)⟩ g5
  have R5 : RD h5 (gn h) C := RC.go R4 h6 g5
  refine g_aL0 dX10_city_63 ?_
  refine r_v0u (r_readAll b5 rfl R5 L5 r5 PI (fun C K p => ⟨p.wi, p.sh, fun q => lx_ln p q⟩) (fun C q K x p e => ln_ok p e) ⟨zc_w z, fun y => absurd (z.1 10 (by decide)) y, lx_fi z 0⟩ (fun x e => fir_ok z e) (hoo := rfl)) lm_X10_356 dX10_city_64 (S5.l 50 rfl) (S5.k 50 rfl rfl) rfl rfl rfl rfl (fun v h' z => z.1) (fun g z6 => ?_)
  obtain ⟨-, P6, L6, o6⟩ := z6
  have P4 : PG (gn h) g h4 := P6.trans (g5.p (gn h))
  have k6 : CF (gn h) g h := CF_PG h6 k4 P4 L6
  have S6 := k6.1
  have o5 := P4.2.2.2.2.1
  have R6 : ∀ b k, gR g b k = gR h4 b k := fun b k => congrFun (congrFun P4.2.2.2.1 b) k
  refine g_aL0 dX10_city_67 ?_
  refine g_gI lf_X10_110 (S6.l 50 rfl) (S6.k 50 rfl rfl) dX10_city_68 ?_
  rcases o6 with ⟨e, oe, f6⟩ | ⟨x, ox, bx, dx, f13⟩
  · rw [f6.2.1]
    refine g_ifle dX10_city_71 (fun c71 => absurd c71 (Int32.not_le.mpr f6.2.2.2)) (fun c71 => ?_)
    refine g_aL0 dX10_city_74 ?_
    refine g_iconst dX10_city_75 ?_
    refine g_pI0 lf_X10_42 (S6.l 50 rfl) (S6.k 50 rfl rfl) dX10_city_76 ?_
    refine g_aL0 dX10_city_79 ?_
    refine g_aL0 dX10_city_80 ?_
    refine g_gI lf_X10_113 (S6.l 50 rfl) (S6.k 50 rfl rfl) dX10_city_81 ?_
    refine g_pI0 lf_X10_9 (S6.l 50 rfl) (S6.k 50 rfl rfl) dX10_city_84 ?_
    refine g_iconst dX10_city_87 ?_
    refine g_iret rfl dX10_city_88 (by decide) (by decide) ⟨CF_I h6 (CF_I h6 k6 _ (by omega)) _ (by omega), Or.inl ⟨e, oe, rfl, (R6 50 3).trans r3, fun j => ?_, ?_, ?_, rfl, ?_, ?_⟩⟩
    · rw [gIq (by omega), gIq (by omega), o5 52 j (by omega) (by omega)]; exact v52 j
    · rw [gIk (by omega), gIk (by omega), o5 50 23 (by omega) (by omega)]; exact q23
    · rw [gIk (by omega), gIk (by omega), o5 50 24 (by omega) (by omega)]; exact q24
    · rw [gIs, gIk (by omega)]; exact f6.2.2.1
    · rw [gIk (by omega), gIk (by omega)]; exact f6.2.1
  · rw [f13]
    refine g_ifle dX10_city_71 (fun c71 => ?_) (fun c71 => absurd (Int32.le_refl 0) c71)
    refine gY_weak (g_cityOk S6 bx.M bx.C (nI N) _) (fun v h' zz => ?_)
    obtain ⟨rfl, rfl⟩ := zz
    obtain ⟨w1, w2, w3, w4, w5, w6⟩ := vbL_o (gn h) 8 0 (pR g 50 3 (some (gn h)))
    obtain ⟨-, u2'⟩ := vbL_v h6 8 0 (pR g 50 3 (some (gn h))) (by decide)
    have M6 := bx.M
    have S7 : SX (vbL (gn h) 8 0 (pR g 50 3 (some (gn h)))) := SX.eq (S6.pR (a := 50) (k := 3) (some (gn h)) rfl) w1 w2 w3 w4
    have L7 : LB (vbL (gn h) 8 0 (pR g 50 3 (some (gn h)))) := by
      obtain ⟨⟨l1, l2, l3⟩, ⟨l4, l5, l6⟩⟩ := L6
      exact ⟨⟨l1, l2, (w6 50 15 (by decide)).trans l3⟩, ⟨l4, l5, (w6 50 16 (by decide)).trans l6⟩⟩
    have rr : ∀ b k, ¬ (b = 50 ∧ k = 3) → gR (vbL (gn h) 8 0 (pR g 50 3 (some (gn h)))) b k = gR g b k := fun b k hb => (congrFun (congrFun w4 b) k).trans (u2_n _ _ hb)
    have r3' : gR (vbL (gn h) 8 0 (pR g 50 3 (some (gn h)))) 50 3 = some (gn h) := (congrFun (congrFun w4 50) 3).trans rfl
    have k7 : CF (gn h) (vbL (gn h) 8 0 (pR g 50 3 (some (gn h)))) h := by
      obtain ⟨a1, a2, a3, a4, a5, a6, a7, a8, a9⟩ := k6
      refine ⟨S7, L7, ?_, ?_, ?_, fun b hb => ?_, fun b k hb hk => ?_, fun b j hb h1 h2 => ?_, ?_⟩
      · exact (congrArg Prod.snd w1).trans a3
      · intro b hb
        have := a4 b hb
        rw [← show gL (vbL (gn h) 8 0 (pR g 50 3 (some (gn h)))) = gL g from congrArg Prod.fst w1] at this
        exact this
      · intro b hb
        rw [show gL (vbL (gn h) 8 0 (pR g 50 3 (some (gn h)))) = gL g from congrArg Prod.fst w1] at hb
        rw [show gn (vbL (gn h) 8 0 (pR g 50 3 (some (gn h)))) = gn g from congrArg Prod.snd w1]
        exact a5 b hb
      · exact ⟨(congrFun w2 b).trans (a6 b hb).1, (congrFun w3 b).trans (a6 b hb).2⟩
      · rw [rr b k (by omega)]; exact a7 b k hb hk
      · rw [w6 b j h2]; exact a8 b j hb h1 h2
      · rw [w6 50 6 (by decide)]; exact a9
    have M7 : MC (vbL (gn h) 8 0 (pR g 50 3 (some (gn h)))) (gn h) := by
      refine ⟨M6.1, fun j hj => ?_, fun j hj => (congrFun w2 _).trans (M6.2.2.1 j hj), fun j hj => (congrFun w3 _).trans (M6.2.2.2.1 j hj), fun k j hj => (rr _ _ (by omega)).trans (M6.2.2.2.2 k j hj)⟩
      have := M6.2.1 j hj
      rw [← show gL (vbL (gn h) 8 0 (pR g 50 3 (some (gn h)))) = gL g from congrArg Prod.fst w1] at this
      exact this
    have i7 : ∀ a j, gI (vbL (gn h) 8 0 (pR g 50 3 (some (gn h)))) (gn h + a) j = gI g (gn h + a) j := fun a j => w6 _ j (by omega)
    have v7 : ∀ j, j < 8 → gI (vbL (gn h) 8 0 (pR g 50 3 (some (gn h)))) 52 j = gI (vbL (gn h) 8 0 (pR g 50 3 (some (gn h)))) (gn h + 2) j ∧ gI (vbL (gn h) 8 0 (pR g 50 3 (some (gn h)))) 52 (8 + j) = 0 := fun j hj => by
      obtain ⟨q1, q2⟩ := u2' j (Nat.zero_le j) (by omega)
      exact ⟨q1.trans (i7 2 j).symm, q2⟩
    have i13 : gI (vbL (gn h) 8 0 (pR g 50 3 (some (gn h)))) 50 13 = 0 := (w6 50 13 (by decide)).trans f13
    generalize vbL (gn h) 8 0 (pR g 50 3 (some (gn h))) = f at k7 M7 i7 v7 i13 r3' ⊢
    have ec : ∀ a j, gI (mR (vbE f) 0) (gn h + a) j = gI g (gn h + a) j := fun a j => by
      unfold mR vbE
      rw [gIq (by omega), gIq (by omega), gIq (by omega), gIq (by omega), gIq (by omega)]; exact i7 a j
    have e52 : ∀ j, ¬ j = 16 → gI (mR (vbE f) 0) 52 j = gI f 52 j := fun j hj => by
      unfold mR vbE
      rw [gIq (by omega), gIq (by omega), gIq (by omega), gIq (by omega), gIk hj]
    refine ⟨CF_I h6 (CF_I h6 (CF_I h6 (CF_I h6 (CF_I h6 k7 _ (by omega)) _ (by omega)) _ (by omega)) _ (by omega)) _ (by omega), Or.inr ⟨x, ox, ?_, r3', M7, ⟨fun f' hf => ?_, fun a j h1 h2 h3 => ?_, ?_⟩, fun j hj => ⟨?_, ?_⟩, rfl, rfl, rfl, rfl, rfl, ?_⟩⟩
    · have : gI (vbE f) (gn h) 4 = x.2.1 1 1 := by
        have e4 : gI (mR (vbE f) 0) (gn h + 0) 4 = gI g (gn h + 0) 4 := ec 0 4
        have e5 : gI (mR (vbE f) 0) (gn h + 0) 4 = gI (vbE f) (gn h) 4 := by
          unfold mR; rw [gIq (by omega), gIq (by omega)]; rfl
        rw [← e5, e4]; exact dx.1 4 (by decide)
      rw [this]
    · rw [show gI (mR (vbE f) 0) (gn h) f' = gI g (gn h) f' from ec 0 f']; exact dx.1 f' hf
    · rw [ec a j]; exact dx.2.1 a j h1 h2 h3
    · show gI (mR (vbE f) 0) (gn h) 13 = _
      rw [show gI (mR (vbE f) 0) (gn h) 13 = gI g (gn h) 13 from ec 0 13]; exact dx.2.2
    · rw [e52 j (by omega), ec 2 j, (v7 j hj).1, i7 2 j]
    · rw [e52 (8 + j) (by omega)]; exact (v7 j hj).2
    · show gI f 50 13 = 0
      exact i13

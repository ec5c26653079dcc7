/-! THE CLASS: Parser: a line of any sort -/
theorem c_roomFor1 {h : Hp} : gCi 0 0 0 yX3_roomFor cX3_roomFor 1 (some .int) [.int (nI 1)] h (some (.int 8)) h := by
  refine g_entry (lv := [.int (nI 1)]) 0 pn_X3 rfl rfl rfl ?_
  refine g_iL0 dX3_roomFor_0 ?_
  refine g_swIn 0 dX3_roomFor_1 (by decide) rfl ?_
  refine g_bipush dX3_roomFor_52 ?_
  exact e_iret rfl dX3_roomFor_54 rfl rfl rfl rfl
theorem c_roomFor2 {h : Hp} : gCi 0 0 0 yX3_roomFor cX3_roomFor 1 (some .int) [.int (nI 2)] h (some (.int 8)) h := by
  refine g_entry (lv := [.int (nI 2)]) 0 pn_X3 rfl rfl rfl ?_
  refine g_iL0 dX3_roomFor_0 ?_
  refine g_swIn 1 dX3_roomFor_1 (by decide) rfl ?_
  refine g_bipush dX3_roomFor_55 ?_
  exact e_iret rfl dX3_roomFor_57 rfl rfl rfl rfl
theorem c_roomFor3 {h : Hp} : gCi 0 0 0 yX3_roomFor cX3_roomFor 1 (some .int) [.int (nI 3)] h (some (.int 6)) h := by
  refine g_entry (lv := [.int (nI 3)]) 0 pn_X3 rfl rfl rfl ?_
  refine g_iL0 dX3_roomFor_0 ?_
  refine g_swIn 2 dX3_roomFor_1 (by decide) rfl ?_
  refine g_bipush dX3_roomFor_58 ?_
  exact e_iret rfl dX3_roomFor_60 rfl rfl rfl rfl
theorem c_roomFor4 {h : Hp} : gCi 0 0 0 yX3_roomFor cX3_roomFor 1 (some .int) [.int (nI 4)] h (some (.int 7)) h := by
  refine g_entry (lv := [.int (nI 4)]) 0 pn_X3 rfl rfl rfl ?_
  refine g_iL0 dX3_roomFor_0 ?_
  refine g_swIn 3 dX3_roomFor_1 (by decide) rfl ?_
  refine g_bipush dX3_roomFor_61 ?_
  exact e_iret rfl dX3_roomFor_63 rfl rfl rfl rfl
theorem c_roomFor5 {h : Hp} : gCi 0 0 0 yX3_roomFor cX3_roomFor 1 (some .int) [.int (nI 5)] h (some (.int 12)) h := by
  refine g_entry (lv := [.int (nI 5)]) 0 pn_X3 rfl rfl rfl ?_
  refine g_iL0 dX3_roomFor_0 ?_
  refine g_swIn 4 dX3_roomFor_1 (by decide) rfl ?_
  refine g_bipush dX3_roomFor_64 ?_
  exact e_iret rfl dX3_roomFor_66 rfl rfl rfl rfl
theorem c_roomFor6 {h : Hp} : gCi 0 0 0 yX3_roomFor cX3_roomFor 1 (some .int) [.int (nI 6)] h (some (.int 1100)) h := by
  refine g_entry (lv := [.int (nI 6)]) 0 pn_X3 rfl rfl rfl ?_
  refine g_iL0 dX3_roomFor_0 ?_
  refine g_swIn 5 dX3_roomFor_1 (by decide) rfl ?_
  refine g_sipush dX3_roomFor_75 ?_
  exact e_iret rfl dX3_roomFor_78 rfl rfl rfl rfl
theorem c_roomFor7 {h : Hp} : gCi 0 0 0 yX3_roomFor cX3_roomFor 1 (some .int) [.int (nI 7)] h (some (.int 6)) h := by
  refine g_entry (lv := [.int (nI 7)]) 0 pn_X3 rfl rfl rfl ?_
  refine g_iL0 dX3_roomFor_0 ?_
  refine g_swIn 6 dX3_roomFor_1 (by decide) rfl ?_
  refine g_bipush dX3_roomFor_67 ?_
  exact e_iret rfl dX3_roomFor_69 rfl rfl rfl rfl
theorem c_roomFor8 {h : Hp} : gCi 0 0 0 yX3_roomFor cX3_roomFor 1 (some .int) [.int (nI 8)] h (some (.int 4)) h := by
  refine g_entry (lv := [.int (nI 8)]) 0 pn_X3 rfl rfl rfl ?_
  refine g_iL0 dX3_roomFor_0 ?_
  refine g_swIn 7 dX3_roomFor_1 (by decide) rfl ?_
  refine g_iconst dX3_roomFor_70 ?_
  exact e_iret rfl dX3_roomFor_71 rfl rfl rfl rfl
theorem c_roomFor9 {h : Hp} : gCi 0 0 0 yX3_roomFor cX3_roomFor 1 (some .int) [.int (nI 9)] h (some (.int 8)) h := by
  refine g_entry (lv := [.int (nI 9)]) 0 pn_X3 rfl rfl rfl ?_
  refine g_iL0 dX3_roomFor_0 ?_
  refine g_swIn 8 dX3_roomFor_1 (by decide) rfl ?_
  refine g_bipush dX3_roomFor_72 ?_
  exact e_iret rfl dX3_roomFor_74 rfl rfl rfl rfl
theorem c_roomFor10 {h : Hp} : gCi 0 0 0 yX3_roomFor cX3_roomFor 1 (some .int) [.int (nI 10)] h (some (.int 1100)) h := by
  refine g_entry (lv := [.int (nI 10)]) 0 pn_X3 rfl rfl rfl ?_
  refine g_iL0 dX3_roomFor_0 ?_
  refine g_swOut dX3_roomFor_1 (by decide) ?_
  refine g_sipush dX3_roomFor_75 ?_
  exact e_iret rfl dX3_roomFor_78 rfl rfl rfl rfl
section PP
variable (tx : Nat → Int32) (en : Nat)
def lnB (C : CT) (q k : Nat) (rm : Int32) (b : LR) : LR := if C 1 k < rm then b.bind fun x => .ok (x.1, u2 x.2.1 1 k (x.2.1 1 k + 1), x.2.2) else er tx en 5 q
def lnP (C : CT) (q : Nat) (K : List Nm) : LR := if lsF tx en q = -1 then er tx en 1 q else if lsF tx en q = 0 then er tx en 3 q else if lsF tx en q = nI 1 then lnB tx en C q 1 8 (panP tx en C (nx tx en q) K) else if lsF tx en q = nI 2 then lnB tx en C q 2 8 (worP tx en C (nx tx en q) K) else if lsF tx en q = nI 3 then lnB tx en C q 3 6 (vieP tx en C (nx tx en q) K) else if lsF tx en q = nI 4 then lnB tx en C q 4 7 (corP tx en C (nx tx en q) K) else if lsF tx en q = nI 5 then lnB tx en C q 5 12 (strP tx en C (nx tx en q) K) else if lsF tx en q = nI 6 then lnB tx en C q 6 1100 (thiP tx en C (nx tx en q) K) else if lsF tx en q = nI 7 then lnB tx en C q 7 6 (senP tx en C (nx tx en q) K) else if lsF tx en q = nI 8 then lnB tx en C q 8 4 (perP tx en C (nx tx en q) K) else if lsF tx en q = nI 9 then lnB tx en C q 9 8 (shaP tx en C (tkP tx en q) (nx tx en q) K) else if C 1 10 ≤ 0 then lnB tx en C q 10 1100 (sheP tx en C (nx tx en q) K) else er tx en 3 q
end PP
theorem ls_c (tx : Nat → Int32) (en q : Nat) : lsF tx en q = -1 ∨ lsF tx en q = 0 ∨ lsF tx en q = nI 1 ∨ lsF tx en q = nI 2 ∨ lsF tx en q = nI 3 ∨ lsF tx en q = nI 4 ∨ lsF tx en q = nI 5 ∨ lsF tx en q = nI 6 ∨ lsF tx en q = nI 7 ∨ lsF tx en q = nI 8 ∨ lsF tx en q = nI 9 ∨ lsF tx en q = nI 10 := by
  unfold lsF
  repeat' split
  all_goals decide
/-- counts within their bounds, names of corners within theirs -/
def CB (C : CT) (K : List Nm) : Prop := (∀ k, k < 11 → ∃ n, n ≤ 1100 ∧ C 1 k = nI n) ∧ (∃ N, N ≤ 4 ∧ C 0 2 = nI N) ∧ KB K
theorem CB.n {C : CT} {K : List Nm} (b : CB C K) (k : Nat) (hk : k < 11) {r : Nat} (hr : r ≤ 1100) (h : C 1 k < nI r) : ∃ n, C 1 k = nI n ∧ n < r := by
  obtain ⟨n, hn, e⟩ := b.1 k hk
  refine ⟨n, e, ?_⟩
  rw [e] at h
  rcases Nat.lt_or_ge n r with z | z
  · exact z
  · exact absurd h (nI_nlt z (by omega))
theorem PQ_b (s : Nat) (h : Hp) (v : Int32) : PQ s h (pI h 33 6 v) := ⟨rfl, rfl, rfl, rfl, fun _ _ h1 _ _ _ _ => (gIq h1).symm, fun _ _ _ => rfl⟩
theorem c_line1 {tx : Nat → Int32} {en : Nat} {h : Hp} {q : Nat} {K : List Nm} (T : PT tx en h q K) {s : Nat} (hs : s = 3 ∨ s = 18) (hR : gR h 33 5 = some s) {C : CT} (D : CE h s C) (b : CB C K) (e : lsF tx en q = nI 1) : gC 8 0 0 yX3_line cX3_line 3 (some .boolean) [.ref 33] h (LQ tx en s (pI h 33 6 (nI (tkP tx en q))) (lnB tx en C q 1 8 (panP tx en C (nx tx en q) K))) := by
  have T0 := T
  have P0 := PQ_b s h (nI (tkP tx en q))
  have D0 := D
  have R0 := hR
  obtain ⟨N, hN4, hN⟩ := b.2.1
  refine g_entry (lv := [.ref 33, .retAddr 0, .retAddr 0]) 2 pn_X3 rfl rfl rfl ?_
  refine g_aL0 dX3_line_0 ?_
  refine e_v0i (c_lineSort T0) lm_X3_104 dX3_line_1 (T0.S.l 33 rfl) (T0.S.k 33 rfl rfl) rfl rfl rfl rfl ?_
  rw [e]
  refine g_iS1 dX3_line_4 rfl rfl ?_
  refine g_iL1 dX3_line_5 ?_
  refine g_iconst dX3_line_6 ?_
  refine g_icne dX3_line_7 (fun c7 => ?_) (fun c7 => absurd c7 (by decide))
  refine g_iL1 dX3_line_16 ?_
  refine g_ifeq dX3_line_17 (fun c17 => absurd c17 (by decide)) (fun c17 => ?_)
  refine g_iL1 dX3_line_20 ?_
  refine g_bipush dX3_line_21 ?_
  refine g_icne dX3_line_23 (fun c23 => ?_) (fun c23 => absurd c23 (by decide))
  refine g_aL0 dX3_line_45 ?_
  refine g_getR lf_X3_22 (T0.S.l 33 rfl) (T0.S.k 33 rfl rfl) R0 dX3_line_46 ?_
  refine g_getR lf_X3_63 (T0.S.cl hs 0 rfl) (T0.S.ck hs) (T0.S.cr hs 0 (j := 1) rfl rfl) dX3_line_49 ?_
  refine g_iL1 dX3_line_52 ?_
  refine g_ialoadN (T0.S.cl hs 1 rfl) (T0.S.cka hs 1 rfl rfl) (T0.S.cn hs 1 (n := 11) rfl rfl rfl) (show 1 < 11 from by decide) (by decide) dX3_line_53 ?_
  rw [show gI h (s + 1) 1 = C 1 1 from D 1 1 (by decide)]
  refine g_iL1 dX3_line_54 ?_
  refine e_s1i c_roomFor1 lm_X3_134 dX3_line_55 rfl rfl rfl rfl ?_
  refine g_iclt dX3_line_58 (fun c58 => ?_) (fun c58 => ?_)
  · obtain ⟨n, hn, hnb⟩ := b.n 1 (by decide) (r := 8) (by decide) c58
    refine g_aL0 dX3_line_67 ?_
    refine g_aL0 dX3_line_68 ?_
    refine g_getR lf_X3_16 (T0.S.l 33 rfl) (T0.S.k 33 rfl rfl) (T0.S.r 33 0 (b := 34) rfl rfl) dX3_line_69 ?_
    refine g_gI lf_X3_76 (T0.S.l 34 rfl) (T0.S.k 34 rfl rfl) dX3_line_72 ?_
    rw [T.p]
    refine g_pI0 lf_X3_138 (T0.S.l 33 rfl) (T0.S.k 33 rfl rfl) dX3_line_75 ?_
    have T1 := T0.I (a := 33) (k := 6) (nI (tkP tx en q)) (by omega) (by omega) (by omega) (by omega) (by omega)
    have P1 := PQ.refl s (pI h 33 6 (nI (tkP tx en q)))
    have F1 := FQ.refl (pI h 33 6 (nI (tkP tx en q)))
    have D1 := D0.p33 hs 6 (nI (tkP tx en q))
    have R1 := R0
    refine g_aL0 dX3_line_78 ?_
    refine g_getR lf_X3_16 (T1.S.l 33 rfl) (T1.S.k 33 rfl rfl) (T1.S.r 33 0 (b := 34) rfl rfl) dX3_line_79 ?_
    refine e_v0u (w_step T1) lm_X3_70 dX3_line_82 (T1.S.l 34 rfl) (T1.S.k 34 rfl rfl) rfl rfl rfl rfl ?_
    have T2 := T1.step
    have P2 := T1.stP P1
    have F2 := T1.stF F1
    have D2 := T1.stD hs D1
    have R2 := R1
    refine g_iL1 dX3_line_85 ?_
    refine g_swIn 0 dX3_line_86 (by decide) rfl ?_
    refine g_aL0 dX3_line_136 ?_
    refine g_v0 (c_paneLine T2 hs R2 D2 hn hnb hN hN4) lm_X3_141 dX3_line_137 (T2.S.l 33 rfl) (T2.S.k 33 rfl rfl) rfl rfl rfl rfl (fun v h3 hq => ?_)
    obtain ⟨t3, ⟨e, ho3, rfl, fe⟩ | ⟨x3, ho3, rfl, f3, T3, D3⟩⟩ := hq
    · refine g_iS2 dX3_line_140 rfl rfl ?_
      refine g_goto dX3_line_141 ?_
      refine g_iL2 dX3_line_215 ?_
      refine g_ifeq dX3_line_216 (fun c216 => ?_) (fun c216 => absurd rfl c216)
      refine g_iL2 dX3_line_232 ?_
      exact g_zret rfl rfl dX3_line_233 rfl rfl ⟨t3.trans P2, Or.inl ⟨_, ((if_pos c58).trans (be ho3)), rfl, fe⟩⟩
    · have P3 := t3.trans P2
      have F3 := f3.trans F2
      have R3 : gR h3 33 5 = some s := by rw [P3.R]; exact hR
      refine g_iS2 dX3_line_140 rfl rfl ?_
      refine g_goto dX3_line_141 ?_
      refine g_iL2 dX3_line_215 ?_
      refine g_ifeq dX3_line_216 (fun c216 => absurd c216 (by decide)) (fun c216 => ?_)
      refine g_aL0 dX3_line_219 ?_
      refine g_getR lf_X3_22 (T3.S.l 33 rfl) (T3.S.k 33 rfl rfl) R3 dX3_line_220 ?_
      refine g_getR lf_X3_63 (T3.S.cl hs 0 rfl) (T3.S.ck hs) (T3.S.cr hs 0 (j := 1) rfl rfl) dX3_line_223 ?_
      refine g_iL1 dX3_line_226 ?_
      refine g_dup2 dX3_line_227 rfl rfl ?_
      refine g_ialoadN (T3.S.cl hs 1 rfl) (T3.S.cka hs 1 rfl rfl) (T3.S.cn hs 1 (n := 11) rfl rfl rfl) (show 1 < 11 from by decide) (by decide) dX3_line_228 ?_
      rw [show gI h3 (s + 1) 1 = x3.2.1 1 1 from D3 1 1 (by decide)]
      refine g_iconst dX3_line_229 ?_
      refine g_iadd dX3_line_230 ?_
      refine g_iastoreN (T3.S.cl hs 1 rfl) (T3.S.cka hs 1 rfl rfl) (T3.S.cn hs 1 (n := 11) rfl rfl rfl) (show 1 < 11 from by decide) (by decide) dX3_line_231 ?_
      have T4 := T3.I (a := (s + 1)) (k := 1) (x3.2.1 1 1 + 1) (by omega) (by omega) (by omega) (by omega) (by omega)
      have P4 := (PQ_I _ (s := s) (a := 1) (k := 1) (x3.2.1 1 1 + 1) (by decide)).trans P3
      have F4 := (FQ_I _ (a := (s + 1)) (k := 1) (x3.2.1 1 1 + 1) (by omega)).trans F3
      have D4 := D3.w 1 1 (x3.2.1 1 1 + 1)
      have R4 := R3
      refine g_iL2 dX3_line_232 ?_
      exact g_zret rfl rfl dX3_line_233 rfl rfl ⟨P4, Or.inr ⟨_, ((if_pos c58).trans (bo ho3 rfl)), rfl, F4, T4, D4⟩⟩
  · refine g_aL0 dX3_line_61 ?_
    refine g_iconst dX3_line_62 ?_
    refine e_v1i (c_fail T0.S _) lm_X3_66 dX3_line_63 (T0.S.l 33 rfl) (T0.S.k 33 rfl rfl) rfl rfl rfl rfl ?_
    exact g_zret rfl rfl dX3_line_66 rfl rfl ⟨((TQ_fl _ _).P s).trans P0, Or.inl ⟨_, (if_neg c58), rfl, FL_fl T0 _⟩⟩
theorem c_line2 {tx : Nat → Int32} {en : Nat} {h : Hp} {q : Nat} {K : List Nm} (T : PT tx en h q K) {s : Nat} (hs : s = 3 ∨ s = 18) (hR : gR h 33 5 = some s) {C : CT} (D : CE h s C) (b : CB C K) (e : lsF tx en q = nI 2) : gC 8 0 0 yX3_line cX3_line 3 (some .boolean) [.ref 33] h (LQ tx en s (pI h 33 6 (nI (tkP tx en q))) (lnB tx en C q 2 8 (worP tx en C (nx tx en q) K))) := by
  have T0 := T
  have P0 := PQ_b s h (nI (tkP tx en q))
  have D0 := D
  have R0 := hR
  obtain ⟨N, hN4, hN⟩ := b.2.1
  refine g_entry (lv := [.ref 33, .retAddr 0, .retAddr 0]) 2 pn_X3 rfl rfl rfl ?_
  refine g_aL0 dX3_line_0 ?_
  refine e_v0i (c_lineSort T0) lm_X3_104 dX3_line_1 (T0.S.l 33 rfl) (T0.S.k 33 rfl rfl) rfl rfl rfl rfl ?_
  rw [e]
  refine g_iS1 dX3_line_4 rfl rfl ?_
  refine g_iL1 dX3_line_5 ?_
  refine g_iconst dX3_line_6 ?_
  refine g_icne dX3_line_7 (fun c7 => ?_) (fun c7 => absurd c7 (by decide))
  refine g_iL1 dX3_line_16 ?_
  refine g_ifeq dX3_line_17 (fun c17 => absurd c17 (by decide)) (fun c17 => ?_)
  refine g_iL1 dX3_line_20 ?_
  refine g_bipush dX3_line_21 ?_
  refine g_icne dX3_line_23 (fun c23 => ?_) (fun c23 => absurd c23 (by decide))
  refine g_aL0 dX3_line_45 ?_
  refine g_getR lf_X3_22 (T0.S.l 33 rfl) (T0.S.k 33 rfl rfl) R0 dX3_line_46 ?_
  refine g_getR lf_X3_63 (T0.S.cl hs 0 rfl) (T0.S.ck hs) (T0.S.cr hs 0 (j := 1) rfl rfl) dX3_line_49 ?_
  refine g_iL1 dX3_line_52 ?_
  refine g_ialoadN (T0.S.cl hs 1 rfl) (T0.S.cka hs 1 rfl rfl) (T0.S.cn hs 1 (n := 11) rfl rfl rfl) (show 2 < 11 from by decide) (by decide) dX3_line_53 ?_
  rw [show gI h (s + 1) 2 = C 1 2 from D 1 2 (by decide)]
  refine g_iL1 dX3_line_54 ?_
  refine e_s1i c_roomFor2 lm_X3_134 dX3_line_55 rfl rfl rfl rfl ?_
  refine g_iclt dX3_line_58 (fun c58 => ?_) (fun c58 => ?_)
  · obtain ⟨n, hn, hnb⟩ := b.n 2 (by decide) (r := 8) (by decide) c58
    refine g_aL0 dX3_line_67 ?_
    refine g_aL0 dX3_line_68 ?_
    refine g_getR lf_X3_16 (T0.S.l 33 rfl) (T0.S.k 33 rfl rfl) (T0.S.r 33 0 (b := 34) rfl rfl) dX3_line_69 ?_
    refine g_gI lf_X3_76 (T0.S.l 34 rfl) (T0.S.k 34 rfl rfl) dX3_line_72 ?_
    rw [T.p]
    refine g_pI0 lf_X3_138 (T0.S.l 33 rfl) (T0.S.k 33 rfl rfl) dX3_line_75 ?_
    have T1 := T0.I (a := 33) (k := 6) (nI (tkP tx en q)) (by omega) (by omega) (by omega) (by omega) (by omega)
    have P1 := PQ.refl s (pI h 33 6 (nI (tkP tx en q)))
    have F1 := FQ.refl (pI h 33 6 (nI (tkP tx en q)))
    have D1 := D0.p33 hs 6 (nI (tkP tx en q))
    have R1 := R0
    refine g_aL0 dX3_line_78 ?_
    refine g_getR lf_X3_16 (T1.S.l 33 rfl) (T1.S.k 33 rfl rfl) (T1.S.r 33 0 (b := 34) rfl rfl) dX3_line_79 ?_
    refine e_v0u (w_step T1) lm_X3_70 dX3_line_82 (T1.S.l 34 rfl) (T1.S.k 34 rfl rfl) rfl rfl rfl rfl ?_
    have T2 := T1.step
    have P2 := T1.stP P1
    have F2 := T1.stF F1
    have D2 := T1.stD hs D1
    have R2 := R1
    refine g_iL1 dX3_line_85 ?_
    refine g_swIn 1 dX3_line_86 (by decide) rfl ?_
    refine g_aL0 dX3_line_144 ?_
    refine g_v0 (c_wordLine T2 hs R2 D2 hn hnb hN hN4) lm_X3_144 dX3_line_145 (T2.S.l 33 rfl) (T2.S.k 33 rfl rfl) rfl rfl rfl rfl (fun v h3 hq => ?_)
    obtain ⟨t3, ⟨e, ho3, rfl, fe⟩ | ⟨x3, ho3, rfl, f3, T3, D3⟩⟩ := hq
    · refine g_iS2 dX3_line_148 rfl rfl ?_
      refine g_goto dX3_line_149 ?_
      refine g_iL2 dX3_line_215 ?_
      refine g_ifeq dX3_line_216 (fun c216 => ?_) (fun c216 => absurd rfl c216)
      refine g_iL2 dX3_line_232 ?_
      exact g_zret rfl rfl dX3_line_233 rfl rfl ⟨t3.trans P2, Or.inl ⟨_, ((if_pos c58).trans (be ho3)), rfl, fe⟩⟩
    · have P3 := t3.trans P2
      have F3 := f3.trans F2
      have R3 : gR h3 33 5 = some s := by rw [P3.R]; exact hR
      refine g_iS2 dX3_line_148 rfl rfl ?_
      refine g_goto dX3_line_149 ?_
      refine g_iL2 dX3_line_215 ?_
      refine g_ifeq dX3_line_216 (fun c216 => absurd c216 (by decide)) (fun c216 => ?_)
      refine g_aL0 dX3_line_219 ?_
      refine g_getR lf_X3_22 (T3.S.l 33 rfl) (T3.S.k 33 rfl rfl) R3 dX3_line_220 ?_
      refine g_getR lf_X3_63 (T3.S.cl hs 0 rfl) (T3.S.ck hs) (T3.S.cr hs 0 (j := 1) rfl rfl) dX3_line_223 ?_
      refine g_iL1 dX3_line_226 ?_
      refine g_dup2 dX3_line_227 rfl rfl ?_
      refine g_ialoadN (T3.S.cl hs 1 rfl) (T3.S.cka hs 1 rfl rfl) (T3.S.cn hs 1 (n := 11) rfl rfl rfl) (show 2 < 11 from by decide) (by decide) dX3_line_228 ?_
      rw [show gI h3 (s + 1) 2 = x3.2.1 1 2 from D3 1 2 (by decide)]
      refine g_iconst dX3_line_229 ?_
      refine g_iadd dX3_line_230 ?_
      refine g_iastoreN (T3.S.cl hs 1 rfl) (T3.S.cka hs 1 rfl rfl) (T3.S.cn hs 1 (n := 11) rfl rfl rfl) (show 2 < 11 from by decide) (by decide) dX3_line_231 ?_
      have T4 := T3.I (a := (s + 1)) (k := 2) (x3.2.1 1 2 + 1) (by omega) (by omega) (by omega) (by omega) (by omega)
      have P4 := (PQ_I _ (s := s) (a := 1) (k := 2) (x3.2.1 1 2 + 1) (by decide)).trans P3
      have F4 := (FQ_I _ (a := (s + 1)) (k := 2) (x3.2.1 1 2 + 1) (by omega)).trans F3
      have D4 := D3.w 1 2 (x3.2.1 1 2 + 1)
      have R4 := R3
      refine g_iL2 dX3_line_232 ?_
      exact g_zret rfl rfl dX3_line_233 rfl rfl ⟨P4, Or.inr ⟨_, ((if_pos c58).trans (bo ho3 rfl)), rfl, F4, T4, D4⟩⟩
  · refine g_aL0 dX3_line_61 ?_
    refine g_iconst dX3_line_62 ?_
    refine e_v1i (c_fail T0.S _) lm_X3_66 dX3_line_63 (T0.S.l 33 rfl) (T0.S.k 33 rfl rfl) rfl rfl rfl rfl ?_
    exact g_zret rfl rfl dX3_line_66 rfl rfl ⟨((TQ_fl _ _).P s).trans P0, Or.inl ⟨_, (if_neg c58), rfl, FL_fl T0 _⟩⟩
theorem c_line3 {tx : Nat → Int32} {en : Nat} {h : Hp} {q : Nat} {K : List Nm} (T : PT tx en h q K) {s : Nat} (hs : s = 3 ∨ s = 18) (hR : gR h 33 5 = some s) {C : CT} (D : CE h s C) (b : CB C K) (e : lsF tx en q = nI 3) : gC 8 0 0 yX3_line cX3_line 3 (some .boolean) [.ref 33] h (LQ tx en s (pI h 33 6 (nI (tkP tx en q))) (lnB tx en C q 3 6 (vieP tx en C (nx tx en q) K))) := by
  have T0 := T
  have P0 := PQ_b s h (nI (tkP tx en q))
  have D0 := D
  have R0 := hR
  obtain ⟨N, hN4, hN⟩ := b.2.1
  refine g_entry (lv := [.ref 33, .retAddr 0, .retAddr 0]) 2 pn_X3 rfl rfl rfl ?_
  refine g_aL0 dX3_line_0 ?_
  refine e_v0i (c_lineSort T0) lm_X3_104 dX3_line_1 (T0.S.l 33 rfl) (T0.S.k 33 rfl rfl) rfl rfl rfl rfl ?_
  rw [e]
  refine g_iS1 dX3_line_4 rfl rfl ?_
  refine g_iL1 dX3_line_5 ?_
  refine g_iconst dX3_line_6 ?_
  refine g_icne dX3_line_7 (fun c7 => ?_) (fun c7 => absurd c7 (by decide))
  refine g_iL1 dX3_line_16 ?_
  refine g_ifeq dX3_line_17 (fun c17 => absurd c17 (by decide)) (fun c17 => ?_)
  refine g_iL1 dX3_line_20 ?_
  refine g_bipush dX3_line_21 ?_
  refine g_icne dX3_line_23 (fun c23 => ?_) (fun c23 => absurd c23 (by decide))
  refine g_aL0 dX3_line_45 ?_
  refine g_getR lf_X3_22 (T0.S.l 33 rfl) (T0.S.k 33 rfl rfl) R0 dX3_line_46 ?_
  refine g_getR lf_X3_63 (T0.S.cl hs 0 rfl) (T0.S.ck hs) (T0.S.cr hs 0 (j := 1) rfl rfl) dX3_line_49 ?_
  refine g_iL1 dX3_line_52 ?_
  refine g_ialoadN (T0.S.cl hs 1 rfl) (T0.S.cka hs 1 rfl rfl) (T0.S.cn hs 1 (n := 11) rfl rfl rfl) (show 3 < 11 from by decide) (by decide) dX3_line_53 ?_
  rw [show gI h (s + 1) 3 = C 1 3 from D 1 3 (by decide)]
  refine g_iL1 dX3_line_54 ?_
  refine e_s1i c_roomFor3 lm_X3_134 dX3_line_55 rfl rfl rfl rfl ?_
  refine g_iclt dX3_line_58 (fun c58 => ?_) (fun c58 => ?_)
  · obtain ⟨n, hn, hnb⟩ := b.n 3 (by decide) (r := 6) (by decide) c58
    refine g_aL0 dX3_line_67 ?_
    refine g_aL0 dX3_line_68 ?_
    refine g_getR lf_X3_16 (T0.S.l 33 rfl) (T0.S.k 33 rfl rfl) (T0.S.r 33 0 (b := 34) rfl rfl) dX3_line_69 ?_
    refine g_gI lf_X3_76 (T0.S.l 34 rfl) (T0.S.k 34 rfl rfl) dX3_line_72 ?_
    rw [T.p]
    refine g_pI0 lf_X3_138 (T0.S.l 33 rfl) (T0.S.k 33 rfl rfl) dX3_line_75 ?_
    have T1 := T0.I (a := 33) (k := 6) (nI (tkP tx en q)) (by omega) (by omega) (by omega) (by omega) (by omega)
    have P1 := PQ.refl s (pI h 33 6 (nI (tkP tx en q)))
    have F1 := FQ.refl (pI h 33 6 (nI (tkP tx en q)))
    have D1 := D0.p33 hs 6 (nI (tkP tx en q))
    have R1 := R0
    refine g_aL0 dX3_line_78 ?_
    refine g_getR lf_X3_16 (T1.S.l 33 rfl) (T1.S.k 33 rfl rfl) (T1.S.r 33 0 (b := 34) rfl rfl) dX3_line_79 ?_
    refine e_v0u (w_step T1) lm_X3_70 dX3_line_82 (T1.S.l 34 rfl) (T1.S.k 34 rfl rfl) rfl rfl rfl rfl ?_
    have T2 := T1.step
    have P2 := T1.stP P1
    have F2 := T1.stF F1
    have D2 := T1.stD hs D1
    have R2 := R1
    refine g_iL1 dX3_line_85 ?_
    refine g_swIn 2 dX3_line_86 (by decide) rfl ?_
    refine g_aL0 dX3_line_152 ?_
    refine g_v0 (c_viewLine T2 hs R2 D2 hn hnb hN hN4) lm_X3_147 dX3_line_153 (T2.S.l 33 rfl) (T2.S.k 33 rfl rfl) rfl rfl rfl rfl (fun v h3 hq => ?_)
    obtain ⟨t3, ⟨e, ho3, rfl, fe⟩ | ⟨x3, ho3, rfl, f3, T3, D3⟩⟩ := hq
    · refine g_iS2 dX3_line_156 rfl rfl ?_
      refine g_goto dX3_line_157 ?_
      refine g_iL2 dX3_line_215 ?_
      refine g_ifeq dX3_line_216 (fun c216 => ?_) (fun c216 => absurd rfl c216)
      refine g_iL2 dX3_line_232 ?_
      exact g_zret rfl rfl dX3_line_233 rfl rfl ⟨t3.trans P2, Or.inl ⟨_, ((if_pos c58).trans (be ho3)), rfl, fe⟩⟩
    · have P3 := t3.trans P2
      have F3 := f3.trans F2
      have R3 : gR h3 33 5 = some s := by rw [P3.R]; exact hR
      refine g_iS2 dX3_line_156 rfl rfl ?_
      refine g_goto dX3_line_157 ?_
      refine g_iL2 dX3_line_215 ?_
      refine g_ifeq dX3_line_216 (fun c216 => absurd c216 (by decide)) (fun c216 => ?_)
      refine g_aL0 dX3_line_219 ?_
      refine g_getR lf_X3_22 (T3.S.l 33 rfl) (T3.S.k 33 rfl rfl) R3 dX3_line_220 ?_
      refine g_getR lf_X3_63 (T3.S.cl hs 0 rfl) (T3.S.ck hs) (T3.S.cr hs 0 (j := 1) rfl rfl) dX3_line_223 ?_
      refine g_iL1 dX3_line_226 ?_
      refine g_dup2 dX3_line_227 rfl rfl ?_
      refine g_ialoadN (T3.S.cl hs 1 rfl) (T3.S.cka hs 1 rfl rfl) (T3.S.cn hs 1 (n := 11) rfl rfl rfl) (show 3 < 11 from by decide) (by decide) dX3_line_228 ?_
      rw [show gI h3 (s + 1) 3 = x3.2.1 1 3 from D3 1 3 (by decide)]
      refine g_iconst dX3_line_229 ?_
      refine g_iadd dX3_line_230 ?_
      refine g_iastoreN (T3.S.cl hs 1 rfl) (T3.S.cka hs 1 rfl rfl) (T3.S.cn hs 1 (n := 11) rfl rfl rfl) (show 3 < 11 from by decide) (by decide) dX3_line_231 ?_
      have T4 := T3.I (a := (s + 1)) (k := 3) (x3.2.1 1 3 + 1) (by omega) (by omega) (by omega) (by omega) (by omega)
      have P4 := (PQ_I _ (s := s) (a := 1) (k := 3) (x3.2.1 1 3 + 1) (by decide)).trans P3
      have F4 := (FQ_I _ (a := (s + 1)) (k := 3) (x3.2.1 1 3 + 1) (by omega)).trans F3
      have D4 := D3.w 1 3 (x3.2.1 1 3 + 1)
      have R4 := R3
      refine g_iL2 dX3_line_232 ?_
      exact g_zret rfl rfl dX3_line_233 rfl rfl ⟨P4, Or.inr ⟨_, ((if_pos c58).trans (bo ho3 rfl)), rfl, F4, T4, D4⟩⟩
  · refine g_aL0 dX3_line_61 ?_
    refine g_iconst dX3_line_62 ?_
    refine e_v1i (c_fail T0.S _) lm_X3_66 dX3_line_63 (T0.S.l 33 rfl) (T0.S.k 33 rfl rfl) rfl rfl rfl rfl ?_
    exact g_zret rfl rfl dX3_line_66 rfl rfl ⟨((TQ_fl _ _).P s).trans P0, Or.inl ⟨_, (if_neg c58), rfl, FL_fl T0 _⟩⟩
theorem c_line4 {tx : Nat → Int32} {en : Nat} {h : Hp} {q : Nat} {K : List Nm} (T : PT tx en h q K) {s : Nat} (hs : s = 3 ∨ s = 18) (hR : gR h 33 5 = some s) {C : CT} (D : CE h s C) (b : CB C K) (e : lsF tx en q = nI 4) : gC 8 0 0 yX3_line cX3_line 3 (some .boolean) [.ref 33] h (LQ tx en s (pI h 33 6 (nI (tkP tx en q))) (lnB tx en C q 4 7 (corP tx en C (nx tx en q) K))) := by
  have T0 := T
  have P0 := PQ_b s h (nI (tkP tx en q))
  have D0 := D
  have R0 := hR
  obtain ⟨N, hN4, hN⟩ := b.2.1
  refine g_entry (lv := [.ref 33, .retAddr 0, .retAddr 0]) 2 pn_X3 rfl rfl rfl ?_
  refine g_aL0 dX3_line_0 ?_
  refine e_v0i (c_lineSort T0) lm_X3_104 dX3_line_1 (T0.S.l 33 rfl) (T0.S.k 33 rfl rfl) rfl rfl rfl rfl ?_
  rw [e]
  refine g_iS1 dX3_line_4 rfl rfl ?_
  refine g_iL1 dX3_line_5 ?_
  refine g_iconst dX3_line_6 ?_
  refine g_icne dX3_line_7 (fun c7 => ?_) (fun c7 => absurd c7 (by decide))
  refine g_iL1 dX3_line_16 ?_
  refine g_ifeq dX3_line_17 (fun c17 => absurd c17 (by decide)) (fun c17 => ?_)
  refine g_iL1 dX3_line_20 ?_
  refine g_bipush dX3_line_21 ?_
  refine g_icne dX3_line_23 (fun c23 => ?_) (fun c23 => absurd c23 (by decide))
  refine g_aL0 dX3_line_45 ?_
  refine g_getR lf_X3_22 (T0.S.l 33 rfl) (T0.S.k 33 rfl rfl) R0 dX3_line_46 ?_
  refine g_getR lf_X3_63 (T0.S.cl hs 0 rfl) (T0.S.ck hs) (T0.S.cr hs 0 (j := 1) rfl rfl) dX3_line_49 ?_
  refine g_iL1 dX3_line_52 ?_
  refine g_ialoadN (T0.S.cl hs 1 rfl) (T0.S.cka hs 1 rfl rfl) (T0.S.cn hs 1 (n := 11) rfl rfl rfl) (show 4 < 11 from by decide) (by decide) dX3_line_53 ?_
  rw [show gI h (s + 1) 4 = C 1 4 from D 1 4 (by decide)]
  refine g_iL1 dX3_line_54 ?_
  refine e_s1i c_roomFor4 lm_X3_134 dX3_line_55 rfl rfl rfl rfl ?_
  refine g_iclt dX3_line_58 (fun c58 => ?_) (fun c58 => ?_)
  · obtain ⟨n, hn, hnb⟩ := b.n 4 (by decide) (r := 7) (by decide) c58
    refine g_aL0 dX3_line_67 ?_
    refine g_aL0 dX3_line_68 ?_
    refine g_getR lf_X3_16 (T0.S.l 33 rfl) (T0.S.k 33 rfl rfl) (T0.S.r 33 0 (b := 34) rfl rfl) dX3_line_69 ?_
    refine g_gI lf_X3_76 (T0.S.l 34 rfl) (T0.S.k 34 rfl rfl) dX3_line_72 ?_
    rw [T.p]
    refine g_pI0 lf_X3_138 (T0.S.l 33 rfl) (T0.S.k 33 rfl rfl) dX3_line_75 ?_
    have T1 := T0.I (a := 33) (k := 6) (nI (tkP tx en q)) (by omega) (by omega) (by omega) (by omega) (by omega)
    have P1 := PQ.refl s (pI h 33 6 (nI (tkP tx en q)))
    have F1 := FQ.refl (pI h 33 6 (nI (tkP tx en q)))
    have D1 := D0.p33 hs 6 (nI (tkP tx en q))
    have R1 := R0
    refine g_aL0 dX3_line_78 ?_
    refine g_getR lf_X3_16 (T1.S.l 33 rfl) (T1.S.k 33 rfl rfl) (T1.S.r 33 0 (b := 34) rfl rfl) dX3_line_79 ?_
    refine e_v0u (w_step T1) lm_X3_70 dX3_line_82 (T1.S.l 34 rfl) (T1.S.k 34 rfl rfl) rfl rfl rfl rfl ?_
    have T2 := T1.step
    have P2 := T1.stP P1
    have F2 := T1.stF F1
    have D2 := T1.stD hs D1
    have R2 := R1
    refine g_iL1 dX3_line_85 ?_
    refine g_swIn 3 dX3_line_86 (by decide) rfl ?_
    refine g_aL0 dX3_line_160 ?_
    refine g_v0 (c_cornerLine T2 hs R2 D2 hn hnb) lm_X3_150 dX3_line_161 (T2.S.l 33 rfl) (T2.S.k 33 rfl rfl) rfl rfl rfl rfl (fun v h3 hq => ?_)
    obtain ⟨t3, ⟨e, ho3, rfl, fe⟩ | ⟨x3, ho3, rfl, f3, T3, D3⟩⟩ := hq
    · refine g_iS2 dX3_line_164 rfl rfl ?_
      refine g_goto dX3_line_165 ?_
      refine g_iL2 dX3_line_215 ?_
      refine g_ifeq dX3_line_216 (fun c216 => ?_) (fun c216 => absurd rfl c216)
      refine g_iL2 dX3_line_232 ?_
      exact g_zret rfl rfl dX3_line_233 rfl rfl ⟨t3.trans P2, Or.inl ⟨_, ((if_pos c58).trans (be ho3)), rfl, fe⟩⟩
    · have P3 := t3.trans P2
      have F3 := f3.trans F2
      have R3 : gR h3 33 5 = some s := by rw [P3.R]; exact hR
      refine g_iS2 dX3_line_164 rfl rfl ?_
      refine g_goto dX3_line_165 ?_
      refine g_iL2 dX3_line_215 ?_
      refine g_ifeq dX3_line_216 (fun c216 => absurd c216 (by decide)) (fun c216 => ?_)
      refine g_aL0 dX3_line_219 ?_
      refine g_getR lf_X3_22 (T3.S.l 33 rfl) (T3.S.k 33 rfl rfl) R3 dX3_line_220 ?_
      refine g_getR lf_X3_63 (T3.S.cl hs 0 rfl) (T3.S.ck hs) (T3.S.cr hs 0 (j := 1) rfl rfl) dX3_line_223 ?_
      refine g_iL1 dX3_line_226 ?_
      refine g_dup2 dX3_line_227 rfl rfl ?_
      refine g_ialoadN (T3.S.cl hs 1 rfl) (T3.S.cka hs 1 rfl rfl) (T3.S.cn hs 1 (n := 11) rfl rfl rfl) (show 4 < 11 from by decide) (by decide) dX3_line_228 ?_
      rw [show gI h3 (s + 1) 4 = x3.2.1 1 4 from D3 1 4 (by decide)]
      refine g_iconst dX3_line_229 ?_
      refine g_iadd dX3_line_230 ?_
      refine g_iastoreN (T3.S.cl hs 1 rfl) (T3.S.cka hs 1 rfl rfl) (T3.S.cn hs 1 (n := 11) rfl rfl rfl) (show 4 < 11 from by decide) (by decide) dX3_line_231 ?_
      have T4 := T3.I (a := (s + 1)) (k := 4) (x3.2.1 1 4 + 1) (by omega) (by omega) (by omega) (by omega) (by omega)
      have P4 := (PQ_I _ (s := s) (a := 1) (k := 4) (x3.2.1 1 4 + 1) (by decide)).trans P3
      have F4 := (FQ_I _ (a := (s + 1)) (k := 4) (x3.2.1 1 4 + 1) (by omega)).trans F3
      have D4 := D3.w 1 4 (x3.2.1 1 4 + 1)
      have R4 := R3
      refine g_iL2 dX3_line_232 ?_
      exact g_zret rfl rfl dX3_line_233 rfl rfl ⟨P4, Or.inr ⟨_, ((if_pos c58).trans (bo ho3 rfl)), rfl, F4, T4, D4⟩⟩
  · refine g_aL0 dX3_line_61 ?_
    refine g_iconst dX3_line_62 ?_
    refine e_v1i (c_fail T0.S _) lm_X3_66 dX3_line_63 (T0.S.l 33 rfl) (T0.S.k 33 rfl rfl) rfl rfl rfl rfl ?_
    exact g_zret rfl rfl dX3_line_66 rfl rfl ⟨((TQ_fl _ _).P s).trans P0, Or.inl ⟨_, (if_neg c58), rfl, FL_fl T0 _⟩⟩
theorem c_line5 {tx : Nat → Int32} {en : Nat} {h : Hp} {q : Nat} {K : List Nm} (T : PT tx en h q K) {s : Nat} (hs : s = 3 ∨ s = 18) (hR : gR h 33 5 = some s) {C : CT} (D : CE h s C) (b : CB C K) (e : lsF tx en q = nI 5) : gC 8 0 0 yX3_line cX3_line 3 (some .boolean) [.ref 33] h (LQ tx en s (pI h 33 6 (nI (tkP tx en q))) (lnB tx en C q 5 12 (strP tx en C (nx tx en q) K))) := by
  have T0 := T
  have P0 := PQ_b s h (nI (tkP tx en q))
  have D0 := D
  have R0 := hR
  obtain ⟨N, hN4, hN⟩ := b.2.1
  refine g_entry (lv := [.ref 33, .retAddr 0, .retAddr 0]) 2 pn_X3 rfl rfl rfl ?_
  refine g_aL0 dX3_line_0 ?_
  refine e_v0i (c_lineSort T0) lm_X3_104 dX3_line_1 (T0.S.l 33 rfl) (T0.S.k 33 rfl rfl) rfl rfl rfl rfl ?_
  rw [e]
  refine g_iS1 dX3_line_4 rfl rfl ?_
  refine g_iL1 dX3_line_5 ?_
  refine g_iconst dX3_line_6 ?_
  refine g_icne dX3_line_7 (fun c7 => ?_) (fun c7 => absurd c7 (by decide))
  refine g_iL1 dX3_line_16 ?_
  refine g_ifeq dX3_line_17 (fun c17 => absurd c17 (by decide)) (fun c17 => ?_)
  refine g_iL1 dX3_line_20 ?_
  refine g_bipush dX3_line_21 ?_
  refine g_icne dX3_line_23 (fun c23 => ?_) (fun c23 => absurd c23 (by decide))
  refine g_aL0 dX3_line_45 ?_
  refine g_getR lf_X3_22 (T0.S.l 33 rfl) (T0.S.k 33 rfl rfl) R0 dX3_line_46 ?_
  refine g_getR lf_X3_63 (T0.S.cl hs 0 rfl) (T0.S.ck hs) (T0.S.cr hs 0 (j := 1) rfl rfl) dX3_line_49 ?_
  refine g_iL1 dX3_line_52 ?_
  refine g_ialoadN (T0.S.cl hs 1 rfl) (T0.S.cka hs 1 rfl rfl) (T0.S.cn hs 1 (n := 11) rfl rfl rfl) (show 5 < 11 from by decide) (by decide) dX3_line_53 ?_
  rw [show gI h (s + 1) 5 = C 1 5 from D 1 5 (by decide)]
  refine g_iL1 dX3_line_54 ?_
  refine e_s1i c_roomFor5 lm_X3_134 dX3_line_55 rfl rfl rfl rfl ?_
  refine g_iclt dX3_line_58 (fun c58 => ?_) (fun c58 => ?_)
  · obtain ⟨n, hn, hnb⟩ := b.n 5 (by decide) (r := 12) (by decide) c58
    refine g_aL0 dX3_line_67 ?_
    refine g_aL0 dX3_line_68 ?_
    refine g_getR lf_X3_16 (T0.S.l 33 rfl) (T0.S.k 33 rfl rfl) (T0.S.r 33 0 (b := 34) rfl rfl) dX3_line_69 ?_
    refine g_gI lf_X3_76 (T0.S.l 34 rfl) (T0.S.k 34 rfl rfl) dX3_line_72 ?_
    rw [T.p]
    refine g_pI0 lf_X3_138 (T0.S.l 33 rfl) (T0.S.k 33 rfl rfl) dX3_line_75 ?_
    have T1 := T0.I (a := 33) (k := 6) (nI (tkP tx en q)) (by omega) (by omega) (by omega) (by omega) (by omega)
    have P1 := PQ.refl s (pI h 33 6 (nI (tkP tx en q)))
    have F1 := FQ.refl (pI h 33 6 (nI (tkP tx en q)))
    have D1 := D0.p33 hs 6 (nI (tkP tx en q))
    have R1 := R0
    refine g_aL0 dX3_line_78 ?_
    refine g_getR lf_X3_16 (T1.S.l 33 rfl) (T1.S.k 33 rfl rfl) (T1.S.r 33 0 (b := 34) rfl rfl) dX3_line_79 ?_
    refine e_v0u (w_step T1) lm_X3_70 dX3_line_82 (T1.S.l 34 rfl) (T1.S.k 34 rfl rfl) rfl rfl rfl rfl ?_
    have T2 := T1.step
    have P2 := T1.stP P1
    have F2 := T1.stF F1
    have D2 := T1.stD hs D1
    have R2 := R1
    refine g_iL1 dX3_line_85 ?_
    refine g_swIn 4 dX3_line_86 (by decide) rfl ?_
    refine g_aL0 dX3_line_168 ?_
    refine g_v0 (c_streetLine T2 hs R2 D2 b.2.2) lm_X3_153 dX3_line_169 (T2.S.l 33 rfl) (T2.S.k 33 rfl rfl) rfl rfl rfl rfl (fun v h3 hq => ?_)
    obtain ⟨t3, ⟨e, ho3, rfl, fe⟩ | ⟨x3, ho3, rfl, f3, T3, D3⟩⟩ := hq
    · refine g_iS2 dX3_line_172 rfl rfl ?_
      refine g_goto dX3_line_173 ?_
      refine g_iL2 dX3_line_215 ?_
      refine g_ifeq dX3_line_216 (fun c216 => ?_) (fun c216 => absurd rfl c216)
      refine g_iL2 dX3_line_232 ?_
      exact g_zret rfl rfl dX3_line_233 rfl rfl ⟨t3.trans P2, Or.inl ⟨_, ((if_pos c58).trans (be ho3)), rfl, fe⟩⟩
    · have P3 := t3.trans P2
      have F3 := f3.trans F2
      have R3 : gR h3 33 5 = some s := by rw [P3.R]; exact hR
      refine g_iS2 dX3_line_172 rfl rfl ?_
      refine g_goto dX3_line_173 ?_
      refine g_iL2 dX3_line_215 ?_
      refine g_ifeq dX3_line_216 (fun c216 => absurd c216 (by decide)) (fun c216 => ?_)
      refine g_aL0 dX3_line_219 ?_
      refine g_getR lf_X3_22 (T3.S.l 33 rfl) (T3.S.k 33 rfl rfl) R3 dX3_line_220 ?_
      refine g_getR lf_X3_63 (T3.S.cl hs 0 rfl) (T3.S.ck hs) (T3.S.cr hs 0 (j := 1) rfl rfl) dX3_line_223 ?_
      refine g_iL1 dX3_line_226 ?_
      refine g_dup2 dX3_line_227 rfl rfl ?_
      refine g_ialoadN (T3.S.cl hs 1 rfl) (T3.S.cka hs 1 rfl rfl) (T3.S.cn hs 1 (n := 11) rfl rfl rfl) (show 5 < 11 from by decide) (by decide) dX3_line_228 ?_
      rw [show gI h3 (s + 1) 5 = x3.2.1 1 5 from D3 1 5 (by decide)]
      refine g_iconst dX3_line_229 ?_
      refine g_iadd dX3_line_230 ?_
      refine g_iastoreN (T3.S.cl hs 1 rfl) (T3.S.cka hs 1 rfl rfl) (T3.S.cn hs 1 (n := 11) rfl rfl rfl) (show 5 < 11 from by decide) (by decide) dX3_line_231 ?_
      have T4 := T3.I (a := (s + 1)) (k := 5) (x3.2.1 1 5 + 1) (by omega) (by omega) (by omega) (by omega) (by omega)
      have P4 := (PQ_I _ (s := s) (a := 1) (k := 5) (x3.2.1 1 5 + 1) (by decide)).trans P3
      have F4 := (FQ_I _ (a := (s + 1)) (k := 5) (x3.2.1 1 5 + 1) (by omega)).trans F3
      have D4 := D3.w 1 5 (x3.2.1 1 5 + 1)
      have R4 := R3
      refine g_iL2 dX3_line_232 ?_
      exact g_zret rfl rfl dX3_line_233 rfl rfl ⟨P4, Or.inr ⟨_, ((if_pos c58).trans (bo ho3 rfl)), rfl, F4, T4, D4⟩⟩
  · refine g_aL0 dX3_line_61 ?_
    refine g_iconst dX3_line_62 ?_
    refine e_v1i (c_fail T0.S _) lm_X3_66 dX3_line_63 (T0.S.l 33 rfl) (T0.S.k 33 rfl rfl) rfl rfl rfl rfl ?_
    exact g_zret rfl rfl dX3_line_66 rfl rfl ⟨((TQ_fl _ _).P s).trans P0, Or.inl ⟨_, (if_neg c58), rfl, FL_fl T0 _⟩⟩
theorem c_line6 {tx : Nat → Int32} {en : Nat} {h : Hp} {q : Nat} {K : List Nm} (T : PT tx en h q K) {s : Nat} (hs : s = 3 ∨ s = 18) (hR : gR h 33 5 = some s) {C : CT} (D : CE h s C) (b : CB C K) (e : lsF tx en q = nI 6) : gC 8 0 0 yX3_line cX3_line 3 (some .boolean) [.ref 33] h (LQ tx en s (pI h 33 6 (nI (tkP tx en q))) (lnB tx en C q 6 1100 (thiP tx en C (nx tx en q) K))) := by
  have T0 := T
  have P0 := PQ_b s h (nI (tkP tx en q))
  have D0 := D
  have R0 := hR
  obtain ⟨N, hN4, hN⟩ := b.2.1
  refine g_entry (lv := [.ref 33, .retAddr 0, .retAddr 0]) 2 pn_X3 rfl rfl rfl ?_
  refine g_aL0 dX3_line_0 ?_
  refine e_v0i (c_lineSort T0) lm_X3_104 dX3_line_1 (T0.S.l 33 rfl) (T0.S.k 33 rfl rfl) rfl rfl rfl rfl ?_
  rw [e]
  refine g_iS1 dX3_line_4 rfl rfl ?_
  refine g_iL1 dX3_line_5 ?_
  refine g_iconst dX3_line_6 ?_
  refine g_icne dX3_line_7 (fun c7 => ?_) (fun c7 => absurd c7 (by decide))
  refine g_iL1 dX3_line_16 ?_
  refine g_ifeq dX3_line_17 (fun c17 => absurd c17 (by decide)) (fun c17 => ?_)
  refine g_iL1 dX3_line_20 ?_
  refine g_bipush dX3_line_21 ?_
  refine g_icne dX3_line_23 (fun c23 => ?_) (fun c23 => absurd c23 (by decide))
  refine g_aL0 dX3_line_45 ?_
  refine g_getR lf_X3_22 (T0.S.l 33 rfl) (T0.S.k 33 rfl rfl) R0 dX3_line_46 ?_
  refine g_getR lf_X3_63 (T0.S.cl hs 0 rfl) (T0.S.ck hs) (T0.S.cr hs 0 (j := 1) rfl rfl) dX3_line_49 ?_
  refine g_iL1 dX3_line_52 ?_
  refine g_ialoadN (T0.S.cl hs 1 rfl) (T0.S.cka hs 1 rfl rfl) (T0.S.cn hs 1 (n := 11) rfl rfl rfl) (show 6 < 11 from by decide) (by decide) dX3_line_53 ?_
  rw [show gI h (s + 1) 6 = C 1 6 from D 1 6 (by decide)]
  refine g_iL1 dX3_line_54 ?_
  refine e_s1i c_roomFor6 lm_X3_134 dX3_line_55 rfl rfl rfl rfl ?_
  refine g_iclt dX3_line_58 (fun c58 => ?_) (fun c58 => ?_)
  · obtain ⟨n, hn, hnb⟩ := b.n 6 (by decide) (r := 1100) (by decide) c58
    refine g_aL0 dX3_line_67 ?_
    refine g_aL0 dX3_line_68 ?_
    refine g_getR lf_X3_16 (T0.S.l 33 rfl) (T0.S.k 33 rfl rfl) (T0.S.r 33 0 (b := 34) rfl rfl) dX3_line_69 ?_
    refine g_gI lf_X3_76 (T0.S.l 34 rfl) (T0.S.k 34 rfl rfl) dX3_line_72 ?_
    rw [T.p]
    refine g_pI0 lf_X3_138 (T0.S.l 33 rfl) (T0.S.k 33 rfl rfl) dX3_line_75 ?_
    have T1 := T0.I (a := 33) (k := 6) (nI (tkP tx en q)) (by omega) (by omega) (by omega) (by omega) (by omega)
    have P1 := PQ.refl s (pI h 33 6 (nI (tkP tx en q)))
    have F1 := FQ.refl (pI h 33 6 (nI (tkP tx en q)))
    have D1 := D0.p33 hs 6 (nI (tkP tx en q))
    have R1 := R0
    refine g_aL0 dX3_line_78 ?_
    refine g_getR lf_X3_16 (T1.S.l 33 rfl) (T1.S.k 33 rfl rfl) (T1.S.r 33 0 (b := 34) rfl rfl) dX3_line_79 ?_
    refine e_v0u (w_step T1) lm_X3_70 dX3_line_82 (T1.S.l 34 rfl) (T1.S.k 34 rfl rfl) rfl rfl rfl rfl ?_
    have T2 := T1.step
    have P2 := T1.stP P1
    have F2 := T1.stF F1
    have D2 := T1.stD hs D1
    have R2 := R1
    refine g_iL1 dX3_line_85 ?_
    refine g_swIn 5 dX3_line_86 (by decide) rfl ?_
    refine g_aL0 dX3_line_176 ?_
    refine g_v0 (c_thiefLine T2 hs R2 D2 ) lm_X3_156 dX3_line_177 (T2.S.l 33 rfl) (T2.S.k 33 rfl rfl) rfl rfl rfl rfl (fun v h3 hq => ?_)
    obtain ⟨t3, ⟨e, ho3, rfl, fe⟩ | ⟨x3, ho3, rfl, f3, T3, D3⟩⟩ := hq
    · refine g_iS2 dX3_line_180 rfl rfl ?_
      refine g_goto dX3_line_181 ?_
      refine g_iL2 dX3_line_215 ?_
      refine g_ifeq dX3_line_216 (fun c216 => ?_) (fun c216 => absurd rfl c216)
      refine g_iL2 dX3_line_232 ?_
      exact g_zret rfl rfl dX3_line_233 rfl rfl ⟨t3.trans P2, Or.inl ⟨_, ((if_pos c58).trans (be ho3)), rfl, fe⟩⟩
    · have P3 := t3.trans P2
      have F3 := f3.trans F2
      have R3 : gR h3 33 5 = some s := by rw [P3.R]; exact hR
      refine g_iS2 dX3_line_180 rfl rfl ?_
      refine g_goto dX3_line_181 ?_
      refine g_iL2 dX3_line_215 ?_
      refine g_ifeq dX3_line_216 (fun c216 => absurd c216 (by decide)) (fun c216 => ?_)
      refine g_aL0 dX3_line_219 ?_
      refine g_getR lf_X3_22 (T3.S.l 33 rfl) (T3.S.k 33 rfl rfl) R3 dX3_line_220 ?_
      refine g_getR lf_X3_63 (T3.S.cl hs 0 rfl) (T3.S.ck hs) (T3.S.cr hs 0 (j := 1) rfl rfl) dX3_line_223 ?_
      refine g_iL1 dX3_line_226 ?_
      refine g_dup2 dX3_line_227 rfl rfl ?_
      refine g_ialoadN (T3.S.cl hs 1 rfl) (T3.S.cka hs 1 rfl rfl) (T3.S.cn hs 1 (n := 11) rfl rfl rfl) (show 6 < 11 from by decide) (by decide) dX3_line_228 ?_
      rw [show gI h3 (s + 1) 6 = x3.2.1 1 6 from D3 1 6 (by decide)]
      refine g_iconst dX3_line_229 ?_
      refine g_iadd dX3_line_230 ?_
      refine g_iastoreN (T3.S.cl hs 1 rfl) (T3.S.cka hs 1 rfl rfl) (T3.S.cn hs 1 (n := 11) rfl rfl rfl) (show 6 < 11 from by decide) (by decide) dX3_line_231 ?_
      have T4 := T3.I (a := (s + 1)) (k := 6) (x3.2.1 1 6 + 1) (by omega) (by omega) (by omega) (by omega) (by omega)
      have P4 := (PQ_I _ (s := s) (a := 1) (k := 6) (x3.2.1 1 6 + 1) (by decide)).trans P3
      have F4 := (FQ_I _ (a := (s + 1)) (k := 6) (x3.2.1 1 6 + 1) (by omega)).trans F3
      have D4 := D3.w 1 6 (x3.2.1 1 6 + 1)
      have R4 := R3
      refine g_iL2 dX3_line_232 ?_
      exact g_zret rfl rfl dX3_line_233 rfl rfl ⟨P4, Or.inr ⟨_, ((if_pos c58).trans (bo ho3 rfl)), rfl, F4, T4, D4⟩⟩
  · refine g_aL0 dX3_line_61 ?_
    refine g_iconst dX3_line_62 ?_
    refine e_v1i (c_fail T0.S _) lm_X3_66 dX3_line_63 (T0.S.l 33 rfl) (T0.S.k 33 rfl rfl) rfl rfl rfl rfl ?_
    exact g_zret rfl rfl dX3_line_66 rfl rfl ⟨((TQ_fl _ _).P s).trans P0, Or.inl ⟨_, (if_neg c58), rfl, FL_fl T0 _⟩⟩
theorem c_line7 {tx : Nat → Int32} {en : Nat} {h : Hp} {q : Nat} {K : List Nm} (T : PT tx en h q K) {s : Nat} (hs : s = 3 ∨ s = 18) (hR : gR h 33 5 = some s) {C : CT} (D : CE h s C) (b : CB C K) (e : lsF tx en q = nI 7) : gC 8 0 0 yX3_line cX3_line 3 (some .boolean) [.ref 33] h (LQ tx en s (pI h 33 6 (nI (tkP tx en q))) (lnB tx en C q 7 6 (senP tx en C (nx tx en q) K))) := by
  have T0 := T
  have P0 := PQ_b s h (nI (tkP tx en q))
  have D0 := D
  have R0 := hR
  obtain ⟨N, hN4, hN⟩ := b.2.1
  refine g_entry (lv := [.ref 33, .retAddr 0, .retAddr 0]) 2 pn_X3 rfl rfl rfl ?_
  refine g_aL0 dX3_line_0 ?_
  refine e_v0i (c_lineSort T0) lm_X3_104 dX3_line_1 (T0.S.l 33 rfl) (T0.S.k 33 rfl rfl) rfl rfl rfl rfl ?_
  rw [e]
  refine g_iS1 dX3_line_4 rfl rfl ?_
  refine g_iL1 dX3_line_5 ?_
  refine g_iconst dX3_line_6 ?_
  refine g_icne dX3_line_7 (fun c7 => ?_) (fun c7 => absurd c7 (by decide))
  refine g_iL1 dX3_line_16 ?_
  refine g_ifeq dX3_line_17 (fun c17 => absurd c17 (by decide)) (fun c17 => ?_)
  refine g_iL1 dX3_line_20 ?_
  refine g_bipush dX3_line_21 ?_
  refine g_icne dX3_line_23 (fun c23 => ?_) (fun c23 => absurd c23 (by decide))
  refine g_aL0 dX3_line_45 ?_
  refine g_getR lf_X3_22 (T0.S.l 33 rfl) (T0.S.k 33 rfl rfl) R0 dX3_line_46 ?_
  refine g_getR lf_X3_63 (T0.S.cl hs 0 rfl) (T0.S.ck hs) (T0.S.cr hs 0 (j := 1) rfl rfl) dX3_line_49 ?_
  refine g_iL1 dX3_line_52 ?_
  refine g_ialoadN (T0.S.cl hs 1 rfl) (T0.S.cka hs 1 rfl rfl) (T0.S.cn hs 1 (n := 11) rfl rfl rfl) (show 7 < 11 from by decide) (by decide) dX3_line_53 ?_
  rw [show gI h (s + 1) 7 = C 1 7 from D 1 7 (by decide)]
  refine g_iL1 dX3_line_54 ?_
  refine e_s1i c_roomFor7 lm_X3_134 dX3_line_55 rfl rfl rfl rfl ?_
  refine g_iclt dX3_line_58 (fun c58 => ?_) (fun c58 => ?_)
  · obtain ⟨n, hn, hnb⟩ := b.n 7 (by decide) (r := 6) (by decide) c58
    refine g_aL0 dX3_line_67 ?_
    refine g_aL0 dX3_line_68 ?_
    refine g_getR lf_X3_16 (T0.S.l 33 rfl) (T0.S.k 33 rfl rfl) (T0.S.r 33 0 (b := 34) rfl rfl) dX3_line_69 ?_
    refine g_gI lf_X3_76 (T0.S.l 34 rfl) (T0.S.k 34 rfl rfl) dX3_line_72 ?_
    rw [T.p]
    refine g_pI0 lf_X3_138 (T0.S.l 33 rfl) (T0.S.k 33 rfl rfl) dX3_line_75 ?_
    have T1 := T0.I (a := 33) (k := 6) (nI (tkP tx en q)) (by omega) (by omega) (by omega) (by omega) (by omega)
    have P1 := PQ.refl s (pI h 33 6 (nI (tkP tx en q)))
    have F1 := FQ.refl (pI h 33 6 (nI (tkP tx en q)))
    have D1 := D0.p33 hs 6 (nI (tkP tx en q))
    have R1 := R0
    refine g_aL0 dX3_line_78 ?_
    refine g_getR lf_X3_16 (T1.S.l 33 rfl) (T1.S.k 33 rfl rfl) (T1.S.r 33 0 (b := 34) rfl rfl) dX3_line_79 ?_
    refine e_v0u (w_step T1) lm_X3_70 dX3_line_82 (T1.S.l 34 rfl) (T1.S.k 34 rfl rfl) rfl rfl rfl rfl ?_
    have T2 := T1.step
    have P2 := T1.stP P1
    have F2 := T1.stF F1
    have D2 := T1.stD hs D1
    have R2 := R1
    refine g_iL1 dX3_line_85 ?_
    refine g_swIn 6 dX3_line_86 (by decide) rfl ?_
    refine g_aL0 dX3_line_184 ?_
    refine g_v0 (c_sentLine T2 hs R2 D2 hn hnb) lm_X3_159 dX3_line_185 (T2.S.l 33 rfl) (T2.S.k 33 rfl rfl) rfl rfl rfl rfl (fun v h3 hq => ?_)
    obtain ⟨t3, ⟨e, ho3, rfl, fe⟩ | ⟨x3, ho3, rfl, f3, T3, D3⟩⟩ := hq
    · refine g_iS2 dX3_line_188 rfl rfl ?_
      refine g_goto dX3_line_189 ?_
      refine g_iL2 dX3_line_215 ?_
      refine g_ifeq dX3_line_216 (fun c216 => ?_) (fun c216 => absurd rfl c216)
      refine g_iL2 dX3_line_232 ?_
      exact g_zret rfl rfl dX3_line_233 rfl rfl ⟨t3.trans P2, Or.inl ⟨_, ((if_pos c58).trans (be ho3)), rfl, fe⟩⟩
    · have P3 := t3.trans P2
      have F3 := f3.trans F2
      have R3 : gR h3 33 5 = some s := by rw [P3.R]; exact hR
      refine g_iS2 dX3_line_188 rfl rfl ?_
      refine g_goto dX3_line_189 ?_
      refine g_iL2 dX3_line_215 ?_
      refine g_ifeq dX3_line_216 (fun c216 => absurd c216 (by decide)) (fun c216 => ?_)
      refine g_aL0 dX3_line_219 ?_
      refine g_getR lf_X3_22 (T3.S.l 33 rfl) (T3.S.k 33 rfl rfl) R3 dX3_line_220 ?_
      refine g_getR lf_X3_63 (T3.S.cl hs 0 rfl) (T3.S.ck hs) (T3.S.cr hs 0 (j := 1) rfl rfl) dX3_line_223 ?_
      refine g_iL1 dX3_line_226 ?_
      refine g_dup2 dX3_line_227 rfl rfl ?_
      refine g_ialoadN (T3.S.cl hs 1 rfl) (T3.S.cka hs 1 rfl rfl) (T3.S.cn hs 1 (n := 11) rfl rfl rfl) (show 7 < 11 from by decide) (by decide) dX3_line_228 ?_
      rw [show gI h3 (s + 1) 7 = x3.2.1 1 7 from D3 1 7 (by decide)]
      refine g_iconst dX3_line_229 ?_
      refine g_iadd dX3_line_230 ?_
      refine g_iastoreN (T3.S.cl hs 1 rfl) (T3.S.cka hs 1 rfl rfl) (T3.S.cn hs 1 (n := 11) rfl rfl rfl) (show 7 < 11 from by decide) (by decide) dX3_line_231 ?_
      have T4 := T3.I (a := (s + 1)) (k := 7) (x3.2.1 1 7 + 1) (by omega) (by omega) (by omega) (by omega) (by omega)
      have P4 := (PQ_I _ (s := s) (a := 1) (k := 7) (x3.2.1 1 7 + 1) (by decide)).trans P3
      have F4 := (FQ_I _ (a := (s + 1)) (k := 7) (x3.2.1 1 7 + 1) (by omega)).trans F3
      have D4 := D3.w 1 7 (x3.2.1 1 7 + 1)
      have R4 := R3
      refine g_iL2 dX3_line_232 ?_
      exact g_zret rfl rfl dX3_line_233 rfl rfl ⟨P4, Or.inr ⟨_, ((if_pos c58).trans (bo ho3 rfl)), rfl, F4, T4, D4⟩⟩
  · refine g_aL0 dX3_line_61 ?_
    refine g_iconst dX3_line_62 ?_
    refine e_v1i (c_fail T0.S _) lm_X3_66 dX3_line_63 (T0.S.l 33 rfl) (T0.S.k 33 rfl rfl) rfl rfl rfl rfl ?_
    exact g_zret rfl rfl dX3_line_66 rfl rfl ⟨((TQ_fl _ _).P s).trans P0, Or.inl ⟨_, (if_neg c58), rfl, FL_fl T0 _⟩⟩
theorem c_line8 {tx : Nat → Int32} {en : Nat} {h : Hp} {q : Nat} {K : List Nm} (T : PT tx en h q K) {s : Nat} (hs : s = 3 ∨ s = 18) (hR : gR h 33 5 = some s) {C : CT} (D : CE h s C) (b : CB C K) (e : lsF tx en q = nI 8) : gC 8 0 0 yX3_line cX3_line 3 (some .boolean) [.ref 33] h (LQ tx en s (pI h 33 6 (nI (tkP tx en q))) (lnB tx en C q 8 4 (perP tx en C (nx tx en q) K))) := by
  have T0 := T
  have P0 := PQ_b s h (nI (tkP tx en q))
  have D0 := D
  have R0 := hR
  obtain ⟨N, hN4, hN⟩ := b.2.1
  refine g_entry (lv := [.ref 33, .retAddr 0, .retAddr 0]) 2 pn_X3 rfl rfl rfl ?_
  refine g_aL0 dX3_line_0 ?_
  refine e_v0i (c_lineSort T0) lm_X3_104 dX3_line_1 (T0.S.l 33 rfl) (T0.S.k 33 rfl rfl) rfl rfl rfl rfl ?_
  rw [e]
  refine g_iS1 dX3_line_4 rfl rfl ?_
  refine g_iL1 dX3_line_5 ?_
  refine g_iconst dX3_line_6 ?_
  refine g_icne dX3_line_7 (fun c7 => ?_) (fun c7 => absurd c7 (by decide))
  refine g_iL1 dX3_line_16 ?_
  refine g_ifeq dX3_line_17 (fun c17 => absurd c17 (by decide)) (fun c17 => ?_)
  refine g_iL1 dX3_line_20 ?_
  refine g_bipush dX3_line_21 ?_
  refine g_icne dX3_line_23 (fun c23 => ?_) (fun c23 => absurd c23 (by decide))
  refine g_aL0 dX3_line_45 ?_
  refine g_getR lf_X3_22 (T0.S.l 33 rfl) (T0.S.k 33 rfl rfl) R0 dX3_line_46 ?_
  refine g_getR lf_X3_63 (T0.S.cl hs 0 rfl) (T0.S.ck hs) (T0.S.cr hs 0 (j := 1) rfl rfl) dX3_line_49 ?_
  refine g_iL1 dX3_line_52 ?_
  refine g_ialoadN (T0.S.cl hs 1 rfl) (T0.S.cka hs 1 rfl rfl) (T0.S.cn hs 1 (n := 11) rfl rfl rfl) (show 8 < 11 from by decide) (by decide) dX3_line_53 ?_
  rw [show gI h (s + 1) 8 = C 1 8 from D 1 8 (by decide)]
  refine g_iL1 dX3_line_54 ?_
  refine e_s1i c_roomFor8 lm_X3_134 dX3_line_55 rfl rfl rfl rfl ?_
  refine g_iclt dX3_line_58 (fun c58 => ?_) (fun c58 => ?_)
  · obtain ⟨n, hn, hnb⟩ := b.n 8 (by decide) (r := 4) (by decide) c58
    refine g_aL0 dX3_line_67 ?_
    refine g_aL0 dX3_line_68 ?_
    refine g_getR lf_X3_16 (T0.S.l 33 rfl) (T0.S.k 33 rfl rfl) (T0.S.r 33 0 (b := 34) rfl rfl) dX3_line_69 ?_
    refine g_gI lf_X3_76 (T0.S.l 34 rfl) (T0.S.k 34 rfl rfl) dX3_line_72 ?_
    rw [T.p]
    refine g_pI0 lf_X3_138 (T0.S.l 33 rfl) (T0.S.k 33 rfl rfl) dX3_line_75 ?_
    have T1 := T0.I (a := 33) (k := 6) (nI (tkP tx en q)) (by omega) (by omega) (by omega) (by omega) (by omega)
    have P1 := PQ.refl s (pI h 33 6 (nI (tkP tx en q)))
    have F1 := FQ.refl (pI h 33 6 (nI (tkP tx en q)))
    have D1 := D0.p33 hs 6 (nI (tkP tx en q))
    have R1 := R0
    refine g_aL0 dX3_line_78 ?_
    refine g_getR lf_X3_16 (T1.S.l 33 rfl) (T1.S.k 33 rfl rfl) (T1.S.r 33 0 (b := 34) rfl rfl) dX3_line_79 ?_
    refine e_v0u (w_step T1) lm_X3_70 dX3_line_82 (T1.S.l 34 rfl) (T1.S.k 34 rfl rfl) rfl rfl rfl rfl ?_
    have T2 := T1.step
    have P2 := T1.stP P1
    have F2 := T1.stF F1
    have D2 := T1.stD hs D1
    have R2 := R1
    refine g_iL1 dX3_line_85 ?_
    refine g_swIn 7 dX3_line_86 (by decide) rfl ?_
    refine g_aL0 dX3_line_192 ?_
    refine g_bipush dX3_line_193 ?_
    refine g_v1 (c_newNameC T2 hs R2 (k := 8) (by decide) (c := C 1 8) (D2 1 8 (by decide))) lm_X3_162 dX3_line_195 (T2.S.l 33 rfl) (T2.S.k 33 rfl rfl) rfl rfl rfl rfl (fun v h3 hq => ?_)
    obtain ⟨t3, ⟨e, ho3, rfl, fe⟩ | ⟨x3, ho3, rfl, f3, T3⟩⟩ := hq
    · refine g_iS2 dX3_line_198 rfl rfl ?_
      refine g_goto dX3_line_199 ?_
      refine g_iL2 dX3_line_215 ?_
      refine g_ifeq dX3_line_216 (fun c216 => ?_) (fun c216 => absurd rfl c216)
      refine g_iL2 dX3_line_232 ?_
      exact g_zret rfl rfl dX3_line_233 rfl rfl ⟨(t3.P s).trans P2, Or.inl ⟨_, ((if_pos c58).trans (be (be ho3))), rfl, fe⟩⟩
    · have P3 := (t3.P s).trans P2
      have F3 := f3.trans F2
      have D3 := D2.tq hs t3
      have R3 : gR h3 33 5 = some s := by rw [P3.R]; exact hR
      refine g_iS2 dX3_line_198 rfl rfl ?_
      refine g_goto dX3_line_199 ?_
      refine g_iL2 dX3_line_215 ?_
      refine g_ifeq dX3_line_216 (fun c216 => absurd c216 (by decide)) (fun c216 => ?_)
      refine g_aL0 dX3_line_219 ?_
      refine g_getR lf_X3_22 (T3.S.l 33 rfl) (T3.S.k 33 rfl rfl) R3 dX3_line_220 ?_
      refine g_getR lf_X3_63 (T3.S.cl hs 0 rfl) (T3.S.ck hs) (T3.S.cr hs 0 (j := 1) rfl rfl) dX3_line_223 ?_
      refine g_iL1 dX3_line_226 ?_
      refine g_dup2 dX3_line_227 rfl rfl ?_
      refine g_ialoadN (T3.S.cl hs 1 rfl) (T3.S.cka hs 1 rfl rfl) (T3.S.cn hs 1 (n := 11) rfl rfl rfl) (show 8 < 11 from by decide) (by decide) dX3_line_228 ?_
      rw [show gI h3 (s + 1) 8 = C 1 8 from D3 1 8 (by decide)]
      refine g_iconst dX3_line_229 ?_
      refine g_iadd dX3_line_230 ?_
      refine g_iastoreN (T3.S.cl hs 1 rfl) (T3.S.cka hs 1 rfl rfl) (T3.S.cn hs 1 (n := 11) rfl rfl rfl) (show 8 < 11 from by decide) (by decide) dX3_line_231 ?_
      have T4 := T3.I (a := (s + 1)) (k := 8) (C 1 8 + 1) (by omega) (by omega) (by omega) (by omega) (by omega)
      have P4 := (PQ_I _ (s := s) (a := 1) (k := 8) (C 1 8 + 1) (by decide)).trans P3
      have F4 := (FQ_I _ (a := (s + 1)) (k := 8) (C 1 8 + 1) (by omega)).trans F3
      have D4 := D3.w 1 8 (C 1 8 + 1)
      have R4 := R3
      refine g_iL2 dX3_line_232 ?_
      exact g_zret rfl rfl dX3_line_233 rfl rfl ⟨P4, Or.inr ⟨_, ((if_pos c58).trans (bo (bo ho3 rfl) rfl)), rfl, F4, T4, D4⟩⟩
  · refine g_aL0 dX3_line_61 ?_
    refine g_iconst dX3_line_62 ?_
    refine e_v1i (c_fail T0.S _) lm_X3_66 dX3_line_63 (T0.S.l 33 rfl) (T0.S.k 33 rfl rfl) rfl rfl rfl rfl ?_
    exact g_zret rfl rfl dX3_line_66 rfl rfl ⟨((TQ_fl _ _).P s).trans P0, Or.inl ⟨_, (if_neg c58), rfl, FL_fl T0 _⟩⟩
theorem c_line9 {tx : Nat → Int32} {en : Nat} {h : Hp} {q : Nat} {K : List Nm} (T : PT tx en h q K) {s : Nat} (hs : s = 3 ∨ s = 18) (hR : gR h 33 5 = some s) {C : CT} (D : CE h s C) (b : CB C K) (e : lsF tx en q = nI 9) : gC 8 0 0 yX3_line cX3_line 3 (some .boolean) [.ref 33] h (LQ tx en s (pI h 33 6 (nI (tkP tx en q))) (lnB tx en C q 9 8 (shaP tx en C (tkP tx en q) (nx tx en q) K))) := by
  have T0 := T
  have P0 := PQ_b s h (nI (tkP tx en q))
  have D0 := D
  have R0 := hR
  obtain ⟨N, hN4, hN⟩ := b.2.1
  refine g_entry (lv := [.ref 33, .retAddr 0, .retAddr 0]) 2 pn_X3 rfl rfl rfl ?_
  refine g_aL0 dX3_line_0 ?_
  refine e_v0i (c_lineSort T0) lm_X3_104 dX3_line_1 (T0.S.l 33 rfl) (T0.S.k 33 rfl rfl) rfl rfl rfl rfl ?_
  rw [e]
  refine g_iS1 dX3_line_4 rfl rfl ?_
  refine g_iL1 dX3_line_5 ?_
  refine g_iconst dX3_line_6 ?_
  refine g_icne dX3_line_7 (fun c7 => ?_) (fun c7 => absurd c7 (by decide))
  refine g_iL1 dX3_line_16 ?_
  refine g_ifeq dX3_line_17 (fun c17 => absurd c17 (by decide)) (fun c17 => ?_)
  refine g_iL1 dX3_line_20 ?_
  refine g_bipush dX3_line_21 ?_
  refine g_icne dX3_line_23 (fun c23 => ?_) (fun c23 => absurd c23 (by decide))
  refine g_aL0 dX3_line_45 ?_
  refine g_getR lf_X3_22 (T0.S.l 33 rfl) (T0.S.k 33 rfl rfl) R0 dX3_line_46 ?_
  refine g_getR lf_X3_63 (T0.S.cl hs 0 rfl) (T0.S.ck hs) (T0.S.cr hs 0 (j := 1) rfl rfl) dX3_line_49 ?_
  refine g_iL1 dX3_line_52 ?_
  refine g_ialoadN (T0.S.cl hs 1 rfl) (T0.S.cka hs 1 rfl rfl) (T0.S.cn hs 1 (n := 11) rfl rfl rfl) (show 9 < 11 from by decide) (by decide) dX3_line_53 ?_
  rw [show gI h (s + 1) 9 = C 1 9 from D 1 9 (by decide)]
  refine g_iL1 dX3_line_54 ?_
  refine e_s1i c_roomFor9 lm_X3_134 dX3_line_55 rfl rfl rfl rfl ?_
  refine g_iclt dX3_line_58 (fun c58 => ?_) (fun c58 => ?_)
  · obtain ⟨n, hn, hnb⟩ := b.n 9 (by decide) (r := 8) (by decide) c58
    refine g_aL0 dX3_line_67 ?_
    refine g_aL0 dX3_line_68 ?_
    refine g_getR lf_X3_16 (T0.S.l 33 rfl) (T0.S.k 33 rfl rfl) (T0.S.r 33 0 (b := 34) rfl rfl) dX3_line_69 ?_
    refine g_gI lf_X3_76 (T0.S.l 34 rfl) (T0.S.k 34 rfl rfl) dX3_line_72 ?_
    rw [T.p]
    refine g_pI0 lf_X3_138 (T0.S.l 33 rfl) (T0.S.k 33 rfl rfl) dX3_line_75 ?_
    have T1 := T0.I (a := 33) (k := 6) (nI (tkP tx en q)) (by omega) (by omega) (by omega) (by omega) (by omega)
    have P1 := PQ.refl s (pI h 33 6 (nI (tkP tx en q)))
    have F1 := FQ.refl (pI h 33 6 (nI (tkP tx en q)))
    have D1 := D0.p33 hs 6 (nI (tkP tx en q))
    have R1 := R0
    refine g_aL0 dX3_line_78 ?_
    refine g_getR lf_X3_16 (T1.S.l 33 rfl) (T1.S.k 33 rfl rfl) (T1.S.r 33 0 (b := 34) rfl rfl) dX3_line_79 ?_
    refine e_v0u (w_step T1) lm_X3_70 dX3_line_82 (T1.S.l 34 rfl) (T1.S.k 34 rfl rfl) rfl rfl rfl rfl ?_
    have T2 := T1.step
    have P2 := T1.stP P1
    have F2 := T1.stF F1
    have D2 := T1.stD hs D1
    have R2 := R1
    refine g_iL1 dX3_line_85 ?_
    refine g_swIn 8 dX3_line_86 (by decide) rfl ?_
    refine g_aL0 dX3_line_202 ?_
    refine g_v0 (c_shardLine T2 hs R2 D2 hn hnb hN hN4 ((t3_n _ _ _ _ (by omega)).trans (gIs _ _ _ _))) lm_X3_165 dX3_line_203 (T2.S.l 33 rfl) (T2.S.k 33 rfl rfl) rfl rfl rfl rfl (fun v h3 hq => ?_)
    obtain ⟨t3, ⟨e, ho3, rfl, fe⟩ | ⟨x3, ho3, rfl, f3, T3, D3⟩⟩ := hq
    · refine g_iS2 dX3_line_206 rfl rfl ?_
      refine g_goto dX3_line_207 ?_
      refine g_iL2 dX3_line_215 ?_
      refine g_ifeq dX3_line_216 (fun c216 => ?_) (fun c216 => absurd rfl c216)
      refine g_iL2 dX3_line_232 ?_
      exact g_zret rfl rfl dX3_line_233 rfl rfl ⟨t3.trans P2, Or.inl ⟨_, ((if_pos c58).trans (be ho3)), rfl, fe⟩⟩
    · have P3 := t3.trans P2
      have F3 := f3.trans F2
      have R3 : gR h3 33 5 = some s := by rw [P3.R]; exact hR
      refine g_iS2 dX3_line_206 rfl rfl ?_
      refine g_goto dX3_line_207 ?_
      refine g_iL2 dX3_line_215 ?_
      refine g_ifeq dX3_line_216 (fun c216 => absurd c216 (by decide)) (fun c216 => ?_)
      refine g_aL0 dX3_line_219 ?_
      refine g_getR lf_X3_22 (T3.S.l 33 rfl) (T3.S.k 33 rfl rfl) R3 dX3_line_220 ?_
      refine g_getR lf_X3_63 (T3.S.cl hs 0 rfl) (T3.S.ck hs) (T3.S.cr hs 0 (j := 1) rfl rfl) dX3_line_223 ?_
      refine g_iL1 dX3_line_226 ?_
      refine g_dup2 dX3_line_227 rfl rfl ?_
      refine g_ialoadN (T3.S.cl hs 1 rfl) (T3.S.cka hs 1 rfl rfl) (T3.S.cn hs 1 (n := 11) rfl rfl rfl) (show 9 < 11 from by decide) (by decide) dX3_line_228 ?_
      rw [show gI h3 (s + 1) 9 = x3.2.1 1 9 from D3 1 9 (by decide)]
      refine g_iconst dX3_line_229 ?_
      refine g_iadd dX3_line_230 ?_
      refine g_iastoreN (T3.S.cl hs 1 rfl) (T3.S.cka hs 1 rfl rfl) (T3.S.cn hs 1 (n := 11) rfl rfl rfl) (show 9 < 11 from by decide) (by decide) dX3_line_231 ?_
      have T4 := T3.I (a := (s + 1)) (k := 9) (x3.2.1 1 9 + 1) (by omega) (by omega) (by omega) (by omega) (by omega)
      have P4 := (PQ_I _ (s := s) (a := 1) (k := 9) (x3.2.1 1 9 + 1) (by decide)).trans P3
      have F4 := (FQ_I _ (a := (s + 1)) (k := 9) (x3.2.1 1 9 + 1) (by omega)).trans F3
      have D4 := D3.w 1 9 (x3.2.1 1 9 + 1)
      have R4 := R3
      refine g_iL2 dX3_line_232 ?_
      exact g_zret rfl rfl dX3_line_233 rfl rfl ⟨P4, Or.inr ⟨_, ((if_pos c58).trans (bo ho3 rfl)), rfl, F4, T4, D4⟩⟩
  · refine g_aL0 dX3_line_61 ?_
    refine g_iconst dX3_line_62 ?_
    refine e_v1i (c_fail T0.S _) lm_X3_66 dX3_line_63 (T0.S.l 33 rfl) (T0.S.k 33 rfl rfl) rfl rfl rfl rfl ?_
    exact g_zret rfl rfl dX3_line_66 rfl rfl ⟨((TQ_fl _ _).P s).trans P0, Or.inl ⟨_, (if_neg c58), rfl, FL_fl T0 _⟩⟩
theorem c_line10 {tx : Nat → Int32} {en : Nat} {h : Hp} {q : Nat} {K : List Nm} (T : PT tx en h q K) {s : Nat} (hs : s = 3 ∨ s = 18) (hR : gR h 33 5 = some s) {C : CT} (D : CE h s C) (b : CB C K) (e : lsF tx en q = nI 10) : gC 8 0 0 yX3_line cX3_line 3 (some .boolean) [.ref 33] h (LQ tx en s (pI h 33 6 (nI (tkP tx en q))) (if C 1 10 ≤ 0 then lnB tx en C q 10 1100 (sheP tx en C (nx tx en q) K) else er tx en 3 q)) := by
  have T0 := T
  have P0 := PQ_b s h (nI (tkP tx en q))
  have D0 := D
  have R0 := hR
  obtain ⟨N, hN4, hN⟩ := b.2.1
  refine g_entry (lv := [.ref 33, .retAddr 0, .retAddr 0]) 2 pn_X3 rfl rfl rfl ?_
  refine g_aL0 dX3_line_0 ?_
  refine e_v0i (c_lineSort T0) lm_X3_104 dX3_line_1 (T0.S.l 33 rfl) (T0.S.k 33 rfl rfl) rfl rfl rfl rfl ?_
  rw [e]
  refine g_iS1 dX3_line_4 rfl rfl ?_
  refine g_iL1 dX3_line_5 ?_
  refine g_iconst dX3_line_6 ?_
  refine g_icne dX3_line_7 (fun c7 => ?_) (fun c7 => absurd c7 (by decide))
  refine g_iL1 dX3_line_16 ?_
  refine g_ifeq dX3_line_17 (fun c17 => absurd c17 (by decide)) (fun c17 => ?_)
  refine g_iL1 dX3_line_20 ?_
  refine g_bipush dX3_line_21 ?_
  refine g_icne dX3_line_23 (fun c23 => absurd rfl c23) (fun c23 => ?_)
  refine g_aL0 dX3_line_26 ?_
  refine g_getR lf_X3_22 (T0.S.l 33 rfl) (T0.S.k 33 rfl rfl) R0 dX3_line_27 ?_
  refine g_getR lf_X3_63 (T0.S.cl hs 0 rfl) (T0.S.ck hs) (T0.S.cr hs 0 (j := 1) rfl rfl) dX3_line_30 ?_
  refine g_bipush dX3_line_33 ?_
  refine g_ialoadK (T0.S.cl hs 1 rfl) (T0.S.cka hs 1 rfl rfl) (T0.S.cn hs 1 (n := 11) rfl rfl rfl) rfl (j := 10) rfl dX3_line_35 ?_
  rw [show gI h (s + 1) 10 = C 1 10 from D 1 10 (by decide)]
  refine g_ifle dX3_line_36 (fun c36 => ?_) (fun c36 => ?_)
  · refine g_aL0 dX3_line_45 ?_
    refine g_getR lf_X3_22 (T0.S.l 33 rfl) (T0.S.k 33 rfl rfl) R0 dX3_line_46 ?_
    refine g_getR lf_X3_63 (T0.S.cl hs 0 rfl) (T0.S.ck hs) (T0.S.cr hs 0 (j := 1) rfl rfl) dX3_line_49 ?_
    refine g_iL1 dX3_line_52 ?_
    refine g_ialoadN (T0.S.cl hs 1 rfl) (T0.S.cka hs 1 rfl rfl) (T0.S.cn hs 1 (n := 11) rfl rfl rfl) (show 10 < 11 from by decide) (by decide) dX3_line_53 ?_
    rw [show gI h (s + 1) 10 = C 1 10 from D 1 10 (by decide)]
    refine g_iL1 dX3_line_54 ?_
    refine e_s1i c_roomFor10 lm_X3_134 dX3_line_55 rfl rfl rfl rfl ?_
    refine g_iclt dX3_line_58 (fun c58 => ?_) (fun c58 => ?_)
    · obtain ⟨n, hn, hnb⟩ := b.n 10 (by decide) (r := 1100) (by decide) c58
      refine g_aL0 dX3_line_67 ?_
      refine g_aL0 dX3_line_68 ?_
      refine g_getR lf_X3_16 (T0.S.l 33 rfl) (T0.S.k 33 rfl rfl) (T0.S.r 33 0 (b := 34) rfl rfl) dX3_line_69 ?_
      refine g_gI lf_X3_76 (T0.S.l 34 rfl) (T0.S.k 34 rfl rfl) dX3_line_72 ?_
      rw [T.p]
      refine g_pI0 lf_X3_138 (T0.S.l 33 rfl) (T0.S.k 33 rfl rfl) dX3_line_75 ?_
      have T1 := T0.I (a := 33) (k := 6) (nI (tkP tx en q)) (by omega) (by omega) (by omega) (by omega) (by omega)
      have P1 := PQ.refl s (pI h 33 6 (nI (tkP tx en q)))
      have F1 := FQ.refl (pI h 33 6 (nI (tkP tx en q)))
      have D1 := D0.p33 hs 6 (nI (tkP tx en q))
      have R1 := R0
      refine g_aL0 dX3_line_78 ?_
      refine g_getR lf_X3_16 (T1.S.l 33 rfl) (T1.S.k 33 rfl rfl) (T1.S.r 33 0 (b := 34) rfl rfl) dX3_line_79 ?_
      refine e_v0u (w_step T1) lm_X3_70 dX3_line_82 (T1.S.l 34 rfl) (T1.S.k 34 rfl rfl) rfl rfl rfl rfl ?_
      have T2 := T1.step
      have P2 := T1.stP P1
      have F2 := T1.stF F1
      have D2 := T1.stD hs D1
      have R2 := R1
      refine g_iL1 dX3_line_85 ?_
      refine g_swOut dX3_line_86 (by decide) ?_
      refine g_aL0 dX3_line_210 ?_
      refine g_v0 (c_shelfLine T2 hs R2 D2 ) lm_X3_168 dX3_line_211 (T2.S.l 33 rfl) (T2.S.k 33 rfl rfl) rfl rfl rfl rfl (fun v h3 hq => ?_)
      obtain ⟨t3, ⟨e, ho3, rfl, fe⟩ | ⟨x3, ho3, rfl, f3, T3, D3⟩⟩ := hq
      · refine g_iS2 dX3_line_214 rfl rfl ?_
        refine g_iL2 dX3_line_215 ?_
        refine g_ifeq dX3_line_216 (fun c216 => ?_) (fun c216 => absurd rfl c216)
        refine g_iL2 dX3_line_232 ?_
        exact g_zret rfl rfl dX3_line_233 rfl rfl ⟨t3.trans P2, Or.inl ⟨_, (((if_pos c36).trans (if_pos c58)).trans (be ho3)), rfl, fe⟩⟩
      · have P3 := t3.trans P2
        have F3 := f3.trans F2
        have R3 : gR h3 33 5 = some s := by rw [P3.R]; exact hR
        refine g_iS2 dX3_line_214 rfl rfl ?_
        refine g_iL2 dX3_line_215 ?_
        refine g_ifeq dX3_line_216 (fun c216 => absurd c216 (by decide)) (fun c216 => ?_)
        refine g_aL0 dX3_line_219 ?_
        refine g_getR lf_X3_22 (T3.S.l 33 rfl) (T3.S.k 33 rfl rfl) R3 dX3_line_220 ?_
        refine g_getR lf_X3_63 (T3.S.cl hs 0 rfl) (T3.S.ck hs) (T3.S.cr hs 0 (j := 1) rfl rfl) dX3_line_223 ?_
        refine g_iL1 dX3_line_226 ?_
        refine g_dup2 dX3_line_227 rfl rfl ?_
        refine g_ialoadN (T3.S.cl hs 1 rfl) (T3.S.cka hs 1 rfl rfl) (T3.S.cn hs 1 (n := 11) rfl rfl rfl) (show 10 < 11 from by decide) (by decide) dX3_line_228 ?_
        rw [show gI h3 (s + 1) 10 = x3.2.1 1 10 from D3 1 10 (by decide)]
        refine g_iconst dX3_line_229 ?_
        refine g_iadd dX3_line_230 ?_
        refine g_iastoreN (T3.S.cl hs 1 rfl) (T3.S.cka hs 1 rfl rfl) (T3.S.cn hs 1 (n := 11) rfl rfl rfl) (show 10 < 11 from by decide) (by decide) dX3_line_231 ?_
        have T4 := T3.I (a := (s + 1)) (k := 10) (x3.2.1 1 10 + 1) (by omega) (by omega) (by omega) (by omega) (by omega)
        have P4 := (PQ_I _ (s := s) (a := 1) (k := 10) (x3.2.1 1 10 + 1) (by decide)).trans P3
        have F4 := (FQ_I _ (a := (s + 1)) (k := 10) (x3.2.1 1 10 + 1) (by omega)).trans F3
        have D4 := D3.w 1 10 (x3.2.1 1 10 + 1)
        have R4 := R3
        refine g_iL2 dX3_line_232 ?_
        exact g_zret rfl rfl dX3_line_233 rfl rfl ⟨P4, Or.inr ⟨_, (((if_pos c36).trans (if_pos c58)).trans (bo ho3 rfl)), rfl, F4, T4, D4⟩⟩
    · refine g_aL0 dX3_line_61 ?_
      refine g_iconst dX3_line_62 ?_
      refine e_v1i (c_fail T0.S _) lm_X3_66 dX3_line_63 (T0.S.l 33 rfl) (T0.S.k 33 rfl rfl) rfl rfl rfl rfl ?_
      exact g_zret rfl rfl dX3_line_66 rfl rfl ⟨((TQ_fl _ _).P s).trans P0, Or.inl ⟨_, ((if_pos c36).trans (if_neg c58)), rfl, FL_fl T0 _⟩⟩
  · refine g_aL0 dX3_line_39 ?_
    refine g_iconst dX3_line_40 ?_
    refine e_v1i (c_fail T0.S _) lm_X3_66 dX3_line_41 (T0.S.l 33 rfl) (T0.S.k 33 rfl rfl) rfl rfl rfl rfl ?_
    exact g_zret rfl rfl dX3_line_44 rfl rfl ⟨((TQ_fl _ _).P s).trans P0, Or.inl ⟨_, (if_neg c36), rfl, FL_fl T0 _⟩⟩
theorem c_lineN {tx : Nat → Int32} {en : Nat} {h : Hp} {q : Nat} {K : List Nm} (T : PT tx en h q K) {s : Nat} (hs : s = 3 ∨ s = 18) (hR : gR h 33 5 = some s) {C : CT} (D : CE h s C) (b : CB C K) (e : lsF tx en q = -1) : gC 8 0 0 yX3_line cX3_line 3 (some .boolean) [.ref 33] h (LQ tx en s (pI h 33 6 (nI (tkP tx en q))) (er tx en 1 q)) := by
  have T0 := T
  have P0 := PQ_b s h (nI (tkP tx en q))
  have D0 := D
  have R0 := hR
  refine g_entry (lv := [.ref 33, .retAddr 0, .retAddr 0]) 2 pn_X3 rfl rfl rfl ?_
  refine g_aL0 dX3_line_0 ?_
  refine e_v0i (c_lineSort T0) lm_X3_104 dX3_line_1 (T0.S.l 33 rfl) (T0.S.k 33 rfl rfl) rfl rfl rfl rfl ?_
  rw [e]
  refine g_iS1 dX3_line_4 rfl rfl ?_
  refine g_iL1 dX3_line_5 ?_
  refine g_iconst dX3_line_6 ?_
  refine g_icne dX3_line_7 (fun c7 => absurd rfl c7) (fun c7 => ?_)
  refine g_aL0 dX3_line_10 ?_
  refine g_iconst dX3_line_11 ?_
  refine e_v1i (c_fail T0.S _) lm_X3_66 dX3_line_12 (T0.S.l 33 rfl) (T0.S.k 33 rfl rfl) rfl rfl rfl rfl ?_
  exact g_zret rfl rfl dX3_line_15 rfl rfl ⟨((TQ_fl _ _).P s).trans P0, Or.inl ⟨_, rfl, rfl, FL_fl T0 _⟩⟩
theorem c_line0 {tx : Nat → Int32} {en : Nat} {h : Hp} {q : Nat} {K : List Nm} (T : PT tx en h q K) {s : Nat} (hs : s = 3 ∨ s = 18) (hR : gR h 33 5 = some s) {C : CT} (D : CE h s C) (b : CB C K) (e : lsF tx en q = 0) : gC 8 0 0 yX3_line cX3_line 3 (some .boolean) [.ref 33] h (LQ tx en s (pI h 33 6 (nI (tkP tx en q))) (er tx en 3 q)) := by
  have T0 := T
  have P0 := PQ_b s h (nI (tkP tx en q))
  have D0 := D
  have R0 := hR
  refine g_entry (lv := [.ref 33, .retAddr 0, .retAddr 0]) 2 pn_X3 rfl rfl rfl ?_
  refine g_aL0 dX3_line_0 ?_
  refine e_v0i (c_lineSort T0) lm_X3_104 dX3_line_1 (T0.S.l 33 rfl) (T0.S.k 33 rfl rfl) rfl rfl rfl rfl ?_
  rw [e]
  refine g_iS1 dX3_line_4 rfl rfl ?_
  refine g_iL1 dX3_line_5 ?_
  refine g_iconst dX3_line_6 ?_
  refine g_icne dX3_line_7 (fun c7 => ?_) (fun c7 => absurd c7 (by decide))
  refine g_iL1 dX3_line_16 ?_
  refine g_ifeq dX3_line_17 (fun c17 => ?_) (fun c17 => absurd rfl c17)
  refine g_aL0 dX3_line_39 ?_
  refine g_iconst dX3_line_40 ?_
  refine e_v1i (c_fail T0.S _) lm_X3_66 dX3_line_41 (T0.S.l 33 rfl) (T0.S.k 33 rfl rfl) rfl rfl rfl rfl ?_
  exact g_zret rfl rfl dX3_line_44 rfl rfl ⟨((TQ_fl _ _).P s).trans P0, Or.inl ⟨_, rfl, rfl, FL_fl T0 _⟩⟩
theorem c_line {tx : Nat → Int32} {en : Nat} {h : Hp} {q : Nat} {K : List Nm} (T : PT tx en h q K) {s : Nat} (hs : s = 3 ∨ s = 18) (hR : gR h 33 5 = some s) {C : CT} (D : CE h s C) (b : CB C K) : gC 8 0 0 yX3_line cX3_line 3 (some .boolean) [.ref 33] h (LQ tx en s (pI h 33 6 (nI (tkP tx en q))) (lnP tx en C q K)) := by
  have hne : ∀ {a b : Int32}, lsF tx en q = a → ¬ a = b → ¬ lsF tx en q = b := fun h1 h2 h3 => h2 (h1.symm.trans h3)
  unfold lnP
  rcases ls_c tx en q with e | e | e | e | e | e | e | e | e | e | e | e
  · rw [if_pos e]
    exact c_lineN T hs hR D b e
  · rw [if_neg (hne e (show ¬ _ = -1 from by decide)), if_pos e]
    exact c_line0 T hs hR D b e
  · rw [if_neg (hne e (show ¬ _ = -1 from by decide)), if_neg (hne e (show ¬ _ = 0 from by decide)), if_pos e]
    exact c_line1 T hs hR D b e
  · rw [if_neg (hne e (show ¬ _ = -1 from by decide)), if_neg (hne e (show ¬ _ = 0 from by decide)), if_neg (hne e (show ¬ _ = nI 1 from by decide)), if_pos e]
    exact c_line2 T hs hR D b e
  · rw [if_neg (hne e (show ¬ _ = -1 from by decide)), if_neg (hne e (show ¬ _ = 0 from by decide)), if_neg (hne e (show ¬ _ = nI 1 from by decide)), if_neg (hne e (show ¬ _ = nI 2 from by decide)), if_pos e]
    exact c_line3 T hs hR D b e
  · rw [if_neg (hne e (show ¬ _ = -1 from by decide)), if_neg (hne e (show ¬ _ = 0 from by decide)), if_neg (hne e (show ¬ _ = nI 1 from by decide)), if_neg (hne e (show ¬ _ = nI 2 from by decide)), if_neg (hne e (show ¬ _ = nI 3 from by decide)), if_pos e]
    exact c_line4 T hs hR D b e
  · rw [if_neg (hne e (show ¬ _ = -1 from by decide)), if_neg (hne e (show ¬ _ = 0 from by decide)), if_neg (hne e (show ¬ _ = nI 1 from by decide)), if_neg (hne e (show ¬ _ = nI 2 from by decide)), if_neg (hne e (show ¬ _ = nI 3 from by decide)), if_neg (hne e (show ¬ _ = nI 4 from by decide)), if_pos e]
    exact c_line5 T hs hR D b e
  · rw [if_neg (hne e (show ¬ _ = -1 from by decide)), if_neg (hne e (show ¬ _ = 0 from by decide)), if_neg (hne e (show ¬ _ = nI 1 from by decide)), if_neg (hne e (show ¬ _ = nI 2 from by decide)), if_neg (hne e (show ¬ _ = nI 3 from by decide)), if_neg (hne e (show ¬ _ = nI 4 from by decide)), if_neg (hne e (show ¬ _ = nI 5 from by decide)), if_pos e]
    exact c_line6 T hs hR D b e
  · rw [if_neg (hne e (show ¬ _ = -1 from by decide)), if_neg (hne e (show ¬ _ = 0 from by decide)), if_neg (hne e (show ¬ _ = nI 1 from by decide)), if_neg (hne e (show ¬ _ = nI 2 from by decide)), if_neg (hne e (show ¬ _ = nI 3 from by decide)), if_neg (hne e (show ¬ _ = nI 4 from by decide)), if_neg (hne e (show ¬ _ = nI 5 from by decide)), if_neg (hne e (show ¬ _ = nI 6 from by decide)), if_pos e]
    exact c_line7 T hs hR D b e
  · rw [if_neg (hne e (show ¬ _ = -1 from by decide)), if_neg (hne e (show ¬ _ = 0 from by decide)), if_neg (hne e (show ¬ _ = nI 1 from by decide)), if_neg (hne e (show ¬ _ = nI 2 from by decide)), if_neg (hne e (show ¬ _ = nI 3 from by decide)), if_neg (hne e (show ¬ _ = nI 4 from by decide)), if_neg (hne e (show ¬ _ = nI 5 from by decide)), if_neg (hne e (show ¬ _ = nI 6 from by decide)), if_neg (hne e (show ¬ _ = nI 7 from by decide)), if_pos e]
    exact c_line8 T hs hR D b e
  · rw [if_neg (hne e (show ¬ _ = -1 from by decide)), if_neg (hne e (show ¬ _ = 0 from by decide)), if_neg (hne e (show ¬ _ = nI 1 from by decide)), if_neg (hne e (show ¬ _ = nI 2 from by decide)), if_neg (hne e (show ¬ _ = nI 3 from by decide)), if_neg (hne e (show ¬ _ = nI 4 from by decide)), if_neg (hne e (show ¬ _ = nI 5 from by decide)), if_neg (hne e (show ¬ _ = nI 6 from by decide)), if_neg (hne e (show ¬ _ = nI 7 from by decide)), if_neg (hne e (show ¬ _ = nI 8 from by decide)), if_pos e]
    exact c_line9 T hs hR D b e
  · rw [if_neg (hne e (show ¬ _ = -1 from by decide)), if_neg (hne e (show ¬ _ = 0 from by decide)), if_neg (hne e (show ¬ _ = nI 1 from by decide)), if_neg (hne e (show ¬ _ = nI 2 from by decide)), if_neg (hne e (show ¬ _ = nI 3 from by decide)), if_neg (hne e (show ¬ _ = nI 4 from by decide)), if_neg (hne e (show ¬ _ = nI 5 from by decide)), if_neg (hne e (show ¬ _ = nI 6 from by decide)), if_neg (hne e (show ¬ _ = nI 7 from by decide)), if_neg (hne e (show ¬ _ = nI 8 from by decide)), if_neg (hne e (show ¬ _ = nI 9 from by decide))]
    exact c_line10 T hs hR D b e

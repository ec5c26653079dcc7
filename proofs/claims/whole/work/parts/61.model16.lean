/-! THE REFERENCE: walks -/
theorem nI_m1 {j : Nat} (h : 1 ≤ j) : nI j + (-1) = nI (j - 1) := by
  rw [show (-1 : Int32) = - nI 1 from rfl, ← Int32.sub_eq_add_neg]; exact pk_sub h
theorem pwL_id {mi : Nat → Int32} {wb : Nat → Int64 → Int64} {rc : PW → Nat → (Nat → Bool) → Int64 → PW} (hr : ∀ s i bl w, rc s i bl w = s) (a : Nat) (bl : Nat → Bool) (w : Int64) : ∀ (n i : Nat) (s : PW), pwL mi wb rc a bl w n i s = s
  | 0, _, _ => rfl
  | n + 1, i, s => by
    rw [pwL, hr]
    split
    · split <;> exact pwL_id hr a bl w n (i + 1) s
    · exact pwL_id hr a bl w n (i + 1) s
theorem WM.put {h : Hp} {s : PW} {p : List Nat} (r : WM h s p) {j : Nat} (hj : p.length ≤ j) (v : Int32) : WM (pI h 55 j v) s p :=
  ⟨r.1, (gIq (by decide)).trans r.2.1, r.2.2.1, fun i x e => (gIq (by decide)).trans (r.2.2.2.1 i x e), fun i x e => (gIk (by have := (List.getElem?_eq_some_iff.mp e).1; omega)).trans (r.2.2.2.2 i x e)⟩
theorem WM.snoc {h : Hp} {s : PW} {p : List Nat} (r : WM h s p) {i : Nat} (e : gI h 55 p.length = nI i) : WM h s (p ++ [i]) := by
  refine ⟨r.1, r.2.1, r.2.2.1, r.2.2.2.1, fun k x e2 => ?_⟩
  by_cases z : k < p.length
  · rw [List.getElem?_append_left z] at e2
    exact r.2.2.2.2 k x e2
  · have hi := (List.getElem?_eq_some_iff.mp e2).1
    rw [List.length_append] at hi
    have hi2 : k = p.length := by have : [i].length = 1 := rfl; omega
    subst hi2
    rw [List.getElem?_append_right (Nat.le_refl _), Nat.sub_self] at e2
    cases e2
    exact e
theorem mem_sn {p : List Nat} {q i : Nat} : decide (q ∈ p ++ [i]) = (decide (q ∈ p) || decide (q = i)) := by
  rw [← Bool.decide_or]; exact decide_eq_decide.mpr (by rw [List.mem_append, List.mem_singleton])
theorem g_wkB {h : Hp} (S : SX h) {Q : Option Value → Hp → Prop} (so pa fr to us : Int32) {j i : Nat} (h1 : 1 ≤ j) (hj : j < 7) (hi : i < 2147483648) (e : gI h 55 j = nI i) (k : gY 3 0 0 yX10_walks cX10_walks 7 (some .int) 0 0 Q 103 [.ref 50, .int so, .int pa, .int fr, .int to, .int (nI j), .int (us &&& (((1 : Int32) <<< (nI i &&& 31)) ^^^ (-1)))] [] (pI h 55 j (nI (i + 1)))) : gY 3 0 0 yX10_walks cX10_walks 7 (some .int) 0 0 Q 60 [.ref 50, .int so, .int pa, .int fr, .int to, .int (nI j), .int us] [] h := by
  refine g_iL5 dX10_walks_60 ?_
  refine g_ifle dX10_walks_62 (fun c62 => absurd c62 (nI_nle (by omega) (by omega))) (fun c62 => ?_)
  refine g_aL0 dX10_walks_65 ?_
  refine g_getR lf_X10_27 (S.l 50 rfl) (S.k 50 rfl rfl) (S.r 50 25 (b := 55) rfl rfl) dX10_walks_66 ?_
  refine g_iL5 dX10_walks_69 ?_
  refine g_ialoadN (S.l 55 rfl) (S.k 55 rfl rfl) (S.n 55 (n := 7) rfl rfl) hj (by decide) dX10_walks_71 ?_
  rw [e]
  refine g_iconst dX10_walks_72 ?_
  refine g_iceq dX10_walks_73 (fun c73 => absurd c73 (nI_n1 hi)) (fun c73 => ?_)
  refine g_iL6 dX10_walks_76 ?_
  refine g_iconst dX10_walks_78 ?_
  refine g_aL0 dX10_walks_79 ?_
  refine g_getR lf_X10_27 (S.l 50 rfl) (S.k 50 rfl rfl) (S.r 50 25 (b := 55) rfl rfl) dX10_walks_80 ?_
  refine g_iL5 dX10_walks_83 ?_
  refine g_ialoadN (S.l 55 rfl) (S.k 55 rfl rfl) (S.n 55 (n := 7) rfl rfl) hj (by decide) dX10_walks_85 ?_
  rw [e]
  refine g_ishl dX10_walks_86 ?_
  refine g_iconst dX10_walks_87 ?_
  refine g_ixor dX10_walks_88 ?_
  refine g_iand dX10_walks_89 ?_
  refine g_iS6 dX10_walks_90 rfl rfl ?_
  refine g_aL0 dX10_walks_92 ?_
  refine g_getR lf_X10_27 (S.l 50 rfl) (S.k 50 rfl rfl) (S.r 50 25 (b := 55) rfl rfl) dX10_walks_93 ?_
  refine g_iL5 dX10_walks_96 ?_
  refine g_dup2 dX10_walks_98 rfl rfl ?_
  refine g_ialoadN (S.l 55 rfl) (S.k 55 rfl rfl) (S.n 55 (n := 7) rfl rfl) hj (by decide) dX10_walks_99 ?_
  rw [e]
  refine g_iconst dX10_walks_100 ?_
  refine g_iadd dX10_walks_101 ?_
  rw [nI_1]
  refine g_iastoreN (S.l 55 rfl) (S.k 55 rfl rfl) (S.n 55 (n := 7) rfl rfl) hj (by decide) dX10_walks_102 ?_
  exact k
theorem g_wk0 {h : Hp} (S : SX h) {Q : Option Value → Hp → Prop} (so pa fr to us : Int32) {j : Nat} (h1 : 1 ≤ j) (hj : j < 7) (e : gI h 55 j = -1) (k : gY 3 0 0 yX10_walks cX10_walks 7 (some .int) 0 0 Q 103 [.ref 50, .int so, .int pa, .int fr, .int to, .int (nI j), .int us] [] (pI h 55 j (nI 0))) : gY 3 0 0 yX10_walks cX10_walks 7 (some .int) 0 0 Q 60 [.ref 50, .int so, .int pa, .int fr, .int to, .int (nI j), .int us] [] h := by
  refine g_iL5 dX10_walks_60 ?_
  refine g_ifle dX10_walks_62 (fun c62 => absurd c62 (nI_nle (by omega) (by omega))) (fun c62 => ?_)
  refine g_aL0 dX10_walks_65 ?_
  refine g_getR lf_X10_27 (S.l 50 rfl) (S.k 50 rfl rfl) (S.r 50 25 (b := 55) rfl rfl) dX10_walks_66 ?_
  refine g_iL5 dX10_walks_69 ?_
  refine g_ialoadN (S.l 55 rfl) (S.k 55 rfl rfl) (S.n 55 (n := 7) rfl rfl) hj (by decide) dX10_walks_71 ?_
  refine g_iconst dX10_walks_72 ?_
  refine g_iceq dX10_walks_73 (fun c73 => ?_) (fun c73 => absurd e c73)
  refine g_aL0 dX10_walks_92 ?_
  refine g_getR lf_X10_27 (S.l 50 rfl) (S.k 50 rfl rfl) (S.r 50 25 (b := 55) rfl rfl) dX10_walks_93 ?_
  refine g_iL5 dX10_walks_96 ?_
  refine g_dup2 dX10_walks_98 rfl rfl ?_
  refine g_ialoadN (S.l 55 rfl) (S.k 55 rfl rfl) (S.n 55 (n := 7) rfl rfl) hj (by decide) dX10_walks_99 ?_
  rw [e]
  refine g_iconst dX10_walks_100 ?_
  refine g_iadd dX10_walks_101 ?_
  rw [show (-1 : Int32) + 1 = nI 0 from by decide]
  refine g_iastoreN (S.l 55 rfl) (S.k 55 rfl rfl) (S.n 55 (n := 7) rfl rfl) hj (by decide) dX10_walks_102 ?_
  exact k
theorem g_wkL {h0 : Hp} {c : Nat} {cn : Nat → Nat} (X : MX h0 c cn) (so pa to : Int32) (sh : Nat → Bool) (wt : List Nat → Int64) (wb : Nat → Int64 → Int64) (hMB : ∀ h', wmK h' h0 → ∀ x, x < cn 4 → gCi 2 0 0 yX10_mayBe cX10_mayBe 4 (some .boolean) [.ref 50, .int so, .int pa, .int (nI x)] h' (some (.int (if sh x = true then 0 else 1))) h') (hWO : ∀ h', wmK h' h0 → ∀ s p, WM h' s p → p ≠ [] → p.length ≤ 7 → (∀ x ∈ p, x < cn 4) → gCi 0 0 0 yX10_worthOf cX10_worthOf 10 (some .long) [.ref 50, .int so, .int pa, .int (nI p.length)] h' (some (.long (wt p))) h') (hwt : ∀ (p : List Nat) (a i : Nat), p[p.length - 1]? = some a → p.length < 7 → (∀ x ∈ p, x < cn 4) → i < cn 4 → wt (p ++ [i]) = wb (a * 7 + i) (wt p)) (hmi : ∀ j, j < 49 → ¬ gI h0 (c + 6) j < 0) {Q : Option Value → Hp → Prop} (fr : Int32) : ∀ (f : Nat), ∀ (j : Nat) (p : List Nat) (a : Nat) (bl : Nat → Bool), p.length = j → 1 ≤ j → p[j - 1]? = some a → j + f = 6 → (∀ x ∈ p, x < cn 4) → (∀ q, q < 7 → bl q = (sh q || decide (q ∈ p))) → ∀ (n i : Nat) (h : Hp) (s : PW) (us : Int32), i + n = cn 4 → wmK h h0 → WM h s p → gI h 55 j = nI i → (∀ q, q < 7 → bt us q = decide (q ∈ p)) → (∀ h' us', wmK h' h0 → WM h' (pwL (gI h0 (c + 6)) wb (fun s i bl w => pwF (gI h0 (c + 6)) wb to (cn 4) (f + 1) s i p bl w) a bl (wt p) n i s) p → (∀ q, q < 7 → bt us' q = decide (q ∈ p)) → gY 3 0 0 yX10_walks cX10_walks 7 (some .int) 0 0 Q 60 [.ref 50, .int so, .int pa, .int fr, .int to, .int (nI (j - 1)), .int us'] [] h') → gY 3 0 0 yX10_walks cX10_walks 7 (some .int) 0 0 Q 103 [.ref 50, .int so, .int pa, .int fr, .int to, .int (nI j), .int us] [] h := by
  intro f
  induction f using Nat.strongRecOn with
  | _ f ihf =>
    intro j p a bl hp h1 hpa hjf hpC hbl n
    have hj7 : j < 7 := by omega
    have hC7 := X.b4
    have haC : a < cn 4 := hpC a (List.mem_of_getElem? hpa)
    have hc6 := X.M.1
    induction n with
    | zero =>
      intro i h s us hi hk r e hu KK
      have Y := X.wm hk
      refine g_aL0 dX10_walks_103 ?_
      refine g_getR lf_X10_27 (Y.S.l 50 rfl) (Y.S.k 50 rfl rfl) (Y.S.r 50 25 (b := 55) rfl rfl) dX10_walks_104 ?_
      refine g_iL5 dX10_walks_107 ?_
      refine g_ialoadN (Y.S.l 55 rfl) (Y.S.k 55 rfl rfl) (Y.S.n 55 (n := 7) rfl rfl) hj7 (by decide) dX10_walks_109 ?_
      rw [e]
      refine g_aL0 dX10_walks_110 ?_
      refine g_getR lf_X10_359 (Y.S.l 50 rfl) (Y.S.k 50 rfl rfl) Y.C dX10_walks_111 ?_
      refine g_gI lf_X10_300 (Y.M.l 0 rfl) (Y.M.k 0 rfl rfl) dX10_walks_114 ?_
      rw [Y.c4]
      refine g_icge dX10_walks_117 (fun c117 => ?_) (fun c117 => absurd (nI_le (by omega) (by omega)) c117)
      refine g_aL0 dX10_walks_196 ?_
      refine g_getR lf_X10_27 (Y.S.l 50 rfl) (Y.S.k 50 rfl rfl) (Y.S.r 50 25 (b := 55) rfl rfl) dX10_walks_197 ?_
      refine g_iL5 dX10_walks_200 ?_
      refine g_ialoadN (Y.S.l 55 rfl) (Y.S.k 55 rfl rfl) (Y.S.n 55 (n := 7) rfl rfl) hj7 (by decide) dX10_walks_202 ?_
      rw [e]
      refine g_aL0 dX10_walks_203 ?_
      refine g_getR lf_X10_359 (Y.S.l 50 rfl) (Y.S.k 50 rfl rfl) Y.C dX10_walks_204 ?_
      refine g_gI lf_X10_300 (Y.M.l 0 rfl) (Y.M.k 0 rfl rfl) dX10_walks_207 ?_
      rw [Y.c4]
      refine g_iclt dX10_walks_210 (fun c210 => absurd c210 (nI_nlt (by omega) (by omega))) (fun c210 => ?_)
      refine g_ii5 dX10_walks_213 rfl rfl ?_
      refine g_goto dX10_walks_216 ?_
      rw [nI_m1 h1]
      exact KK h us hk r hu
    | succ n ihn =>
      intro i h s us hi hk r e hu KK
      have Y := X.wm hk
      have hiC : i < cn 4 := by omega
      have skip : (pwL (gI h0 (c + 6)) wb (fun s i bl w => pwF (gI h0 (c + 6)) wb to (cn 4) (f + 1) s i p bl w) a bl (wt p) (n + 1) i s) = (pwL (gI h0 (c + 6)) wb (fun s i bl w => pwF (gI h0 (c + 6)) wb to (cn 4) (f + 1) s i p bl w) a bl (wt p) n (i + 1) s) → gY 3 0 0 yX10_walks cX10_walks 7 (some .int) 0 0 Q 182 [.ref 50, .int so, .int pa, .int fr, .int to, .int (nI j), .int us] [] h := by
        intro e2
        refine g_aL0 dX10_walks_182 ?_
        refine g_getR lf_X10_27 (Y.S.l 50 rfl) (Y.S.k 50 rfl rfl) (Y.S.r 50 25 (b := 55) rfl rfl) dX10_walks_183 ?_
        refine g_iL5 dX10_walks_186 ?_
        refine g_dup2 dX10_walks_188 rfl rfl ?_
        refine g_ialoadN (Y.S.l 55 rfl) (Y.S.k 55 rfl rfl) (Y.S.n 55 (n := 7) rfl rfl) hj7 (by decide) dX10_walks_189 ?_
        rw [e]
        refine g_iconst dX10_walks_190 ?_
        refine g_iadd dX10_walks_191 ?_
        rw [nI_1]
        refine g_iastoreN (Y.S.l 55 rfl) (Y.S.k 55 rfl rfl) (Y.S.n 55 (n := 7) rfl rfl) hj7 (by decide) dX10_walks_192 ?_
        refine g_goto dX10_walks_193 ?_
        exact ihn (i + 1) _ s us (by omega) ((wmK_55 h j _).trans hk) (r.put (by omega) _) (gIs _ _ _ _) hu (fun h' u' k r b => KK h' u' k (by rw [e2]; exact r) b)
      have fwd : ¬ i ∈ p → ∀ (h1' : Hp) (s1 : PW) (us1 : Int32), wmK h1' h0 → WM h1' s1 (p ++ [i]) → (∀ q, q < 7 → bt us1 q = decide (q ∈ p ++ [i])) → (pwL (gI h0 (c + 6)) wb (fun s i bl w => pwF (gI h0 (c + 6)) wb to (cn 4) (f + 1) s i p bl w) a bl (wt p) (n + 1) i s) = (pwL (gI h0 (c + 6)) wb (fun s i bl w => pwF (gI h0 (c + 6)) wb to (cn 4) (f + 1) s i p bl w) a bl (wt p) n (i + 1) s1) → gY 3 0 0 yX10_walks cX10_walks 7 (some .int) 0 0 Q 60 [.ref 50, .int so, .int pa, .int fr, .int to, .int (nI j), .int us1] [] h1' := by
        intro hni h1' s1 us1 hk1 r1 hu1 e2
        refine g_wkB (hk1.S X.S) so pa fr to us1 h1 hj7 (by omega) (r1.2.2.2.2 j i (by rw [List.getElem?_append_right (by omega), hp, Nat.sub_self]; rfl)) ?_
        refine ihn (i + 1) _ s1 _ (by omega) ((wmK_55 h1' j _).trans hk1) (r1.less.put (by omega) _) (gIs _ _ _ _) (fun q hq => ?_) (fun h' u' k r b => KK h' u' k (by rw [e2]; exact r) b)
        rw [bt_and, bt_not _ (by omega), bt_1 (by omega) (by omega), hu1 q hq, mem_sn]
        by_cases z : q = i
        · subst z
          rw [decide_eq_false hni, decide_eq_true rfl]; rfl
        · rw [decide_eq_false z, Bool.or_false, Bool.not_false, Bool.and_true]
      have hub : ∀ {i : Nat}, i < 7 → (thF us (nI i) = 0 ↔ ¬ i ∈ p) := by
        intro i hi
        rw [th_iff, bz0 us (by omega), hu i hi]
        exact ⟨fun z => of_decide_eq_false z, fun z => decide_eq_false z⟩
      have hpx : gI h 55 (j - 1) = nI a := r.2.2.2.2 _ _ hpa
      refine g_aL0 dX10_walks_103 ?_
      refine g_getR lf_X10_27 (Y.S.l 50 rfl) (Y.S.k 50 rfl rfl) (Y.S.r 50 25 (b := 55) rfl rfl) dX10_walks_104 ?_
      refine g_iL5 dX10_walks_107 ?_
      refine g_ialoadN (Y.S.l 55 rfl) (Y.S.k 55 rfl rfl) (Y.S.n 55 (n := 7) rfl rfl) hj7 (by decide) dX10_walks_109 ?_
      rw [e]
      refine g_aL0 dX10_walks_110 ?_
      refine g_getR lf_X10_359 (Y.S.l 50 rfl) (Y.S.k 50 rfl rfl) Y.C dX10_walks_111 ?_
      refine g_gI lf_X10_300 (Y.M.l 0 rfl) (Y.M.k 0 rfl rfl) dX10_walks_114 ?_
      rw [Y.c4]
      refine g_icge dX10_walks_117 (fun c117 => absurd c117 (nI_ge hiC (by omega))) (fun c117 => ?_)
      refine g_iL6 dX10_walks_120 ?_
      refine g_aL0 dX10_walks_122 ?_
      refine g_getR lf_X10_27 (Y.S.l 50 rfl) (Y.S.k 50 rfl rfl) (Y.S.r 50 25 (b := 55) rfl rfl) dX10_walks_123 ?_
      refine g_iL5 dX10_walks_126 ?_
      refine g_ialoadN (Y.S.l 55 rfl) (Y.S.k 55 rfl rfl) (Y.S.n 55 (n := 7) rfl rfl) hj7 (by decide) dX10_walks_128 ?_
      rw [e]
      refine e_s2i (d_bit _ _) lm_X10_367 dX10_walks_129 rfl rfl rfl rfl ?_
      refine g_ifne dX10_walks_132 (fun c132 => ?_) (fun c132 => ?_)
      · refine skip ?_
        have hb1 : ¬ bl i = false := by
          rw [hbl i (by omega), decide_eq_true (Decidable.not_not.mp (fun z => c132 ((hub (by omega)).mpr z))), Bool.or_true]; exact Bool.noConfusion
        exact if_neg hb1
      · refine g_aL0 dX10_walks_135 ?_
        refine g_getR lf_X10_359 (Y.S.l 50 rfl) (Y.S.k 50 rfl rfl) Y.C dX10_walks_136 ?_
        refine g_getRn lf_X10_312 (Y.M.l 0 rfl) (Y.M.k 0 rfl rfl) (Y.M.r 20 (j := 6) rfl) dX10_walks_139 ?_
        refine g_bipush dX10_walks_142 ?_
        refine g_aL0 dX10_walks_144 ?_
        refine g_getR lf_X10_27 (Y.S.l 50 rfl) (Y.S.k 50 rfl rfl) (Y.S.r 50 25 (b := 55) rfl rfl) dX10_walks_145 ?_
        refine g_iL5 dX10_walks_148 ?_
        refine g_iconst dX10_walks_150 ?_
        refine g_isub dX10_walks_151 ?_
        rw [show nI j - 1 = nI (j - 1) from pk_sub (b := 1) h1]
        refine g_ialoadN (Y.S.l 55 rfl) (Y.S.k 55 rfl rfl) (Y.S.n 55 (n := 7) rfl rfl) (by omega) (by decide) dX10_walks_152 ?_
        rw [hpx]
        refine g_imul dX10_walks_153 ?_
        rw [show (7 : Int32) * nI a = nI (7 * a) from pk_mul 7 a]
        refine g_aL0 dX10_walks_154 ?_
        refine g_getR lf_X10_27 (Y.S.l 50 rfl) (Y.S.k 50 rfl rfl) (Y.S.r 50 25 (b := 55) rfl rfl) dX10_walks_155 ?_
        refine g_iL5 dX10_walks_158 ?_
        refine g_ialoadN (Y.S.l 55 rfl) (Y.S.k 55 rfl rfl) (Y.S.n 55 (n := 7) rfl rfl) hj7 (by decide) dX10_walks_160 ?_
        rw [e]
        refine g_iadd dX10_walks_161 ?_
        rw [nI_add, show 7 * a + i = a * 7 + i by omega]
        refine g_ialoadN (Y.M.l 6 rfl) (Y.M.k 6 rfl rfl) (Y.M.n 6 (n := 49) rfl rfl) (by omega) (by decide) dX10_walks_162 ?_
        rw [show gI h (c + 6) = gI h0 (c + 6) from hk.f (by omega) (by omega) (by omega)]
        refine g_ifeq dX10_walks_163 (fun c163 => ?_) (fun c163 => ?_)
        · refine skip ?_
          have hz : gI h0 (c + 6) (a * 7 + i) ≤ 0 := by rw [c163]; decide
          by_cases hb1 : bl i = false
          · exact (if_pos hb1).trans (if_pos hz)
          · exact if_neg hb1
        · refine g_aL0 dX10_walks_166 ?_
          refine g_iL1 dX10_walks_167 ?_
          refine g_iL2 dX10_walks_168 ?_
          refine g_aL0 dX10_walks_169 ?_
          refine g_getR lf_X10_27 (Y.S.l 50 rfl) (Y.S.k 50 rfl rfl) (Y.S.r 50 25 (b := 55) rfl rfl) dX10_walks_170 ?_
          refine g_iL5 dX10_walks_173 ?_
          refine g_ialoadN (Y.S.l 55 rfl) (Y.S.k 55 rfl rfl) (Y.S.n 55 (n := 7) rfl rfl) hj7 (by decide) dX10_walks_175 ?_
          rw [e]
          refine e_v3i (hMB h hk i hiC) lm_X10_417 dX10_walks_176 (Y.S.l 50 rfl) (Y.S.k 50 rfl rfl) rfl rfl rfl rfl ?_
          refine g_ifne dX10_walks_179 (fun c179 => ?_) (fun c179 => ?_)
          · refine g_aL0 dX10_walks_196 ?_
            refine g_getR lf_X10_27 (Y.S.l 50 rfl) (Y.S.k 50 rfl rfl) (Y.S.r 50 25 (b := 55) rfl rfl) dX10_walks_197 ?_
            refine g_iL5 dX10_walks_200 ?_
            refine g_ialoadN (Y.S.l 55 rfl) (Y.S.k 55 rfl rfl) (Y.S.n 55 (n := 7) rfl rfl) hj7 (by decide) dX10_walks_202 ?_
            rw [e]
            refine g_aL0 dX10_walks_203 ?_
            refine g_getR lf_X10_359 (Y.S.l 50 rfl) (Y.S.k 50 rfl rfl) Y.C dX10_walks_204 ?_
            refine g_gI lf_X10_300 (Y.M.l 0 rfl) (Y.M.k 0 rfl rfl) dX10_walks_207 ?_
            rw [Y.c4]
            refine g_iclt dX10_walks_210 (fun c210 => ?_) (fun c210 => absurd (nI_lt hiC (by omega)) c210)
            have hni : ¬ i ∈ p := (hub (by omega)).mp c132
            have hs : sh i = false := by
              cases hq : sh i with
              | false => rfl
              | true => rw [hq] at c179; exact absurd rfl c179
            have hb1 : bl i = false := by rw [hbl i (by omega), hs, decide_eq_false hni]; rfl
            have hm1 : ¬ gI h0 (c + 6) (a * 7 + i) ≤ 0 := fun z => by
              rcases Int32.lt_or_eq_of_le z with y | y
              · exact hmi _ (by omega) y
              · exact c163 y
            have rs : WM h s (p ++ [i]) := r.snoc (by rw [hp]; exact e)
            have hus : (∀ q, q < 7 → bt (us ||| ((1 : Int32) <<< (nI i &&& 31))) q = decide (q ∈ p ++ [i])) := fun q hq => by
              rw [bt_or, bt_1 (by omega) (by omega), hu q hq, mem_sn]
            have hpi : ∀ x ∈ p ++ [i], x < cn 4 := fun x hx => by
              rcases List.mem_append.mp hx with z | z
              · exact hpC x z
              · rw [List.mem_singleton.mp z]; exact hiC
            have hpl : (p ++ [i]).length = j + 1 := by rw [List.length_append, hp]; rfl
            have hst : (pwL (gI h0 (c + 6)) wb (fun s i bl w => pwF (gI h0 (c + 6)) wb to (cn 4) (f + 1) s i p bl w) a bl (wt p) (n + 1) i s) = (pwL (gI h0 (c + 6)) wb (fun s i bl w => pwF (gI h0 (c + 6)) wb to (cn 4) (f + 1) s i p bl w) a bl (wt p) n (i + 1) (pwF (gI h0 (c + 6)) wb to (cn 4) (f + 1) s i p (fun q => bl q || decide (q = i)) (wb (a * 7 + i) (wt p)))) := (if_pos hb1).trans (if_neg hm1)
            rw [← hwt p a i (by rw [hp]; exact hpa) (by omega) hpC hiC] at hst
            refine g_iL6 dX10_walks_219 ?_
            refine g_iconst dX10_walks_221 ?_
            refine g_aL0 dX10_walks_222 ?_
            refine g_getR lf_X10_27 (Y.S.l 50 rfl) (Y.S.k 50 rfl rfl) (Y.S.r 50 25 (b := 55) rfl rfl) dX10_walks_223 ?_
            refine g_iL5 dX10_walks_226 ?_
            refine g_ialoadN (Y.S.l 55 rfl) (Y.S.k 55 rfl rfl) (Y.S.n 55 (n := 7) rfl rfl) hj7 (by decide) dX10_walks_228 ?_
            rw [e]
            refine g_ishl dX10_walks_229 ?_
            refine g_ior dX10_walks_230 ?_
            refine g_iS6 dX10_walks_231 rfl rfl ?_
            refine g_aL0 dX10_walks_233 ?_
            refine g_getR lf_X10_27 (Y.S.l 50 rfl) (Y.S.k 50 rfl rfl) (Y.S.r 50 25 (b := 55) rfl rfl) dX10_walks_234 ?_
            refine g_iL5 dX10_walks_237 ?_
            refine g_ialoadN (Y.S.l 55 rfl) (Y.S.k 55 rfl rfl) (Y.S.n 55 (n := 7) rfl rfl) hj7 (by decide) dX10_walks_239 ?_
            rw [e]
            refine g_iL4 dX10_walks_240 ?_
            refine g_icne dX10_walks_242 (fun c242 => ?_) (fun c242 => ?_)
            · refine g_iL5 dX10_walks_258 ?_
              refine g_iconst dX10_walks_260 ?_
              refine g_iadd dX10_walks_261 ?_
              refine g_bipush dX10_walks_262 ?_
              refine g_icge dX10_walks_264 (fun c264 => ?_) (fun c264 => ?_)
              · obtain rfl : f = 0 := by
                  rw [nI_1, show (7 : Int32) = nI 7 from rfl] at c264
                  have := (nI_leI (by omega) (by omega)).mp c264
                  omega
                exact fwd hni _ _ _ hk rs hus (hst.trans (by rw [show pwF (gI h0 (c + 6)) wb to (cn 4) (0 + 1) s i p (fun q => bl q || decide (q = i)) (wt (p ++ [i])) = s from (if_neg c242).trans (pwL_id (fun _ _ _ _ => rfl) _ _ _ _ _ _)]))
              · have hj2 : j + 1 < 7 := by
                  rw [nI_1, show (7 : Int32) = nI 7 from rfl] at c264
                  rcases Nat.lt_or_ge (j + 1) 7 with z | z
                  · exact z
                  · exact absurd (nI_le z (by omega)) c264
                refine g_ii5 dX10_walks_267 rfl rfl ?_
                refine g_aL0 dX10_walks_270 ?_
                refine g_getR lf_X10_27 (Y.S.l 50 rfl) (Y.S.k 50 rfl rfl) (Y.S.r 50 25 (b := 55) rfl rfl) dX10_walks_271 ?_
                refine g_iL5 dX10_walks_274 ?_
                refine g_iconst dX10_walks_276 ?_
                rw [nI_1]
                refine g_iastoreN (Y.S.l 55 rfl) (Y.S.k 55 rfl rfl) (Y.S.n 55 (n := 7) rfl rfl) (by omega) (by decide) dX10_walks_277 ?_
                refine g_goto dX10_walks_278 ?_
                have hj2 : j + 1 < 7 := hj2
                obtain ⟨f, rfl⟩ : ∃ f', f = f' + 1 := ⟨f - 1, by omega⟩
                refine g_wk0 (((wmK_55 h (j + 1) (-1)).trans hk).S X.S) so pa fr to _ (by omega) hj2 (gIs _ _ _ _) ?_
                refine ihf f (by omega) (j + 1) (p ++ [i]) i (fun q => bl q || decide (q = i)) hpl (by omega) (by rw [Nat.add_sub_cancel, List.getElem?_append_right (by omega), hp, Nat.sub_self]; rfl) (by omega) hpi (fun q hq => by rw [hbl q hq, mem_sn, Bool.or_assoc]) (cn 4) 0 _ s _ (by omega) ((wmK_55 _ _ _).trans ((wmK_55 h (j + 1) (-1)).trans hk)) ((rs.put (by omega) _).put (by omega) _) (gIs _ _ _ _) hus (fun h' u' k' r' b' => ?_)
                rw [Nat.add_sub_cancel]
                exact fwd hni h' _ u' k' r' b' (hst.trans (by rw [show pwF (gI h0 (c + 6)) wb to (cn 4) (f + 1 + 1) s i p (fun q => bl q || decide (q = i)) (wt (p ++ [i])) = _ from if_neg c242]))
            · have W := hWO h hk s (p ++ [i]) rs (fun z => by rw [z] at hpl; cases hpl) (by omega) hpi
              rw [hpl] at W
              refine g_aL0 dX10_walks_245 ?_
              refine g_iL1 dX10_walks_246 ?_
              refine g_iL2 dX10_walks_247 ?_
              refine g_iL5 dX10_walks_248 ?_
              refine g_iconst dX10_walks_250 ?_
              refine g_iadd dX10_walks_251 ?_
              rw [nI_1]
              refine e_v3u (d_ends (hk.S X.S) so pa (by omega) W) lm_X10_420 dX10_walks_252 (Y.S.l 50 rfl) (Y.S.k 50 rfl rfl) rfl rfl rfl rfl ?_
              refine g_goto dX10_walks_255 ?_
              have r9 := WM_en (p := p ++ [i]) (by omega) rs (wt (p ++ [i]))
              rw [hpl] at r9
              exact fwd hni _ _ _ ((wmK_en h _ _).trans hk) r9 hus (hst.trans (by rw [show pwF (gI h0 (c + 6)) wb to (cn 4) (f + 1) s i p (fun q => bl q || decide (q = i)) (wt (p ++ [i])) = pwK s (p ++ [i]) (wt (p ++ [i])) from if_pos c242]))
          · refine skip ?_
            have hs : sh i = true := by
              cases hq : sh i with
              | true => rfl
              | false => rw [hq] at c179; exact absurd c179 (by decide)
            have hb1 : ¬ bl i = false := by
              rw [hbl i (by omega), hs, Bool.true_or]; exact Bool.noConfusion
            exact if_neg hb1
theorem d_walks {h0 : Hp} {c : Nat} {cn : Nat → Nat} (X : MX h0 c cn) (so pa to : Int32) (sh : Nat → Bool) (wt : List Nat → Int64) (wb : Nat → Int64 → Int64) (hMB : ∀ h', wmK h' h0 → ∀ x, x < cn 4 → gCi 2 0 0 yX10_mayBe cX10_mayBe 4 (some .boolean) [.ref 50, .int so, .int pa, .int (nI x)] h' (some (.int (if sh x = true then 0 else 1))) h') (hWO : ∀ h', wmK h' h0 → ∀ s p, WM h' s p → p ≠ [] → p.length ≤ 7 → (∀ x ∈ p, x < cn 4) → gCi 0 0 0 yX10_worthOf cX10_worthOf 10 (some .long) [.ref 50, .int so, .int pa, .int (nI p.length)] h' (some (.long (wt p))) h') (hwt : ∀ (p : List Nat) (a i : Nat), p[p.length - 1]? = some a → p.length < 7 → (∀ x ∈ p, x < cn 4) → i < cn 4 → wt (p ++ [i]) = wb (a * 7 + i) (wt p)) (hmi : ∀ j, j < 49 → ¬ gI h0 (c + 6) j < 0) {F : Nat} (hF : F < cn 4) : gC 3 0 0 yX10_walks cX10_walks 7 (some .int) [.ref 50, .int so, .int pa, .int (nI F), .int to] h0 (fun v h' => v = some (.int (nI (if sh F = false then pwF (gI h0 (c + 6)) wb to (cn 4) 7 ([], 0) F [] (fun j => sh j || decide (j = F)) (wt [F]) else ([], 0)).1.length)) ∧ WM h' (if sh F = false then pwF (gI h0 (c + 6)) wb to (cn 4) 7 ([], 0) F [] (fun j => sh j || decide (j = F)) (wt [F]) else ([], 0)) [] ∧ wmK h' h0) := by
  have hC7 := X.b4
  have S := X.S
  generalize hs : (if sh F = false then pwF (gI h0 (c + 6)) wb to (cn 4) 7 ([], 0) F [] (fun j => sh j || decide (j = F)) (wt [F]) else ([], 0)) = s1
  refine g_entry (lv := [.ref 50, .int so, .int pa, .int (nI F), .int to, .retAddr 0, .retAddr 0]) 2 pn_X10 rfl rfl rfl ?_
  have k1 : wmK (pI (pI h0 50 27 0) 55 0 (nI F)) h0 := (wmK_55 _ _ _).trans (wmK_27 _ _)
  have r1 : WM (pI (pI h0 50 27 0) 55 0 (nI F)) ([], 0) [F] := WM.snoc (p := []) (show WM (pI (pI h0 50 27 0) 55 0 (nI F)) ([], 0) [] from ⟨by decide, rfl, fun z => absurd rfl z, (fun i x e => by cases e), (fun i x e => by cases e)⟩) rfl
  refine g_aL0 dX10_walks_0 ?_
  refine g_iconst dX10_walks_1 ?_
  refine g_pI0 lf_X10_414 (S.l 50 rfl) (S.k 50 rfl rfl) dX10_walks_2 ?_
  refine g_iconst dX10_walks_5 ?_
  refine g_iS5 dX10_walks_6 rfl rfl ?_
  refine g_aL0 dX10_walks_8 ?_
  refine g_getR lf_X10_27 (S.l 50 rfl) (S.k 50 rfl rfl) (S.r 50 25 (b := 55) rfl rfl) dX10_walks_9 ?_
  refine g_iconst dX10_walks_12 ?_
  refine g_iL3 dX10_walks_13 ?_
  refine g_iastoreK (S.l 55 rfl) (S.k 55 rfl rfl) (S.n 55 (n := 7) rfl rfl) rfl (j := 0) rfl dX10_walks_14 ?_
  refine g_aL0 dX10_walks_15 ?_
  refine g_iL1 dX10_walks_16 ?_
  refine g_iL2 dX10_walks_17 ?_
  refine g_iL3 dX10_walks_18 ?_
  refine e_v3i (hMB _ k1 F hF) lm_X10_417 dX10_walks_19 (S.l 50 rfl) (S.k 50 rfl rfl) rfl rfl rfl rfl ?_
  show gY _ _ _ _ _ _ _ _ _ _ _ _ _ (pI (pI h0 50 27 0) 55 0 (nI F))
  refine g_ifne dX10_walks_22 (fun c22 => ?_) (fun c22 => ?_)
  · have hsh : sh F = false := by
      cases hq : sh F with
      | false => rfl
      | true => rw [hq] at c22; exact absurd rfl c22
    rw [if_pos hsh] at hs
    refine g_iL3 dX10_walks_27 ?_
    refine g_iL4 dX10_walks_28 ?_
    refine g_icne dX10_walks_30 (fun c30 => ?_) (fun c30 => ?_)
    · refine g_iconst dX10_walks_45 ?_
      refine g_iL3 dX10_walks_46 ?_
      refine g_ishl dX10_walks_47 ?_
      refine g_iS6 dX10_walks_48 rfl rfl ?_
      refine g_iconst dX10_walks_50 ?_
      refine g_iS5 dX10_walks_51 rfl rfl ?_
      refine g_aL0 dX10_walks_53 ?_
      refine g_getR lf_X10_27 (S.l 50 rfl) (S.k 50 rfl rfl) (S.r 50 25 (b := 55) rfl rfl) dX10_walks_54 ?_
      refine g_iconst dX10_walks_57 ?_
      refine g_iconst dX10_walks_58 ?_
      refine g_iastoreK (S.l 55 rfl) (S.k 55 rfl rfl) (S.n 55 (n := 7) rfl rfl) rfl (j := 1) rfl dX10_walks_59 ?_
      rw [show pwF (gI h0 (c + 6)) wb to (cn 4) 7 ([], 0) F [] (fun j => sh j || decide (j = F)) (wt [F]) = _ from if_neg c30] at hs
      refine g_wk0 (((wmK_55 _ 1 (-1)).trans k1).S X.S) so pa (nI F) to _ (j := 1) (by omega) (by omega) (gIs _ _ _ _) ?_
      refine g_wkL X so pa to sh wt wb hMB hWO hwt hmi (nI F) 5 1 [F] F (fun j => sh j || decide (j = F)) rfl (by omega) rfl rfl (fun x hx => by rw [List.mem_singleton.mp hx]; exact hF) (fun q hq => by rw [show decide (q ∈ [F]) = decide (q = F) from decide_eq_decide.mpr List.mem_singleton]) (cn 4) 0 _ ([], 0) _ (by omega) ((wmK_55 _ _ _).trans ((wmK_55 _ 1 (-1)).trans k1)) ((r1.put (show 1 ≤ 1 by decide) _).put (show 1 ≤ 1 by decide) _) (gIs _ _ _ _) (fun q hq => by rw [bt_1 (by omega) (by omega)]; exact decide_eq_decide.mpr List.mem_singleton.symm) (fun h' u' k' r' b' => ?_)
      have S := k'.S X.S
      rw [show (pwL (gI h0 (c + 6)) wb (fun s i bl w => pwF (gI h0 (c + 6)) wb to (cn 4) (5 + 1) s i [F] bl w) F (fun j => sh j || decide (j = F)) (wt [F]) (cn 4) 0 ([], 0)) = s1 from hs] at r'
      refine g_iL5 dX10_walks_60 ?_
      refine g_ifle dX10_walks_62 (fun c62 => ?_) (fun c62 => absurd (by decide) c62)
      refine g_aL0 dX10_walks_281 ?_
      refine g_gI lf_X10_414 (S.l 50 rfl) (S.k 50 rfl rfl) dX10_walks_282 ?_
      exact g_iret rfl dX10_walks_285 rfl rfl ⟨by rw [show gI h' 50 27 = nI s1.1.length from r'.2.1], WM.less (p := []) r', k'⟩
    · rw [show pwF (gI h0 (c + 6)) wb to (cn 4) 7 ([], 0) F [] (fun j => sh j || decide (j = F)) (wt [F]) = ([F], wt [F]) from if_pos c30] at hs
      subst hs
      have W := hWO _ k1 ([], 0) [F] r1 (fun z => by cases z) (show 1 ≤ 7 by decide) (fun x hx => by rw [List.mem_singleton.mp hx]; exact hF)
      have r9 := WM_en (p := [F]) (show 1 ≤ 7 by decide) r1 (wt [F])
      refine g_aL0 dX10_walks_33 ?_
      refine g_iL1 dX10_walks_34 ?_
      refine g_iL2 dX10_walks_35 ?_
      refine g_iconst dX10_walks_36 ?_
      rw [show (1 : Int32) = nI [F].length from rfl]
      refine e_v3u (d_ends (k1.S X.S) so pa (k := [F].length) (show 1 ≤ 7 by decide) W) lm_X10_420 dX10_walks_37 (S.l 50 rfl) (S.k 50 rfl rfl) rfl rfl rfl rfl ?_
      have S := ((wmK_en (pI (pI h0 50 27 0) 55 0 (nI F)) [F].length (wt [F])).trans k1).S X.S
      refine g_aL0 dX10_walks_40 ?_
      refine g_gI lf_X10_414 (S.l 50 rfl) (S.k 50 rfl rfl) dX10_walks_41 ?_
      exact g_iret rfl dX10_walks_44 rfl rfl ⟨by rw [show gI _ 50 27 = _ from r9.2.1]; rfl, WM.less (p := []) (q := [F]) r9, (wmK_en _ _ _).trans k1⟩
  · refine g_iconst dX10_walks_25 ?_
    have hsh : ¬ sh F = false := by
      intro z
      rw [z] at c22
      exact absurd c22 (by decide)
    rw [if_neg hsh] at hs
    subst hs
    exact g_iret rfl dX10_walks_26 rfl rfl ⟨rfl, WM.less (p := []) (q := [F]) r1, k1⟩

/-! THE REFERENCE: letters -/
/-- what a call that only asks leaves as it was: all but the reference's own notes -/
def mF (h' h : Hp) : Prop := h'.1 = h.1 ∧ h'.2.1 = h.2.1 ∧ h'.2.2.1 = h.2.2.1 ∧ h'.2.2.2.1 = h.2.2.2.1 ∧ (∀ b j, b ≠ 55 → b ≠ 56 → b ≠ 57 → b ≠ 58 → ¬ (b = 50 ∧ (j = 27 ∨ j = 29 ∨ j = 30 ∨ j = 31 ∨ j = 34)) → gI h' b j = gI h b j) ∧ ∀ b j, ¬ (b = 50 ∧ j = 28) → gJ h' b j = gJ h b j
theorem mF.refl (h : Hp) : mF h h := ⟨rfl, rfl, rfl, rfl, fun _ _ _ _ _ _ _ => rfl, fun _ _ _ => rfl⟩
theorem mF.trans {a b c : Hp} (h1 : mF a b) (h2 : mF b c) : mF a c := ⟨h1.1.trans h2.1, h1.2.1.trans h2.2.1, h1.2.2.1.trans h2.2.2.1, h1.2.2.2.1.trans h2.2.2.2.1, fun x j p q r s t => (h1.2.2.2.2.1 x j p q r s t).trans (h2.2.2.2.2.1 x j p q r s t), fun x j p => (h1.2.2.2.2.2 x j p).trans (h2.2.2.2.2.2 x j p)⟩
theorem wmK.m {h' h : Hp} (k : wmK h' h) : mF h' h := ⟨k.1, k.2.1, k.2.2.1, k.2.2.2.1, fun b j p q _ _ t => k.2.2.2.2.1 b j p q (fun z => t ⟨z.1, Or.inl z.2⟩), k.2.2.2.2.2⟩
theorem mF_50 (h : Hp) {j : Nat} (hj : j = 27 ∨ j = 29 ∨ j = 30 ∨ j = 31 ∨ j = 34) (v : Int32) : mF (pI h 50 j v) h := ⟨rfl, rfl, rfl, rfl, fun _ _ _ _ _ _ t => u2_n _ _ (fun z => t ⟨z.1, by rw [z.2]; exact hj⟩), fun _ _ _ => rfl⟩
theorem mF_57 (h : Hp) (k : Nat) (v : Int32) : mF (pI h 57 k v) h := ⟨rfl, rfl, rfl, rfl, fun _ _ _ _ p _ _ => gIq p, fun _ _ _ => rfl⟩
theorem mF_58 (h : Hp) (k : Nat) (v : Int32) : mF (pI h 58 k v) h := ⟨rfl, rfl, rfl, rfl, fun _ _ _ _ _ p _ => gIq p, fun _ _ _ => rfl⟩
theorem mF.S {h' h : Hp} (k : mF h' h) (S : SX h) : SX h' := S.eq k.1 k.2.1 k.2.2.1 k.2.2.2.1
theorem mF.f {g h : Hp} (k : mF g h) {b : Nat} (h1 : b ≠ 55) (h2 : b ≠ 56) (h4 : b ≠ 57) (h5 : b ≠ 58) (h3 : b ≠ 50) : gI g b = gI h b := funext fun j => k.2.2.2.2.1 b j h1 h2 h4 h5 (fun z => h3 z.1)
theorem MX.mf {h h' : Hp} {c : Nat} {cn : Nat → Nat} (X : MX h c cn) (k : mF h' h) : MX h' c cn := by
  have hc := X.M.1
  exact X.eqv k.1 k.2.1 k.2.2.1 k.2.2.2.1 (fun j => k.2.2.2.2.1 c j (by omega) (by omega) (by omega) (by omega) (by omega))
theorem MB.mf {h h' : Hp} {c : Nat} {cn : Nat → Nat} (B : MB h c cn) (hc : 60 ≤ c) (k : mF h' h) : MB h' c cn := by
  unfold MB at B ⊢
  rw [k.f (b := c + 5) (by omega) (by omega) (by omega) (by omega) (by omega), k.f (b := c + 6) (by omega) (by omega) (by omega) (by omega) (by omega), k.f (b := c + 7) (by omega) (by omega) (by omega) (by omega) (by omega), k.f (b := c + 8) (by omega) (by omega) (by omega) (by omega) (by omega), k.f (b := c + 9) (by omega) (by omega) (by omega) (by omega) (by omega), k.f (b := c + 10) (by omega) (by omega) (by omega) (by omega) (by omega)]
  exact B
theorem rdM_mf {h : Hp} {c : Nat} {cn : Nat → Nat} (X : MX h c cn) {h' : Hp} (k : mF h' h) (P : Nat) (v : Int32) : rdM h' c cn P v = rdM h c cn P v := by
  have hc6 := X.M.1
  show fwF (gI h' (c + 3)) (sbF (gI h' 52 P) (gI h' 52 (8 + P)) (dkF (gI h' (c + 4)) v)) (cn 2) 0 = _
  rw [k.f (b := c + 3) (by omega) (by omega) (by omega) (by omega) (by omega), k.f (b := c + 4) (by omega) (by omega) (by omega) (by omega) (by omega), k.f (b := 52) (by omega) (by omega) (by omega) (by omega) (by omega)]
/-- corners of a way are corners -/
def alC (C : Nat) (l : List Nat) : Prop := ∀ x ∈ l, x < C
theorem al_K {C : Nat} {s : PW} {p : List Nat} {w : Int64} (h1 : alC C s.1) (h2 : alC C p) : alC C (pwK s p w).1 := by
  unfold pwK
  repeat' split
  all_goals assumption
theorem al_L {mi : Nat → Int32} {wb : Nat → Int64 → Int64} {rc : PW → Nat → (Nat → Bool) → Int64 → PW} {C a : Nat} (hrc : ∀ i, i < C → ∀ s bl w, alC C s.1 → alC C (rc s i bl w).1) (bl : Nat → Bool) (w : Int64) : ∀ (n i : Nat) (s : PW), i + n ≤ C → alC C s.1 → alC C (pwL mi wb rc a bl w n i s).1
  | 0, _, _, _, h => h
  | n + 1, i, s, hi, h => by
    rw [pwL]
    split
    · split
      · exact al_L hrc bl w n (i + 1) s (by omega) h
      · exact al_L hrc bl w n (i + 1) _ (by omega) (hrc i (by omega) _ _ _ h)
    · exact al_L hrc bl w n (i + 1) s (by omega) h
theorem al_F {mi : Nat → Int32} {wb : Nat → Int64 → Int64} {to : Int32} {C : Nat} : ∀ (f : Nat) (s : PW) (a : Nat) (p : List Nat) (bl : Nat → Bool) (w : Int64), a < C → alC C p → alC C s.1 → alC C (pwF mi wb to C f s a p bl w).1
  | 0, _, _, _, _, _, _, _, h => h
  | f + 1, s, a, p, bl, w, ha, hp, h => by
    have hpa : alC C (p ++ [a]) := fun x hx => by
      rcases List.mem_append.mp hx with z | z
      · exact hp x z
      · rw [List.mem_singleton.mp z]; exact ha
    rw [pwF]
    split
    · exact al_K h hpa
    · exact al_L (fun i hi s bl w h1 => al_F f s i (p ++ [a]) bl w hi hpa h1) bl w C 0 s (by omega) h
theorem al_y {mi ri : Nat → Int32} {bc nb : Int32} {C F : Nat} (hF : F < C) (to : Int32) (sh : Nat → Bool) : alC C (wyF mi ri bc nb C F to sh).1 := by
  unfold wyF
  split
  · exact al_F 7 _ _ _ _ _ hF (fun x hx => by cases hx) (fun x hx => by cases hx)
  · exact fun x hx => by cases hx
/-- who reads on the way, and what -/
def rsM (th : Int32) (wr : Nat → Int32) : List Nat → Int32 → Int32 → Int32 × Int32
  | [], s, e => (s, e)
  | x :: l, s, e => if thF th (nI x) = 0 then rsM th wr l s e else if wr x = -2 then rsM th wr l s e else rsM th wr l (s ||| ((1 : Int32) <<< (nI x &&& 31))) (e ||| ((1 : Int32) <<< (wr x &&& 31)))
def roM (h : Hp) (c : Nat) (cn : Nat → Nat) (L : Nat) : Int32 × Int32 := if thF (gI h 52 16) (gI h (c + 8) L) = 0 then rsM (gI h c 9) (fun x => rdM h c cn (pn (gI h (c + 8) L)) (gI h (c + 5) x)) (wy0 h c cn (pn (gI h (c + 9) L)) (gI h (c + 10) L)).1 0 0 else (0, 0)
theorem d_readersOf {h : Hp} {c : Nat} {cn : Nat → Nat} (X : MX h c cn) (B : MB h c cn) {L : Nat} (hL : L < cn 7) : gC 4 0 0 yX10_readersOf cX10_readersOf 7 (some .int) [.ref 50, .int (nI L)] h (fun v h' => v = some (.int (roM h c cn L).1) ∧ gI h' 50 29 = (roM h c cn L).2 ∧ mF h' h) := by
  obtain ⟨P, F, T, hP, hF, hT, eP, eF, eT⟩ := B.2.2.2 L hL
  have hc6 := X.M.1
  have hL6 : L < 6 := by have := X.b7; omega
  have hP8 : P < 8 := by have := X.b1; omega
  have qP := pn_nI (n := P) (by omega)
  have qF := pn_nI (n := F) (by have := X.b4; omega)
  have hk0 : mF (pI h 50 29 0) h := mF_50 h (Or.inr (Or.inl rfl)) 0
  have X0 := X.mf hk0
  have B0 := B.mf hc6 hk0
  have e1 : ∀ j, gI (pI h 50 29 0) (c + 8) j = gI h (c + 8) j := fun j => gIq (by omega)
  have e2 : ∀ j, gI (pI h 50 29 0) (c + 9) j = gI h (c + 9) j := fun j => gIq (by omega)
  have e3 : ∀ j, gI (pI h 50 29 0) (c + 10) j = gI h (c + 10) j := fun j => gIq (by omega)
  have esw : wy0 (pI h 50 29 0) c cn F (nI T) = wy0 h c cn F (nI T) := by
    show wyF (gI (pI h 50 29 0) (c + 6)) (gI (pI h 50 29 0) (c + 7)) 0 0 (cn 4) F (nI T) _ = _
    rw [hk0.f (b := c + 6) (by omega) (by omega) (by omega) (by omega) (by omega), hk0.f (b := c + 7) (by omega) (by omega) (by omega) (by omega) (by omega)]
  generalize hro : roM h c cn L = ro
  unfold roM at hro
  rw [eP, qP, eF, qF, eT] at hro
  refine g_entry (lv := [.ref 50, .int (nI L), .retAddr 0, .retAddr 0, .retAddr 0, .retAddr 0, .retAddr 0]) 5 pn_X10 rfl rfl rfl ?_
  refine g_aL0 dX10_readersOf_0 ?_
  refine g_getR lf_X10_359 (X.S.l 50 rfl) (X.S.k 50 rfl rfl) X.C dX10_readersOf_1 ?_
  refine g_getRn lf_X10_326 (X.M.l 0 rfl) (X.M.k 0 rfl rfl) (X.M.r 22 (j := 8) rfl) dX10_readersOf_4 ?_
  refine g_iL1 dX10_readersOf_7 ?_
  refine g_ialoadN (X.M.l 8 rfl) (X.M.k 8 rfl rfl) (X.M.n 8 (n := 6) rfl rfl) hL6 (by decide) dX10_readersOf_8 ?_
  rw [eP]
  refine g_iS2 dX10_readersOf_9 rfl rfl ?_
  refine g_aL0 dX10_readersOf_10 ?_
  refine g_iconst dX10_readersOf_11 ?_
  refine g_pI0 lf_X10_452 (X.S.l 50 rfl) (X.S.k 50 rfl rfl) dX10_readersOf_12 ?_
  refine g_aL0 dX10_readersOf_15 ?_
  refine g_iL2 dX10_readersOf_16 ?_
  refine e_v1i (d_isBroken X0.S _) lm_X10_383 dX10_readersOf_17 (X0.S.l 50 rfl) (X0.S.k 50 rfl rfl) rfl rfl rfl rfl ?_
  refine g_ifeq dX10_readersOf_20 (fun c20 => ?_) (fun c20 => ?_)
  · have c20' : thF (gI h 52 16) (nI P) = 0 := c20
    refine g_aL0 dX10_readersOf_25 ?_
    refine g_iconst dX10_readersOf_26 ?_
    refine g_iconst dX10_readersOf_27 ?_
    refine g_aL0 dX10_readersOf_28 ?_
    refine g_getR lf_X10_359 (X0.S.l 50 rfl) (X0.S.k 50 rfl rfl) X0.C dX10_readersOf_29 ?_
    refine g_getRn lf_X10_329 (X0.M.l 0 rfl) (X0.M.k 0 rfl rfl) (X0.M.r 23 (j := 9) rfl) dX10_readersOf_32 ?_
    refine g_iL1 dX10_readersOf_35 ?_
    refine g_ialoadN (X0.M.l 9 rfl) (X0.M.k 9 rfl rfl) (X0.M.n 9 (n := 6) rfl rfl) hL6 (by decide) dX10_readersOf_36 ?_
    rw [e2, eF]
    refine g_aL0 dX10_readersOf_37 ?_
    refine g_getR lf_X10_359 (X0.S.l 50 rfl) (X0.S.k 50 rfl rfl) X0.C dX10_readersOf_38 ?_
    refine g_getRn lf_X10_332 (X0.M.l 0 rfl) (X0.M.k 0 rfl rfl) (X0.M.r 24 (j := 10) rfl) dX10_readersOf_41 ?_
    refine g_iL1 dX10_readersOf_44 ?_
    refine g_ialoadN (X0.M.l 10 rfl) (X0.M.k 10 rfl rfl) (X0.M.n 10 (n := 6) rfl rfl) hL6 (by decide) dX10_readersOf_45 ?_
    rw [e3, eT]
    refine r_v4i (d_wk0 X0 B0 _ hF) lm_X10_431 dX10_readersOf_46 (X0.S.l 50 rfl) (X0.S.k 50 rfl rfl) rfl rfl rfl rfl (fun v h' e => ⟨_, e.1⟩) (fun r h1 e => ?_)
    obtain ⟨e9, r1, k1⟩ := e
    obtain rfl := Value.int.inj (Option.some.inj e9)
    have e9 := esw
    rw [show wyF (gI (pI h 50 29 0) (c + 6)) (gI (pI h 50 29 0) (c + 7)) 0 0 (cn 4) F (nI T) (fun _ => false) = wyF (gI h (c + 6)) (gI h (c + 7)) 0 0 (cn 4) F (nI T) (fun _ => false) from esw] at r1 ⊢
    refine g_iS3 dX10_readersOf_49 rfl rfl ?_
    refine g_iconst dX10_readersOf_50 ?_
    refine g_iS4 dX10_readersOf_51 rfl rfl ?_
    refine g_iconst dX10_readersOf_53 ?_
    refine g_iS5 dX10_readersOf_54 rfl rfl ?_
    rw [if_pos c20'] at hro
    change rsM _ _ (wyF (gI h (c + 6)) (gI h (c + 7)) 0 0 (cn 4) F (nI T) (fun _ => false)).1 0 0 = ro at hro
    have alS := al_y (mi := gI h (c + 6)) (ri := gI h (c + 7)) (bc := 0) (nb := 0) hF (nI T) (fun _ => false)
    generalize hs : wyF (gI h (c + 6)) (gI h (c + 7)) 0 0 (cn 4) F (nI T) (fun _ => false) = s at hro alS r1
    have hs7 := r1.1
    have lp : ∀ (l : List Nat) (i : Nat) (st e : Int32) (v6 : Value) (hh : Hp), i + l.length = s.1.length → s.1.drop i = l → rsM (gI h c 9) (fun x => rdM h c cn P (gI h (c + 5) x)) l st e = ro → gI hh 50 29 = e → mF hh h → (∀ i x, s.1[i]? = some x → gI hh 56 i = nI x) → gY 4 0 0 yX10_readersOf cX10_readersOf 7 (some .int) 0 0 (fun v h' => v = some (.int ro.1) ∧ gI h' 50 29 = ro.2 ∧ mF h' h) 56 [.ref 50, .int (nI L), .int (nI P), .int (nI s.1.length), .int st, .int (nI i), v6] [] hh := by
      intro l
      induction l with
      | nil =>
        intro i st e v6 hh hi hd he h29 hk hb
        have Y := X.mf hk
        have hi2 : i = s.1.length := hi
        refine g_iL5 dX10_readersOf_56 ?_
        refine g_iL3 dX10_readersOf_58 ?_
        refine g_icge dX10_readersOf_59 (fun c59 => ?_) (fun c59 => absurd (nI_le (by omega) (by omega)) c59)
        refine g_iL4 dX10_readersOf_148 ?_
        exact g_iret rfl dX10_readersOf_150 rfl rfl ⟨by rw [← he]; rfl, by rw [h29, ← he]; rfl, hk⟩
      | cons x l ih =>
        intro i st e v6 hh hi hd he h29 hk hb
        have Y := X.mf hk
        have hll : (x :: l).length = l.length + 1 := rfl
        have hi7 : i < 7 := by omega
        have hx : s.1[i]? = some x := by
          have : (s.1.drop i)[0]? = some x := by rw [hd]; rfl
          rwa [List.getElem?_drop, Nat.add_zero] at this
        have hxC := alS x (List.mem_of_getElem? hx)
        have hx7 : x < 7 := by have := X.b4; omega
        have hbx := hb i x hx
        have hd2 : s.1.drop (i + 1) = l := by rw [← List.drop_drop, hd]; rfl
        have hv : ¬ siF (gI hh (c + 5) x) (nI (cn 3)) = 0 := by
          rw [hk.f (b := c + 5) (by omega) (by omega) (by omega) (by omega) (by omega)]; exact B.2.2.1 x hxC
        have e5 : gI hh (c + 5) x = gI h (c + 5) x := by rw [hk.f (b := c + 5) (by omega) (by omega) (by omega) (by omega) (by omega)]
        have e9 : gI hh c 9 = gI h c 9 := by rw [hk.f (b := c) (by omega) (by omega) (by omega) (by omega) (by omega)]
        have erd : fwF (gI hh (c + 3)) (seM hh c P (gI hh (c + 5) x)) (cn 2) 0 = rdM h c cn P (gI h (c + 5) x) := by
          rw [e5]; exact rdM_mf X hk P _
        refine g_iL5 dX10_readersOf_56 ?_
        refine g_iL3 dX10_readersOf_58 ?_
        refine g_icge dX10_readersOf_59 (fun c59 => absurd c59 (nI_ge (by omega) (by omega))) (fun c59 => ?_)
        refine g_aL0 dX10_readersOf_62 ?_
        refine g_aL0 dX10_readersOf_63 ?_
        refine g_iL2 dX10_readersOf_64 ?_
        refine g_aL0 dX10_readersOf_65 ?_
        refine g_getR lf_X10_359 (Y.S.l 50 rfl) (Y.S.k 50 rfl rfl) Y.C dX10_readersOf_66 ?_
        refine g_getRn lf_X10_306 (Y.M.l 0 rfl) (Y.M.k 0 rfl rfl) (Y.M.r 19 (j := 5) rfl) dX10_readersOf_69 ?_
        refine g_aL0 dX10_readersOf_72 ?_
        refine g_getR lf_X10_30 (Y.S.l 50 rfl) (Y.S.k 50 rfl rfl) (Y.S.r 50 26 (b := 56) rfl rfl) dX10_readersOf_73 ?_
        refine g_iL5 dX10_readersOf_76 ?_
        refine g_ialoadN (Y.S.l 56 rfl) (Y.S.k 56 rfl rfl) (Y.S.n 56 (n := 7) rfl rfl) hi7 (by decide) dX10_readersOf_78 ?_
        rw [hbx]
        refine g_ialoadN (Y.M.l 5 rfl) (Y.M.k 5 rfl rfl) (Y.M.n 5 (n := 7) rfl rfl) hx7 (by decide) dX10_readersOf_79 ?_
        refine e_v2i (d_seenOf Y hP8 hv) lm_X10_401 dX10_readersOf_80 (Y.S.l 50 rfl) (Y.S.k 50 rfl rfl) rfl rfl rfl rfl ?_
        refine e_v1i (d_readOf Y _) lm_X10_404 dX10_readersOf_83 (Y.S.l 50 rfl) (Y.S.k 50 rfl rfl) rfl rfl rfl rfl ?_
        rw [erd]
        refine g_iS6 dX10_readersOf_86 rfl rfl ?_
        refine g_aL0 dX10_readersOf_88 ?_
        refine g_getR lf_X10_359 (Y.S.l 50 rfl) (Y.S.k 50 rfl rfl) Y.C dX10_readersOf_89 ?_
        refine g_aL0 dX10_readersOf_92 ?_
        refine g_getR lf_X10_30 (Y.S.l 50 rfl) (Y.S.k 50 rfl rfl) (Y.S.r 50 26 (b := 56) rfl rfl) dX10_readersOf_93 ?_
        refine g_iL5 dX10_readersOf_96 ?_
        refine g_ialoadN (Y.S.l 56 rfl) (Y.S.k 56 rfl rfl) (Y.S.n 56 (n := 7) rfl rfl) hi7 (by decide) dX10_readersOf_98 ?_
        rw [hbx]
        refine e_v1i (d_isThief Y _) lm_X10_319 dX10_readersOf_99 (Y.M.l 0 rfl) (Y.M.k 0 rfl rfl) rfl rfl rfl rfl ?_
        rw [e9]
        refine g_ifeq dX10_readersOf_102 (fun c102 => ?_) (fun c102 => ?_)
        · refine g_ii5 dX10_readersOf_142 rfl rfl ?_
          refine g_goto dX10_readersOf_145 ?_
          rw [nI_1]
          exact ih (i + 1) _ _ _ _ (by omega) hd2 (show _ = ro from (if_pos c102).symm.trans he) h29 hk hb
        · refine g_iL6 dX10_readersOf_105 ?_
          refine g_bipush dX10_readersOf_107 ?_
          refine g_icne dX10_readersOf_109 (fun c109 => ?_) (fun c109 => ?_)
          · refine g_iL4 dX10_readersOf_115 ?_
            refine g_iconst dX10_readersOf_117 ?_
            refine g_aL0 dX10_readersOf_118 ?_
            refine g_getR lf_X10_30 (Y.S.l 50 rfl) (Y.S.k 50 rfl rfl) (Y.S.r 50 26 (b := 56) rfl rfl) dX10_readersOf_119 ?_
            refine g_iL5 dX10_readersOf_122 ?_
            refine g_ialoadN (Y.S.l 56 rfl) (Y.S.k 56 rfl rfl) (Y.S.n 56 (n := 7) rfl rfl) hi7 (by decide) dX10_readersOf_124 ?_
            rw [hbx]
            refine g_ishl dX10_readersOf_125 ?_
            refine g_ior dX10_readersOf_126 ?_
            refine g_iS4 dX10_readersOf_127 rfl rfl ?_
            refine g_aL0 dX10_readersOf_129 ?_
            refine g_dup dX10_readersOf_130 rfl ?_
            refine g_gI lf_X10_452 (Y.S.l 50 rfl) (Y.S.k 50 rfl rfl) dX10_readersOf_131 ?_
            rw [h29]
            refine g_iconst dX10_readersOf_134 ?_
            refine g_iL6 dX10_readersOf_135 ?_
            refine g_ishl dX10_readersOf_137 ?_
            refine g_ior dX10_readersOf_138 ?_
            refine g_pI0 lf_X10_452 (Y.S.l 50 rfl) (Y.S.k 50 rfl rfl) dX10_readersOf_139 ?_
            refine g_ii5 dX10_readersOf_142 rfl rfl ?_
            refine g_goto dX10_readersOf_145 ?_
            rw [nI_1]
            exact ih (i + 1) _ _ _ _ (by omega) hd2 (show _ = ro from ((if_neg c102).trans (if_neg c109)).symm.trans he) (gIs _ _ _ _) ((mF_50 hh (Or.inr (Or.inl rfl)) _).trans hk) (fun i x e => (gIq (by decide)).trans (hb i x e))
          · refine g_goto dX10_readersOf_112 ?_
            refine g_ii5 dX10_readersOf_142 rfl rfl ?_
            refine g_goto dX10_readersOf_145 ?_
            rw [nI_1]
            exact ih (i + 1) _ _ _ _ (by omega) hd2 (show _ = ro from ((if_neg c102).trans (if_pos c109)).symm.trans he) h29 hk hb
    exact lp s.1 0 _ _ _ h1 (by omega) rfl hro ((k1.2.2.2.2.1 50 29 (by decide) (by decide) (by decide)).trans (gIs _ _ _ _)) (k1.m.trans hk0) r1.2.2.2.1
  · refine g_iconst dX10_readersOf_23 ?_
    rw [if_neg (show ¬ thF (gI h 52 16) (nI P) = 0 from c20)] at hro
    subst hro
    exact g_iret rfl dX10_readersOf_24 rfl rfl ⟨rfl, rfl, hk0⟩
def mQ2 (h : Hp) (r : Value) (y : Int32) (v : Option Value) (h' : Hp) : Prop := v = some r ∧ ∃ h1, mF h1 h ∧ h' = mR h1 y
theorem n_readers {h : Hp} {c : Nat} {cn : Nat → Nat} (X : MX (mT h) c cn) (B : MB (mT h) c cn) (l : Int32) : gC 5 0 0 yX10_readers cX10_readers 2 (some .int) [.ref 50, .int l] h (mQ2 (mT h) (.int (if (ipF l (nI (cn 7))) = 0 then -1 else (roM (mT h) c cn (pn l)).1)) (if (ipF l (nI (cn 7))) = 0 then 1 else 0)) := by
  refine g_entry (lv := [.ref 50, .int l]) 0 pn_X10 rfl rfl rfl ?_
  refine g_aL0 dX10_readers_0 ?_
  refine g_iconst dX10_readers_1 ?_
  refine g_pI0 lf_X10_39 (X.S.l 50 rfl) (X.S.k 50 rfl rfl) dX10_readers_2 ?_
  show gY _ _ _ _ _ _ _ _ _ _ _ _ _ (mT h)
  generalize mT h = h at X B ⊢
  refine g_aL0 dX10_readers_5 ?_
  refine g_iL1 dX10_readers_6 ?_
  refine e_v1i (d_isSent X _) lm_X10_449 dX10_readers_7 (X.S.l 50 rfl) (X.S.k 50 rfl rfl) rfl rfl rfl rfl ?_
  refine g_ifeq dX10_readers_10 (fun c10 => ?_) (fun c10 => ?_)
  · refine g_aL0 dX10_readers_25 ?_
    refine g_iconst dX10_readers_26 ?_
    refine e_v1i (d_refused X.S _) lm_X10_45 dX10_readers_27 (X.S.l 50 rfl) (X.S.k 50 rfl rfl) rfl rfl rfl rfl ?_
    exact g_iret rfl dX10_readers_30 rfl rfl ⟨by rw [if_pos c10], h, mF.refl h, by rw [if_pos c10]⟩
  · obtain ⟨L, hL, rfl⟩ := ip1 (by have := X.b7; omega) c10
    have qL := pn_nI (n := L) (by have := X.b7; omega)
    refine g_aL0 dX10_readers_13 ?_
    refine g_aL0 dX10_readers_14 ?_
    refine g_iL1 dX10_readers_15 ?_
    refine r_v1i (d_readersOf X B hL) lm_X10_455 dX10_readers_16 (X.S.l 50 rfl) (X.S.k 50 rfl rfl) rfl rfl rfl rfl (fun v h' e => ⟨_, e.1⟩) (fun r h1 e => ?_)
    obtain ⟨e1, e29, k1⟩ := e
    obtain rfl := Value.int.inj (Option.some.inj e1)
    have Sk := k1.S X.S
    refine e_v1i (d_good Sk _) lm_X10_49 dX10_readers_19 (Sk.l 50 rfl) (Sk.k 50 rfl rfl) rfl rfl rfl rfl ?_
    refine g_goto dX10_readers_22 ?_
    exact g_iret rfl dX10_readers_30 rfl rfl ⟨by rw [if_neg c10, qL], h1, k1, by rw [if_neg c10]⟩
theorem n_overheard {h : Hp} {c : Nat} {cn : Nat → Nat} (X : MX (mT h) c cn) (B : MB (mT h) c cn) (l : Int32) : gC 5 0 0 yX10_overheard cX10_overheard 2 (some .int) [.ref 50, .int l] h (mQ2 (mT h) (.int (if (ipF l (nI (cn 7))) = 0 then -1 else (roM (mT h) c cn (pn l)).2)) (if (ipF l (nI (cn 7))) = 0 then 1 else 0)) := by
  refine g_entry (lv := [.ref 50, .int l]) 0 pn_X10 rfl rfl rfl ?_
  refine g_aL0 dX10_overheard_0 ?_
  refine g_iconst dX10_overheard_1 ?_
  refine g_pI0 lf_X10_39 (X.S.l 50 rfl) (X.S.k 50 rfl rfl) dX10_overheard_2 ?_
  show gY _ _ _ _ _ _ _ _ _ _ _ _ _ (mT h)
  generalize mT h = h at X B ⊢
  refine g_aL0 dX10_overheard_5 ?_
  refine g_iL1 dX10_overheard_6 ?_
  refine e_v1i (d_isSent X _) lm_X10_449 dX10_overheard_7 (X.S.l 50 rfl) (X.S.k 50 rfl rfl) rfl rfl rfl rfl ?_
  refine g_ifne dX10_overheard_10 (fun c10 => ?_) (fun c10 => ?_)
  · obtain ⟨L, hL, rfl⟩ := ip1 (by have := X.b7; omega) c10
    have qL := pn_nI (n := L) (by have := X.b7; omega)
    refine g_aL0 dX10_overheard_19 ?_
    refine g_iL1 dX10_overheard_20 ?_
    refine r_v1i (d_readersOf X B hL) lm_X10_455 dX10_overheard_21 (X.S.l 50 rfl) (X.S.k 50 rfl rfl) rfl rfl rfl rfl (fun v h' e => ⟨_, e.1⟩) (fun r h1 e => ?_)
    obtain ⟨e1, e29, k1⟩ := e
    obtain rfl := Value.int.inj (Option.some.inj e1)
    have Sk := k1.S X.S
    refine g_pop dX10_overheard_24 rfl ?_
    refine g_aL0 dX10_overheard_25 ?_
    refine g_aL0 dX10_overheard_26 ?_
    refine g_gI lf_X10_452 (Sk.l 50 rfl) (Sk.k 50 rfl rfl) dX10_overheard_27 ?_
    refine e_v1i (d_good Sk _) lm_X10_49 dX10_overheard_30 (Sk.l 50 rfl) (Sk.k 50 rfl rfl) rfl rfl rfl rfl ?_
    exact g_iret rfl dX10_overheard_33 rfl rfl ⟨by rw [if_neg c10, qL, e29], h1, k1, by rw [if_neg c10]⟩
  · refine g_aL0 dX10_overheard_13 ?_
    refine g_iconst dX10_overheard_14 ?_
    refine e_v1i (d_refused X.S _) lm_X10_45 dX10_overheard_15 (X.S.l 50 rfl) (X.S.k 50 rfl rfl) rfl rfl rfl rfl ?_
    exact g_iret rfl dX10_overheard_18 rfl rfl ⟨by rw [if_pos c10], h, mF.refl h, by rw [if_pos c10]⟩
def unM (ro : Nat → Int32) : Nat → Nat → Int32 → Int32
  | 0, _, b => b
  | n + 1, i, b => if ro i = 0 then unM ro n (i + 1) (b ||| ((1 : Int32) <<< (nI i &&& 31))) else unM ro n (i + 1) (b ||| 0)
theorem roM_mf {h : Hp} {c : Nat} {cn : Nat → Nat} (X : MX h c cn) {h' : Hp} (k : mF h' h) (L : Nat) : roM h' c cn L = roM h c cn L := by
  have hc6 := X.M.1
  unfold roM
  have e0 : ∀ P x, rdM h' c cn P (gI h' (c + 5) x) = rdM h c cn P (gI h (c + 5) x) := fun P x => by
    rw [rdM_mf X k, k.f (b := c + 5) (by omega) (by omega) (by omega) (by omega) (by omega)]
  simp only [e0]
  unfold wy0
  rw [k.f (b := 52) (by omega) (by omega) (by omega) (by omega) (by omega), k.f (b := c) (by omega) (by omega) (by omega) (by omega) (by omega), k.f (b := c + 6) (by omega) (by omega) (by omega) (by omega) (by omega), k.f (b := c + 7) (by omega) (by omega) (by omega) (by omega) (by omega), k.f (b := c + 8) (by omega) (by omega) (by omega) (by omega) (by omega), k.f (b := c + 9) (by omega) (by omega) (by omega) (by omega) (by omega), k.f (b := c + 10) (by omega) (by omega) (by omega) (by omega) (by omega)]
theorem n_unread {h : Hp} {c : Nat} {cn : Nat → Nat} (X : MX (mT h) c cn) (B : MB (mT h) c cn) : gC 5 0 0 yX10_unread cX10_unread 3 (some .int) [.ref 50] h (mQ2 (mT h) (.int (unM (fun L => (roM (mT h) c cn L).1) (cn 7) 0 0)) 0) := by
  refine g_entry (lv := [.ref 50, .retAddr 0, .retAddr 0]) 2 pn_X10 rfl rfl rfl ?_
  refine g_aL0 dX10_unread_0 ?_
  refine g_iconst dX10_unread_1 ?_
  refine g_pI0 lf_X10_39 (X.S.l 50 rfl) (X.S.k 50 rfl rfl) dX10_unread_2 ?_
  show gY _ _ _ _ _ _ _ _ _ _ _ _ _ (mT h)
  generalize mT h = h at X B ⊢
  refine g_aL0 dX10_unread_5 ?_
  refine g_getR lf_X10_359 (X.S.l 50 rfl) (X.S.k 50 rfl rfl) X.C dX10_unread_6 ?_
  refine g_ifnonnullS dX10_unread_9 ?_
  refine g_iconst dX10_unread_18 ?_
  refine g_iS1 dX10_unread_19 rfl rfl ?_
  refine g_iconst dX10_unread_20 ?_
  refine g_iS2 dX10_unread_21 rfl rfl ?_
  have loop : ∀ (n i : Nat) (b : Int32) (hh : Hp), i + n = cn 7 → unM (fun L => (roM h c cn L).1) (cn 7) 0 0 = unM (fun L => (roM h c cn L).1) n i b → mF hh h → gY 5 0 0 yX10_unread cX10_unread 3 (some .int) 0 0 (mQ2 h (.int (unM (fun L => (roM h c cn L).1) (cn 7) 0 0)) 0) 22 [.ref 50, .int b, .int (nI i)] [] hh := by
    intro n
    induction n with
    | zero =>
      intro i b hh hi he hk
      have Y := X.mf hk
      refine g_iL2 dX10_unread_22 ?_
      refine g_aL0 dX10_unread_23 ?_
      refine g_getR lf_X10_359 (Y.S.l 50 rfl) (Y.S.k 50 rfl rfl) Y.C dX10_unread_24 ?_
      refine g_gI lf_X10_325 (Y.M.l 0 rfl) (Y.M.k 0 rfl rfl) dX10_unread_27 ?_
      rw [Y.c7]
      refine g_icge dX10_unread_30 (fun c30 => ?_) (fun c30 => absurd (nI_le (by omega) (by have := X.b7; omega)) c30)
      refine g_aL0 dX10_unread_57 ?_
      refine g_iL1 dX10_unread_58 ?_
      refine e_v1i (d_good (hk.S X.S) _) lm_X10_49 dX10_unread_59 (Y.S.l 50 rfl) (Y.S.k 50 rfl rfl) rfl rfl rfl rfl ?_
      exact g_iret rfl dX10_unread_62 rfl rfl ⟨by rw [he]; rfl, hh, hk, rfl⟩
    | succ n ih =>
      intro i b hh hi he hk
      have Y := X.mf hk
      refine g_iL2 dX10_unread_22 ?_
      refine g_aL0 dX10_unread_23 ?_
      refine g_getR lf_X10_359 (Y.S.l 50 rfl) (Y.S.k 50 rfl rfl) Y.C dX10_unread_24 ?_
      refine g_gI lf_X10_325 (Y.M.l 0 rfl) (Y.M.k 0 rfl rfl) dX10_unread_27 ?_
      rw [Y.c7]
      refine g_icge dX10_unread_30 (fun c30 => absurd c30 (nI_ge (by omega) (by have := X.b7; omega))) (fun c30 => ?_)
      refine g_iL1 dX10_unread_33 ?_
      refine g_aL0 dX10_unread_34 ?_
      refine g_iL2 dX10_unread_35 ?_
      refine r_v1i (d_readersOf Y (B.mf X.M.1 hk) (L := i) (by omega)) lm_X10_455 dX10_unread_36 (Y.S.l 50 rfl) (Y.S.k 50 rfl rfl) rfl rfl rfl rfl (fun v h' e => ⟨_, e.1⟩) (fun r h1 e => ?_)
      obtain ⟨e1, e29, k1⟩ := e
      obtain rfl := Value.int.inj (Option.some.inj e1)
      have Y := X.mf (k1.trans hk)
      rw [roM_mf X hk]
      refine g_ifne dX10_unread_39 (fun c39 => ?_) (fun c39 => ?_)
      · refine g_iconst dX10_unread_48 ?_
        refine g_ior dX10_unread_49 ?_
        refine g_iS1 dX10_unread_50 rfl rfl ?_
        refine g_ii2 dX10_unread_51 rfl rfl ?_
        refine g_goto dX10_unread_54 ?_
        rw [nI_1]
        exact ih (i + 1) _ _ (by omega) (he.trans (if_neg c39)) (k1.trans hk)
      · refine g_iconst dX10_unread_42 ?_
        refine g_iL2 dX10_unread_43 ?_
        refine g_ishl dX10_unread_44 ?_
        refine g_goto dX10_unread_45 ?_
        refine g_ior dX10_unread_49 ?_
        refine g_iS1 dX10_unread_50 rfl rfl ?_
        refine g_ii2 dX10_unread_51 rfl rfl ?_
        refine g_goto dX10_unread_54 ?_
        rw [nI_1]
        exact ih (i + 1) _ _ (by omega) (he.trans (if_pos c39)) (k1.trans hk)
  exact loop (cn 7) 0 _ _ (by omega) rfl (mF.refl h)
theorem in_k {f : Int32} {k : Int} (hf : f.toInt = k) (h : 0 ≤ k ∧ k ≤ 3) : ¬ inF f 0 3 = 0 := fun z => by
  have := in_f z
  rw [hf, show (0 : Int32).toInt = 0 from rfl, show (3 : Int32).toInt = 3 from rfl] at this
  omega
theorem in_o {f : Int32} (hf : f.toInt < 0 ∨ 4 ≤ f.toInt) : inF f 0 3 = 0 := by
  by_cases z : inF f 0 3 = 0
  · exact z
  · have := in_t z
    rw [show (0 : Int32).toInt = 0 from rfl, show (3 : Int32).toInt = 3 from rfl] at this
    omega
theorem n_sent0 {h : Hp} {c : Nat} {cn : Nat → Nat} (X : MX (mT h) c cn) {L : Nat} (hL : L < cn 7) (f : Int32) (hf : f.toInt = 0) : gCi 2 0 0 yX10_sent cX10_sent 3 (some .int) [.ref 50, .int (nI L), .int f] h (some (.int (gI (mT h) (c + 8) L))) (mR (mT h) 0) := by
  refine g_entry (lv := [.ref 50, .int (nI L), .int f]) 0 pn_X10 rfl rfl rfl ?_
  refine g_aL0 dX10_sent_0 ?_
  refine g_iconst dX10_sent_1 ?_
  refine g_pI0 lf_X10_39 (X.S.l 50 rfl) (X.S.k 50 rfl rfl) dX10_sent_2 ?_
  show gY _ _ _ _ _ _ _ _ _ _ _ _ _ (mT h)
  generalize mT h = h at X ⊢
  refine g_aL0 dX10_sent_5 ?_
  refine g_iL1 dX10_sent_6 ?_
  refine e_v1i (d_isSent X _) lm_X10_449 dX10_sent_7 (X.S.l 50 rfl) (X.S.k 50 rfl rfl) rfl rfl rfl rfl ?_
  rw [ip_in hL (by have := X.b7; omega)]
  have hL6 : L < 6 := by have := X.b7; omega
  refine g_ifeq dX10_sent_10 (fun c10 => absurd c10 (by decide)) (fun c10 => ?_)
  refine g_iL2 dX10_sent_13 ?_
  refine g_iconst dX10_sent_14 ?_
  refine g_iconst dX10_sent_15 ?_
  refine e_s3i (d_in _ _ _) lm_X10_134 dX10_sent_16 rfl rfl rfl rfl ?_
  refine g_ifne dX10_sent_19 (fun c19 => ?_) (fun c19 => absurd c19 (in_k hf (by decide)))
  refine g_iL2 dX10_sent_28 ?_
  refine g_swIn 0 dX10_sent_29 (by rw [hf]; rfl) rfl ?_
  refine g_aL0 dX10_sent_56 ?_
  refine g_aL0 dX10_sent_57 ?_
  refine g_getR lf_X10_359 (X.S.l 50 rfl) (X.S.k 50 rfl rfl) X.C dX10_sent_58 ?_
  refine g_getRn lf_X10_326 (X.M.l 0 rfl) (X.M.k 0 rfl rfl) (X.M.r 22 (j := 8) rfl) dX10_sent_61 ?_
  refine g_iL1 dX10_sent_64 ?_
  refine g_ialoadN (X.M.l 8 rfl) (X.M.k 8 rfl rfl) (X.M.n 8 (n := 6) rfl rfl) hL6 (by decide) dX10_sent_65 ?_
  refine e_v1i (d_good X.S _) lm_X10_49 dX10_sent_66 (X.S.l 50 rfl) (X.S.k 50 rfl rfl) rfl rfl rfl rfl ?_
  exact e_iret rfl dX10_sent_69 rfl rfl rfl rfl
theorem n_sent1 {h : Hp} {c : Nat} {cn : Nat → Nat} (X : MX (mT h) c cn) {L : Nat} (hL : L < cn 7) (f : Int32) (hf : f.toInt = 1) : gCi 2 0 0 yX10_sent cX10_sent 3 (some .int) [.ref 50, .int (nI L), .int f] h (some (.int (gI (mT h) (c + 9) L))) (mR (mT h) 0) := by
  refine g_entry (lv := [.ref 50, .int (nI L), .int f]) 0 pn_X10 rfl rfl rfl ?_
  refine g_aL0 dX10_sent_0 ?_
  refine g_iconst dX10_sent_1 ?_
  refine g_pI0 lf_X10_39 (X.S.l 50 rfl) (X.S.k 50 rfl rfl) dX10_sent_2 ?_
  show gY _ _ _ _ _ _ _ _ _ _ _ _ _ (mT h)
  generalize mT h = h at X ⊢
  refine g_aL0 dX10_sent_5 ?_
  refine g_iL1 dX10_sent_6 ?_
  refine e_v1i (d_isSent X _) lm_X10_449 dX10_sent_7 (X.S.l 50 rfl) (X.S.k 50 rfl rfl) rfl rfl rfl rfl ?_
  rw [ip_in hL (by have := X.b7; omega)]
  have hL6 : L < 6 := by have := X.b7; omega
  refine g_ifeq dX10_sent_10 (fun c10 => absurd c10 (by decide)) (fun c10 => ?_)
  refine g_iL2 dX10_sent_13 ?_
  refine g_iconst dX10_sent_14 ?_
  refine g_iconst dX10_sent_15 ?_
  refine e_s3i (d_in _ _ _) lm_X10_134 dX10_sent_16 rfl rfl rfl rfl ?_
  refine g_ifne dX10_sent_19 (fun c19 => ?_) (fun c19 => absurd c19 (in_k hf (by decide)))
  refine g_iL2 dX10_sent_28 ?_
  refine g_swIn 1 dX10_sent_29 (by rw [hf]; rfl) rfl ?_
  refine g_aL0 dX10_sent_70 ?_
  refine g_aL0 dX10_sent_71 ?_
  refine g_getR lf_X10_359 (X.S.l 50 rfl) (X.S.k 50 rfl rfl) X.C dX10_sent_72 ?_
  refine g_getRn lf_X10_329 (X.M.l 0 rfl) (X.M.k 0 rfl rfl) (X.M.r 23 (j := 9) rfl) dX10_sent_75 ?_
  refine g_iL1 dX10_sent_78 ?_
  refine g_ialoadN (X.M.l 9 rfl) (X.M.k 9 rfl rfl) (X.M.n 9 (n := 6) rfl rfl) hL6 (by decide) dX10_sent_79 ?_
  refine e_v1i (d_good X.S _) lm_X10_49 dX10_sent_80 (X.S.l 50 rfl) (X.S.k 50 rfl rfl) rfl rfl rfl rfl ?_
  exact e_iret rfl dX10_sent_83 rfl rfl rfl rfl
theorem n_sent2 {h : Hp} {c : Nat} {cn : Nat → Nat} (X : MX (mT h) c cn) {L : Nat} (hL : L < cn 7) (f : Int32) (hf : f.toInt = 2) : gCi 2 0 0 yX10_sent cX10_sent 3 (some .int) [.ref 50, .int (nI L), .int f] h (some (.int (gI (mT h) (c + 10) L))) (mR (mT h) 0) := by
  refine g_entry (lv := [.ref 50, .int (nI L), .int f]) 0 pn_X10 rfl rfl rfl ?_
  refine g_aL0 dX10_sent_0 ?_
  refine g_iconst dX10_sent_1 ?_
  refine g_pI0 lf_X10_39 (X.S.l 50 rfl) (X.S.k 50 rfl rfl) dX10_sent_2 ?_
  show gY _ _ _ _ _ _ _ _ _ _ _ _ _ (mT h)
  generalize mT h = h at X ⊢
  refine g_aL0 dX10_sent_5 ?_
  refine g_iL1 dX10_sent_6 ?_
  refine e_v1i (d_isSent X _) lm_X10_449 dX10_sent_7 (X.S.l 50 rfl) (X.S.k 50 rfl rfl) rfl rfl rfl rfl ?_
  rw [ip_in hL (by have := X.b7; omega)]
  have hL6 : L < 6 := by have := X.b7; omega
  refine g_ifeq dX10_sent_10 (fun c10 => absurd c10 (by decide)) (fun c10 => ?_)
  refine g_iL2 dX10_sent_13 ?_
  refine g_iconst dX10_sent_14 ?_
  refine g_iconst dX10_sent_15 ?_
  refine e_s3i (d_in _ _ _) lm_X10_134 dX10_sent_16 rfl rfl rfl rfl ?_
  refine g_ifne dX10_sent_19 (fun c19 => ?_) (fun c19 => absurd c19 (in_k hf (by decide)))
  refine g_iL2 dX10_sent_28 ?_
  refine g_swIn 2 dX10_sent_29 (by rw [hf]; rfl) rfl ?_
  refine g_aL0 dX10_sent_84 ?_
  refine g_aL0 dX10_sent_85 ?_
  refine g_getR lf_X10_359 (X.S.l 50 rfl) (X.S.k 50 rfl rfl) X.C dX10_sent_86 ?_
  refine g_getRn lf_X10_332 (X.M.l 0 rfl) (X.M.k 0 rfl rfl) (X.M.r 24 (j := 10) rfl) dX10_sent_89 ?_
  refine g_iL1 dX10_sent_92 ?_
  refine g_ialoadN (X.M.l 10 rfl) (X.M.k 10 rfl rfl) (X.M.n 10 (n := 6) rfl rfl) hL6 (by decide) dX10_sent_93 ?_
  refine e_v1i (d_good X.S _) lm_X10_49 dX10_sent_94 (X.S.l 50 rfl) (X.S.k 50 rfl rfl) rfl rfl rfl rfl ?_
  exact e_iret rfl dX10_sent_97 rfl rfl rfl rfl
theorem n_sentO {h : Hp} {c : Nat} {cn : Nat → Nat} (X : MX (mT h) c cn) {L : Nat} (hL : L < cn 7) (f : Int32) (hf : f.toInt < 0 ∨ 4 ≤ f.toInt) : gCi 2 0 0 yX10_sent cX10_sent 3 (some .int) [.ref 50, .int (nI L), .int f] h (some (.int (-1))) (mR (mT h) 1) := by
  refine g_entry (lv := [.ref 50, .int (nI L), .int f]) 0 pn_X10 rfl rfl rfl ?_
  refine g_aL0 dX10_sent_0 ?_
  refine g_iconst dX10_sent_1 ?_
  refine g_pI0 lf_X10_39 (X.S.l 50 rfl) (X.S.k 50 rfl rfl) dX10_sent_2 ?_
  show gY _ _ _ _ _ _ _ _ _ _ _ _ _ (mT h)
  generalize mT h = h at X ⊢
  refine g_aL0 dX10_sent_5 ?_
  refine g_iL1 dX10_sent_6 ?_
  refine e_v1i (d_isSent X _) lm_X10_449 dX10_sent_7 (X.S.l 50 rfl) (X.S.k 50 rfl rfl) rfl rfl rfl rfl ?_
  rw [ip_in hL (by have := X.b7; omega)]
  have hL6 : L < 6 := by have := X.b7; omega
  refine g_ifeq dX10_sent_10 (fun c10 => absurd c10 (by decide)) (fun c10 => ?_)
  refine g_iL2 dX10_sent_13 ?_
  refine g_iconst dX10_sent_14 ?_
  refine g_iconst dX10_sent_15 ?_
  refine e_s3i (d_in _ _ _) lm_X10_134 dX10_sent_16 rfl rfl rfl rfl ?_
  refine g_ifne dX10_sent_19 (fun c19 => absurd (in_o hf) c19) (fun c19 => ?_)
  refine g_aL0 dX10_sent_22 ?_
  refine g_iconst dX10_sent_23 ?_
  refine e_v1i (d_refused X.S _) lm_X10_45 dX10_sent_24 (X.S.l 50 rfl) (X.S.k 50 rfl rfl) rfl rfl rfl rfl ?_
  exact e_iret rfl dX10_sent_27 rfl rfl rfl rfl
theorem n_sent_no {h : Hp} {c : Nat} {cn : Nat → Nat} (X : MX (mT h) c cn) (l f : Int32) (hl : ipF l (nI (cn 7)) = 0) : gCi 2 0 0 yX10_sent cX10_sent 3 (some .int) [.ref 50, .int l, .int f] h (some (.int (-1))) (mR (mT h) 1) := by
  refine g_entry (lv := [.ref 50, .int l, .int f]) 0 pn_X10 rfl rfl rfl ?_
  refine g_aL0 dX10_sent_0 ?_
  refine g_iconst dX10_sent_1 ?_
  refine g_pI0 lf_X10_39 (X.S.l 50 rfl) (X.S.k 50 rfl rfl) dX10_sent_2 ?_
  show gY _ _ _ _ _ _ _ _ _ _ _ _ _ (mT h)
  generalize mT h = h at X ⊢
  refine g_aL0 dX10_sent_5 ?_
  refine g_iL1 dX10_sent_6 ?_
  refine e_v1i (d_isSent X _) lm_X10_449 dX10_sent_7 (X.S.l 50 rfl) (X.S.k 50 rfl rfl) rfl rfl rfl rfl ?_
  refine g_ifeq dX10_sent_10 (fun c10 => ?_) (fun c10 => absurd hl c10)
  refine g_aL0 dX10_sent_22 ?_
  refine g_iconst dX10_sent_23 ?_
  refine e_v1i (d_refused X.S _) lm_X10_45 dX10_sent_24 (X.S.l 50 rfl) (X.S.k 50 rfl rfl) rfl rfl rfl rfl ?_
  exact e_iret rfl dX10_sent_27 rfl rfl rfl rfl
theorem n_sent3 {h : Hp} {c : Nat} {cn : Nat → Nat} (X : MX (mT h) c cn) (B : MB (mT h) c cn) {L : Nat} (hL : L < cn 7) (f : Int32) (hf : f.toInt = 3) : gC 5 0 0 yX10_sent cX10_sent 3 (some .int) [.ref 50, .int (nI L), .int f] h (mQ (mT h) (.int (smF (wy0 (mT h) c cn (pn (gI (mT h) (c + 9) L)) (gI (mT h) (c + 10) L)))) 0) := by
  refine g_entry (lv := [.ref 50, .int (nI L), .int f]) 0 pn_X10 rfl rfl rfl ?_
  refine g_aL0 dX10_sent_0 ?_
  refine g_iconst dX10_sent_1 ?_
  refine g_pI0 lf_X10_39 (X.S.l 50 rfl) (X.S.k 50 rfl rfl) dX10_sent_2 ?_
  show gY _ _ _ _ _ _ _ _ _ _ _ _ _ (mT h)
  generalize mT h = h at X B ⊢
  refine g_aL0 dX10_sent_5 ?_
  refine g_iL1 dX10_sent_6 ?_
  refine e_v1i (d_isSent X _) lm_X10_449 dX10_sent_7 (X.S.l 50 rfl) (X.S.k 50 rfl rfl) rfl rfl rfl rfl ?_
  rw [ip_in hL (by have := X.b7; omega)]
  have hL6 : L < 6 := by have := X.b7; omega
  refine g_ifeq dX10_sent_10 (fun c10 => absurd c10 (by decide)) (fun c10 => ?_)
  refine g_iL2 dX10_sent_13 ?_
  refine g_iconst dX10_sent_14 ?_
  refine g_iconst dX10_sent_15 ?_
  refine e_s3i (d_in _ _ _) lm_X10_134 dX10_sent_16 rfl rfl rfl rfl ?_
  refine g_ifne dX10_sent_19 (fun c19 => ?_) (fun c19 => absurd c19 (in_k hf (by decide)))
  refine g_iL2 dX10_sent_28 ?_
  refine g_swOut dX10_sent_29 (by rw [hf]; decide) ?_
  obtain ⟨P, F, T, hP, hF, hT, eP, eF, eT⟩ := B.2.2.2 L hL
  have qF := pn_nI (n := F) (by have := X.b4; omega)
  refine g_aL0 dX10_sent_98 ?_
  refine g_aL0 dX10_sent_99 ?_
  refine g_iconst dX10_sent_100 ?_
  refine g_iconst dX10_sent_101 ?_
  refine g_aL0 dX10_sent_102 ?_
  refine g_getR lf_X10_359 (X.S.l 50 rfl) (X.S.k 50 rfl rfl) X.C dX10_sent_103 ?_
  refine g_getRn lf_X10_329 (X.M.l 0 rfl) (X.M.k 0 rfl rfl) (X.M.r 23 (j := 9) rfl) dX10_sent_106 ?_
  refine g_iL1 dX10_sent_109 ?_
  refine g_ialoadN (X.M.l 9 rfl) (X.M.k 9 rfl rfl) (X.M.n 9 (n := 6) rfl rfl) hL6 (by decide) dX10_sent_110 ?_
  rw [eF]
  refine g_aL0 dX10_sent_111 ?_
  refine g_getR lf_X10_359 (X.S.l 50 rfl) (X.S.k 50 rfl rfl) X.C dX10_sent_112 ?_
  refine g_getRn lf_X10_332 (X.M.l 0 rfl) (X.M.k 0 rfl rfl) (X.M.r 24 (j := 10) rfl) dX10_sent_115 ?_
  refine g_iL1 dX10_sent_118 ?_
  refine g_ialoadN (X.M.l 10 rfl) (X.M.k 10 rfl rfl) (X.M.n 10 (n := 6) rfl rfl) hL6 (by decide) dX10_sent_119 ?_
  rw [eT]
  refine r_v4i (d_minutesOf X (d_wk0 X B _ hF)) lm_X10_438 dX10_sent_120 (X.S.l 50 rfl) (X.S.k 50 rfl rfl) rfl rfl rfl rfl (fun v h' e => ⟨_, e.1⟩) (fun r h1 e => ?_)
  obtain ⟨e1, k1⟩ := e
  obtain rfl := Value.int.inj (Option.some.inj e1)
  have Sk := k1.S X.S
  refine e_v1i (d_good Sk _) lm_X10_49 dX10_sent_123 (Sk.l 50 rfl) (Sk.k 50 rfl rfl) rfl rfl rfl rfl ?_
  exact g_iret rfl dX10_sent_126 rfl rfl ⟨by rw [qF], h1, k1, rfl⟩

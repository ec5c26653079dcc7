/-! THE CLASS: Parser: lines -/
theorem bo {α β : Type} {o : Ex α} {x : α} {f : α → Ex β} {r : Ex β} (e : o = .ok x) (h : f x = r) : o.bind f = r := by rw [e]; exact h
theorem be {α β : Type} {o : Ex α} {e : Int32 × Nat} {f : α → Ex β} (h : o = .error e) : o.bind f = .error e := by rw [h]; rfl
abbrev CT := Nat → Nat → Int32
/-- the cells of the city at s -/
def CC (h : Hp) (s : Nat) : CT := fun a j => gI h (s + a) j
abbrev LR := Ex (Nat × CT × List Nm)
section PP
variable (tx : Nat → Int32) (en : Nat)
def kdP (q : Nat) : Ex (Int32 × Nat) := if isP tx en q 15 = 0 then (if isP tx en q 14 = 0 then (if isP tx en q 16 = 0 then er tx en 1 q else .ok (0, nx tx en q)) else .ok (2, nx tx en q)) else .ok (1, nx tx en q)
def roP (C : CT) (sh : Int32) (q : Nat) : Ex (Nat × Int32 × Int32) := rsP tx en (C 0 1) sh (pn (C 0 2)) 0 q 0 0
def panP (C : CT) (q : Nat) (K : List Nm) : LR := (nmP tx en q K (nI 1) (C 1 1)).bind fun x => (kdP tx en x.1).bind fun y => (roP tx en C 0 y.2).bind fun z => .ok (z.1, u2 (u2 C 2 (pn (C 1 1)) y.1) 3 (pn (C 1 1)) z.2.1, x.2)
def worP (C : CT) (q : Nat) (K : List Nm) : LR := (nmP tx en q K (nI 2) (C 1 2)).bind fun x => (roP tx en C 0 x.1).bind fun z => .ok (z.1, u2 C 4 (pn (C 1 2)) z.2.1, x.2)
def vieP (C : CT) (q : Nat) (K : List Nm) : LR := (nmP tx en q K (nI 3) (C 1 3)).bind fun x => (roP tx en C 0 x.1).bind fun z => .ok (z.1, u2 C 5 (pn (C 1 3)) z.2.1, x.2)
def corP (C : CT) (q : Nat) (K : List Nm) : LR := (nmP tx en q K (nI 4) (C 1 4)).bind fun x => (knP tx en x.1 x.2 3).bind fun v => .ok (nx tx en x.1, u2 C 6 (pn (C 1 4)) v, x.2)
def strP (C : CT) (q : Nat) (K : List Nm) : LR := (knP tx en q K 4).bind fun a => (knP tx en (nx tx en q) K 4).bind fun b => if b = a then er tx en 3 (nx tx en q) else if C 7 (pn a * 7 + pn b) ≤ 0 then ((nwP tx en (nx tx en (nx tx en q)) 1 99).bind fun m => (fxP tx en m.2 17).bind fun q4 => (nwP tx en q4 0 50).bind fun r => .ok (r.2, u2 (u2 (u2 (u2 C 7 (pn a * 7 + pn b) m.1) 7 (pn b * 7 + pn a) m.1) 8 (pn a * 7 + pn b) r.1) 8 (pn b * 7 + pn a) r.1, K)) else er tx en 3 (nx tx en q)
def thiP (C : CT) (q : Nat) (K : List Nm) : LR := (knP tx en q K 4).bind fun a => if thF (C 0 13) a = 0 then .ok (nx tx en q, u2 C 0 13 (C 0 13 ||| ((1 : Int32) <<< (a &&& 31))), K) else er tx en 3 q
def senP (C : CT) (q : Nat) (K : List Nm) : LR := (knP tx en q K 1).bind fun p => (knP tx en (nx tx en q) K 4).bind fun f => (knP tx en (nx tx en (nx tx en q)) K 4).bind fun t => .ok (nx tx en (nx tx en (nx tx en q)), u2 (u2 (u2 C 9 (pn (C 1 7)) p) 10 (pn (C 1 7)) f) 11 (pn (C 1 7)) t, K)
def perP (C : CT) (q : Nat) (K : List Nm) : LR := (nmP tx en q K (nI 8) (C 1 8)).bind fun x => .ok (x.1, C, x.2)
def shaP (C : CT) (ls : Nat) (q : Nat) (K : List Nm) : LR := (knP tx en q K 8).bind fun p => (roP tx en C 1 (nx tx en q)).bind fun z => if z.2.2 = 0 then .error (7, ls) else .ok (z.1, u2 (u2 (u2 C 12 (pn (C 1 9)) p) 13 (pn (C 1 9)) z.2.2) 14 (pn (C 1 9)) z.2.1, K)
def sheP (C : CT) (q : Nat) (K : List Nm) : LR := (nwP tx en q 0 99).bind fun v => .ok (v.2, u2 C 0 5 v.1, K)
def cityP (C : CT) (q : Nat) (K : List Nm) : LR := (fxP tx en q 11).bind fun q1 => (nwP tx en q1 2 5).bind fun a => (fxP tx en a.2 12).bind fun q2 => (nwP tx en q2 2 4).bind fun b => (fxP tx en b.2 13).bind fun q3 => (nwP tx en q3 0 99).bind fun c => (fxP tx en c.2 14).bind fun q4 => (nwP tx en q4 1 60).bind fun d => .ok (d.2, u2 (u2 (u2 (u2 C 0 1 a.1) 0 2 b.1) 0 3 c.1) 0 4 d.1, K)
end PP
/-- what reading a line leaves as it was -/
def PQ (s : Nat) (h' h : Hp) : Prop := h'.1 = h.1 ∧ h'.2.1 = h.2.1 ∧ h'.2.2.1 = h.2.2.1 ∧ h'.2.2.2.1 = h.2.2.2.1 ∧ (∀ b j, b ≠ 33 → b ≠ 34 → b ≠ 36 → b ≠ 37 → ¬ (s ≤ b ∧ b < s + 15) → gI h' b j = gI h b j) ∧ (∀ b j, b ≠ 35 → gJ h' b j = gJ h b j)
theorem PQ.refl (s : Nat) (h : Hp) : PQ s h h := ⟨rfl, rfl, rfl, rfl, fun _ _ _ _ _ _ _ => rfl, fun _ _ _ => rfl⟩
theorem PQ.trans {s : Nat} {a b c : Hp} (x : PQ s a b) (y : PQ s b c) : PQ s a c := ⟨x.1.trans y.1, x.2.1.trans y.2.1, x.2.2.1.trans y.2.2.1, x.2.2.2.1.trans y.2.2.2.1, fun p q r s u v z => (x.2.2.2.2.1 p q r s u v z).trans (y.2.2.2.2.1 p q r s u v z), fun p q r => (x.2.2.2.2.2 p q r).trans (y.2.2.2.2.2 p q r)⟩
theorem TQ.P {h' h : Hp} (x : TQ h' h) (s : Nat) : PQ s h' h := ⟨x.1, x.2.1, x.2.2.1, x.2.2.2.1, fun b j p q r t _ => x.2.2.2.2.1 b j p q r t, x.2.2.2.2.2⟩
theorem PQ.R {s : Nat} {h' h : Hp} (x : PQ s h' h) : gR h' = gR h := x.2.2.2.1
theorem PQ_I (h : Hp) {s a k : Nat} (v : Int32) (ha : a < 15) : PQ s (pI h (s + a) k v) h := ⟨rfl, rfl, rfl, rfl, fun b j _ _ _ _ z => gIq (by omega), fun _ _ _ => rfl⟩
def CE (h : Hp) (s : Nat) (C : CT) : Prop := ∀ a j, a < 15 → gI h (s + a) j = C a j
theorem CE.tq {h h' : Hp} {s : Nat} {C : CT} (hs : s = 3 ∨ s = 18) (e : CE h s C) (t : TQ h' h) : CE h' s C := fun a j ha => (t.2.2.2.2.1 _ _ (by omega) (by omega) (by omega) (by omega)).trans (e a j ha)
theorem CE.w {h : Hp} {s : Nat} {C : CT} (e : CE h s C) (a k : Nat) (v : Int32) : CE (pI h (s + a) k v) s (u2 C a k v) := by
  intro b j hb
  by_cases z : b = a ∧ j = k
  · rw [z.1, z.2, u2_s]; exact gIs _ _ _ _
  · rw [u2_n _ _ z]; exact (u2_n _ _ (by omega)).trans (e b j hb)
theorem CE.p33 {h : Hp} {s : Nat} {C : CT} (hs : s = 3 ∨ s = 18) (e : CE h s C) (k : Nat) (v : Int32) : CE (pI h 33 k v) s C := fun a j ha => (gIq (by omega)).trans (e a j ha)
/-- a line is read as o says -/
def LQ (tx : Nat → Int32) (en s : Nat) (h : Hp) (o : LR) (v : Option Value) (h' : Hp) : Prop := PQ s h' h ∧ ((∃ e, o = .error e ∧ v = some (.int 0) ∧ FL h' e) ∨ (∃ x, o = .ok x ∧ v = some (.int 1) ∧ FQ h' h ∧ PT tx en h' x.1 x.2.2 ∧ CE h' s x.2.1))
theorem c_kindOfPane {tx : Nat → Int32} {en : Nat} {h : Hp} {q : Nat} {K : List Nm} (T : PT tx en h q K) {s : Nat} (hs : s = 3 ∨ s = 18) (hR : gR h 33 5 = some s) {n : Nat} (hn : gI h (s + 1) 1 = nI n) (hn8 : n < 8) : gC 5 0 0 yX3_kindOfPane cX3_kindOfPane 2 (some .boolean) [.ref 33] h (fun v h' => (∃ e, kdP tx en q = .error e ∧ v = some (.int 0) ∧ TQ h' h ∧ FL h' e) ∨ (∃ x, kdP tx en q = .ok x ∧ v = some (.int 1) ∧ TQ h' (pI h (s + 2) n x.1) ∧ FQ h' h ∧ PT tx en h' x.2 K)) := by
  refine g_entry (lv := [.ref 33, .retAddr 0]) 1 pn_X3 rfl rfl rfl ?_
  refine g_iconst dX3_kindOfPane_0 ?_
  refine g_iS1 dX3_kindOfPane_1 rfl rfl ?_
  refine g_aL0 dX3_kindOfPane_2 ?_
  refine g_getR lf_X3_16 (T.S.l 33 rfl) (T.S.k 33 rfl rfl) (T.S.r 33 0 (b := 34) rfl rfl) dX3_kindOfPane_3 ?_
  refine g_ldcS (tx := "thick") (n := 15) (x := 16) (List.mem_of_getElem? (i := 15) rfl) (by decide) dX3_kindOfPane_6 ?_
  refine e_v1i (w_is T (k := 15) (by decide) (by decide)) lm_X3_80 dX3_kindOfPane_8 (T.S.l 34 rfl) (T.S.k 34 rfl rfl) rfl rfl rfl rfl ?_
  refine g_ifeq dX3_kindOfPane_11 (fun c11 => ?_) (fun c11 => ?_)
  · refine g_aL0 dX3_kindOfPane_19 ?_
    refine g_getR lf_X3_16 (T.S.l 33 rfl) (T.S.k 33 rfl rfl) (T.S.r 33 0 (b := 34) rfl rfl) dX3_kindOfPane_20 ?_
    refine g_ldcS (tx := "ice") (n := 14) (x := 15) (List.mem_of_getElem? (i := 14) rfl) (by decide) dX3_kindOfPane_23 ?_
    refine e_v1i (w_is T (k := 14) (by decide) (by decide)) lm_X3_80 dX3_kindOfPane_25 (T.S.l 34 rfl) (T.S.k 34 rfl rfl) rfl rfl rfl rfl ?_
    refine g_ifeq dX3_kindOfPane_28 (fun c28 => ?_) (fun c28 => ?_)
    · refine g_aL0 dX3_kindOfPane_36 ?_
      refine g_getR lf_X3_16 (T.S.l 33 rfl) (T.S.k 33 rfl rfl) (T.S.r 33 0 (b := 34) rfl rfl) dX3_kindOfPane_37 ?_
      refine g_ldcS (tx := "plain") (n := 16) (x := 17) (List.mem_of_getElem? (i := 16) rfl) (by decide) dX3_kindOfPane_40 ?_
      refine e_v1i (w_is T (k := 16) (by decide) (by decide)) lm_X3_80 dX3_kindOfPane_42 (T.S.l 34 rfl) (T.S.k 34 rfl rfl) rfl rfl rfl rfl ?_
      refine g_ifne dX3_kindOfPane_45 (fun c45 => ?_) (fun c45 => ?_)
      · have T1 : PT tx en (pI h (s + 2) n 0) q K := T.I _ (by omega) (by omega) (by omega) (by omega) (by omega)
        refine g_aL0 dX3_kindOfPane_54 ?_
        refine g_getR lf_X3_22 (T.S.l 33 rfl) (T.S.k 33 rfl rfl) hR dX3_kindOfPane_55 ?_
        refine g_getR lf_X3_188 (T.S.cl hs 0 rfl) (T.S.ck hs) (T.S.cr hs 6 (j := 2) rfl rfl) dX3_kindOfPane_58 ?_
        refine g_aL0 dX3_kindOfPane_61 ?_
        refine g_getR lf_X3_22 (T.S.l 33 rfl) (T.S.k 33 rfl rfl) hR dX3_kindOfPane_62 ?_
        refine g_getR lf_X3_63 (T.S.cl hs 0 rfl) (T.S.ck hs) (T.S.cr hs 0 (j := 1) rfl rfl) dX3_kindOfPane_65 ?_
        refine g_iconst dX3_kindOfPane_68 ?_
        refine g_ialoadK (T.S.cl hs 1 rfl) (T.S.cka hs 1 rfl rfl) (T.S.cn hs 1 (n := 11) rfl rfl rfl) rfl (j := 1) rfl dX3_kindOfPane_69 ?_
        rw [hn]
        refine g_iL1 dX3_kindOfPane_70 ?_
        refine g_iastoreN (T.S.cl hs 2 rfl) (T.S.cka hs 2 rfl rfl) (T.S.cn hs 2 (n := 8) rfl rfl rfl) hn8 (by decide) dX3_kindOfPane_71 ?_
        refine g_aL0 dX3_kindOfPane_72 ?_
        refine g_getR lf_X3_16 (T1.S.l 33 rfl) (T1.S.k 33 rfl rfl) (T1.S.r 33 0 (b := 34) rfl rfl) dX3_kindOfPane_73 ?_
        refine e_v0u (w_step T1) lm_X3_70 dX3_kindOfPane_76 (T1.S.l 34 rfl) (T1.S.k 34 rfl rfl) rfl rfl rfl rfl ?_
        refine g_iconst dX3_kindOfPane_79 ?_
        exact g_zret rfl rfl dX3_kindOfPane_80 rfl rfl (Or.inr ⟨_, ((if_pos c11).trans ((if_pos c28).trans (if_neg c45))), rfl, TQ_st _ _ _, (FQ_st _ _ _).trans (FQ_I h _ (by omega)), T1.step⟩)
      · refine g_aL0 dX3_kindOfPane_48 ?_
        refine g_iconst dX3_kindOfPane_49 ?_
        refine e_v1i (c_fail T.S _) lm_X3_66 dX3_kindOfPane_50 (T.S.l 33 rfl) (T.S.k 33 rfl rfl) rfl rfl rfl rfl ?_
        exact g_zret rfl rfl dX3_kindOfPane_53 rfl rfl (Or.inl ⟨_, ((if_pos c11).trans ((if_pos c28).trans (if_pos c45))), rfl, TQ_fl _ _, FL_fl T _⟩)
    · refine g_iconst dX3_kindOfPane_31 ?_
      refine g_iS1 dX3_kindOfPane_32 rfl rfl ?_
      refine g_goto dX3_kindOfPane_33 ?_
      have T1 : PT tx en (pI h (s + 2) n 2) q K := T.I _ (by omega) (by omega) (by omega) (by omega) (by omega)
      refine g_aL0 dX3_kindOfPane_54 ?_
      refine g_getR lf_X3_22 (T.S.l 33 rfl) (T.S.k 33 rfl rfl) hR dX3_kindOfPane_55 ?_
      refine g_getR lf_X3_188 (T.S.cl hs 0 rfl) (T.S.ck hs) (T.S.cr hs 6 (j := 2) rfl rfl) dX3_kindOfPane_58 ?_
      refine g_aL0 dX3_kindOfPane_61 ?_
      refine g_getR lf_X3_22 (T.S.l 33 rfl) (T.S.k 33 rfl rfl) hR dX3_kindOfPane_62 ?_
      refine g_getR lf_X3_63 (T.S.cl hs 0 rfl) (T.S.ck hs) (T.S.cr hs 0 (j := 1) rfl rfl) dX3_kindOfPane_65 ?_
      refine g_iconst dX3_kindOfPane_68 ?_
      refine g_ialoadK (T.S.cl hs 1 rfl) (T.S.cka hs 1 rfl rfl) (T.S.cn hs 1 (n := 11) rfl rfl rfl) rfl (j := 1) rfl dX3_kindOfPane_69 ?_
      rw [hn]
      refine g_iL1 dX3_kindOfPane_70 ?_
      refine g_iastoreN (T.S.cl hs 2 rfl) (T.S.cka hs 2 rfl rfl) (T.S.cn hs 2 (n := 8) rfl rfl rfl) hn8 (by decide) dX3_kindOfPane_71 ?_
      refine g_aL0 dX3_kindOfPane_72 ?_
      refine g_getR lf_X3_16 (T1.S.l 33 rfl) (T1.S.k 33 rfl rfl) (T1.S.r 33 0 (b := 34) rfl rfl) dX3_kindOfPane_73 ?_
      refine e_v0u (w_step T1) lm_X3_70 dX3_kindOfPane_76 (T1.S.l 34 rfl) (T1.S.k 34 rfl rfl) rfl rfl rfl rfl ?_
      refine g_iconst dX3_kindOfPane_79 ?_
      exact g_zret rfl rfl dX3_kindOfPane_80 rfl rfl (Or.inr ⟨_, ((if_pos c11).trans (if_neg c28)), rfl, TQ_st _ _ _, (FQ_st _ _ _).trans (FQ_I h _ (by omega)), T1.step⟩)
  · refine g_iconst dX3_kindOfPane_14 ?_
    refine g_iS1 dX3_kindOfPane_15 rfl rfl ?_
    refine g_goto dX3_kindOfPane_16 ?_
    have T1 : PT tx en (pI h (s + 2) n 1) q K := T.I _ (by omega) (by omega) (by omega) (by omega) (by omega)
    refine g_aL0 dX3_kindOfPane_54 ?_
    refine g_getR lf_X3_22 (T.S.l 33 rfl) (T.S.k 33 rfl rfl) hR dX3_kindOfPane_55 ?_
    refine g_getR lf_X3_188 (T.S.cl hs 0 rfl) (T.S.ck hs) (T.S.cr hs 6 (j := 2) rfl rfl) dX3_kindOfPane_58 ?_
    refine g_aL0 dX3_kindOfPane_61 ?_
    refine g_getR lf_X3_22 (T.S.l 33 rfl) (T.S.k 33 rfl rfl) hR dX3_kindOfPane_62 ?_
    refine g_getR lf_X3_63 (T.S.cl hs 0 rfl) (T.S.ck hs) (T.S.cr hs 0 (j := 1) rfl rfl) dX3_kindOfPane_65 ?_
    refine g_iconst dX3_kindOfPane_68 ?_
    refine g_ialoadK (T.S.cl hs 1 rfl) (T.S.cka hs 1 rfl rfl) (T.S.cn hs 1 (n := 11) rfl rfl rfl) rfl (j := 1) rfl dX3_kindOfPane_69 ?_
    rw [hn]
    refine g_iL1 dX3_kindOfPane_70 ?_
    refine g_iastoreN (T.S.cl hs 2 rfl) (T.S.cka hs 2 rfl rfl) (T.S.cn hs 2 (n := 8) rfl rfl rfl) hn8 (by decide) dX3_kindOfPane_71 ?_
    refine g_aL0 dX3_kindOfPane_72 ?_
    refine g_getR lf_X3_16 (T1.S.l 33 rfl) (T1.S.k 33 rfl rfl) (T1.S.r 33 0 (b := 34) rfl rfl) dX3_kindOfPane_73 ?_
    refine e_v0u (w_step T1) lm_X3_70 dX3_kindOfPane_76 (T1.S.l 34 rfl) (T1.S.k 34 rfl rfl) rfl rfl rfl rfl ?_
    refine g_iconst dX3_kindOfPane_79 ?_
    exact g_zret rfl rfl dX3_kindOfPane_80 rfl rfl (Or.inr ⟨_, (if_neg c11), rfl, TQ_st _ _ _, (FQ_st _ _ _).trans (FQ_I h _ (by omega)), T1.step⟩)
theorem c_shelfLine {tx : Nat → Int32} {en : Nat} {h : Hp} {q : Nat} {K : List Nm} (T : PT tx en h q K) {s : Nat} (hs : s = 3 ∨ s = 18) (hR : gR h 33 5 = some s) : gC 3 0 0 yX3_shelfLine cX3_shelfLine 1 (some .boolean) [.ref 33] h (LQ tx en s h (sheP tx en (CC h s) q K)) := by
  have T0 := T
  have P0 := PQ.refl s h
  have F0 := FQ.refl h
  have D0 : CE h s (CC h s) := fun _ _ _ => rfl
  have R0 := hR
  refine g_entry (lv := [.ref 33]) 0 pn_X3 rfl rfl rfl ?_
  refine g_aL0 dX3_shelfLine_0 ?_
  refine g_iconst dX3_shelfLine_1 ?_
  refine g_bipush dX3_shelfLine_2 ?_
  refine g_v2 (c_numberWithin T0 0 99) lm_X3_113 dX3_shelfLine_4 (T0.S.l 33 rfl) (T0.S.k 33 rfl rfl) rfl rfl rfl rfl (fun v h1 hq => ?_)
  obtain ⟨t1, ⟨e, ho1, rfl, fe⟩ | ⟨x1, ho1, rfl, f1, T1, nb1⟩⟩ := hq
  · refine g_ifne dX3_shelfLine_7 (fun c7 => absurd rfl c7) (fun c7 => ?_)
    refine g_iconst dX3_shelfLine_10 ?_
    exact g_zret rfl rfl dX3_shelfLine_11 rfl rfl ⟨(t1.P s).trans P0, Or.inl ⟨_, (be ho1), rfl, fe⟩⟩
  · have P1 := (t1.P s).trans P0
    have F1 := f1.trans F0
    have D1 := D0.tq hs t1
    have R1 : gR h1 33 5 = some s := by rw [P1.R]; exact hR
    refine g_ifne dX3_shelfLine_7 (fun c7 => ?_) (fun c7 => absurd c7 (by decide))
    refine g_aL0 dX3_shelfLine_12 ?_
    refine g_getR lf_X3_22 (T1.S.l 33 rfl) (T1.S.k 33 rfl rfl) R1 dX3_shelfLine_13 ?_
    refine g_aL0 dX3_shelfLine_16 ?_
    refine g_gI lf_X3_117 (T1.S.l 33 rfl) (T1.S.k 33 rfl rfl) dX3_shelfLine_17 ?_
    rw [nb1]
    refine g_pI0 lf_X3_240 (T1.S.cl hs 0 rfl) (T1.S.ck hs) dX3_shelfLine_20 ?_
    have T2 := T1.I (a := (s + 0)) (k := 5) x1.1 (by omega) (by omega) (by omega) (by omega) (by omega)
    have P2 := (PQ_I _ (s := s) (a := 0) (k := 5) x1.1 (by decide)).trans P1
    have F2 := (FQ_I _ (a := (s + 0)) (k := 5) x1.1 (by omega)).trans F1
    have D2 := D1.w 0 5 x1.1
    have R2 := R1
    refine g_iconst dX3_shelfLine_23 ?_
    exact g_zret rfl rfl dX3_shelfLine_24 rfl rfl ⟨P2, Or.inr ⟨_, (bo ho1 rfl), rfl, F2, T2, D2⟩⟩

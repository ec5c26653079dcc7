/-! THE CLASS: Parser: lines -/
theorem bo {α β : Type} {o : Ex α} {x : α} {f : α → Ex β} {r : Ex β} (e : o = .ok x) (h : f x = r) : o.bind f = r := by rw [e]; exact h
theorem be {α β : Type} {o : Ex α} {e : Int32 × Nat} {f : α → Ex β} (h : o = .error e) : o.bind f = .error e := by rw [h]; rfl
abbrev CT := Nat → Nat → Int32
/-- the cells of the city at s -/
def CC (h : Hp) (s : Nat) : CT := fun a j => gI h (s + a) j
abbrev LR := Ex (Nat × CT × List Nm)
section PP
variable (tx : Nat → Int32) (en : Nat)
def kdP (q : Nat) : Ex (Int32 × Nat) := if isP tx en q 15 = 0 then (if isP tx en q 14 = 0 then (if isP tx en q 16 = 0 then er tx en 1 q else .ok (0, nx tx en q)) else .ok (2, nx tx en q)) else .ok (1, nx tx en q)
def roP (C : CT) (sh : Int32) (q : Nat) : Ex (Nat × Int32 × Int32) := rsP tx en (C 0 1) sh (pn (C 0 2)) 0 q 0 0
def panP (C : CT) (q : Nat) (K : List Nm) : LR := (nmP tx en q K (nI 1) (C 1 1)).bind fun x => (kdP tx en x.1).bind fun y => (roP tx en C 0 y.2).bind fun z => .ok (z.1, u2 (u2 C 2 (pn (C 1 1)) y.1) 3 (pn (C 1 1)) z.2.1, x.2)
def worP (C : CT) (q : Nat) (K : List Nm) : LR := (nmP tx en q K (nI 2) (C 1 2)).bind fun x => (roP tx en C 0 x.1).bind fun z => .ok (z.1, u2 C 4 (pn (C 1 2)) z.2.1, x.2)
def vieP (C : CT) (q : Nat) (K : List Nm) : LR := (nmP tx en q K (nI 3) (C 1 3)).bind fun x => (roP tx en C 0 x.1).bind fun z => .ok (z.1, u2 C 5 (pn (C 1 3)) z.2.1, x.2)
def corP (C : CT) (q : Nat) (K : List Nm) : LR := (nmP tx en q K (nI 4) (C 1 4)).bind fun x => (knP tx en x.1 x.2 3).bind fun v => .ok (nx tx en x.1, u2 C 6 (pn (C 1 4)) v, x.2)
def strP (C : CT) (q : Nat) (K : List Nm) : LR := (knP tx en q K 4).bind fun a => (knP tx en (nx tx en q) K 4).bind fun b => if b = a then er tx en 3 (nx tx en q) else if C 7 (pn a * 7 + pn b) ≤ 0 then ((nwP tx en (nx tx en (nx tx en q)) 1 99).bind fun m => (fxP tx en m.2 17).bind fun q4 => (nwP tx en q4 0 50).bind fun r => .ok (r.2, u2 (u2 (u2 (u2 C 7 (pn a * 7 + pn b) m.1) 7 (pn b * 7 + pn a) m.1) 8 (pn a * 7 + pn b) r.1) 8 (pn b * 7 + pn a) r.1, K)) else er tx en 3 (nx tx en q)
def thiP (C : CT) (q : Nat) (K : List Nm) : LR := (knP tx en q K 4).bind fun a => if thF (C 0 13) a = 0 then .ok (nx tx en q, u2 C 0 13 (C 0 13 ||| ((1 : Int32) <<< (a &&& 31))), K) else er tx en 3 q
def senP (C : CT) (q : Nat) (K : List Nm) : LR := (knP tx en q K 1).bind fun p => (knP tx en (nx tx en q) K 4).bind fun f => (knP tx en (nx tx en (nx tx en q)) K 4).bind fun t => .ok (nx tx en (nx tx en (nx tx en q)), u2 (u2 (u2 C 9 (pn (C 1 7)) p) 10 (pn (C 1 7)) f) 11 (pn (C 1 7)) t, K)
def perP (C : CT) (q : Nat) (K : List Nm) : LR := (nmP tx en q K (nI 8) (C 1 8)).bind fun x => .ok (x.1, C, x.2)
def shaP (C : CT) (ls : Nat) (q : Nat) (K : List Nm) : LR := (knP tx en q K 8).bind fun p => (roP tx en C 1 (nx tx en q)).bind fun z => if z.2.2 = 0 then .error (7, ls) else .ok (z.1, u2 (u2 (u2 C 12 (pn (C 1 9)) p) 13 (pn (C 1 9)) z.2.2) 14 (pn (C 1 9)) z.2.1, K)
def sheP (C : CT) (q : Nat) (K : List Nm) : LR := (nwP tx en q 0 99).bind fun v => .ok (v.2, u2 C 0 5 v.1, K)
def cityP (C : CT) (q : Nat) (K : List Nm) : LR := (fxP tx en q 11).bind fun q1 => (nwP tx en q1 2 5).bind fun a => (fxP tx en a.2 12).bind fun q2 => (nwP tx en q2 2 4).bind fun b => (fxP tx en b.2 13).bind fun q3 => (nwP tx en q3 0 99).bind fun c => (fxP tx en c.2 14).bind fun q4 => (nwP tx en q4 1 60).bind fun d => .ok (d.2, u2 (u2 (u2 (u2 C 0 1 a.1) 0 2 b.1) 0 3 c.1) 0 4 d.1, K)
end PP
/-- what reading a line leaves as it was -/
def PQ (s : Nat) (h' h : Hp) : Prop := h'.1 = h.1 ∧ h'.2.1 = h.2.1 ∧ h'.2.2.1 = h.2.2.1 ∧ h'.2.2.2.1 = h.2.2.2.1 ∧ (∀ b j, b ≠ 33 → b ≠ 34 → b ≠ 36 → b ≠ 37 → ¬ (s ≤ b ∧ b < s + 15) → gI h' b j = gI h b j) ∧ (∀ b j, b ≠ 35 → gJ h' b j = gJ h b j)
theorem PQ.refl (s : Nat) (h : Hp) : PQ s h h := ⟨rfl, rfl, rfl, rfl, fun _ _ _ _ _ _ _ => rfl, fun _ _ _ => rfl⟩
theorem PQ.trans {s : Nat} {a b c : Hp} (x : PQ s a b) (y : PQ s b c) : PQ s a c := ⟨x.1.trans y.1, x.2.1.trans y.2.1, x.2.2.1.trans y.2.2.1, x.2.2.2.1.trans y.2.2.2.1, fun p q r s u v z => (x.2.2.2.2.1 p q r s u v z).trans (y.2.2.2.2.1 p q r s u v z), fun p q r => (x.2.2.2.2.2 p q r).trans (y.2.2.2.2.2 p q r)⟩
theorem TQ.P {h' h : Hp} (x : TQ h' h) (s : Nat) : PQ s h' h := ⟨x.1, x.2.1, x.2.2.1, x.2.2.2.1, fun b j p q r t _ => x.2.2.2.2.1 b j p q r t, x.2.2.2.2.2⟩
theorem PQ.R {s : Nat} {h' h : Hp} (x : PQ s h' h) : gR h' = gR h := x.2.2.2.1
theorem PQ.S {s : Nat} {h' h : Hp} (x : PQ s h' h) (S : SX h) : SX h' := S.eq x.1 x.2.1 x.2.2.1 x.2.2.2.1
theorem PQ_I (h : Hp) {s a k : Nat} (v : Int32) (ha : a < 15) : PQ s (pI h (s + a) k v) h := ⟨rfl, rfl, rfl, rfl, fun b j _ _ _ _ z => gIq (by omega), fun _ _ _ => rfl⟩
def CE (h : Hp) (s : Nat) (C : CT) : Prop := ∀ a j, a < 15 → gI h (s + a) j = C a j
theorem CE.tq {h h' : Hp} {s : Nat} {C : CT} (hs : s = 3 ∨ s = 18) (e : CE h s C) (t : TQ h' h) : CE h' s C := fun a j ha => (t.2.2.2.2.1 _ _ (by omega) (by omega) (by omega) (by omega)).trans (e a j ha)
theorem CE.w {h : Hp} {s : Nat} {C : CT} (e : CE h s C) (a k : Nat) (v : Int32) : CE (pI h (s + a) k v) s (u2 C a k v) := by
  intro b j hb
  by_cases z : b = a ∧ j = k
  · rw [z.1, z.2, u2_s]; exact gIs _ _ _ _
  · rw [u2_n _ _ z]; exact (u2_n _ _ (by omega)).trans (e b j hb)
theorem CE.p33 {h : Hp} {s : Nat} {C : CT} (hs : s = 3 ∨ s = 18) (e : CE h s C) (k : Nat) (v : Int32) : CE (pI h 33 k v) s C := fun a j ha => (gIq (by omega)).trans (e a j ha)
theorem PT.stP {tx : Nat → Int32} {en : Nat} {h h0 : Hp} {q s : Nat} {K : List Nm} (_ : PT tx en h q K) (P : PQ s h h0) : PQ s (tkH h en (nx tx en q)) h0 := ((TQ_st _ _ _).P s).trans P
theorem PT.stF {tx : Nat → Int32} {en : Nat} {h h0 : Hp} {q : Nat} {K : List Nm} (_ : PT tx en h q K) (F : FQ h h0) : FQ (tkH h en (nx tx en q)) h0 := (FQ_st _ _ _).trans F
theorem PT.stD {tx : Nat → Int32} {en : Nat} {h : Hp} {q s : Nat} {K : List Nm} {C : CT} (_ : PT tx en h q K) (hs : s = 3 ∨ s = 18) (D : CE h s C) : CE (tkH h en (nx tx en q)) s C := D.tq hs (TQ_st _ _ _)
/-- a line is read as o says -/
def LQ (tx : Nat → Int32) (en s : Nat) (h : Hp) (o : LR) (v : Option Value) (h' : Hp) : Prop := PQ s h' h ∧ ((∃ e, o = .error e ∧ v = some (.int 0) ∧ FL h' e) ∨ (∃ x, o = .ok x ∧ v = some (.int 1) ∧ FQ h' h ∧ PT tx en h' x.1 x.2.2 ∧ CE h' s x.2.1))
theorem c_kindOfPane {tx : Nat → Int32} {en : Nat} {h : Hp} {q : Nat} {K : List Nm} (T : PT tx en h q K) {s : Nat} (hs : s = 3 ∨ s = 18) (hR : gR h 33 5 = some s) {n : Nat} (hn : gI h (s + 1) 1 = nI n) (hn8 : n < 8) : gC 5 0 0 yX3_kindOfPane cX3_kindOfPane 2 (some .boolean) [.ref 33] h (fun v h' => (∃ e, kdP tx en q = .error e ∧ v = some (.int 0) ∧ TQ h' h ∧ FL h' e) ∨ (∃ x, kdP tx en q = .ok x ∧ v = some (.int 1) ∧ TQ h' (pI h (s + 2) n x.1) ∧ FQ h' h ∧ PT tx en h' x.2 K)) := by
  refine g_entry (lv := [.ref 33, .retAddr 0]) 1 pn_X3 rfl rfl rfl ?_
  refine g_iconst dX3_kindOfPane_0 ?_
  refine g_iS1 dX3_kindOfPane_1 rfl rfl ?_
  refine g_aL0 dX3_kindOfPane_2 ?_
  refine g_getR lf_X3_16 (T.S.l 33 rfl) (T.S.k 33 rfl rfl) (T.S.r 33 0 (b := 34) rfl rfl) dX3_kindOfPane_3 ?_
  refine g_ldcS (tx := "thick") (n := 15) (x := 16) (List.mem_of_getElem? (i := 15) rfl) (by decide) dX3_kindOfPane_6 ?_
  refine e_v1i (w_is T (k := 15) (by decide) (by decide)) lm_X3_80 dX3_kindOfPane_8 (T.S.l 34 rfl) (T.S.k 34 rfl rfl) rfl rfl rfl rfl ?_
  refine g_ifeq dX3_kindOfPane_11 (fun c11 => ?_) (fun c11 => ?_)
  · refine g_aL0 dX3_kindOfPane_19 ?_
    refine g_getR lf_X3_16 (T.S.l 33 rfl) (T.S.k 33 rfl rfl) (T.S.r 33 0 (b := 34) rfl rfl) dX3_kindOfPane_20 ?_
    refine g_ldcS (tx := "ice") (n := 14) (x := 15) (List.mem_of_getElem? (i := 14) rfl) (by decide) dX3_kindOfPane_23 ?_
    refine e_v1i (w_is T (k := 14) (by decide) (by decide)) lm_X3_80 dX3_kindOfPane_25 (T.S.l 34 rfl) (T.S.k 34 rfl rfl) rfl rfl rfl rfl ?_
    refine g_ifeq dX3_kindOfPane_28 (fun c28 => ?_) (fun c28 => ?_)
    · refine g_aL0 dX3_kindOfPane_36 ?_
      refine g_getR lf_X3_16 (T.S.l 33 rfl) (T.S.k 33 rfl rfl) (T.S.r 33 0 (b := 34) rfl rfl) dX3_kindOfPane_37 ?_
      refine g_ldcS (tx := "plain") (n := 16) (x := 17) (List.mem_of_getElem? (i := 16) rfl) (by decide) dX3_kindOfPane_40 ?_
      refine e_v1i (w_is T (k := 16) (by decide) (by decide)) lm_X3_80 dX3_kindOfPane_42 (T.S.l 34 rfl) (T.S.k 34 rfl rfl) rfl rfl rfl rfl ?_
      refine g_ifne dX3_kindOfPane_45 (fun c45 => ?_) (fun c45 => ?_)
      · have T1 : PT tx en (pI h (s + 2) n 0) q K := T.I _ (by omega) (by omega) (by omega) (by omega) (by omega)
        refine g_aL0 dX3_kindOfPane_54 ?_
        refine g_getR lf_X3_22 (T.S.l 33 rfl) (T.S.k 33 rfl rfl) hR dX3_kindOfPane_55 ?_
        refine g_getR lf_X3_188 (T.S.cl hs 0 rfl) (T.S.ck hs) (T.S.cr hs 6 (j := 2) rfl rfl) dX3_kindOfPane_58 ?_
        refine g_aL0 dX3_kindOfPane_61 ?_
        refine g_getR lf_X3_22 (T.S.l 33 rfl) (T.S.k 33 rfl rfl) hR dX3_kindOfPane_62 ?_
        refine g_getR lf_X3_63 (T.S.cl hs 0 rfl) (T.S.ck hs) (T.S.cr hs 0 (j := 1) rfl rfl) dX3_kindOfPane_65 ?_
        refine g_iconst dX3_kindOfPane_68 ?_
        refine g_ialoadK (T.S.cl hs 1 rfl) (T.S.cka hs 1 rfl rfl) (T.S.cn hs 1 (n := 11) rfl rfl rfl) rfl (j := 1) rfl dX3_kindOfPane_69 ?_
        rw [hn]
        refine g_iL1 dX3_kindOfPane_70 ?_
        refine g_iastoreN (T.S.cl hs 2 rfl) (T.S.cka hs 2 rfl rfl) (T.S.cn hs 2 (n := 8) rfl rfl rfl) hn8 (by decide) dX3_kindOfPane_71 ?_
        refine g_aL0 dX3_kindOfPane_72 ?_
        refine g_getR lf_X3_16 (T1.S.l 33 rfl) (T1.S.k 33 rfl rfl) (T1.S.r 33 0 (b := 34) rfl rfl) dX3_kindOfPane_73 ?_
        refine e_v0u (w_step T1) lm_X3_70 dX3_kindOfPane_76 (T1.S.l 34 rfl) (T1.S.k 34 rfl rfl) rfl rfl rfl rfl ?_
        refine g_iconst dX3_kindOfPane_79 ?_
        exact g_zret rfl rfl dX3_kindOfPane_80 rfl rfl (Or.inr ⟨_, ((if_pos c11).trans ((if_pos c28).trans (if_neg c45))), rfl, TQ_st _ _ _, (FQ_st _ _ _).trans (FQ_I h _ (by omega)), T1.step⟩)
      · refine g_aL0 dX3_kindOfPane_48 ?_
        refine g_iconst dX3_kindOfPane_49 ?_
        refine e_v1i (c_fail T.S _) lm_X3_66 dX3_kindOfPane_50 (T.S.l 33 rfl) (T.S.k 33 rfl rfl) rfl rfl rfl rfl ?_
        exact g_zret rfl rfl dX3_kindOfPane_53 rfl rfl (Or.inl ⟨_, ((if_pos c11).trans ((if_pos c28).trans (if_pos c45))), rfl, TQ_fl _ _, FL_fl T _⟩)
    · refine g_iconst dX3_kindOfPane_31 ?_
      refine g_iS1 dX3_kindOfPane_32 rfl rfl ?_
      refine g_goto dX3_kindOfPane_33 ?_
      have T1 : PT tx en (pI h (s + 2) n 2) q K := T.I _ (by omega) (by omega) (by omega) (by omega) (by omega)
      refine g_aL0 dX3_kindOfPane_54 ?_
      refine g_getR lf_X3_22 (T.S.l 33 rfl) (T.S.k 33 rfl rfl) hR dX3_kindOfPane_55 ?_
      refine g_getR lf_X3_188 (T.S.cl hs 0 rfl) (T.S.ck hs) (T.S.cr hs 6 (j := 2) rfl rfl) dX3_kindOfPane_58 ?_
      refine g_aL0 dX3_kindOfPane_61 ?_
      refine g_getR lf_X3_22 (T.S.l 33 rfl) (T.S.k 33 rfl rfl) hR dX3_kindOfPane_62 ?_
      refine g_getR lf_X3_63 (T.S.cl hs 0 rfl) (T.S.ck hs) (T.S.cr hs 0 (j := 1) rfl rfl) dX3_kindOfPane_65 ?_
      refine g_iconst dX3_kindOfPane_68 ?_
      refine g_ialoadK (T.S.cl hs 1 rfl) (T.S.cka hs 1 rfl rfl) (T.S.cn hs 1 (n := 11) rfl rfl rfl) rfl (j := 1) rfl dX3_kindOfPane_69 ?_
      rw [hn]
      refine g_iL1 dX3_kindOfPane_70 ?_
      refine g_iastoreN (T.S.cl hs 2 rfl) (T.S.cka hs 2 rfl rfl) (T.S.cn hs 2 (n := 8) rfl rfl rfl) hn8 (by decide) dX3_kindOfPane_71 ?_
      refine g_aL0 dX3_kindOfPane_72 ?_
      refine g_getR lf_X3_16 (T1.S.l 33 rfl) (T1.S.k 33 rfl rfl) (T1.S.r 33 0 (b := 34) rfl rfl) dX3_kindOfPane_73 ?_
      refine e_v0u (w_step T1) lm_X3_70 dX3_kindOfPane_76 (T1.S.l 34 rfl) (T1.S.k 34 rfl rfl) rfl rfl rfl rfl ?_
      refine g_iconst dX3_kindOfPane_79 ?_
      exact g_zret rfl rfl dX3_kindOfPane_80 rfl rfl (Or.inr ⟨_, ((if_pos c11).trans (if_neg c28)), rfl, TQ_st _ _ _, (FQ_st _ _ _).trans (FQ_I h _ (by omega)), T1.step⟩)
  · refine g_iconst dX3_kindOfPane_14 ?_
    refine g_iS1 dX3_kindOfPane_15 rfl rfl ?_
    refine g_goto dX3_kindOfPane_16 ?_
    have T1 : PT tx en (pI h (s + 2) n 1) q K := T.I _ (by omega) (by omega) (by omega) (by omega) (by omega)
    refine g_aL0 dX3_kindOfPane_54 ?_
    refine g_getR lf_X3_22 (T.S.l 33 rfl) (T.S.k 33 rfl rfl) hR dX3_kindOfPane_55 ?_
    refine g_getR lf_X3_188 (T.S.cl hs 0 rfl) (T.S.ck hs) (T.S.cr hs 6 (j := 2) rfl rfl) dX3_kindOfPane_58 ?_
    refine g_aL0 dX3_kindOfPane_61 ?_
    refine g_getR lf_X3_22 (T.S.l 33 rfl) (T.S.k 33 rfl rfl) hR dX3_kindOfPane_62 ?_
    refine g_getR lf_X3_63 (T.S.cl hs 0 rfl) (T.S.ck hs) (T.S.cr hs 0 (j := 1) rfl rfl) dX3_kindOfPane_65 ?_
    refine g_iconst dX3_kindOfPane_68 ?_
    refine g_ialoadK (T.S.cl hs 1 rfl) (T.S.cka hs 1 rfl rfl) (T.S.cn hs 1 (n := 11) rfl rfl rfl) rfl (j := 1) rfl dX3_kindOfPane_69 ?_
    rw [hn]
    refine g_iL1 dX3_kindOfPane_70 ?_
    refine g_iastoreN (T.S.cl hs 2 rfl) (T.S.cka hs 2 rfl rfl) (T.S.cn hs 2 (n := 8) rfl rfl rfl) hn8 (by decide) dX3_kindOfPane_71 ?_
    refine g_aL0 dX3_kindOfPane_72 ?_
    refine g_getR lf_X3_16 (T1.S.l 33 rfl) (T1.S.k 33 rfl rfl) (T1.S.r 33 0 (b := 34) rfl rfl) dX3_kindOfPane_73 ?_
    refine e_v0u (w_step T1) lm_X3_70 dX3_kindOfPane_76 (T1.S.l 34 rfl) (T1.S.k 34 rfl rfl) rfl rfl rfl rfl ?_
    refine g_iconst dX3_kindOfPane_79 ?_
    exact g_zret rfl rfl dX3_kindOfPane_80 rfl rfl (Or.inr ⟨_, (if_neg c11), rfl, TQ_st _ _ _, (FQ_st _ _ _).trans (FQ_I h _ (by omega)), T1.step⟩)
theorem kn_in {key : Int64} : ∀ {K : List Nm} {p : Int32 × Int32}, fdP key K = some p → ∃ x ∈ K, x.2 = p
  | [], _, h => by cases h
  | y :: K, p, h => by
    unfold fdP at h
    split at h
    · cases h; exact ⟨y, List.mem_cons_self, rfl⟩
    · obtain ⟨x, hx, e⟩ := kn_in h; exact ⟨x, List.mem_cons_of_mem _ hx, e⟩
theorem kn_ok {tx : Nat → Int32} {en q : Nat} {K : List Nm} {so a : Int32} (h : knP tx en q K so = .ok a) : ∃ x ∈ K, x.2 = (so, a) := by
  unfold knP at h
  split at h
  · split at h
    · split at h
      · cases h
      · rename_i p e
        split at h
        · rename_i z
          obtain ⟨x, hx, y⟩ := kn_in e
          cases h
          refine ⟨x, hx, ?_⟩
          rw [y, ← z]
        · cases h
    · cases h
  · cases h
/-- names of corners have the corners' numbers -/
def KB (K : List Nm) : Prop := ∀ x ∈ K, x.2.1 = 4 → ∃ A, A < 7 ∧ x.2.2 = nI A
theorem kn_c {tx : Nat → Int32} {en q : Nat} {K : List Nm} {a : Int32} (b : KB K) (h : knP tx en q K 4 = .ok a) : a = nI (pn a) ∧ pn a < 7 := by
  obtain ⟨x, hx, e⟩ := kn_ok h
  obtain ⟨A, hA, z⟩ := b x hx (by rw [e])
  have z2 : a = nI A := by rw [← z, e]
  have z3 : pn a = A := by rw [z2]; exact pn_nI (by omega)
  exact ⟨by rw [z3]; exact z2, by omega⟩
theorem st7 {a b : Int32} (ha : a = nI (pn a)) (hb : b = nI (pn b)) : a * 7 + b = nI (pn a * 7 + pn b) := by
  have e : nI (pn a) * nI 7 + nI (pn b) = nI (pn a * 7 + pn b) := by rw [pk_mul, nI_add]
  rw [← ha, ← hb] at e
  exact e
theorem c_rowsW {tx : Nat → Int32} {en : Nat} {h : Hp} {q : Nat} {K : List Nm} (T : PT tx en h q K) {s : Nat} (hs : s = 3 ∨ s = 18) (hR : gR h 33 5 = some s) {wd : Int32} (hw : gI h s 1 = wd) {N : Nat} (hN : gI h s 2 = nI N) (hN4 : N ≤ 4) (sh : Int32) : gC 2 0 0 yX3_rows cX3_rows 4 (some .boolean) [.ref 33, .int sh] h (RQ h (rsP tx en wd sh N 0 q 0 0) (fun x h' => PT tx en h' x.1 K ∧ gI h' 33 8 = x.2.1 ∧ gI h' 33 9 = x.2.2)) := by
  subst hw
  exact c_rows T hs hR hN hN4 sh
theorem c_newNameC {tx : Nat → Int32} {en : Nat} {h : Hp} {q : Nat} {K : List Nm} (T : PT tx en h q K) {s : Nat} (hs : s = 3 ∨ s = 18) (hR : gR h 33 5 = some s) {k : Nat} (hk : k < 11) {c : Int32} (hc : gI h (s + 1) k = c) : gC 6 0 0 yX3_newName cX3_newName 4 (some .boolean) [.ref 33, .int (nI k)] h (RQ h (nmP tx en q K (nI k) c) (fun x h' => PT tx en h' x.1 x.2)) := by
  subst hc
  exact c_newName T hs hR hk
theorem c_shelfLine {tx : Nat → Int32} {en : Nat} {h : Hp} {q : Nat} {K : List Nm} (T : PT tx en h q K) {s : Nat} (hs : s = 3 ∨ s = 18) (hR : gR h 33 5 = some s) {C : CT} (D : CE h s C) : gC 3 0 0 yX3_shelfLine cX3_shelfLine 1 (some .boolean) [.ref 33] h (LQ tx en s h (sheP tx en C q K)) := by
  have T0 := T
  have P0 := PQ.refl s h
  have F0 := FQ.refl h
  have D0 := D
  have R0 := hR
  refine g_entry (lv := [.ref 33]) 0 pn_X3 rfl rfl rfl ?_
  refine g_aL0 dX3_shelfLine_0 ?_
  refine g_iconst dX3_shelfLine_1 ?_
  refine g_bipush dX3_shelfLine_2 ?_
  refine g_v2 (c_numberWithin T0 0 99) lm_X3_113 dX3_shelfLine_4 (T0.S.l 33 rfl) (T0.S.k 33 rfl rfl) rfl rfl rfl rfl (fun v h1 hq => ?_)
  obtain ⟨t1, ⟨e, ho1, rfl, fe⟩ | ⟨x1, ho1, rfl, f1, T1, nb1⟩⟩ := hq
  · refine g_ifne dX3_shelfLine_7 (fun c7 => absurd rfl c7) (fun c7 => ?_)
    refine g_iconst dX3_shelfLine_10 ?_
    exact g_zret rfl rfl dX3_shelfLine_11 rfl rfl ⟨(t1.P s).trans P0, Or.inl ⟨_, (be ho1), rfl, fe⟩⟩
  · have P1 := (t1.P s).trans P0
    have F1 := f1.trans F0
    have D1 := D0.tq hs t1
    have R1 : gR h1 33 5 = some s := by rw [P1.R]; exact hR
    refine g_ifne dX3_shelfLine_7 (fun c7 => ?_) (fun c7 => absurd c7 (by decide))
    refine g_aL0 dX3_shelfLine_12 ?_
    refine g_getR lf_X3_22 (T1.S.l 33 rfl) (T1.S.k 33 rfl rfl) R1 dX3_shelfLine_13 ?_
    refine g_aL0 dX3_shelfLine_16 ?_
    refine g_gI lf_X3_117 (T1.S.l 33 rfl) (T1.S.k 33 rfl rfl) dX3_shelfLine_17 ?_
    rw [nb1]
    refine g_pI0 lf_X3_240 (T1.S.cl hs 0 rfl) (T1.S.ck hs) dX3_shelfLine_20 ?_
    have T2 := T1.I (a := (s + 0)) (k := 5) x1.1 (by omega) (by omega) (by omega) (by omega) (by omega)
    have P2 := (PQ_I _ (s := s) (a := 0) (k := 5) x1.1 (by decide)).trans P1
    have F2 := (FQ_I _ (a := (s + 0)) (k := 5) x1.1 (by omega)).trans F1
    have D2 := D1.w 0 5 x1.1
    have R2 := R1
    refine g_iconst dX3_shelfLine_23 ?_
    exact g_zret rfl rfl dX3_shelfLine_24 rfl rfl ⟨P2, Or.inr ⟨_, (bo ho1 rfl), rfl, F2, T2, D2⟩⟩
def firP (tx : Nat → Int32) (en : Nat) (C : CT) (q : Nat) (K : List Nm) : LR := if lsF tx en q = -1 then er tx en 1 q else if lsF tx en q = 0 then cityP tx en C (nx tx en q) K else er tx en 6 q
theorem c_firstLine {tx : Nat → Int32} {en : Nat} {h : Hp} {q : Nat} {K : List Nm} (T : PT tx en h q K) {s : Nat} (hs : s = 3 ∨ s = 18) (hR : gR h 33 5 = some s) {C : CT} (D : CE h s C) : gC 6 0 0 yX3_firstLine cX3_firstLine 2 (some .boolean) [.ref 33] h (LQ tx en s h (firP tx en C q K)) := by
  have T0 := T
  have P0 := PQ.refl s h
  have F0 := FQ.refl h
  have D0 := D
  have R0 := hR
  refine g_entry (lv := [.ref 33, .retAddr 0]) 1 pn_X3 rfl rfl rfl ?_
  refine g_aL0 dX3_firstLine_0 ?_
  refine e_v0i (c_lineSort T0) lm_X3_104 dX3_firstLine_1 (T0.S.l 33 rfl) (T0.S.k 33 rfl rfl) rfl rfl rfl rfl ?_
  refine g_iS1 dX3_firstLine_4 rfl rfl ?_
  refine g_iL1 dX3_firstLine_5 ?_
  refine g_iconst dX3_firstLine_6 ?_
  refine g_icne dX3_firstLine_7 (fun c7 => ?_) (fun c7 => ?_)
  · refine g_iL1 dX3_firstLine_16 ?_
    refine g_ifeq dX3_firstLine_17 (fun c17 => ?_) (fun c17 => ?_)
    · refine g_aL0 dX3_firstLine_27 ?_
      refine g_getR lf_X3_16 (T0.S.l 33 rfl) (T0.S.k 33 rfl rfl) (T0.S.r 33 0 (b := 34) rfl rfl) dX3_firstLine_28 ?_
      refine e_v0u (w_step T0) lm_X3_70 dX3_firstLine_31 (T0.S.l 34 rfl) (T0.S.k 34 rfl rfl) rfl rfl rfl rfl ?_
      have T1 := T0.step
      have P1 := T0.stP P0
      have F1 := T0.stF F0
      have D1 := T0.stD hs D0
      have R1 := R0
      refine g_aL0 dX3_firstLine_34 ?_
      refine g_ldcS (tx := "wide") (n := 11) (x := 12) (List.mem_of_getElem? (i := 11) rfl) (by decide) dX3_firstLine_35 ?_
      refine g_v1 (c_fixed T1 (k := 11) (by decide) (by decide)) lm_X3_110 dX3_firstLine_37 (T1.S.l 33 rfl) (T1.S.k 33 rfl rfl) rfl rfl rfl rfl (fun v h2 hq => ?_)
      obtain ⟨t2, ⟨e, ho2, rfl, fe⟩ | ⟨x2, ho2, rfl, f2, T2⟩⟩ := hq
      · refine g_ifeq dX3_firstLine_40 (fun c40 => ?_) (fun c40 => absurd rfl c40)
        refine g_iconst dX3_firstLine_52 ?_
        exact g_zret rfl rfl dX3_firstLine_53 rfl rfl ⟨(t2.P s).trans P1, Or.inl ⟨_, (((if_neg c7).trans (if_pos c17)).trans (be ho2)), rfl, fe⟩⟩
      · have P2 := (t2.P s).trans P1
        have F2 := f2.trans F1
        have D2 := D1.tq hs t2
        have R2 : gR h2 33 5 = some s := by rw [P2.R]; exact hR
        refine g_ifeq dX3_firstLine_40 (fun c40 => absurd c40 (by decide)) (fun c40 => ?_)
        refine g_aL0 dX3_firstLine_43 ?_
        refine g_iconst dX3_firstLine_44 ?_
        refine g_iconst dX3_firstLine_45 ?_
        refine g_v2 (c_numberWithin T2 2 5) lm_X3_113 dX3_firstLine_46 (T2.S.l 33 rfl) (T2.S.k 33 rfl rfl) rfl rfl rfl rfl (fun v h3 hq => ?_)
        obtain ⟨t3, ⟨e, ho3, rfl, fe⟩ | ⟨x3, ho3, rfl, f3, T3, nb3⟩⟩ := hq
        · refine g_ifne dX3_firstLine_49 (fun c49 => absurd rfl c49) (fun c49 => ?_)
          refine g_iconst dX3_firstLine_52 ?_
          exact g_zret rfl rfl dX3_firstLine_53 rfl rfl ⟨(t3.P s).trans P2, Or.inl ⟨_, (((if_neg c7).trans (if_pos c17)).trans (bo ho2 (be ho3))), rfl, fe⟩⟩
        · have P3 := (t3.P s).trans P2
          have F3 := f3.trans F2
          have D3 := D2.tq hs t3
          have R3 : gR h3 33 5 = some s := by rw [P3.R]; exact hR
          refine g_ifne dX3_firstLine_49 (fun c49 => ?_) (fun c49 => absurd c49 (by decide))
          refine g_aL0 dX3_firstLine_54 ?_
          refine g_getR lf_X3_22 (T3.S.l 33 rfl) (T3.S.k 33 rfl rfl) R3 dX3_firstLine_55 ?_
          refine g_aL0 dX3_firstLine_58 ?_
          refine g_gI lf_X3_117 (T3.S.l 33 rfl) (T3.S.k 33 rfl rfl) dX3_firstLine_59 ?_
          rw [nb3]
          refine g_pI0 lf_X3_120 (T3.S.cl hs 0 rfl) (T3.S.ck hs) dX3_firstLine_62 ?_
          have T4 := T3.I (a := (s + 0)) (k := 1) x3.1 (by omega) (by omega) (by omega) (by omega) (by omega)
          have P4 := (PQ_I _ (s := s) (a := 0) (k := 1) x3.1 (by decide)).trans P3
          have F4 := (FQ_I _ (a := (s + 0)) (k := 1) x3.1 (by omega)).trans F3
          have D4 := D3.w 0 1 x3.1
          have R4 := R3
          refine g_aL0 dX3_firstLine_65 ?_
          refine g_ldcS (tx := "high") (n := 12) (x := 13) (List.mem_of_getElem? (i := 12) rfl) (by decide) dX3_firstLine_66 ?_
          refine g_v1 (c_fixed T4 (k := 12) (by decide) (by decide)) lm_X3_110 dX3_firstLine_68 (T4.S.l 33 rfl) (T4.S.k 33 rfl rfl) rfl rfl rfl rfl (fun v h5 hq => ?_)
          obtain ⟨t5, ⟨e, ho5, rfl, fe⟩ | ⟨x5, ho5, rfl, f5, T5⟩⟩ := hq
          · refine g_ifeq dX3_firstLine_71 (fun c71 => ?_) (fun c71 => absurd rfl c71)
            refine g_iconst dX3_firstLine_83 ?_
            exact g_zret rfl rfl dX3_firstLine_84 rfl rfl ⟨(t5.P s).trans P4, Or.inl ⟨_, (((if_neg c7).trans (if_pos c17)).trans (bo ho2 (bo ho3 (be ho5)))), rfl, fe⟩⟩
          · have P5 := (t5.P s).trans P4
            have F5 := f5.trans F4
            have D5 := D4.tq hs t5
            have R5 : gR h5 33 5 = some s := by rw [P5.R]; exact hR
            refine g_ifeq dX3_firstLine_71 (fun c71 => absurd c71 (by decide)) (fun c71 => ?_)
            refine g_aL0 dX3_firstLine_74 ?_
            refine g_iconst dX3_firstLine_75 ?_
            refine g_iconst dX3_firstLine_76 ?_
            refine g_v2 (c_numberWithin T5 2 4) lm_X3_113 dX3_firstLine_77 (T5.S.l 33 rfl) (T5.S.k 33 rfl rfl) rfl rfl rfl rfl (fun v h6 hq => ?_)
            obtain ⟨t6, ⟨e, ho6, rfl, fe⟩ | ⟨x6, ho6, rfl, f6, T6, nb6⟩⟩ := hq
            · refine g_ifne dX3_firstLine_80 (fun c80 => absurd rfl c80) (fun c80 => ?_)
              refine g_iconst dX3_firstLine_83 ?_
              exact g_zret rfl rfl dX3_firstLine_84 rfl rfl ⟨(t6.P s).trans P5, Or.inl ⟨_, (((if_neg c7).trans (if_pos c17)).trans (bo ho2 (bo ho3 (bo ho5 (be ho6))))), rfl, fe⟩⟩
            · have P6 := (t6.P s).trans P5
              have F6 := f6.trans F5
              have D6 := D5.tq hs t6
              have R6 : gR h6 33 5 = some s := by rw [P6.R]; exact hR
              refine g_ifne dX3_firstLine_80 (fun c80 => ?_) (fun c80 => absurd c80 (by decide))
              refine g_aL0 dX3_firstLine_85 ?_
              refine g_getR lf_X3_22 (T6.S.l 33 rfl) (T6.S.k 33 rfl rfl) R6 dX3_firstLine_86 ?_
              refine g_aL0 dX3_firstLine_89 ?_
              refine g_gI lf_X3_117 (T6.S.l 33 rfl) (T6.S.k 33 rfl rfl) dX3_firstLine_90 ?_
              rw [nb6]
              refine g_pI0 lf_X3_124 (T6.S.cl hs 0 rfl) (T6.S.ck hs) dX3_firstLine_93 ?_
              have T7 := T6.I (a := (s + 0)) (k := 2) x6.1 (by omega) (by omega) (by omega) (by omega) (by omega)
              have P7 := (PQ_I _ (s := s) (a := 0) (k := 2) x6.1 (by decide)).trans P6
              have F7 := (FQ_I _ (a := (s + 0)) (k := 2) x6.1 (by omega)).trans F6
              have D7 := D6.w 0 2 x6.1
              have R7 := R6
              refine g_aL0 dX3_firstLine_96 ?_
              refine g_ldcS (tx := "hail") (n := 13) (x := 14) (List.mem_of_getElem? (i := 13) rfl) (by decide) dX3_firstLine_97 ?_
              refine g_v1 (c_fixed T7 (k := 13) (by decide) (by decide)) lm_X3_110 dX3_firstLine_99 (T7.S.l 33 rfl) (T7.S.k 33 rfl rfl) rfl rfl rfl rfl (fun v h8 hq => ?_)
              obtain ⟨t8, ⟨e, ho8, rfl, fe⟩ | ⟨x8, ho8, rfl, f8, T8⟩⟩ := hq
              · refine g_ifeq dX3_firstLine_102 (fun c102 => ?_) (fun c102 => absurd rfl c102)
                refine g_iconst dX3_firstLine_115 ?_
                exact g_zret rfl rfl dX3_firstLine_116 rfl rfl ⟨(t8.P s).trans P7, Or.inl ⟨_, (((if_neg c7).trans (if_pos c17)).trans (bo ho2 (bo ho3 (bo ho5 (bo ho6 (be ho8)))))), rfl, fe⟩⟩
              · have P8 := (t8.P s).trans P7
                have F8 := f8.trans F7
                have D8 := D7.tq hs t8
                have R8 : gR h8 33 5 = some s := by rw [P8.R]; exact hR
                refine g_ifeq dX3_firstLine_102 (fun c102 => absurd c102 (by decide)) (fun c102 => ?_)
                refine g_aL0 dX3_firstLine_105 ?_
                refine g_iconst dX3_firstLine_106 ?_
                refine g_bipush dX3_firstLine_107 ?_
                refine g_v2 (c_numberWithin T8 0 99) lm_X3_113 dX3_firstLine_109 (T8.S.l 33 rfl) (T8.S.k 33 rfl rfl) rfl rfl rfl rfl (fun v h9 hq => ?_)
                obtain ⟨t9, ⟨e, ho9, rfl, fe⟩ | ⟨x9, ho9, rfl, f9, T9, nb9⟩⟩ := hq
                · refine g_ifne dX3_firstLine_112 (fun c112 => absurd rfl c112) (fun c112 => ?_)
                  refine g_iconst dX3_firstLine_115 ?_
                  exact g_zret rfl rfl dX3_firstLine_116 rfl rfl ⟨(t9.P s).trans P8, Or.inl ⟨_, (((if_neg c7).trans (if_pos c17)).trans (bo ho2 (bo ho3 (bo ho5 (bo ho6 (bo ho8 (be ho9))))))), rfl, fe⟩⟩
                · have P9 := (t9.P s).trans P8
                  have F9 := f9.trans F8
                  have D9 := D8.tq hs t9
                  have R9 : gR h9 33 5 = some s := by rw [P9.R]; exact hR
                  refine g_ifne dX3_firstLine_112 (fun c112 => ?_) (fun c112 => absurd c112 (by decide))
                  refine g_aL0 dX3_firstLine_117 ?_
                  refine g_getR lf_X3_22 (T9.S.l 33 rfl) (T9.S.k 33 rfl rfl) R9 dX3_firstLine_118 ?_
                  refine g_aL0 dX3_firstLine_121 ?_
                  refine g_gI lf_X3_117 (T9.S.l 33 rfl) (T9.S.k 33 rfl rfl) dX3_firstLine_122 ?_
                  rw [nb9]
                  refine g_pI0 lf_X3_128 (T9.S.cl hs 0 rfl) (T9.S.ck hs) dX3_firstLine_125 ?_
                  have T10 := T9.I (a := (s + 0)) (k := 3) x9.1 (by omega) (by omega) (by omega) (by omega) (by omega)
                  have P10 := (PQ_I _ (s := s) (a := 0) (k := 3) x9.1 (by decide)).trans P9
                  have F10 := (FQ_I _ (a := (s + 0)) (k := 3) x9.1 (by omega)).trans F9
                  have D10 := D9.w 0 3 x9.1
                  have R10 := R9
                  refine g_aL0 dX3_firstLine_128 ?_
                  refine g_ldcS (tx := "ice") (n := 14) (x := 15) (List.mem_of_getElem? (i := 14) rfl) (by decide) dX3_firstLine_129 ?_
                  refine g_v1 (c_fixed T10 (k := 14) (by decide) (by decide)) lm_X3_110 dX3_firstLine_131 (T10.S.l 33 rfl) (T10.S.k 33 rfl rfl) rfl rfl rfl rfl (fun v h11 hq => ?_)
                  obtain ⟨t11, ⟨e, ho11, rfl, fe⟩ | ⟨x11, ho11, rfl, f11, T11⟩⟩ := hq
                  · refine g_ifeq dX3_firstLine_134 (fun c134 => ?_) (fun c134 => absurd rfl c134)
                    refine g_iconst dX3_firstLine_147 ?_
                    exact g_zret rfl rfl dX3_firstLine_148 rfl rfl ⟨(t11.P s).trans P10, Or.inl ⟨_, (((if_neg c7).trans (if_pos c17)).trans (bo ho2 (bo ho3 (bo ho5 (bo ho6 (bo ho8 (bo ho9 (be ho11)))))))), rfl, fe⟩⟩
                  · have P11 := (t11.P s).trans P10
                    have F11 := f11.trans F10
                    have D11 := D10.tq hs t11
                    have R11 : gR h11 33 5 = some s := by rw [P11.R]; exact hR
                    refine g_ifeq dX3_firstLine_134 (fun c134 => absurd c134 (by decide)) (fun c134 => ?_)
                    refine g_aL0 dX3_firstLine_137 ?_
                    refine g_iconst dX3_firstLine_138 ?_
                    refine g_bipush dX3_firstLine_139 ?_
                    refine g_v2 (c_numberWithin T11 1 60) lm_X3_113 dX3_firstLine_141 (T11.S.l 33 rfl) (T11.S.k 33 rfl rfl) rfl rfl rfl rfl (fun v h12 hq => ?_)
                    obtain ⟨t12, ⟨e, ho12, rfl, fe⟩ | ⟨x12, ho12, rfl, f12, T12, nb12⟩⟩ := hq
                    · refine g_ifne dX3_firstLine_144 (fun c144 => absurd rfl c144) (fun c144 => ?_)
                      refine g_iconst dX3_firstLine_147 ?_
                      exact g_zret rfl rfl dX3_firstLine_148 rfl rfl ⟨(t12.P s).trans P11, Or.inl ⟨_, (((if_neg c7).trans (if_pos c17)).trans (bo ho2 (bo ho3 (bo ho5 (bo ho6 (bo ho8 (bo ho9 (bo ho11 (be ho12))))))))), rfl, fe⟩⟩
                    · have P12 := (t12.P s).trans P11
                      have F12 := f12.trans F11
                      have D12 := D11.tq hs t12
                      have R12 : gR h12 33 5 = some s := by rw [P12.R]; exact hR
                      refine g_ifne dX3_firstLine_144 (fun c144 => ?_) (fun c144 => absurd c144 (by decide))
                      refine g_aL0 dX3_firstLine_149 ?_
                      refine g_getR lf_X3_22 (T12.S.l 33 rfl) (T12.S.k 33 rfl rfl) R12 dX3_firstLine_150 ?_
                      refine g_aL0 dX3_firstLine_153 ?_
                      refine g_gI lf_X3_117 (T12.S.l 33 rfl) (T12.S.k 33 rfl rfl) dX3_firstLine_154 ?_
                      rw [nb12]
                      refine g_pI0 lf_X3_132 (T12.S.cl hs 0 rfl) (T12.S.ck hs) dX3_firstLine_157 ?_
                      have T13 := T12.I (a := (s + 0)) (k := 4) x12.1 (by omega) (by omega) (by omega) (by omega) (by omega)
                      have P13 := (PQ_I _ (s := s) (a := 0) (k := 4) x12.1 (by decide)).trans P12
                      have F13 := (FQ_I _ (a := (s + 0)) (k := 4) x12.1 (by omega)).trans F12
                      have D13 := D12.w 0 4 x12.1
                      have R13 := R12
                      refine g_iconst dX3_firstLine_160 ?_
                      exact g_zret rfl rfl dX3_firstLine_161 rfl rfl ⟨P13, Or.inr ⟨_, (((if_neg c7).trans (if_pos c17)).trans (bo ho2 (bo ho3 (bo ho5 (bo ho6 (bo ho8 (bo ho9 (bo ho11 (bo ho12 rfl))))))))), rfl, F13, T13, D13⟩⟩
    · refine g_aL0 dX3_firstLine_20 ?_
      refine g_bipush dX3_firstLine_21 ?_
      refine e_v1i (c_fail T0.S _) lm_X3_66 dX3_firstLine_23 (T0.S.l 33 rfl) (T0.S.k 33 rfl rfl) rfl rfl rfl rfl ?_
      exact g_zret rfl rfl dX3_firstLine_26 rfl rfl ⟨((TQ_fl _ _).P s).trans P0, Or.inl ⟨_, ((if_neg c7).trans (if_neg c17)), rfl, FL_fl T0 _⟩⟩
  · refine g_aL0 dX3_firstLine_10 ?_
    refine g_iconst dX3_firstLine_11 ?_
    refine e_v1i (c_fail T0.S _) lm_X3_66 dX3_firstLine_12 (T0.S.l 33 rfl) (T0.S.k 33 rfl rfl) rfl rfl rfl rfl ?_
    exact g_zret rfl rfl dX3_firstLine_15 rfl rfl ⟨((TQ_fl _ _).P s).trans P0, Or.inl ⟨_, (if_pos c7), rfl, FL_fl T0 _⟩⟩
theorem c_paneLine {tx : Nat → Int32} {en : Nat} {h : Hp} {q : Nat} {K : List Nm} (T : PT tx en h q K) {s : Nat} (hs : s = 3 ∨ s = 18) (hR : gR h 33 5 = some s) {C : CT} (D : CE h s C) {n : Nat} (hn : C 1 1 = nI n) (hnb : n < 8) {N : Nat} (hN : C 0 2 = nI N) (hN4 : N ≤ 4) : gC 7 0 0 yX3_paneLine cX3_paneLine 1 (some .boolean) [.ref 33] h (LQ tx en s h (panP tx en C q K)) := by
  have T0 := T
  have P0 := PQ.refl s h
  have F0 := FQ.refl h
  have D0 := D
  have R0 := hR
  obtain rfl : n = pn (C 1 1) := by rw [hn, pn_nI (by omega)]
  obtain rfl : N = pn (C 0 2) := by rw [hN, pn_nI (by omega)]
  refine g_entry (lv := [.ref 33]) 0 pn_X3 rfl rfl rfl ?_
  refine g_aL0 dX3_paneLine_0 ?_
  refine g_iconst dX3_paneLine_1 ?_
  refine g_v1 (c_newNameC T0 hs R0 (k := 1) (by decide) (c := C 1 1) (D0 1 1 (by decide))) lm_X3_162 dX3_paneLine_2 (T0.S.l 33 rfl) (T0.S.k 33 rfl rfl) rfl rfl rfl rfl (fun v h1 hq => ?_)
  obtain ⟨t1, ⟨e, ho1, rfl, fe⟩ | ⟨x1, ho1, rfl, f1, T1⟩⟩ := hq
  · refine g_ifeq dX3_paneLine_5 (fun c5 => ?_) (fun c5 => absurd rfl c5)
    refine g_iconst dX3_paneLine_23 ?_
    exact g_zret rfl rfl dX3_paneLine_24 rfl rfl ⟨(t1.P s).trans P0, Or.inl ⟨_, (be ho1), rfl, fe⟩⟩
  · have P1 := (t1.P s).trans P0
    have F1 := f1.trans F0
    have D1 := D0.tq hs t1
    have R1 : gR h1 33 5 = some s := by rw [P1.R]; exact hR
    refine g_ifeq dX3_paneLine_5 (fun c5 => absurd c5 (by decide)) (fun c5 => ?_)
    refine g_aL0 dX3_paneLine_8 ?_
    refine g_v0 (c_kindOfPane T1 hs R1 ((D1 1 1 (by decide)).trans hn) hnb) lm_X3_171 dX3_paneLine_9 (T1.S.l 33 rfl) (T1.S.k 33 rfl rfl) rfl rfl rfl rfl (fun v h2 hq => ?_)
    obtain ⟨e, ho2, rfl, t2, fe⟩ | ⟨x2, ho2, rfl, t2, f2, T2⟩ := hq
    · refine g_ifeq dX3_paneLine_12 (fun c12 => ?_) (fun c12 => absurd rfl c12)
      refine g_iconst dX3_paneLine_23 ?_
      exact g_zret rfl rfl dX3_paneLine_24 rfl rfl ⟨(t2.P s).trans P1, Or.inl ⟨_, (bo ho1 (be ho2)), rfl, fe⟩⟩
    · have P2 := ((t2.P s).trans (PQ_I _ (s := s) (a := 2) _ (by decide))).trans P1
      have F2 := f2.trans F1
      have D2 := (D1.w 2 _ _).tq hs t2
      have R2 : gR h2 33 5 = some s := by rw [P2.R]; exact hR
      refine g_ifeq dX3_paneLine_12 (fun c12 => absurd c12 (by decide)) (fun c12 => ?_)
      refine g_aL0 dX3_paneLine_15 ?_
      refine g_iconst dX3_paneLine_16 ?_
      refine g_v1 (c_rowsW T2 hs R2 (wd := C 0 1) (D2 0 1 (by decide)) ((D2 0 2 (by decide)).trans hN) hN4 0) lm_X3_174 dX3_paneLine_17 (T2.S.l 33 rfl) (T2.S.k 33 rfl rfl) rfl rfl rfl rfl (fun v h3 hq => ?_)
      obtain ⟨t3, ⟨e, ho3, rfl, fe⟩ | ⟨x3, ho3, rfl, f3, T3, r83, r93⟩⟩ := hq
      · refine g_ifne dX3_paneLine_20 (fun c20 => absurd rfl c20) (fun c20 => ?_)
        refine g_iconst dX3_paneLine_23 ?_
        exact g_zret rfl rfl dX3_paneLine_24 rfl rfl ⟨(t3.P s).trans P2, Or.inl ⟨_, (bo ho1 (bo ho2 (be ho3))), rfl, fe⟩⟩
      · have P3 := (t3.P s).trans P2
        have F3 := f3.trans F2
        have D3 := D2.tq hs t3
        have R3 : gR h3 33 5 = some s := by rw [P3.R]; exact hR
        refine g_ifne dX3_paneLine_20 (fun c20 => ?_) (fun c20 => absurd c20 (by decide))
        refine g_aL0 dX3_paneLine_25 ?_
        refine g_getR lf_X3_22 (T3.S.l 33 rfl) (T3.S.k 33 rfl rfl) R3 dX3_paneLine_26 ?_
        refine g_getR lf_X3_178 (T3.S.cl hs 0 rfl) (T3.S.ck hs) (T3.S.cr hs 7 (j := 3) rfl rfl) dX3_paneLine_29 ?_
        refine g_aL0 dX3_paneLine_32 ?_
        refine g_getR lf_X3_22 (T3.S.l 33 rfl) (T3.S.k 33 rfl rfl) R3 dX3_paneLine_33 ?_
        refine g_getR lf_X3_63 (T3.S.cl hs 0 rfl) (T3.S.ck hs) (T3.S.cr hs 0 (j := 1) rfl rfl) dX3_paneLine_36 ?_
        refine g_iconst dX3_paneLine_39 ?_
        refine g_ialoadK (T3.S.cl hs 1 rfl) (T3.S.cka hs 1 rfl rfl) (T3.S.cn hs 1 (n := 11) rfl rfl rfl) rfl (j := 1) rfl dX3_paneLine_40 ?_
        rw [show gI _ (s + 1) 1 = _ from (D3 1 1 (by decide)).trans hn]
        refine g_aL0 dX3_paneLine_41 ?_
        refine g_gI lf_X3_181 (T3.S.l 33 rfl) (T3.S.k 33 rfl rfl) dX3_paneLine_42 ?_
        rw [r83]
        refine g_iastoreN (T3.S.cl hs 3 rfl) (T3.S.cka hs 3 rfl rfl) (T3.S.cn hs 3 (n := 8) rfl rfl rfl) hnb (by decide) dX3_paneLine_45 ?_
        have T4 := T3.I (a := (s + 3)) (k := (pn (C 1 1))) x3.2.1 (by omega) (by omega) (by omega) (by omega) (by omega)
        have P4 := (PQ_I _ (s := s) (a := 3) (k := (pn (C 1 1))) x3.2.1 (by decide)).trans P3
        have F4 := (FQ_I _ (a := (s + 3)) (k := (pn (C 1 1))) x3.2.1 (by omega)).trans F3
        have D4 := D3.w 3 (pn (C 1 1)) x3.2.1
        have R4 := R3
        refine g_iconst dX3_paneLine_46 ?_
        exact g_zret rfl rfl dX3_paneLine_47 rfl rfl ⟨P4, Or.inr ⟨_, (bo ho1 (bo ho2 (bo ho3 rfl))), rfl, F4, T4, D4⟩⟩
theorem c_wordLine {tx : Nat → Int32} {en : Nat} {h : Hp} {q : Nat} {K : List Nm} (T : PT tx en h q K) {s : Nat} (hs : s = 3 ∨ s = 18) (hR : gR h 33 5 = some s) {C : CT} (D : CE h s C) {n : Nat} (hn : C 1 2 = nI n) (hnb : n < 8) {N : Nat} (hN : C 0 2 = nI N) (hN4 : N ≤ 4) : gC 7 0 0 yX3_wordLine cX3_wordLine 1 (some .boolean) [.ref 33] h (LQ tx en s h (worP tx en C q K)) := by
  have T0 := T
  have P0 := PQ.refl s h
  have F0 := FQ.refl h
  have D0 := D
  have R0 := hR
  obtain rfl : n = pn (C 1 2) := by rw [hn, pn_nI (by omega)]
  obtain rfl : N = pn (C 0 2) := by rw [hN, pn_nI (by omega)]
  refine g_entry (lv := [.ref 33]) 0 pn_X3 rfl rfl rfl ?_
  refine g_aL0 dX3_wordLine_0 ?_
  refine g_iconst dX3_wordLine_1 ?_
  refine g_v1 (c_newNameC T0 hs R0 (k := 2) (by decide) (c := C 1 2) (D0 1 2 (by decide))) lm_X3_162 dX3_wordLine_2 (T0.S.l 33 rfl) (T0.S.k 33 rfl rfl) rfl rfl rfl rfl (fun v h1 hq => ?_)
  obtain ⟨t1, ⟨e, ho1, rfl, fe⟩ | ⟨x1, ho1, rfl, f1, T1⟩⟩ := hq
  · refine g_ifeq dX3_wordLine_5 (fun c5 => ?_) (fun c5 => absurd rfl c5)
    refine g_iconst dX3_wordLine_16 ?_
    exact g_zret rfl rfl dX3_wordLine_17 rfl rfl ⟨(t1.P s).trans P0, Or.inl ⟨_, (be ho1), rfl, fe⟩⟩
  · have P1 := (t1.P s).trans P0
    have F1 := f1.trans F0
    have D1 := D0.tq hs t1
    have R1 : gR h1 33 5 = some s := by rw [P1.R]; exact hR
    refine g_ifeq dX3_wordLine_5 (fun c5 => absurd c5 (by decide)) (fun c5 => ?_)
    refine g_aL0 dX3_wordLine_8 ?_
    refine g_iconst dX3_wordLine_9 ?_
    refine g_v1 (c_rowsW T1 hs R1 (wd := C 0 1) (D1 0 1 (by decide)) ((D1 0 2 (by decide)).trans hN) hN4 0) lm_X3_174 dX3_wordLine_10 (T1.S.l 33 rfl) (T1.S.k 33 rfl rfl) rfl rfl rfl rfl (fun v h2 hq => ?_)
    obtain ⟨t2, ⟨e, ho2, rfl, fe⟩ | ⟨x2, ho2, rfl, f2, T2, r82, r92⟩⟩ := hq
    · refine g_ifne dX3_wordLine_13 (fun c13 => absurd rfl c13) (fun c13 => ?_)
      refine g_iconst dX3_wordLine_16 ?_
      exact g_zret rfl rfl dX3_wordLine_17 rfl rfl ⟨(t2.P s).trans P1, Or.inl ⟨_, (bo ho1 (be ho2)), rfl, fe⟩⟩
    · have P2 := (t2.P s).trans P1
      have F2 := f2.trans F1
      have D2 := D1.tq hs t2
      have R2 : gR h2 33 5 = some s := by rw [P2.R]; exact hR
      refine g_ifne dX3_wordLine_13 (fun c13 => ?_) (fun c13 => absurd c13 (by decide))
      refine g_aL0 dX3_wordLine_18 ?_
      refine g_getR lf_X3_22 (T2.S.l 33 rfl) (T2.S.k 33 rfl rfl) R2 dX3_wordLine_19 ?_
      refine g_getR lf_X3_191 (T2.S.cl hs 0 rfl) (T2.S.ck hs) (T2.S.cr hs 8 (j := 4) rfl rfl) dX3_wordLine_22 ?_
      refine g_aL0 dX3_wordLine_25 ?_
      refine g_getR lf_X3_22 (T2.S.l 33 rfl) (T2.S.k 33 rfl rfl) R2 dX3_wordLine_26 ?_
      refine g_getR lf_X3_63 (T2.S.cl hs 0 rfl) (T2.S.ck hs) (T2.S.cr hs 0 (j := 1) rfl rfl) dX3_wordLine_29 ?_
      refine g_iconst dX3_wordLine_32 ?_
      refine g_ialoadK (T2.S.cl hs 1 rfl) (T2.S.cka hs 1 rfl rfl) (T2.S.cn hs 1 (n := 11) rfl rfl rfl) rfl (j := 2) rfl dX3_wordLine_33 ?_
      rw [show gI _ (s + 1) 2 = _ from (D2 1 2 (by decide)).trans hn]
      refine g_aL0 dX3_wordLine_34 ?_
      refine g_gI lf_X3_181 (T2.S.l 33 rfl) (T2.S.k 33 rfl rfl) dX3_wordLine_35 ?_
      rw [r82]
      refine g_iastoreN (T2.S.cl hs 4 rfl) (T2.S.cka hs 4 rfl rfl) (T2.S.cn hs 4 (n := 8) rfl rfl rfl) hnb (by decide) dX3_wordLine_38 ?_
      have T3 := T2.I (a := (s + 4)) (k := (pn (C 1 2))) x2.2.1 (by omega) (by omega) (by omega) (by omega) (by omega)
      have P3 := (PQ_I _ (s := s) (a := 4) (k := (pn (C 1 2))) x2.2.1 (by decide)).trans P2
      have F3 := (FQ_I _ (a := (s + 4)) (k := (pn (C 1 2))) x2.2.1 (by omega)).trans F2
      have D3 := D2.w 4 (pn (C 1 2)) x2.2.1
      have R3 := R2
      refine g_iconst dX3_wordLine_39 ?_
      exact g_zret rfl rfl dX3_wordLine_40 rfl rfl ⟨P3, Or.inr ⟨_, (bo ho1 (bo ho2 rfl)), rfl, F3, T3, D3⟩⟩
theorem c_viewLine {tx : Nat → Int32} {en : Nat} {h : Hp} {q : Nat} {K : List Nm} (T : PT tx en h q K) {s : Nat} (hs : s = 3 ∨ s = 18) (hR : gR h 33 5 = some s) {C : CT} (D : CE h s C) {n : Nat} (hn : C 1 3 = nI n) (hnb : n < 6) {N : Nat} (hN : C 0 2 = nI N) (hN4 : N ≤ 4) : gC 7 0 0 yX3_viewLine cX3_viewLine 1 (some .boolean) [.ref 33] h (LQ tx en s h (vieP tx en C q K)) := by
  have T0 := T
  have P0 := PQ.refl s h
  have F0 := FQ.refl h
  have D0 := D
  have R0 := hR
  obtain rfl : n = pn (C 1 3) := by rw [hn, pn_nI (by omega)]
  obtain rfl : N = pn (C 0 2) := by rw [hN, pn_nI (by omega)]
  refine g_entry (lv := [.ref 33]) 0 pn_X3 rfl rfl rfl ?_
  refine g_aL0 dX3_viewLine_0 ?_
  refine g_iconst dX3_viewLine_1 ?_
  refine g_v1 (c_newNameC T0 hs R0 (k := 3) (by decide) (c := C 1 3) (D0 1 3 (by decide))) lm_X3_162 dX3_viewLine_2 (T0.S.l 33 rfl) (T0.S.k 33 rfl rfl) rfl rfl rfl rfl (fun v h1 hq => ?_)
  obtain ⟨t1, ⟨e, ho1, rfl, fe⟩ | ⟨x1, ho1, rfl, f1, T1⟩⟩ := hq
  · refine g_ifeq dX3_viewLine_5 (fun c5 => ?_) (fun c5 => absurd rfl c5)
    refine g_iconst dX3_viewLine_16 ?_
    exact g_zret rfl rfl dX3_viewLine_17 rfl rfl ⟨(t1.P s).trans P0, Or.inl ⟨_, (be ho1), rfl, fe⟩⟩
  · have P1 := (t1.P s).trans P0
    have F1 := f1.trans F0
    have D1 := D0.tq hs t1
    have R1 : gR h1 33 5 = some s := by rw [P1.R]; exact hR
    refine g_ifeq dX3_viewLine_5 (fun c5 => absurd c5 (by decide)) (fun c5 => ?_)
    refine g_aL0 dX3_viewLine_8 ?_
    refine g_iconst dX3_viewLine_9 ?_
    refine g_v1 (c_rowsW T1 hs R1 (wd := C 0 1) (D1 0 1 (by decide)) ((D1 0 2 (by decide)).trans hN) hN4 0) lm_X3_174 dX3_viewLine_10 (T1.S.l 33 rfl) (T1.S.k 33 rfl rfl) rfl rfl rfl rfl (fun v h2 hq => ?_)
    obtain ⟨t2, ⟨e, ho2, rfl, fe⟩ | ⟨x2, ho2, rfl, f2, T2, r82, r92⟩⟩ := hq
    · refine g_ifne dX3_viewLine_13 (fun c13 => absurd rfl c13) (fun c13 => ?_)
      refine g_iconst dX3_viewLine_16 ?_
      exact g_zret rfl rfl dX3_viewLine_17 rfl rfl ⟨(t2.P s).trans P1, Or.inl ⟨_, (bo ho1 (be ho2)), rfl, fe⟩⟩
    · have P2 := (t2.P s).trans P1
      have F2 := f2.trans F1
      have D2 := D1.tq hs t2
      have R2 : gR h2 33 5 = some s := by rw [P2.R]; exact hR
      refine g_ifne dX3_viewLine_13 (fun c13 => ?_) (fun c13 => absurd c13 (by decide))
      refine g_aL0 dX3_viewLine_18 ?_
      refine g_getR lf_X3_22 (T2.S.l 33 rfl) (T2.S.k 33 rfl rfl) R2 dX3_viewLine_19 ?_
      refine g_getR lf_X3_193 (T2.S.cl hs 0 rfl) (T2.S.ck hs) (T2.S.cr hs 9 (j := 5) rfl rfl) dX3_viewLine_22 ?_
      refine g_aL0 dX3_viewLine_25 ?_
      refine g_getR lf_X3_22 (T2.S.l 33 rfl) (T2.S.k 33 rfl rfl) R2 dX3_viewLine_26 ?_
      refine g_getR lf_X3_63 (T2.S.cl hs 0 rfl) (T2.S.ck hs) (T2.S.cr hs 0 (j := 1) rfl rfl) dX3_viewLine_29 ?_
      refine g_iconst dX3_viewLine_32 ?_
      refine g_ialoadK (T2.S.cl hs 1 rfl) (T2.S.cka hs 1 rfl rfl) (T2.S.cn hs 1 (n := 11) rfl rfl rfl) rfl (j := 3) rfl dX3_viewLine_33 ?_
      rw [show gI _ (s + 1) 3 = _ from (D2 1 3 (by decide)).trans hn]
      refine g_aL0 dX3_viewLine_34 ?_
      refine g_gI lf_X3_181 (T2.S.l 33 rfl) (T2.S.k 33 rfl rfl) dX3_viewLine_35 ?_
      rw [r82]
      refine g_iastoreN (T2.S.cl hs 5 rfl) (T2.S.cka hs 5 rfl rfl) (T2.S.cn hs 5 (n := 6) rfl rfl rfl) hnb (by decide) dX3_viewLine_38 ?_
      have T3 := T2.I (a := (s + 5)) (k := (pn (C 1 3))) x2.2.1 (by omega) (by omega) (by omega) (by omega) (by omega)
      have P3 := (PQ_I _ (s := s) (a := 5) (k := (pn (C 1 3))) x2.2.1 (by decide)).trans P2
      have F3 := (FQ_I _ (a := (s + 5)) (k := (pn (C 1 3))) x2.2.1 (by omega)).trans F2
      have D3 := D2.w 5 (pn (C 1 3)) x2.2.1
      have R3 := R2
      refine g_iconst dX3_viewLine_39 ?_
      exact g_zret rfl rfl dX3_viewLine_40 rfl rfl ⟨P3, Or.inr ⟨_, (bo ho1 (bo ho2 rfl)), rfl, F3, T3, D3⟩⟩
theorem c_cornerLine {tx : Nat → Int32} {en : Nat} {h : Hp} {q : Nat} {K : List Nm} (T : PT tx en h q K) {s : Nat} (hs : s = 3 ∨ s = 18) (hR : gR h 33 5 = some s) {C : CT} (D : CE h s C) {n : Nat} (hn : C 1 4 = nI n) (hnb : n < 7) : gC 7 0 0 yX3_cornerLine cX3_cornerLine 1 (some .boolean) [.ref 33] h (LQ tx en s h (corP tx en C q K)) := by
  have T0 := T
  have P0 := PQ.refl s h
  have F0 := FQ.refl h
  have D0 := D
  have R0 := hR
  obtain rfl : n = pn (C 1 4) := by rw [hn, pn_nI (by omega)]
  refine g_entry (lv := [.ref 33]) 0 pn_X3 rfl rfl rfl ?_
  refine g_aL0 dX3_cornerLine_0 ?_
  refine g_iconst dX3_cornerLine_1 ?_
  refine g_v1 (c_newNameC T0 hs R0 (k := 4) (by decide) (c := C 1 4) (D0 1 4 (by decide))) lm_X3_162 dX3_cornerLine_2 (T0.S.l 33 rfl) (T0.S.k 33 rfl rfl) rfl rfl rfl rfl (fun v h1 hq => ?_)
  obtain ⟨t1, ⟨e, ho1, rfl, fe⟩ | ⟨x1, ho1, rfl, f1, T1⟩⟩ := hq
  · refine g_ifeq dX3_cornerLine_5 (fun c5 => ?_) (fun c5 => absurd rfl c5)
    refine g_iconst dX3_cornerLine_16 ?_
    exact g_zret rfl rfl dX3_cornerLine_17 rfl rfl ⟨(t1.P s).trans P0, Or.inl ⟨_, (be ho1), rfl, fe⟩⟩
  · have P1 := (t1.P s).trans P0
    have F1 := f1.trans F0
    have D1 := D0.tq hs t1
    have R1 : gR h1 33 5 = some s := by rw [P1.R]; exact hR
    refine g_ifeq dX3_cornerLine_5 (fun c5 => absurd c5 (by decide)) (fun c5 => ?_)
    refine g_aL0 dX3_cornerLine_8 ?_
    refine g_iconst dX3_cornerLine_9 ?_
    refine g_v1 (c_knownName T1 3) lm_X3_196 dX3_cornerLine_10 (T1.S.l 33 rfl) (T1.S.k 33 rfl rfl) rfl rfl rfl rfl (fun v h2 hq => ?_)
    obtain ⟨t2, ⟨e, ho2, rfl, fe⟩ | ⟨x2, ho2, rfl, f2, T2, nb2⟩⟩ := hq
    · refine g_ifne dX3_cornerLine_13 (fun c13 => absurd rfl c13) (fun c13 => ?_)
      refine g_iconst dX3_cornerLine_16 ?_
      exact g_zret rfl rfl dX3_cornerLine_17 rfl rfl ⟨(t2.P s).trans P1, Or.inl ⟨_, (bo ho1 (be ho2)), rfl, fe⟩⟩
    · have P2 := (t2.P s).trans P1
      have F2 := f2.trans F1
      have D2 := D1.tq hs t2
      have R2 : gR h2 33 5 = some s := by rw [P2.R]; exact hR
      refine g_ifne dX3_cornerLine_13 (fun c13 => ?_) (fun c13 => absurd c13 (by decide))
      refine g_aL0 dX3_cornerLine_18 ?_
      refine g_getR lf_X3_22 (T2.S.l 33 rfl) (T2.S.k 33 rfl rfl) R2 dX3_cornerLine_19 ?_
      refine g_getR lf_X3_199 (T2.S.cl hs 0 rfl) (T2.S.ck hs) (T2.S.cr hs 10 (j := 6) rfl rfl) dX3_cornerLine_22 ?_
      refine g_aL0 dX3_cornerLine_25 ?_
      refine g_getR lf_X3_22 (T2.S.l 33 rfl) (T2.S.k 33 rfl rfl) R2 dX3_cornerLine_26 ?_
      refine g_getR lf_X3_63 (T2.S.cl hs 0 rfl) (T2.S.ck hs) (T2.S.cr hs 0 (j := 1) rfl rfl) dX3_cornerLine_29 ?_
      refine g_iconst dX3_cornerLine_32 ?_
      refine g_ialoadK (T2.S.cl hs 1 rfl) (T2.S.cka hs 1 rfl rfl) (T2.S.cn hs 1 (n := 11) rfl rfl rfl) rfl (j := 4) rfl dX3_cornerLine_33 ?_
      rw [show gI _ (s + 1) 4 = _ from (D2 1 4 (by decide)).trans hn]
      refine g_aL0 dX3_cornerLine_34 ?_
      refine g_gI lf_X3_117 (T2.S.l 33 rfl) (T2.S.k 33 rfl rfl) dX3_cornerLine_35 ?_
      rw [nb2]
      refine g_iastoreN (T2.S.cl hs 6 rfl) (T2.S.cka hs 6 rfl rfl) (T2.S.cn hs 6 (n := 7) rfl rfl rfl) hnb (by decide) dX3_cornerLine_38 ?_
      have T3 := T2.I (a := (s + 6)) (k := (pn (C 1 4))) x2 (by omega) (by omega) (by omega) (by omega) (by omega)
      have P3 := (PQ_I _ (s := s) (a := 6) (k := (pn (C 1 4))) x2 (by decide)).trans P2
      have F3 := (FQ_I _ (a := (s + 6)) (k := (pn (C 1 4))) x2 (by omega)).trans F2
      have D3 := D2.w 6 (pn (C 1 4)) x2
      have R3 := R2
      refine g_aL0 dX3_cornerLine_39 ?_
      refine g_getR lf_X3_16 (T3.S.l 33 rfl) (T3.S.k 33 rfl rfl) (T3.S.r 33 0 (b := 34) rfl rfl) dX3_cornerLine_40 ?_
      refine e_v0u (w_step T3) lm_X3_70 dX3_cornerLine_43 (T3.S.l 34 rfl) (T3.S.k 34 rfl rfl) rfl rfl rfl rfl ?_
      have T4 := T3.step
      have P4 := T3.stP P3
      have F4 := T3.stF F3
      have D4 := T3.stD hs D3
      have R4 := R3
      refine g_iconst dX3_cornerLine_46 ?_
      exact g_zret rfl rfl dX3_cornerLine_47 rfl rfl ⟨P4, Or.inr ⟨_, (bo ho1 (bo ho2 rfl)), rfl, F4, T4, D4⟩⟩
theorem c_streetLine {tx : Nat → Int32} {en : Nat} {h : Hp} {q : Nat} {K : List Nm} (T : PT tx en h q K) {s : Nat} (hs : s = 3 ∨ s = 18) (hR : gR h 33 5 = some s) {C : CT} (D : CE h s C) (hK : KB K) : gC 7 0 0 yX3_streetLine cX3_streetLine 4 (some .boolean) [.ref 33] h (LQ tx en s h (strP tx en C q K)) := by
  have T0 := T
  have P0 := PQ.refl s h
  have F0 := FQ.refl h
  have D0 := D
  have R0 := hR
  refine g_entry (lv := [.ref 33, .retAddr 0, .retAddr 0, .retAddr 0]) 3 pn_X3 rfl rfl rfl ?_
  refine g_aL0 dX3_streetLine_0 ?_
  refine g_iconst dX3_streetLine_1 ?_
  refine g_v1 (c_knownName T0 4) lm_X3_196 dX3_streetLine_2 (T0.S.l 33 rfl) (T0.S.k 33 rfl rfl) rfl rfl rfl rfl (fun v h1 hq => ?_)
  obtain ⟨t1, ⟨e, ho1, rfl, fe⟩ | ⟨x1, ho1, rfl, f1, T1, nb1⟩⟩ := hq
  · refine g_ifne dX3_streetLine_5 (fun c5 => absurd rfl c5) (fun c5 => ?_)
    refine g_iconst dX3_streetLine_8 ?_
    exact g_zret rfl rfl dX3_streetLine_9 rfl rfl ⟨(t1.P s).trans P0, Or.inl ⟨_, (be ho1), rfl, fe⟩⟩
  · have P1 := (t1.P s).trans P0
    have F1 := f1.trans F0
    have D1 := D0.tq hs t1
    have R1 : gR h1 33 5 = some s := by rw [P1.R]; exact hR
    obtain ⟨e1, g1⟩ := kn_c hK ho1
    refine g_ifne dX3_streetLine_5 (fun c5 => ?_) (fun c5 => absurd c5 (by decide))
    refine g_aL0 dX3_streetLine_10 ?_
    refine g_gI lf_X3_117 (T1.S.l 33 rfl) (T1.S.k 33 rfl rfl) dX3_streetLine_11 ?_
    rw [nb1]
    refine g_iS1 dX3_streetLine_14 rfl rfl ?_
    refine g_aL0 dX3_streetLine_15 ?_
    refine g_getR lf_X3_16 (T1.S.l 33 rfl) (T1.S.k 33 rfl rfl) (T1.S.r 33 0 (b := 34) rfl rfl) dX3_streetLine_16 ?_
    refine e_v0u (w_step T1) lm_X3_70 dX3_streetLine_19 (T1.S.l 34 rfl) (T1.S.k 34 rfl rfl) rfl rfl rfl rfl ?_
    have T2 := T1.step
    have P2 := T1.stP P1
    have F2 := T1.stF F1
    have D2 := T1.stD hs D1
    have R2 := R1
    refine g_aL0 dX3_streetLine_22 ?_
    refine g_iconst dX3_streetLine_23 ?_
    refine g_v1 (c_knownName T2 4) lm_X3_196 dX3_streetLine_24 (T2.S.l 33 rfl) (T2.S.k 33 rfl rfl) rfl rfl rfl rfl (fun v h3 hq => ?_)
    obtain ⟨t3, ⟨e, ho3, rfl, fe⟩ | ⟨x3, ho3, rfl, f3, T3, nb3⟩⟩ := hq
    · refine g_ifne dX3_streetLine_27 (fun c27 => absurd rfl c27) (fun c27 => ?_)
      refine g_iconst dX3_streetLine_30 ?_
      exact g_zret rfl rfl dX3_streetLine_31 rfl rfl ⟨(t3.P s).trans P2, Or.inl ⟨_, (bo ho1 (be ho3)), rfl, fe⟩⟩
    · have P3 := (t3.P s).trans P2
      have F3 := f3.trans F2
      have D3 := D2.tq hs t3
      have R3 : gR h3 33 5 = some s := by rw [P3.R]; exact hR
      obtain ⟨e3, g3⟩ := kn_c hK ho3
      refine g_ifne dX3_streetLine_27 (fun c27 => ?_) (fun c27 => absurd c27 (by decide))
      refine g_aL0 dX3_streetLine_32 ?_
      refine g_gI lf_X3_117 (T3.S.l 33 rfl) (T3.S.k 33 rfl rfl) dX3_streetLine_33 ?_
      rw [nb3]
      refine g_iS2 dX3_streetLine_36 rfl rfl ?_
      refine g_iL2 dX3_streetLine_37 ?_
      refine g_iL1 dX3_streetLine_38 ?_
      refine g_iceq dX3_streetLine_39 (fun c39 => ?_) (fun c39 => ?_)
      · refine g_aL0 dX3_streetLine_58 ?_
        refine g_iconst dX3_streetLine_59 ?_
        refine e_v1i (c_fail T3.S _) lm_X3_66 dX3_streetLine_60 (T3.S.l 33 rfl) (T3.S.k 33 rfl rfl) rfl rfl rfl rfl ?_
        exact g_zret rfl rfl dX3_streetLine_63 rfl rfl ⟨((TQ_fl _ _).P s).trans P3, Or.inl ⟨_, (bo ho1 (bo ho3 (if_pos c39))), rfl, FL_fl T3 _⟩⟩
      · refine g_aL0 dX3_streetLine_42 ?_
        refine g_getR lf_X3_22 (T3.S.l 33 rfl) (T3.S.k 33 rfl rfl) R3 dX3_streetLine_43 ?_
        refine g_getR lf_X3_202 (T3.S.cl hs 0 rfl) (T3.S.ck hs) (T3.S.cr hs 11 (j := 7) rfl rfl) dX3_streetLine_46 ?_
        refine g_iL1 dX3_streetLine_49 ?_
        refine g_iL2 dX3_streetLine_50 ?_
        refine e_s2i (c_street _ _) lm_X3_205 dX3_streetLine_51 rfl rfl rfl rfl ?_
        rw [st7 e1 e3]
        refine g_ialoadN (T3.S.cl hs 7 rfl) (T3.S.cka hs 7 rfl rfl) (T3.S.cn hs 7 (n := 49) rfl rfl rfl) (by omega) (by decide) dX3_streetLine_54 ?_
        rw [show gI h3 (s + 7) (pn x1 * 7 + pn x3) = C 7 (pn x1 * 7 + pn x3) from D3 7 _ (by decide)]
        refine g_ifle dX3_streetLine_55 (fun c55 => ?_) (fun c55 => ?_)
        · refine g_aL0 dX3_streetLine_64 ?_
          refine g_getR lf_X3_16 (T3.S.l 33 rfl) (T3.S.k 33 rfl rfl) (T3.S.r 33 0 (b := 34) rfl rfl) dX3_streetLine_65 ?_
          refine e_v0u (w_step T3) lm_X3_70 dX3_streetLine_68 (T3.S.l 34 rfl) (T3.S.k 34 rfl rfl) rfl rfl rfl rfl ?_
          have T4 := T3.step
          have P4 := T3.stP P3
          have F4 := T3.stF F3
          have D4 := T3.stD hs D3
          have R4 := R3
          refine g_aL0 dX3_streetLine_71 ?_
          refine g_iconst dX3_streetLine_72 ?_
          refine g_bipush dX3_streetLine_73 ?_
          refine g_v2 (c_numberWithin T4 1 99) lm_X3_113 dX3_streetLine_75 (T4.S.l 33 rfl) (T4.S.k 33 rfl rfl) rfl rfl rfl rfl (fun v h5 hq => ?_)
          obtain ⟨t5, ⟨e, ho5, rfl, fe⟩ | ⟨x5, ho5, rfl, f5, T5, nb5⟩⟩ := hq
          · refine g_ifne dX3_streetLine_78 (fun c78 => absurd rfl c78) (fun c78 => ?_)
            refine g_iconst dX3_streetLine_81 ?_
            exact g_zret rfl rfl dX3_streetLine_82 rfl rfl ⟨(t5.P s).trans P4, Or.inl ⟨_, (bo ho1 (bo ho3 (((if_neg c39).trans (if_pos c55)).trans (be ho5)))), rfl, fe⟩⟩
          · have P5 := (t5.P s).trans P4
            have F5 := f5.trans F4
            have D5 := D4.tq hs t5
            have R5 : gR h5 33 5 = some s := by rw [P5.R]; exact hR
            refine g_ifne dX3_streetLine_78 (fun c78 => ?_) (fun c78 => absurd c78 (by decide))
            refine g_aL0 dX3_streetLine_83 ?_
            refine g_gI lf_X3_117 (T5.S.l 33 rfl) (T5.S.k 33 rfl rfl) dX3_streetLine_84 ?_
            rw [nb5]
            refine g_iS3 dX3_streetLine_87 rfl rfl ?_
            refine g_aL0 dX3_streetLine_88 ?_
            refine g_ldcS (tx := "breaks") (n := 17) (x := 18) (List.mem_of_getElem? (i := 17) rfl) (by decide) dX3_streetLine_89 ?_
            refine g_v1 (c_fixed T5 (k := 17) (by decide) (by decide)) lm_X3_110 dX3_streetLine_91 (T5.S.l 33 rfl) (T5.S.k 33 rfl rfl) rfl rfl rfl rfl (fun v h6 hq => ?_)
            obtain ⟨t6, ⟨e, ho6, rfl, fe⟩ | ⟨x6, ho6, rfl, f6, T6⟩⟩ := hq
            · refine g_ifeq dX3_streetLine_94 (fun c94 => ?_) (fun c94 => absurd rfl c94)
              refine g_iconst dX3_streetLine_107 ?_
              exact g_zret rfl rfl dX3_streetLine_108 rfl rfl ⟨(t6.P s).trans P5, Or.inl ⟨_, (bo ho1 (bo ho3 (((if_neg c39).trans (if_pos c55)).trans (bo ho5 (be ho6))))), rfl, fe⟩⟩
            · have P6 := (t6.P s).trans P5
              have F6 := f6.trans F5
              have D6 := D5.tq hs t6
              have R6 : gR h6 33 5 = some s := by rw [P6.R]; exact hR
              refine g_ifeq dX3_streetLine_94 (fun c94 => absurd c94 (by decide)) (fun c94 => ?_)
              refine g_aL0 dX3_streetLine_97 ?_
              refine g_iconst dX3_streetLine_98 ?_
              refine g_bipush dX3_streetLine_99 ?_
              refine g_v2 (c_numberWithin T6 0 50) lm_X3_113 dX3_streetLine_101 (T6.S.l 33 rfl) (T6.S.k 33 rfl rfl) rfl rfl rfl rfl (fun v h7 hq => ?_)
              obtain ⟨t7, ⟨e, ho7, rfl, fe⟩ | ⟨x7, ho7, rfl, f7, T7, nb7⟩⟩ := hq
              · refine g_ifne dX3_streetLine_104 (fun c104 => absurd rfl c104) (fun c104 => ?_)
                refine g_iconst dX3_streetLine_107 ?_
                exact g_zret rfl rfl dX3_streetLine_108 rfl rfl ⟨(t7.P s).trans P6, Or.inl ⟨_, (bo ho1 (bo ho3 (((if_neg c39).trans (if_pos c55)).trans (bo ho5 (bo ho6 (be ho7)))))), rfl, fe⟩⟩
              · have P7 := (t7.P s).trans P6
                have F7 := f7.trans F6
                have D7 := D6.tq hs t7
                have R7 : gR h7 33 5 = some s := by rw [P7.R]; exact hR
                refine g_ifne dX3_streetLine_104 (fun c104 => ?_) (fun c104 => absurd c104 (by decide))
                refine g_aL0 dX3_streetLine_109 ?_
                refine g_getR lf_X3_22 (T7.S.l 33 rfl) (T7.S.k 33 rfl rfl) R7 dX3_streetLine_110 ?_
                refine g_getR lf_X3_202 (T7.S.cl hs 0 rfl) (T7.S.ck hs) (T7.S.cr hs 11 (j := 7) rfl rfl) dX3_streetLine_113 ?_
                refine g_iL1 dX3_streetLine_116 ?_
                refine g_iL2 dX3_streetLine_117 ?_
                refine e_s2i (c_street _ _) lm_X3_205 dX3_streetLine_118 rfl rfl rfl rfl ?_
                rw [st7 e1 e3]
                refine g_iL3 dX3_streetLine_121 ?_
                refine g_iastoreN (T7.S.cl hs 7 rfl) (T7.S.cka hs 7 rfl rfl) (T7.S.cn hs 7 (n := 49) rfl rfl rfl) (by omega) (by decide) dX3_streetLine_122 ?_
                have T8 := T7.I (a := (s + 7)) (k := (pn x1 * 7 + pn x3)) x5.1 (by omega) (by omega) (by omega) (by omega) (by omega)
                have P8 := (PQ_I _ (s := s) (a := 7) (k := (pn x1 * 7 + pn x3)) x5.1 (by decide)).trans P7
                have F8 := (FQ_I _ (a := (s + 7)) (k := (pn x1 * 7 + pn x3)) x5.1 (by omega)).trans F7
                have D8 := D7.w 7 (pn x1 * 7 + pn x3) x5.1
                have R8 := R7
                refine g_aL0 dX3_streetLine_123 ?_
                refine g_getR lf_X3_22 (T8.S.l 33 rfl) (T8.S.k 33 rfl rfl) R8 dX3_streetLine_124 ?_
                refine g_getR lf_X3_202 (T8.S.cl hs 0 rfl) (T8.S.ck hs) (T8.S.cr hs 11 (j := 7) rfl rfl) dX3_streetLine_127 ?_
                refine g_iL2 dX3_streetLine_130 ?_
                refine g_iL1 dX3_streetLine_131 ?_
                refine e_s2i (c_street _ _) lm_X3_205 dX3_streetLine_132 rfl rfl rfl rfl ?_
                rw [st7 e3 e1]
                refine g_iL3 dX3_streetLine_135 ?_
                refine g_iastoreN (T8.S.cl hs 7 rfl) (T8.S.cka hs 7 rfl rfl) (T8.S.cn hs 7 (n := 49) rfl rfl rfl) (by omega) (by decide) dX3_streetLine_136 ?_
                have T9 := T8.I (a := (s + 7)) (k := (pn x3 * 7 + pn x1)) x5.1 (by omega) (by omega) (by omega) (by omega) (by omega)
                have P9 := (PQ_I _ (s := s) (a := 7) (k := (pn x3 * 7 + pn x1)) x5.1 (by decide)).trans P8
                have F9 := (FQ_I _ (a := (s + 7)) (k := (pn x3 * 7 + pn x1)) x5.1 (by omega)).trans F8
                have D9 := D8.w 7 (pn x3 * 7 + pn x1) x5.1
                have R9 := R8
                refine g_aL0 dX3_streetLine_137 ?_
                refine g_getR lf_X3_22 (T9.S.l 33 rfl) (T9.S.k 33 rfl rfl) R9 dX3_streetLine_138 ?_
                refine g_getR lf_X3_210 (T9.S.cl hs 0 rfl) (T9.S.ck hs) (T9.S.cr hs 12 (j := 8) rfl rfl) dX3_streetLine_141 ?_
                refine g_iL1 dX3_streetLine_144 ?_
                refine g_iL2 dX3_streetLine_145 ?_
                refine e_s2i (c_street _ _) lm_X3_205 dX3_streetLine_146 rfl rfl rfl rfl ?_
                rw [st7 e1 e3]
                refine g_aL0 dX3_streetLine_149 ?_
                refine g_gI lf_X3_117 (T9.S.l 33 rfl) (T9.S.k 33 rfl rfl) dX3_streetLine_150 ?_
                rw [gIq (by omega), gIq (by omega), nb7]
                refine g_iastoreN (T9.S.cl hs 8 rfl) (T9.S.cka hs 8 rfl rfl) (T9.S.cn hs 8 (n := 49) rfl rfl rfl) (by omega) (by decide) dX3_streetLine_153 ?_
                have T10 := T9.I (a := (s + 8)) (k := (pn x1 * 7 + pn x3)) x7.1 (by omega) (by omega) (by omega) (by omega) (by omega)
                have P10 := (PQ_I _ (s := s) (a := 8) (k := (pn x1 * 7 + pn x3)) x7.1 (by decide)).trans P9
                have F10 := (FQ_I _ (a := (s + 8)) (k := (pn x1 * 7 + pn x3)) x7.1 (by omega)).trans F9
                have D10 := D9.w 8 (pn x1 * 7 + pn x3) x7.1
                have R10 := R9
                refine g_aL0 dX3_streetLine_154 ?_
                refine g_getR lf_X3_22 (T10.S.l 33 rfl) (T10.S.k 33 rfl rfl) R10 dX3_streetLine_155 ?_
                refine g_getR lf_X3_210 (T10.S.cl hs 0 rfl) (T10.S.ck hs) (T10.S.cr hs 12 (j := 8) rfl rfl) dX3_streetLine_158 ?_
                refine g_iL2 dX3_streetLine_161 ?_
                refine g_iL1 dX3_streetLine_162 ?_
                refine e_s2i (c_street _ _) lm_X3_205 dX3_streetLine_163 rfl rfl rfl rfl ?_
                rw [st7 e3 e1]
                refine g_aL0 dX3_streetLine_166 ?_
                refine g_gI lf_X3_117 (T10.S.l 33 rfl) (T10.S.k 33 rfl rfl) dX3_streetLine_167 ?_
                rw [gIq (by omega), gIq (by omega), gIq (by omega), nb7]
                refine g_iastoreN (T10.S.cl hs 8 rfl) (T10.S.cka hs 8 rfl rfl) (T10.S.cn hs 8 (n := 49) rfl rfl rfl) (by omega) (by decide) dX3_streetLine_170 ?_
                have T11 := T10.I (a := (s + 8)) (k := (pn x3 * 7 + pn x1)) x7.1 (by omega) (by omega) (by omega) (by omega) (by omega)
                have P11 := (PQ_I _ (s := s) (a := 8) (k := (pn x3 * 7 + pn x1)) x7.1 (by decide)).trans P10
                have F11 := (FQ_I _ (a := (s + 8)) (k := (pn x3 * 7 + pn x1)) x7.1 (by omega)).trans F10
                have D11 := D10.w 8 (pn x3 * 7 + pn x1) x7.1
                have R11 := R10
                refine g_iconst dX3_streetLine_171 ?_
                exact g_zret rfl rfl dX3_streetLine_172 rfl rfl ⟨P11, Or.inr ⟨_, (bo ho1 (bo ho3 (((if_neg c39).trans (if_pos c55)).trans (bo ho5 (bo ho6 (bo ho7 rfl)))))), rfl, F11, T11, D11⟩⟩
        · refine g_aL0 dX3_streetLine_58 ?_
          refine g_iconst dX3_streetLine_59 ?_
          refine e_v1i (c_fail T3.S _) lm_X3_66 dX3_streetLine_60 (T3.S.l 33 rfl) (T3.S.k 33 rfl rfl) rfl rfl rfl rfl ?_
          exact g_zret rfl rfl dX3_streetLine_63 rfl rfl ⟨((TQ_fl _ _).P s).trans P3, Or.inl ⟨_, (bo ho1 (bo ho3 ((if_neg c39).trans (if_neg c55)))), rfl, FL_fl T3 _⟩⟩
theorem c_thiefLine {tx : Nat → Int32} {en : Nat} {h : Hp} {q : Nat} {K : List Nm} (T : PT tx en h q K) {s : Nat} (hs : s = 3 ∨ s = 18) (hR : gR h 33 5 = some s) {C : CT} (D : CE h s C) : gC 7 0 0 yX3_thiefLine cX3_thiefLine 1 (some .boolean) [.ref 33] h (LQ tx en s h (thiP tx en C q K)) := by
  have T0 := T
  have P0 := PQ.refl s h
  have F0 := FQ.refl h
  have D0 := D
  have R0 := hR
  refine g_entry (lv := [.ref 33]) 0 pn_X3 rfl rfl rfl ?_
  refine g_aL0 dX3_thiefLine_0 ?_
  refine g_iconst dX3_thiefLine_1 ?_
  refine g_v1 (c_knownName T0 4) lm_X3_196 dX3_thiefLine_2 (T0.S.l 33 rfl) (T0.S.k 33 rfl rfl) rfl rfl rfl rfl (fun v h1 hq => ?_)
  obtain ⟨t1, ⟨e, ho1, rfl, fe⟩ | ⟨x1, ho1, rfl, f1, T1, nb1⟩⟩ := hq
  · refine g_ifne dX3_thiefLine_5 (fun c5 => absurd rfl c5) (fun c5 => ?_)
    refine g_iconst dX3_thiefLine_8 ?_
    exact g_zret rfl rfl dX3_thiefLine_9 rfl rfl ⟨(t1.P s).trans P0, Or.inl ⟨_, (be ho1), rfl, fe⟩⟩
  · have P1 := (t1.P s).trans P0
    have F1 := f1.trans F0
    have D1 := D0.tq hs t1
    have R1 : gR h1 33 5 = some s := by rw [P1.R]; exact hR
    refine g_ifne dX3_thiefLine_5 (fun c5 => ?_) (fun c5 => absurd c5 (by decide))
    refine g_aL0 dX3_thiefLine_10 ?_
    refine g_getR lf_X3_22 (T1.S.l 33 rfl) (T1.S.k 33 rfl rfl) R1 dX3_thiefLine_11 ?_
    refine g_aL0 dX3_thiefLine_14 ?_
    refine g_gI lf_X3_117 (T1.S.l 33 rfl) (T1.S.k 33 rfl rfl) dX3_thiefLine_15 ?_
    rw [nb1]
    refine e_v1i (c_hasThief T1.S hs _) lm_X3_213 dX3_thiefLine_18 (T1.S.cl hs 0 rfl) (T1.S.ck hs) rfl rfl rfl rfl ?_
    rw [show gI h1 s 13 = C 0 13 from D1 0 13 (by decide)]
    refine g_ifeq dX3_thiefLine_21 (fun c21 => ?_) (fun c21 => ?_)
    · refine g_aL0 dX3_thiefLine_30 ?_
      refine g_getR lf_X3_22 (T1.S.l 33 rfl) (T1.S.k 33 rfl rfl) R1 dX3_thiefLine_31 ?_
      refine g_dup dX3_thiefLine_34 rfl ?_
      refine g_gI lf_X3_216 (T1.S.cl hs 0 rfl) (T1.S.ck hs) dX3_thiefLine_35 ?_
      rw [show gI h1 s 13 = C 0 13 from D1 0 13 (by decide)]
      refine g_iconst dX3_thiefLine_38 ?_
      refine g_aL0 dX3_thiefLine_39 ?_
      refine g_gI lf_X3_117 (T1.S.l 33 rfl) (T1.S.k 33 rfl rfl) dX3_thiefLine_40 ?_
      rw [nb1]
      refine g_ishl dX3_thiefLine_43 ?_
      refine g_ior dX3_thiefLine_44 ?_
      refine g_pI0 lf_X3_216 (T1.S.cl hs 0 rfl) (T1.S.ck hs) dX3_thiefLine_45 ?_
      have T2 := T1.I (a := (s + 0)) (k := 13) (C 0 13 ||| ((1 : Int32) <<< (x1 &&& 31))) (by omega) (by omega) (by omega) (by omega) (by omega)
      have P2 := (PQ_I _ (s := s) (a := 0) (k := 13) (C 0 13 ||| ((1 : Int32) <<< (x1 &&& 31))) (by decide)).trans P1
      have F2 := (FQ_I _ (a := (s + 0)) (k := 13) (C 0 13 ||| ((1 : Int32) <<< (x1 &&& 31))) (by omega)).trans F1
      have D2 := D1.w 0 13 (C 0 13 ||| ((1 : Int32) <<< (x1 &&& 31)))
      have R2 := R1
      refine g_aL0 dX3_thiefLine_48 ?_
      refine g_getR lf_X3_16 (T2.S.l 33 rfl) (T2.S.k 33 rfl rfl) (T2.S.r 33 0 (b := 34) rfl rfl) dX3_thiefLine_49 ?_
      refine e_v0u (w_step T2) lm_X3_70 dX3_thiefLine_52 (T2.S.l 34 rfl) (T2.S.k 34 rfl rfl) rfl rfl rfl rfl ?_
      have T3 := T2.step
      have P3 := T2.stP P2
      have F3 := T2.stF F2
      have D3 := T2.stD hs D2
      have R3 := R2
      refine g_iconst dX3_thiefLine_55 ?_
      exact g_zret rfl rfl dX3_thiefLine_56 rfl rfl ⟨P3, Or.inr ⟨_, (bo ho1 ((if_pos c21).trans rfl)), rfl, F3, T3, D3⟩⟩
    · refine g_aL0 dX3_thiefLine_24 ?_
      refine g_iconst dX3_thiefLine_25 ?_
      refine e_v1i (c_fail T1.S _) lm_X3_66 dX3_thiefLine_26 (T1.S.l 33 rfl) (T1.S.k 33 rfl rfl) rfl rfl rfl rfl ?_
      exact g_zret rfl rfl dX3_thiefLine_29 rfl rfl ⟨((TQ_fl _ _).P s).trans P1, Or.inl ⟨_, (bo ho1 (if_neg c21)), rfl, FL_fl T1 _⟩⟩
theorem c_sentLine {tx : Nat → Int32} {en : Nat} {h : Hp} {q : Nat} {K : List Nm} (T : PT tx en h q K) {s : Nat} (hs : s = 3 ∨ s = 18) (hR : gR h 33 5 = some s) {C : CT} (D : CE h s C) {n : Nat} (hn : C 1 7 = nI n) (hnb : n < 6) : gC 7 0 0 yX3_sentLine cX3_sentLine 2 (some .boolean) [.ref 33] h (LQ tx en s h (senP tx en C q K)) := by
  have T0 := T
  have P0 := PQ.refl s h
  have F0 := FQ.refl h
  have D0 := D
  have R0 := hR
  obtain rfl : n = pn (C 1 7) := by rw [hn, pn_nI (by omega)]
  refine g_entry (lv := [.ref 33, .retAddr 0]) 1 pn_X3 rfl rfl rfl ?_
  refine g_aL0 dX3_sentLine_0 ?_
  refine g_getR lf_X3_22 (T0.S.l 33 rfl) (T0.S.k 33 rfl rfl) R0 dX3_sentLine_1 ?_
  refine g_getR lf_X3_63 (T0.S.cl hs 0 rfl) (T0.S.ck hs) (T0.S.cr hs 0 (j := 1) rfl rfl) dX3_sentLine_4 ?_
  refine g_bipush dX3_sentLine_7 ?_
  refine g_ialoadK (T0.S.cl hs 1 rfl) (T0.S.cka hs 1 rfl rfl) (T0.S.cn hs 1 (n := 11) rfl rfl rfl) rfl (j := 7) rfl dX3_sentLine_9 ?_
  rw [show gI _ (s + 1) 7 = _ from (D0 1 7 (by decide)).trans hn]
  refine g_iS1 dX3_sentLine_10 rfl rfl ?_
  refine g_aL0 dX3_sentLine_11 ?_
  refine g_iconst dX3_sentLine_12 ?_
  refine g_v1 (c_knownName T0 1) lm_X3_196 dX3_sentLine_13 (T0.S.l 33 rfl) (T0.S.k 33 rfl rfl) rfl rfl rfl rfl (fun v h1 hq => ?_)
  obtain ⟨t1, ⟨e, ho1, rfl, fe⟩ | ⟨x1, ho1, rfl, f1, T1, nb1⟩⟩ := hq
  · refine g_ifne dX3_sentLine_16 (fun c16 => absurd rfl c16) (fun c16 => ?_)
    refine g_iconst dX3_sentLine_19 ?_
    exact g_zret rfl rfl dX3_sentLine_20 rfl rfl ⟨(t1.P s).trans P0, Or.inl ⟨_, (be ho1), rfl, fe⟩⟩
  · have P1 := (t1.P s).trans P0
    have F1 := f1.trans F0
    have D1 := D0.tq hs t1
    have R1 : gR h1 33 5 = some s := by rw [P1.R]; exact hR
    refine g_ifne dX3_sentLine_16 (fun c16 => ?_) (fun c16 => absurd c16 (by decide))
    refine g_aL0 dX3_sentLine_21 ?_
    refine g_getR lf_X3_22 (T1.S.l 33 rfl) (T1.S.k 33 rfl rfl) R1 dX3_sentLine_22 ?_
    refine g_getR lf_X3_219 (T1.S.cl hs 0 rfl) (T1.S.ck hs) (T1.S.cr hs 14 (j := 9) rfl rfl) dX3_sentLine_25 ?_
    refine g_iL1 dX3_sentLine_28 ?_
    refine g_aL0 dX3_sentLine_29 ?_
    refine g_gI lf_X3_117 (T1.S.l 33 rfl) (T1.S.k 33 rfl rfl) dX3_sentLine_30 ?_
    rw [nb1]
    refine g_iastoreN (T1.S.cl hs 9 rfl) (T1.S.cka hs 9 rfl rfl) (T1.S.cn hs 9 (n := 6) rfl rfl rfl) hnb (by decide) dX3_sentLine_33 ?_
    have T2 := T1.I (a := (s + 9)) (k := (pn (C 1 7))) x1 (by omega) (by omega) (by omega) (by omega) (by omega)
    have P2 := (PQ_I _ (s := s) (a := 9) (k := (pn (C 1 7))) x1 (by decide)).trans P1
    have F2 := (FQ_I _ (a := (s + 9)) (k := (pn (C 1 7))) x1 (by omega)).trans F1
    have D2 := D1.w 9 (pn (C 1 7)) x1
    have R2 := R1
    refine g_aL0 dX3_sentLine_34 ?_
    refine g_getR lf_X3_16 (T2.S.l 33 rfl) (T2.S.k 33 rfl rfl) (T2.S.r 33 0 (b := 34) rfl rfl) dX3_sentLine_35 ?_
    refine e_v0u (w_step T2) lm_X3_70 dX3_sentLine_38 (T2.S.l 34 rfl) (T2.S.k 34 rfl rfl) rfl rfl rfl rfl ?_
    have T3 := T2.step
    have P3 := T2.stP P2
    have F3 := T2.stF F2
    have D3 := T2.stD hs D2
    have R3 := R2
    refine g_aL0 dX3_sentLine_41 ?_
    refine g_iconst dX3_sentLine_42 ?_
    refine g_v1 (c_knownName T3 4) lm_X3_196 dX3_sentLine_43 (T3.S.l 33 rfl) (T3.S.k 33 rfl rfl) rfl rfl rfl rfl (fun v h4 hq => ?_)
    obtain ⟨t4, ⟨e, ho4, rfl, fe⟩ | ⟨x4, ho4, rfl, f4, T4, nb4⟩⟩ := hq
    · refine g_ifne dX3_sentLine_46 (fun c46 => absurd rfl c46) (fun c46 => ?_)
      refine g_iconst dX3_sentLine_49 ?_
      exact g_zret rfl rfl dX3_sentLine_50 rfl rfl ⟨(t4.P s).trans P3, Or.inl ⟨_, (bo ho1 (be ho4)), rfl, fe⟩⟩
    · have P4 := (t4.P s).trans P3
      have F4 := f4.trans F3
      have D4 := D3.tq hs t4
      have R4 : gR h4 33 5 = some s := by rw [P4.R]; exact hR
      refine g_ifne dX3_sentLine_46 (fun c46 => ?_) (fun c46 => absurd c46 (by decide))
      refine g_aL0 dX3_sentLine_51 ?_
      refine g_getR lf_X3_22 (T4.S.l 33 rfl) (T4.S.k 33 rfl rfl) R4 dX3_sentLine_52 ?_
      refine g_getR lf_X3_222 (T4.S.cl hs 0 rfl) (T4.S.ck hs) (T4.S.cr hs 15 (j := 10) rfl rfl) dX3_sentLine_55 ?_
      refine g_iL1 dX3_sentLine_58 ?_
      refine g_aL0 dX3_sentLine_59 ?_
      refine g_gI lf_X3_117 (T4.S.l 33 rfl) (T4.S.k 33 rfl rfl) dX3_sentLine_60 ?_
      rw [nb4]
      refine g_iastoreN (T4.S.cl hs 10 rfl) (T4.S.cka hs 10 rfl rfl) (T4.S.cn hs 10 (n := 6) rfl rfl rfl) hnb (by decide) dX3_sentLine_63 ?_
      have T5 := T4.I (a := (s + 10)) (k := (pn (C 1 7))) x4 (by omega) (by omega) (by omega) (by omega) (by omega)
      have P5 := (PQ_I _ (s := s) (a := 10) (k := (pn (C 1 7))) x4 (by decide)).trans P4
      have F5 := (FQ_I _ (a := (s + 10)) (k := (pn (C 1 7))) x4 (by omega)).trans F4
      have D5 := D4.w 10 (pn (C 1 7)) x4
      have R5 := R4
      refine g_aL0 dX3_sentLine_64 ?_
      refine g_getR lf_X3_16 (T5.S.l 33 rfl) (T5.S.k 33 rfl rfl) (T5.S.r 33 0 (b := 34) rfl rfl) dX3_sentLine_65 ?_
      refine e_v0u (w_step T5) lm_X3_70 dX3_sentLine_68 (T5.S.l 34 rfl) (T5.S.k 34 rfl rfl) rfl rfl rfl rfl ?_
      have T6 := T5.step
      have P6 := T5.stP P5
      have F6 := T5.stF F5
      have D6 := T5.stD hs D5
      have R6 := R5
      refine g_aL0 dX3_sentLine_71 ?_
      refine g_iconst dX3_sentLine_72 ?_
      refine g_v1 (c_knownName T6 4) lm_X3_196 dX3_sentLine_73 (T6.S.l 33 rfl) (T6.S.k 33 rfl rfl) rfl rfl rfl rfl (fun v h7 hq => ?_)
      obtain ⟨t7, ⟨e, ho7, rfl, fe⟩ | ⟨x7, ho7, rfl, f7, T7, nb7⟩⟩ := hq
      · refine g_ifne dX3_sentLine_76 (fun c76 => absurd rfl c76) (fun c76 => ?_)
        refine g_iconst dX3_sentLine_79 ?_
        exact g_zret rfl rfl dX3_sentLine_80 rfl rfl ⟨(t7.P s).trans P6, Or.inl ⟨_, (bo ho1 (bo ho4 (be ho7))), rfl, fe⟩⟩
      · have P7 := (t7.P s).trans P6
        have F7 := f7.trans F6
        have D7 := D6.tq hs t7
        have R7 : gR h7 33 5 = some s := by rw [P7.R]; exact hR
        refine g_ifne dX3_sentLine_76 (fun c76 => ?_) (fun c76 => absurd c76 (by decide))
        refine g_aL0 dX3_sentLine_81 ?_
        refine g_getR lf_X3_22 (T7.S.l 33 rfl) (T7.S.k 33 rfl rfl) R7 dX3_sentLine_82 ?_
        refine g_getR lf_X3_225 (T7.S.cl hs 0 rfl) (T7.S.ck hs) (T7.S.cr hs 16 (j := 11) rfl rfl) dX3_sentLine_85 ?_
        refine g_iL1 dX3_sentLine_88 ?_
        refine g_aL0 dX3_sentLine_89 ?_
        refine g_gI lf_X3_117 (T7.S.l 33 rfl) (T7.S.k 33 rfl rfl) dX3_sentLine_90 ?_
        rw [nb7]
        refine g_iastoreN (T7.S.cl hs 11 rfl) (T7.S.cka hs 11 rfl rfl) (T7.S.cn hs 11 (n := 6) rfl rfl rfl) hnb (by decide) dX3_sentLine_93 ?_
        have T8 := T7.I (a := (s + 11)) (k := (pn (C 1 7))) x7 (by omega) (by omega) (by omega) (by omega) (by omega)
        have P8 := (PQ_I _ (s := s) (a := 11) (k := (pn (C 1 7))) x7 (by decide)).trans P7
        have F8 := (FQ_I _ (a := (s + 11)) (k := (pn (C 1 7))) x7 (by omega)).trans F7
        have D8 := D7.w 11 (pn (C 1 7)) x7
        have R8 := R7
        refine g_aL0 dX3_sentLine_94 ?_
        refine g_getR lf_X3_16 (T8.S.l 33 rfl) (T8.S.k 33 rfl rfl) (T8.S.r 33 0 (b := 34) rfl rfl) dX3_sentLine_95 ?_
        refine e_v0u (w_step T8) lm_X3_70 dX3_sentLine_98 (T8.S.l 34 rfl) (T8.S.k 34 rfl rfl) rfl rfl rfl rfl ?_
        have T9 := T8.step
        have P9 := T8.stP P8
        have F9 := T8.stF F8
        have D9 := T8.stD hs D8
        have R9 := R8
        refine g_iconst dX3_sentLine_101 ?_
        exact g_zret rfl rfl dX3_sentLine_102 rfl rfl ⟨P9, Or.inr ⟨_, (bo ho1 (bo ho4 (bo ho7 rfl))), rfl, F9, T9, D9⟩⟩
theorem c_shardLine {tx : Nat → Int32} {en : Nat} {h : Hp} {q : Nat} {K : List Nm} (T : PT tx en h q K) {s : Nat} (hs : s = 3 ∨ s = 18) (hR : gR h 33 5 = some s) {C : CT} (D : CE h s C) {n : Nat} (hn : C 1 9 = nI n) (hnb : n < 8) {N : Nat} (hN : C 0 2 = nI N) (hN4 : N ≤ 4) {ls : Nat} (hl : gI h 33 6 = nI ls) : gC 7 0 0 yX3_shardLine cX3_shardLine 2 (some .boolean) [.ref 33] h (LQ tx en s h (shaP tx en C ls q K)) := by
  have T0 := T
  have P0 := PQ.refl s h
  have F0 := FQ.refl h
  have D0 := D
  have R0 := hR
  obtain rfl : n = pn (C 1 9) := by rw [hn, pn_nI (by omega)]
  obtain rfl : N = pn (C 0 2) := by rw [hN, pn_nI (by omega)]
  refine g_entry (lv := [.ref 33, .retAddr 0]) 1 pn_X3 rfl rfl rfl ?_
  refine g_aL0 dX3_shardLine_0 ?_
  refine g_getR lf_X3_22 (T0.S.l 33 rfl) (T0.S.k 33 rfl rfl) R0 dX3_shardLine_1 ?_
  refine g_getR lf_X3_63 (T0.S.cl hs 0 rfl) (T0.S.ck hs) (T0.S.cr hs 0 (j := 1) rfl rfl) dX3_shardLine_4 ?_
  refine g_bipush dX3_shardLine_7 ?_
  refine g_ialoadK (T0.S.cl hs 1 rfl) (T0.S.cka hs 1 rfl rfl) (T0.S.cn hs 1 (n := 11) rfl rfl rfl) rfl (j := 9) rfl dX3_shardLine_9 ?_
  rw [show gI _ (s + 1) 9 = _ from (D0 1 9 (by decide)).trans hn]
  refine g_iS1 dX3_shardLine_10 rfl rfl ?_
  refine g_aL0 dX3_shardLine_11 ?_
  refine g_bipush dX3_shardLine_12 ?_
  refine g_v1 (c_knownName T0 8) lm_X3_196 dX3_shardLine_14 (T0.S.l 33 rfl) (T0.S.k 33 rfl rfl) rfl rfl rfl rfl (fun v h1 hq => ?_)
  obtain ⟨t1, ⟨e, ho1, rfl, fe⟩ | ⟨x1, ho1, rfl, f1, T1, nb1⟩⟩ := hq
  · refine g_ifne dX3_shardLine_17 (fun c17 => absurd rfl c17) (fun c17 => ?_)
    refine g_iconst dX3_shardLine_20 ?_
    exact g_zret rfl rfl dX3_shardLine_21 rfl rfl ⟨(t1.P s).trans P0, Or.inl ⟨_, (be ho1), rfl, fe⟩⟩
  · have P1 := (t1.P s).trans P0
    have F1 := f1.trans F0
    have D1 := D0.tq hs t1
    have R1 : gR h1 33 5 = some s := by rw [P1.R]; exact hR
    refine g_ifne dX3_shardLine_17 (fun c17 => ?_) (fun c17 => absurd c17 (by decide))
    refine g_aL0 dX3_shardLine_22 ?_
    refine g_getR lf_X3_22 (T1.S.l 33 rfl) (T1.S.k 33 rfl rfl) R1 dX3_shardLine_23 ?_
    refine g_getR lf_X3_228 (T1.S.cl hs 0 rfl) (T1.S.ck hs) (T1.S.cr hs 17 (j := 12) rfl rfl) dX3_shardLine_26 ?_
    refine g_iL1 dX3_shardLine_29 ?_
    refine g_aL0 dX3_shardLine_30 ?_
    refine g_gI lf_X3_117 (T1.S.l 33 rfl) (T1.S.k 33 rfl rfl) dX3_shardLine_31 ?_
    rw [nb1]
    refine g_iastoreN (T1.S.cl hs 12 rfl) (T1.S.cka hs 12 rfl rfl) (T1.S.cn hs 12 (n := 8) rfl rfl rfl) hnb (by decide) dX3_shardLine_34 ?_
    have T2 := T1.I (a := (s + 12)) (k := (pn (C 1 9))) x1 (by omega) (by omega) (by omega) (by omega) (by omega)
    have P2 := (PQ_I _ (s := s) (a := 12) (k := (pn (C 1 9))) x1 (by decide)).trans P1
    have F2 := (FQ_I _ (a := (s + 12)) (k := (pn (C 1 9))) x1 (by omega)).trans F1
    have D2 := D1.w 12 (pn (C 1 9)) x1
    have R2 := R1
    refine g_aL0 dX3_shardLine_35 ?_
    refine g_getR lf_X3_16 (T2.S.l 33 rfl) (T2.S.k 33 rfl rfl) (T2.S.r 33 0 (b := 34) rfl rfl) dX3_shardLine_36 ?_
    refine e_v0u (w_step T2) lm_X3_70 dX3_shardLine_39 (T2.S.l 34 rfl) (T2.S.k 34 rfl rfl) rfl rfl rfl rfl ?_
    have T3 := T2.step
    have P3 := T2.stP P2
    have F3 := T2.stF F2
    have D3 := T2.stD hs D2
    have R3 := R2
    refine g_aL0 dX3_shardLine_42 ?_
    refine g_iconst dX3_shardLine_43 ?_
    refine g_v1 (c_rowsW T3 hs R3 (wd := C 0 1) (D3 0 1 (by decide)) ((D3 0 2 (by decide)).trans hN) hN4 1) lm_X3_174 dX3_shardLine_44 (T3.S.l 33 rfl) (T3.S.k 33 rfl rfl) rfl rfl rfl rfl (fun v h4 hq => ?_)
    obtain ⟨t4, ⟨e, ho4, rfl, fe⟩ | ⟨x4, ho4, rfl, f4, T4, r84, r94⟩⟩ := hq
    · refine g_ifne dX3_shardLine_47 (fun c47 => absurd rfl c47) (fun c47 => ?_)
      refine g_iconst dX3_shardLine_50 ?_
      exact g_zret rfl rfl dX3_shardLine_51 rfl rfl ⟨(t4.P s).trans P3, Or.inl ⟨_, (bo ho1 (be ho4)), rfl, fe⟩⟩
    · have P4 := (t4.P s).trans P3
      have F4 := f4.trans F3
      have D4 := D3.tq hs t4
      have R4 : gR h4 33 5 = some s := by rw [P4.R]; exact hR
      refine g_ifne dX3_shardLine_47 (fun c47 => ?_) (fun c47 => absurd c47 (by decide))
      refine g_aL0 dX3_shardLine_52 ?_
      refine g_gI lf_X3_231 (T4.S.l 33 rfl) (T4.S.k 33 rfl rfl) dX3_shardLine_53 ?_
      rw [r94]
      refine g_ifne dX3_shardLine_56 (fun c56 => ?_) (fun c56 => ?_)
      · refine g_aL0 dX3_shardLine_76 ?_
        refine g_getR lf_X3_22 (T4.S.l 33 rfl) (T4.S.k 33 rfl rfl) R4 dX3_shardLine_77 ?_
        refine g_getR lf_X3_234 (T4.S.cl hs 0 rfl) (T4.S.ck hs) (T4.S.cr hs 18 (j := 13) rfl rfl) dX3_shardLine_80 ?_
        refine g_iL1 dX3_shardLine_83 ?_
        refine g_aL0 dX3_shardLine_84 ?_
        refine g_gI lf_X3_231 (T4.S.l 33 rfl) (T4.S.k 33 rfl rfl) dX3_shardLine_85 ?_
        rw [r94]
        refine g_iastoreN (T4.S.cl hs 13 rfl) (T4.S.cka hs 13 rfl rfl) (T4.S.cn hs 13 (n := 8) rfl rfl rfl) hnb (by decide) dX3_shardLine_88 ?_
        have T5 := T4.I (a := (s + 13)) (k := (pn (C 1 9))) x4.2.2 (by omega) (by omega) (by omega) (by omega) (by omega)
        have P5 := (PQ_I _ (s := s) (a := 13) (k := (pn (C 1 9))) x4.2.2 (by decide)).trans P4
        have F5 := (FQ_I _ (a := (s + 13)) (k := (pn (C 1 9))) x4.2.2 (by omega)).trans F4
        have D5 := D4.w 13 (pn (C 1 9)) x4.2.2
        have R5 := R4
        refine g_aL0 dX3_shardLine_89 ?_
        refine g_getR lf_X3_22 (T5.S.l 33 rfl) (T5.S.k 33 rfl rfl) R5 dX3_shardLine_90 ?_
        refine g_getR lf_X3_237 (T5.S.cl hs 0 rfl) (T5.S.ck hs) (T5.S.cr hs 19 (j := 14) rfl rfl) dX3_shardLine_93 ?_
        refine g_iL1 dX3_shardLine_96 ?_
        refine g_aL0 dX3_shardLine_97 ?_
        refine g_gI lf_X3_181 (T5.S.l 33 rfl) (T5.S.k 33 rfl rfl) dX3_shardLine_98 ?_
        rw [gIq (by omega), r84]
        refine g_iastoreN (T5.S.cl hs 14 rfl) (T5.S.cka hs 14 rfl rfl) (T5.S.cn hs 14 (n := 8) rfl rfl rfl) hnb (by decide) dX3_shardLine_101 ?_
        have T6 := T5.I (a := (s + 14)) (k := (pn (C 1 9))) x4.2.1 (by omega) (by omega) (by omega) (by omega) (by omega)
        have P6 := (PQ_I _ (s := s) (a := 14) (k := (pn (C 1 9))) x4.2.1 (by decide)).trans P5
        have F6 := (FQ_I _ (a := (s + 14)) (k := (pn (C 1 9))) x4.2.1 (by omega)).trans F5
        have D6 := D5.w 14 (pn (C 1 9)) x4.2.1
        have R6 := R5
        refine g_iconst dX3_shardLine_102 ?_
        exact g_zret rfl rfl dX3_shardLine_103 rfl rfl ⟨P6, Or.inr ⟨_, (bo ho1 (bo ho4 ((if_neg c56).trans rfl))), rfl, F6, T6, D6⟩⟩
      · refine g_aL0 dX3_shardLine_59 ?_
        refine g_bipush dX3_shardLine_60 ?_
        refine e_v1i (c_fail T4.S _) lm_X3_66 dX3_shardLine_62 (T4.S.l 33 rfl) (T4.S.k 33 rfl rfl) rfl rfl rfl rfl ?_
        refine g_pop dX3_shardLine_65 rfl ?_
        refine g_aL0 dX3_shardLine_66 ?_
        refine g_aL0 dX3_shardLine_67 ?_
        refine g_gI lf_X3_138 (T4.S.l 33 rfl) (T4.S.k 33 rfl rfl) dX3_shardLine_68 ?_
        rw [show gI (flH h4 7) 33 6 = nI ls from (gIk (by decide)).trans ((gIk (by decide)).trans ((F4 6 (Or.inl rfl)).trans hl))]
        refine g_pI0 lf_X3_26 (T4.S.l 33 rfl) (T4.S.k 33 rfl rfl) dX3_shardLine_71 ?_
        refine g_iconst dX3_shardLine_74 ?_
        exact g_zret rfl rfl dX3_shardLine_75 rfl rfl ⟨((TQ_I _ _ (by omega)).P s).trans (((TQ_fl _ _).P s).trans P4), Or.inl ⟨(7, ls), (bo ho1 (bo ho4 (if_pos c56))), rfl, ⟨rfl, gIs _ _ _ _⟩⟩⟩

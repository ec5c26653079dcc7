/-! THE CLASS: City.clear, Parser.parse -/
def clA (s : Nat) : Nat → Nat → Hp → Hp
  | 0, _, h => h
  | n + 1, i, h => clA s n (i + 1) (pI h (s + 1) i 0)
def clB (s : Nat) : Nat → Nat → Hp → Hp
  | 0, _, h => h
  | n + 1, i, h => clB s n (i + 1) (pI (pI h (s + 7) i 0) (s + 8) i 0)
def clE (s : Nat) (h : Hp) : Hp := pI (pI (pI (pI (pI (pI h s 1 0) s 2 0) s 3 0) s 4 0) s 5 0) s 13 0
def clH (h : Hp) (s : Nat) : Hp := clE s (clB s 49 0 (clA s 11 0 h))
theorem clA_P (s : Nat) : ∀ (n i : Nat) (h : Hp), PQ s (clA s n i h) h
  | 0, _, h => PQ.refl s h
  | n + 1, i, h => (clA_P s n (i + 1) _).trans (PQ_I h (s := s) (a := 1) 0 (by decide))
theorem clB_P (s : Nat) : ∀ (n i : Nat) (h : Hp), PQ s (clB s n i h) h
  | 0, _, h => PQ.refl s h
  | n + 1, i, h => (clB_P s n (i + 1) _).trans ((PQ_I _ (s := s) (a := 8) 0 (by decide)).trans (PQ_I h (s := s) (a := 7) 0 (by decide)))
theorem PQ_s (h : Hp) {s k : Nat} (v : Int32) : PQ s (pI h s k v) h := PQ_I h (s := s) (a := 0) v (by decide)
theorem clE_P (s : Nat) (h : Hp) : PQ s (clE s h) h := (PQ_s _ _).trans ((PQ_s _ _).trans ((PQ_s _ _).trans ((PQ_s _ _).trans ((PQ_s _ _).trans (PQ_s h _)))))
theorem clA_n (s : Nat) : ∀ (n i : Nat) (h : Hp) (b j : Nat), b ≠ s + 1 → gI (clA s n i h) b j = gI h b j
  | 0, _, _, _, _, _ => rfl
  | n + 1, i, h, b, j, hb => (clA_n s n (i + 1) _ b j hb).trans (gIq hb)
theorem clA_lo (s : Nat) : ∀ (n i : Nat) (h : Hp) (j : Nat), j < i → gI (clA s n i h) (s + 1) j = gI h (s + 1) j
  | 0, _, _, _, _ => rfl
  | n + 1, i, h, j, hj => (clA_lo s n (i + 1) _ j (by omega)).trans (gIk (by omega))
theorem clA_z (s : Nat) : ∀ (n i : Nat) (h : Hp) (j : Nat), i ≤ j → j < i + n → gI (clA s n i h) (s + 1) j = 0
  | 0, _, _, _, _, _ => by omega
  | n + 1, i, h, j, h1, h2 => by
    by_cases e : j = i
    · subst e; exact (clA_lo s n (j + 1) _ j (by omega)).trans (gIs _ _ _ _)
    · exact clA_z s n (i + 1) _ j (by omega) (by omega)
theorem clB_n (s : Nat) : ∀ (n i : Nat) (h : Hp) (b j : Nat), b ≠ s + 7 → b ≠ s + 8 → gI (clB s n i h) b j = gI h b j
  | 0, _, _, _, _, _, _ => rfl
  | n + 1, i, h, b, j, h1, h2 => (clB_n s n (i + 1) _ b j h1 h2).trans ((gIq h2).trans (gIq h1))
theorem clB_lo (s : Nat) : ∀ (n i : Nat) (h : Hp) (b j : Nat), j < i → gI (clB s n i h) b j = gI h b j
  | 0, _, _, _, _, _ => rfl
  | n + 1, i, h, b, j, hj => (clB_lo s n (i + 1) _ b j (by omega)).trans ((gIk (by omega)).trans (gIk (by omega)))
theorem clB_z (s : Nat) : ∀ (n i : Nat) (h : Hp) (b j : Nat), b = s + 7 ∨ b = s + 8 → i ≤ j → j < i + n → gI (clB s n i h) b j = 0
  | 0, _, _, _, _, _, _, _ => by omega
  | n + 1, i, h, b, j, hb, h1, h2 => by
    by_cases e : j = i
    · subst e
      refine (clB_lo s n (j + 1) _ b j (by omega)).trans ?_
      rcases hb with rfl | rfl
      · exact (gIq (by omega)).trans (gIs _ _ _ _)
      · exact gIs _ _ _ _
    · exact clB_z s n (i + 1) _ b j hb (by omega) (by omega)
/-- an empty city -/
def ZC (C : CT) : Prop := (∀ k, k < 11 → C 1 k = 0) ∧ (∀ j, j < 49 → C 7 j = 0) ∧ (∀ j, j < 49 → C 8 j = 0) ∧ C 0 1 = 0 ∧ C 0 2 = 0 ∧ C 0 3 = 0 ∧ C 0 4 = 0 ∧ C 0 5 = 0 ∧ C 0 13 = 0
theorem clE_n (s : Nat) (h : Hp) {b j : Nat} (hb : b ≠ s) : gI (clE s h) b j = gI h b j := (gIq hb).trans ((gIq hb).trans ((gIq hb).trans ((gIq hb).trans ((gIq hb).trans (gIq hb)))))
theorem clH_Z (h : Hp) (s : Nat) : ZC (CC (clH h s) s) := by
  refine ⟨fun k hk => ?_, fun j hj => ?_, fun j hj => ?_, ?_, ?_, ?_, ?_, ?_, ?_⟩
  · exact (clE_n s _ (by omega)).trans ((clB_n s _ _ _ _ _ (by omega) (by omega)).trans (clA_z s _ _ _ _ (by omega) (by omega)))
  · exact (clE_n s _ (by omega)).trans (clB_z s _ _ _ _ _ (by omega) (by omega) (by omega))
  · exact (clE_n s _ (by omega)).trans (clB_z s _ _ _ _ _ (by omega) (by omega) (by omega))
  · exact (gIk (by decide)).trans ((gIk (by decide)).trans ((gIk (by decide)).trans ((gIk (by decide)).trans ((gIk (by decide)).trans (gIs _ _ _ _)))))
  · exact (gIk (by decide)).trans ((gIk (by decide)).trans ((gIk (by decide)).trans ((gIk (by decide)).trans (gIs _ _ _ _))))
  · exact (gIk (by decide)).trans ((gIk (by decide)).trans ((gIk (by decide)).trans (gIs _ _ _ _)))
  · exact (gIk (by decide)).trans ((gIk (by decide)).trans (gIs _ _ _ _))
  · exact (gIk (by decide)).trans (gIs _ _ _ _)
  · exact gIs _ _ _ _
theorem clH_P (h : Hp) (s : Nat) : PQ s (clH h s) h := (clE_P s _).trans ((clB_P s _ _ _).trans (clA_P s _ _ h))
theorem c_clear {h : Hp} (S : SX h) {s : Nat} (hs : s = 3 ∨ s = 18) : gCi 0 0 0 yX0_clear cX0_clear 2 none [.ref s] h none (clH h s) := by
  refine g_entry (lv := [.ref s, .retAddr 0]) 1 pn_X0 rfl rfl rfl ?_
  have loop2 : ∀ (n i : Nat) (hh : Hp), i + n = 49 → (clH h s) = clE s (clB s n i hh) → SX hh → gY 0 0 0 yX0_clear cX0_clear 2 none 0 0 (fun v' h' => v' = none ∧ h' = (clH h s)) 23 [.ref s, .int (nI i)] [] hh := by
    intro n
    induction n with
    | zero =>
      intro i hh hi he S
      refine g_iL1 dX0_clear_23 ?_
      refine g_bipush dX0_clear_24 ?_
      rw [show (49 : Int32) = nI 49 from rfl]
      refine g_icge dX0_clear_26 (fun c26 => ?_) (fun c26 => absurd (nI_le (by omega) (by omega)) c26)
      refine g_aL0 dX0_clear_49 ?_
      refine g_iconst dX0_clear_50 ?_
      refine g_pI0 lf_X0_54 (S.cl hs 0 rfl) (S.ck hs) dX0_clear_51 ?_
      refine g_aL0 dX0_clear_54 ?_
      refine g_iconst dX0_clear_55 ?_
      refine g_pI0 lf_X0_58 (S.cl hs 0 rfl) (S.ck hs) dX0_clear_56 ?_
      refine g_aL0 dX0_clear_59 ?_
      refine g_iconst dX0_clear_60 ?_
      refine g_pI0 lf_X0_61 (S.cl hs 0 rfl) (S.ck hs) dX0_clear_61 ?_
      refine g_aL0 dX0_clear_64 ?_
      refine g_iconst dX0_clear_65 ?_
      refine g_pI0 lf_X0_64 (S.cl hs 0 rfl) (S.ck hs) dX0_clear_66 ?_
      refine g_aL0 dX0_clear_69 ?_
      refine g_iconst dX0_clear_70 ?_
      refine g_pI0 lf_X0_67 (S.cl hs 0 rfl) (S.ck hs) dX0_clear_71 ?_
      refine g_aL0 dX0_clear_74 ?_
      refine g_iconst dX0_clear_75 ?_
      refine g_pI0 lf_X0_70 (S.cl hs 0 rfl) (S.ck hs) dX0_clear_76 ?_
      exact e_vret rfl dX0_clear_79 rfl rfl he.symm
    | succ n ih =>
      intro i hh hi he S
      refine g_iL1 dX0_clear_23 ?_
      refine g_bipush dX0_clear_24 ?_
      rw [show (49 : Int32) = nI 49 from rfl]
      refine g_icge dX0_clear_26 (fun c26 => absurd c26 (nI_ge (by omega) (by omega))) (fun c26 => ?_)
      refine g_aL0 dX0_clear_29 ?_
      refine g_getR lf_X0_30 (S.cl hs 0 rfl) (S.ck hs) (S.cr hs 11 (j := 7) rfl rfl) dX0_clear_30 ?_
      refine g_iL1 dX0_clear_33 ?_
      refine g_iconst dX0_clear_34 ?_
      refine g_iastoreN (S.cl hs 7 rfl) (S.cka hs 7 rfl rfl) (S.cn hs 7 (n := 49) rfl rfl rfl) (by omega) (by decide) dX0_clear_35 ?_
      refine g_aL0 dX0_clear_36 ?_
      refine g_getR lf_X0_33 (S.cl hs 0 rfl) (S.ck hs) (S.cr hs 12 (j := 8) rfl rfl) dX0_clear_37 ?_
      refine g_iL1 dX0_clear_40 ?_
      refine g_iconst dX0_clear_41 ?_
      refine g_iastoreN (S.cl hs 8 rfl) (S.cka hs 8 rfl rfl) (S.cn hs 8 (n := 49) rfl rfl rfl) (by omega) (by decide) dX0_clear_42 ?_
      refine g_ii1 dX0_clear_43 rfl rfl ?_
      refine g_goto dX0_clear_46 ?_
      rw [nI_1]
      exact ih (i + 1) _ (by omega) he S
  have loop1 : ∀ (n i : Nat) (hh : Hp), i + n = 11 → (clH h s) = clE s (clB s 49 0 (clA s n i hh)) → SX hh → gY 0 0 0 yX0_clear cX0_clear 2 none 0 0 (fun v' h' => v' = none ∧ h' = (clH h s)) 2 [.ref s, .int (nI i)] [] hh := by
    intro n
    induction n with
    | zero =>
      intro i hh hi he S
      refine g_iL1 dX0_clear_2 ?_
      refine g_bipush dX0_clear_3 ?_
      rw [show (11 : Int32) = nI 11 from rfl]
      refine g_icge dX0_clear_5 (fun c5 => ?_) (fun c5 => absurd (nI_le (by omega) (by omega)) c5)
      refine g_iconst dX0_clear_21 ?_
      refine g_iS1 dX0_clear_22 rfl rfl ?_
      exact loop2 49 0 _ (by omega) he S
    | succ n ih =>
      intro i hh hi he S
      refine g_iL1 dX0_clear_2 ?_
      refine g_bipush dX0_clear_3 ?_
      rw [show (11 : Int32) = nI 11 from rfl]
      refine g_icge dX0_clear_5 (fun c5 => absurd c5 (nI_ge (by omega) (by omega))) (fun c5 => ?_)
      refine g_aL0 dX0_clear_8 ?_
      refine g_getR lf_X0_11 (S.cl hs 0 rfl) (S.ck hs) (S.cr hs 0 (j := 1) rfl rfl) dX0_clear_9 ?_
      refine g_iL1 dX0_clear_12 ?_
      refine g_iconst dX0_clear_13 ?_
      refine g_iastoreN (S.cl hs 1 rfl) (S.cka hs 1 rfl rfl) (S.cn hs 1 (n := 11) rfl rfl rfl) (by omega) (by decide) dX0_clear_14 ?_
      refine g_ii1 dX0_clear_15 rfl rfl ?_
      refine g_goto dX0_clear_18 ?_
      rw [nI_1]
      exact ih (i + 1) _ (by omega) he S
  refine g_iconst dX0_clear_0 ?_
  refine g_iS1 dX0_clear_1 rfl rfl ?_
  exact loop1 11 0 _ (by omega) rfl S
section PP
variable (tx : Nat → Int32) (en : Nat)
def paL : Nat → CT → Nat → List Nm → LR
  | 0, _, q, _ => er tx en 1 q
  | f + 1, C, q, K => if tkS tx en q = 0 then (if 0 < C 1 1 then .ok (q, C, K) else er tx en 6 q) else if tkS tx en q = 3 then (lnP tx en C (nx tx en q) K).bind fun x => paL f x.2.1 x.1 x.2.2 else er tx en 1 q
def parP (C : CT) : LR := (firP tx en C 0 []).bind fun x => paL tx en 1100 x.2.1 x.1 x.2.2
end PP
theorem c_parse {tx : Nat → Int32} {h hc : Hp} (S : SX h) (hx : gI h 2 = tx) {s : Nat} (hs : s = 3 ∨ s = 18) (eh : clH (pR h 33 5 (some s)) s = hc) {n : Nat} (hn : n ≤ 1100) (I : CT → List Nm → Prop) (hI0 : ∀ C x, ZC C → firP tx n C 0 [] = .ok x → I x.2.1 x.2.2) (hI1 : ∀ C q K x, I C K → lnP tx n C q K = .ok x → I x.2.1 x.2.2) (hI2 : ∀ C K, I C K → CB C K) : gC 9 0 0 yX3_parse cX3_parse 4 (some .boolean) [.ref 33, .int (nI n), .ref s] h (fun v h' => PQ s h' (pR h 33 5 (some s)) ∧ ((∃ e, parP tx n (CC hc s) = .error e ∧ v = some (.int 0) ∧ FL h' e) ∨ (∃ x, parP tx n (CC hc s) = .ok x ∧ v = some (.int 1) ∧ gI h' 33 10 = 0 ∧ gI h' 33 11 = -1 ∧ CE h' s x.2.1))) := by
  refine g_entry (lv := [.ref 33, .int (nI n), .ref s, .retAddr 0]) 1 pn_X3 rfl rfl rfl ?_
  have Sr : SX (pR h 33 5 (some s)) := S.pR (a := 33) (k := 5) (some s) rfl
  have Rr : gR (pR h 33 5 (some s)) 33 5 = some s := u2_s (gR h) 33 5 (some s)
  have Pc : PQ s hc (pR h 33 5 (some s)) := eh ▸ clH_P (pR h 33 5 (some s)) s
  have Zc : ZC (CC hc s) := eh ▸ clH_Z (pR h 33 5 (some s)) s
  have Wc : gCi 0 0 0 yX0_clear cX0_clear 2 none [.ref s] (pR h 33 5 (some s)) none hc := eh ▸ c_clear Sr hs
  have Sc := Pc.S Sr
  have Rc : gR hc 33 5 = some s := by rw [Pc.R]; exact Rr
  have Sb : SX (pI (pI (pI hc 33 4 0) 33 10 0) 33 11 (-1)) := Sc
  have Xb : gI (pI (pI (pI hc 33 4 0) 33 10 0) 33 11 (-1)) 2 = tx := (funext fun j => (gIq (by decide)).trans ((gIq (by decide)).trans ((gIq (by decide)).trans (Pc.2.2.2.2.1 2 j (by decide) (by decide) (by decide) (by decide) (by omega))))).trans hx
  have Pb : PQ s (pI (pI (pI hc 33 4 0) 33 10 0) 33 11 (-1)) (pR h 33 5 (some s)) := ((((TQ_I _ _ (by omega)).trans (TQ_I _ _ (by omega))).trans (TQ_I _ _ (by omega))).P s).trans Pc
  have Db : CE (pI (pI (pI hc 33 4 0) 33 10 0) 33 11 (-1)) s (CC hc s) := fun a j ha => (gIq (by omega)).trans ((gIq (by omega)).trans (gIq (by omega)))
  have T1 : PT tx n (tkH (opS (pI (pI (pI hc 33 4 0) 33 10 0) 33 11 (-1)) n) n 0) 0 [] := by
    have ex : gI (opS (pI (pI (pI hc 33 4 0) 33 10 0) 33 11 (-1)) n) 2 = tx := (funext fun j => (gIq (by decide)).trans ((gIq (by decide)).trans (gIq (by decide)))).trans Xb
    unfold tkH
    rw [ex]
    refine ⟨Sb, ?_, rfl, hn, Nat.zero_le _, rfl, rfl, rfl, rfl, Nat.zero_le _, fun i x e => by cases e⟩
    exact (funext fun j => t3_n _ _ _ _ (by omega)).trans ex
  have tO : TQ (tkH (opS (pI (pI (pI hc 33 4 0) 33 10 0) 33 11 (-1)) n) n 0) (pI (pI (pI hc 33 4 0) 33 10 0) 33 11 (-1)) := (TQ_st _ _ _).trans ((TQ_I _ _ (by omega)).trans ((TQ_I _ _ (by omega)).trans (TQ_I _ _ (by omega))))
  have P1 : PQ s (tkH (opS (pI (pI (pI hc 33 4 0) 33 10 0) 33 11 (-1)) n) n 0) (pR h 33 5 (some s)) := (tO.P s).trans Pb
  have D1 := Db.tq hs tO
  have R1 : gR (tkH (opS (pI (pI (pI hc 33 4 0) 33 10 0) 33 11 (-1)) n) n 0) 33 5 = some s := Rc
  have f10 : gI (tkH (opS (pI (pI (pI hc 33 4 0) 33 10 0) 33 11 (-1)) n) n 0) 33 10 = 0 := rfl
  have f11 : gI (tkH (opS (pI (pI (pI hc 33 4 0) 33 10 0) 33 11 (-1)) n) n 0) 33 11 = -1 := rfl
  refine g_aL0 dX3_parse_0 ?_
  refine g_aL2 dX3_parse_1 ?_
  refine g_pR0 lf_X3_22 (S.l 33 rfl) (S.k 33 rfl rfl) dX3_parse_2 ?_
  refine g_aL0 dX3_parse_5 ?_
  refine g_getR lf_X3_22 (Sr.l 33 rfl) (Sr.k 33 rfl rfl) Rr dX3_parse_6 ?_
  refine e_v0u Wc lm_X3_41 dX3_parse_9 (Sr.cl hs 0 rfl) (Sr.ck hs) rfl rfl rfl rfl ?_
  refine g_aL0 dX3_parse_12 ?_
  refine g_iconst dX3_parse_13 ?_
  refine g_pI0 lf_X3_44 (Sc.l 33 rfl) (Sc.k 33 rfl rfl) dX3_parse_14 ?_
  refine g_aL0 dX3_parse_17 ?_
  refine g_iconst dX3_parse_18 ?_
  refine g_pI0 lf_X3_47 (Sc.l 33 rfl) (Sc.k 33 rfl rfl) dX3_parse_19 ?_
  refine g_aL0 dX3_parse_22 ?_
  refine g_iconst dX3_parse_23 ?_
  refine g_pI0 lf_X3_26 (Sc.l 33 rfl) (Sc.k 33 rfl rfl) dX3_parse_24 ?_
  refine g_aL0 dX3_parse_27 ?_
  refine g_getR lf_X3_16 (Sc.l 33 rfl) (Sc.k 33 rfl rfl) (Sc.r 33 0 (b := 34) rfl rfl) dX3_parse_28 ?_
  refine g_iL1 dX3_parse_31 ?_
  refine e_v1u (c_open Sb hn) lm_X3_50 dX3_parse_32 (Sc.l 34 rfl) (Sc.k 34 rfl rfl) rfl rfl rfl rfl ?_
  refine g_aL0 dX3_parse_35 ?_
  refine g_v0 (c_firstLine T1 hs R1 D1) lm_X3_54 dX3_parse_36 (T1.S.l 33 rfl) (T1.S.k 33 rfl rfl) rfl rfl rfl rfl (fun v h2 hq => ?_)
  obtain ⟨t2, ⟨e, ho, rfl, fe⟩ | ⟨x, ho, rfl, f2, T2, D2⟩⟩ := hq
  · refine g_ifne dX3_parse_39 (fun c39 => absurd rfl c39) (fun c39 => ?_)
    refine g_iconst dX3_parse_42 ?_
    exact g_zret rfl rfl dX3_parse_43 rfl rfl ⟨t2.trans P1, Or.inl ⟨_, be ho, rfl, fe⟩⟩
  · have loop : ∀ (f i : Nat) (C : CT) (q : Nat) (K : List Nm) (hh : Hp), i + f = 1100 → parP tx n (CC hc s) = paL tx n f C q K → PT tx n hh q K → PQ s hh (pR h 33 5 (some s)) → CE hh s C → I C K → gI hh 33 10 = 0 → gI hh 33 11 = -1 → gY 9 0 0 yX3_parse cX3_parse 4 (some .boolean) 0 0 (fun v h' => PQ s h' (pR h 33 5 (some s)) ∧ ((∃ e, parP tx n (CC hc s) = .error e ∧ v = some (.int 0) ∧ FL h' e) ∨ (∃ x, parP tx n (CC hc s) = .ok x ∧ v = some (.int 1) ∧ gI h' 33 10 = 0 ∧ gI h' 33 11 = -1 ∧ CE h' s x.2.1))) 46 [.ref 33, .int (nI n), .ref s, .int (nI i)] [] hh := by
      intro f
      induction f with
      | zero =>
        intro i C q K hh hi he T1 P1 D1 hI f10 f11
        have R1 : gR hh 33 5 = some s := by rw [P1.R]; exact Rr
        refine g_iL3 dX3_parse_46 ?_
        refine g_sipush dX3_parse_47 ?_
        rw [show (1100 : Int32) = nI 1100 from rfl]
        refine g_icge dX3_parse_50 (fun c50 => ?_) (fun c50 => absurd (nI_le (by omega) (by omega)) c50)
        refine g_aL0 dX3_parse_129 ?_
        refine g_iconst dX3_parse_130 ?_
        refine e_v1i (c_fail T1.S _) lm_X3_66 dX3_parse_131 (T1.S.l 33 rfl) (T1.S.k 33 rfl rfl) rfl rfl rfl rfl ?_
        exact g_zret rfl rfl dX3_parse_134 rfl rfl ⟨((TQ_fl _ _).P s).trans P1, Or.inl ⟨_, he.trans rfl, rfl, FL_fl T1 _⟩⟩
      | succ f ih =>
        intro i C q K hh hi he T1 P1 D1 hI f10 f11
        have R1 : gR hh 33 5 = some s := by rw [P1.R]; exact Rr
        refine g_iL3 dX3_parse_46 ?_
        refine g_sipush dX3_parse_47 ?_
        rw [show (1100 : Int32) = nI 1100 from rfl]
        refine g_icge dX3_parse_50 (fun c50 => absurd c50 (nI_ge (by omega) (by omega))) (fun c50 => ?_)
        refine g_aL0 dX3_parse_53 ?_
        refine g_getR lf_X3_16 (T1.S.l 33 rfl) (T1.S.k 33 rfl rfl) (T1.S.r 33 0 (b := 34) rfl rfl) dX3_parse_54 ?_
        refine g_gI lf_X3_60 (T1.S.l 34 rfl) (T1.S.k 34 rfl rfl) dX3_parse_57 ?_
        rw [T1.s]
        refine g_ifne dX3_parse_60 (fun c60 => ?_) (fun c60 => ?_)
        · refine g_aL0 dX3_parse_90 ?_
          refine g_getR lf_X3_16 (T1.S.l 33 rfl) (T1.S.k 33 rfl rfl) (T1.S.r 33 0 (b := 34) rfl rfl) dX3_parse_91 ?_
          refine g_gI lf_X3_60 (T1.S.l 34 rfl) (T1.S.k 34 rfl rfl) dX3_parse_94 ?_
          refine g_iconst dX3_parse_97 ?_
          rw [T1.s]
          refine g_iceq dX3_parse_98 (fun c98 => ?_) (fun c98 => ?_)
          · refine g_aL0 dX3_parse_107 ?_
            refine g_getR lf_X3_16 (T1.S.l 33 rfl) (T1.S.k 33 rfl rfl) (T1.S.r 33 0 (b := 34) rfl rfl) dX3_parse_108 ?_
            refine e_v0u (w_step T1) lm_X3_70 dX3_parse_111 (T1.S.l 34 rfl) (T1.S.k 34 rfl rfl) rfl rfl rfl rfl ?_
            have T2 := T1.step
            have P2 := T1.stP P1
            have D2 := T1.stD hs D1
            refine g_aL0 dX3_parse_114 ?_
            refine g_v0 (c_line T2 hs R1 D2 (hI2 _ _ hI)) lm_X3_73 dX3_parse_115 (T2.S.l 33 rfl) (T2.S.k 33 rfl rfl) rfl rfl rfl rfl (fun v h3 hq => ?_)
            obtain ⟨t3, ⟨e, hl, rfl, fe⟩ | ⟨y, hl, rfl, g3, T3, D3⟩⟩ := hq
            · refine g_ifne dX3_parse_118 (fun c118 => absurd rfl c118) (fun c118 => ?_)
              refine g_iconst dX3_parse_121 ?_
              exact g_zret rfl rfl dX3_parse_122 rfl rfl ⟨t3.trans (((TQ_I _ _ (by omega)).P s).trans P2), Or.inl ⟨_, he.trans (((if_neg c60).trans (if_pos c98)).trans (be hl)), rfl, fe⟩⟩
            · refine g_ifne dX3_parse_118 (fun c118 => ?_) (fun c118 => absurd c118 (by decide))
              refine g_ii3 dX3_parse_123 rfl rfl ?_
              refine g_goto dX3_parse_126 ?_
              rw [nI_1]
              exact ih (i + 1) _ _ _ _ (by omega) (he.trans (((if_neg c60).trans (if_pos c98)).trans (bo hl rfl))) T3 (t3.trans (((TQ_I _ _ (by omega)).P s).trans P2)) D3 (hI1 _ _ _ _ hI hl) ((g3 10 (Or.inr (Or.inl rfl))).trans ((gIk (by decide)).trans ((t3_n _ _ _ _ (by omega)).trans f10))) ((g3 11 (Or.inr (Or.inr rfl))).trans ((gIk (by decide)).trans ((t3_n _ _ _ _ (by omega)).trans f11)))
          · refine g_aL0 dX3_parse_101 ?_
            refine g_iconst dX3_parse_102 ?_
            refine e_v1i (c_fail T1.S _) lm_X3_66 dX3_parse_103 (T1.S.l 33 rfl) (T1.S.k 33 rfl rfl) rfl rfl rfl rfl ?_
            exact g_zret rfl rfl dX3_parse_106 rfl rfl ⟨((TQ_fl _ _).P s).trans P1, Or.inl ⟨_, he.trans ((if_neg c60).trans (if_neg c98)), rfl, FL_fl T1 _⟩⟩
        · refine g_aL0 dX3_parse_63 ?_
          refine g_getR lf_X3_22 (T1.S.l 33 rfl) (T1.S.k 33 rfl rfl) R1 dX3_parse_64 ?_
          refine g_getR lf_X3_63 (T1.S.cl hs 0 rfl) (T1.S.ck hs) (T1.S.cr hs 0 (j := 1) rfl rfl) dX3_parse_67 ?_
          refine g_iconst dX3_parse_70 ?_
          refine g_ialoadK (T1.S.cl hs 1 rfl) (T1.S.cka hs 1 rfl rfl) (T1.S.cn hs 1 (n := 11) rfl rfl rfl) rfl (j := 1) rfl dX3_parse_71 ?_
          rw [show gI hh (s + 1) 1 = C 1 1 from D1 1 1 (by decide)]
          refine g_ifgt dX3_parse_72 (fun c72 => ?_) (fun c72 => ?_)
          · refine g_iconst dX3_parse_84 ?_
            refine g_goto dX3_parse_85 ?_
            exact g_zret rfl rfl dX3_parse_89 rfl rfl ⟨P1, Or.inr ⟨_, he.trans ((if_pos c60).trans (if_pos c72)), rfl, f10, f11, D1⟩⟩
          · refine g_aL0 dX3_parse_75 ?_
            refine g_bipush dX3_parse_76 ?_
            refine e_v1i (c_fail T1.S _) lm_X3_66 dX3_parse_78 (T1.S.l 33 rfl) (T1.S.k 33 rfl rfl) rfl rfl rfl rfl ?_
            refine g_ifeq dX3_parse_81 (fun c81 => ?_) (fun c81 => absurd rfl c81)
            refine g_iconst dX3_parse_88 ?_
            exact g_zret rfl rfl dX3_parse_89 rfl rfl ⟨((TQ_fl _ _).P s).trans P1, Or.inl ⟨_, he.trans ((if_pos c60).trans (if_neg c72)), rfl, FL_fl T1 _⟩⟩
    refine g_ifne dX3_parse_39 (fun c39 => ?_) (fun c39 => absurd c39 (by decide))
    refine g_iconst dX3_parse_44 ?_
    refine g_iS3 dX3_parse_45 rfl rfl ?_
    exact loop 1100 0 _ _ _ _ (by omega) (bo ho rfl) T2 (t2.trans P1) D2 (hI0 _ _ Zc ho) ((f2 10 (Or.inr (Or.inl rfl))).trans f10) ((f2 11 (Or.inr (Or.inr rfl))).trans f11)

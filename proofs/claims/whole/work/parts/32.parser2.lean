/-! THE CLASS: Parser: rows of letters -/
def rwF (tx : Nat → Int32) (p : Nat) (base sh : Int32) : Nat → Nat → Int32 → Int32 → Option (Int32 × Int32)
  | 0, _, S, C => some (S, C)
  | n + 1, i, S, C => if tx (p + i) = 111 then rwF tx p base sh n (i + 1) S (C ||| ((1 : Int32) <<< ((base + nI i) &&& 31))) else if tx (p + i) = 120 then rwF tx p base sh n (i + 1) (S ||| ((1 : Int32) <<< ((base + nI i) &&& 31))) (C ||| ((1 : Int32) <<< ((base + nI i) &&& 31))) else if sh = 0 then none else if tx (p + i) = 109 then rwF tx p base sh n (i + 1) S C else none
section PP
variable (tx : Nat → Int32) (en : Nat)
def rowP (q : Nat) (wd base sh S C : Int32) : Option (Int32 × Int32) := if nI (tkL tx en q) = wd then rwF tx (tkP tx en q) base sh (tkL tx en q) 0 S C else none
/-- to the next row: over the comma -/
def rcP (i q : Nat) : Ex Nat := if i = 0 then .ok q else if tkS tx en q = 4 then .ok (nx tx en q) else if tkS tx en q = 3 then er tx en 6 q else if tkS tx en q = 0 then er tx en 6 q else er tx en 1 q
def rsB (k : Nat → Int32 → Int32 → Ex (Nat × Int32 × Int32)) (wd sh : Int32) (i q : Nat) (S C : Int32) : Ex (Nat × Int32 × Int32) := if tkS tx en q = 1 then (match rowP tx en q wd (nI i * wd) sh S C with | none => er tx en 7 q | some x => k (nx tx en q) x.1 x.2) else er tx en 1 q
def rsP (wd sh : Int32) : Nat → Nat → Nat → Int32 → Int32 → Ex (Nat × Int32 × Int32)
  | 0, _, q, S, C => .ok (q, S, C)
  | n + 1, i, q, S, C => (rcP tx en i q).bind fun q' => rsB tx en (fun q S C => rsP wd sh n (i + 1) q S C) wd sh i q' S C
end PP
theorem c_row {tx : Nat → Int32} {en : Nat} {h : Hp} {q : Nat} {K : List Nm} (T : PT tx en h q K) {s : Nat} (hs : s = 3 ∨ s = 18) (hR : gR h 33 5 = some s) (base sh : Int32) : gC 1 0 0 yX3_row cX3_row 6 (some .boolean) [.ref 33, .int base, .int sh] h (fun v h' => TQ h' h ∧ FQ h' h ∧ PT tx en h' q K ∧ ((rowP tx en q (gI h s 1) base sh (gI h 33 8) (gI h 33 9) = none ∧ v = some (.int 0)) ∨ (∃ x, rowP tx en q (gI h s 1) base sh (gI h 33 8) (gI h 33 9) = some x ∧ v = some (.int 1) ∧ gI h' 33 8 = x.1 ∧ gI h' 33 9 = x.2))) := by
  refine g_entry (lv := [.ref 33, .int base, .int sh, .retAddr 0, .retAddr 0, .retAddr 0]) 3 pn_X3 rfl rfl rfl ?_
  refine g_aL0 dX3_row_0 ?_
  refine g_getR lf_X3_16 (T.S.l 33 rfl) (T.S.k 33 rfl rfl) (T.S.r 33 0 (b := 34) rfl rfl) dX3_row_1 ?_
  refine g_gI lf_X3_258 (T.S.l 34 rfl) (T.S.k 34 rfl rfl) dX3_row_4 ?_
  refine g_aL0 dX3_row_7 ?_
  refine g_getR lf_X3_22 (T.S.l 33 rfl) (T.S.k 33 rfl rfl) hR dX3_row_8 ?_
  refine g_gI lf_X3_120 (T.S.cl hs 0 rfl) (T.S.ck hs) dX3_row_11 ?_
  rw [T.l]
  refine g_iceq dX3_row_14 (fun c14 => ?_) (fun c14 => ?_)
  · have loop : ∀ (n i : Nat) (v4 v5 : Value) (hh : Hp) (S1 : Int32) (C1 : Int32), i + n = tkL tx en q → rwF tx (tkP tx en q) base sh (tkL tx en q) 0 (gI h 33 8) (gI h 33 9) = rwF tx (tkP tx en q) base sh n i S1 C1 → PT tx en hh q K → TQ hh h → FQ hh h → gI hh 33 8 = S1 → gI hh 33 9 = C1 → gY 1 0 0 yX3_row cX3_row 6 (some .boolean) 0 0 (fun v h' => TQ h' h ∧ FQ h' h ∧ PT tx en h' q K ∧ ((rowP tx en q (gI h s 1) base sh (gI h 33 8) (gI h 33 9) = none ∧ v = some (.int 0)) ∨ (∃ x, rowP tx en q (gI h s 1) base sh (gI h 33 8) (gI h 33 9) = some x ∧ v = some (.int 1) ∧ gI h' 33 8 = x.1 ∧ gI h' 33 9 = x.2))) 21 [.ref 33, .int base, .int sh, .int (nI i), v4, v5] [] hh := by
      intro n
      induction n with
      | zero =>
        intro i v4 v5 hh S1 C1 hi he T1 tq fq s8 s9
        refine g_iL3 dX3_row_21 ?_
        refine g_aL0 dX3_row_22 ?_
        refine g_getR lf_X3_16 (T1.S.l 33 rfl) (T1.S.k 33 rfl rfl) (T1.S.r 33 0 (b := 34) rfl rfl) dX3_row_23 ?_
        refine g_gI lf_X3_258 (T1.S.l 34 rfl) (T1.S.k 34 rfl rfl) dX3_row_26 ?_
        rw [T1.l]
        refine g_icge dX3_row_29 (fun c29 => ?_) (fun c29 => absurd (nI_le (by omega) (by have := T.pl2; omega)) c29)
        refine g_iconst dX3_row_127 ?_
        exact g_zret rfl rfl dX3_row_128 rfl rfl ⟨tq, fq, T1, Or.inr ⟨(S1, C1), (if_pos c14).trans he, rfl, s8, s9⟩⟩
      | succ n ih =>
        intro i v4 v5 hh S1 C1 hi he T1 tq fq s8 s9
        refine g_iL3 dX3_row_21 ?_
        refine g_aL0 dX3_row_22 ?_
        refine g_getR lf_X3_16 (T1.S.l 33 rfl) (T1.S.k 33 rfl rfl) (T1.S.r 33 0 (b := 34) rfl rfl) dX3_row_23 ?_
        refine g_gI lf_X3_258 (T1.S.l 34 rfl) (T1.S.k 34 rfl rfl) dX3_row_26 ?_
        rw [T1.l]
        refine g_icge dX3_row_29 (fun c29 => absurd c29 (nI_ge (by omega) (by have := T.pl2; omega))) (fun c29 => ?_)
        refine g_aL0 dX3_row_32 ?_
        refine g_getR lf_X3_16 (T1.S.l 33 rfl) (T1.S.k 33 rfl rfl) (T1.S.r 33 0 (b := 34) rfl rfl) dX3_row_33 ?_
        refine g_iL3 dX3_row_36 ?_
        refine e_v1i (w_letter T1 (by omega)) lm_X3_261 dX3_row_37 (T1.S.l 34 rfl) (T1.S.k 34 rfl rfl) rfl rfl rfl rfl ?_
        by_cases e1 : tx (tkP tx en q + i) = 111
        · rw [e1]
          refine g_iS4 dX3_row_40 rfl rfl ?_
          refine g_iL2 dX3_row_42 ?_
          refine g_ifeq dX3_row_43 (fun c43 => ?_) (fun c43 => ?_)
          · refine g_iconst dX3_row_57 ?_
            refine g_iS5 dX3_row_58 rfl rfl ?_
            refine g_iL4 dX3_row_60 ?_
            refine g_bipush dX3_row_62 ?_
            refine g_iceq dX3_row_64 (fun c64 => ?_) (fun c64 => absurd rfl c64)
            refine g_iL4 dX3_row_81 ?_
            refine g_bipush dX3_row_83 ?_
            refine g_icne dX3_row_85 (fun c85 => ?_) (fun c85 => absurd c85 (by decide))
            refine g_iL5 dX3_row_102 ?_
            refine g_ifne dX3_row_104 (fun c104 => absurd rfl c104) (fun c104 => ?_)
            refine g_aL0 dX3_row_107 ?_
            refine g_dup dX3_row_108 rfl ?_
            refine g_gI lf_X3_231 (T1.S.l 33 rfl) (T1.S.k 33 rfl rfl) dX3_row_109 ?_
            rw [s9]
            refine g_iconst dX3_row_112 ?_
            refine g_iL1 dX3_row_113 ?_
            refine g_iL3 dX3_row_114 ?_
            refine g_iadd dX3_row_115 ?_
            refine g_ishl dX3_row_116 ?_
            refine g_ior dX3_row_117 ?_
            refine g_pI0 lf_X3_231 (T1.S.l 33 rfl) (T1.S.k 33 rfl rfl) dX3_row_118 ?_
            refine g_ii3 dX3_row_121 rfl rfl ?_
            refine g_goto dX3_row_124 ?_
            rw [nI_1]
            exact ih (i + 1) _ _ _ _ _ (by omega) (he.trans (if_pos e1)) (T1.I _ (by decide) (by decide) (by decide) (by decide) (by decide)) ((TQ_I _ _ (by omega)).trans tq) ((FQ_I _ _ (by omega)).trans fq) ((gIk (by decide)).trans s8) (gIs _ _ _ _)
          · refine g_iL4 dX3_row_46 ?_
            refine g_bipush dX3_row_48 ?_
            refine g_icne dX3_row_50 (fun c50 => ?_) (fun c50 => absurd c50 (by decide))
            refine g_iconst dX3_row_57 ?_
            refine g_iS5 dX3_row_58 rfl rfl ?_
            refine g_iL4 dX3_row_60 ?_
            refine g_bipush dX3_row_62 ?_
            refine g_iceq dX3_row_64 (fun c64 => ?_) (fun c64 => absurd rfl c64)
            refine g_iL4 dX3_row_81 ?_
            refine g_bipush dX3_row_83 ?_
            refine g_icne dX3_row_85 (fun c85 => ?_) (fun c85 => absurd c85 (by decide))
            refine g_iL5 dX3_row_102 ?_
            refine g_ifne dX3_row_104 (fun c104 => absurd rfl c104) (fun c104 => ?_)
            refine g_aL0 dX3_row_107 ?_
            refine g_dup dX3_row_108 rfl ?_
            refine g_gI lf_X3_231 (T1.S.l 33 rfl) (T1.S.k 33 rfl rfl) dX3_row_109 ?_
            rw [s9]
            refine g_iconst dX3_row_112 ?_
            refine g_iL1 dX3_row_113 ?_
            refine g_iL3 dX3_row_114 ?_
            refine g_iadd dX3_row_115 ?_
            refine g_ishl dX3_row_116 ?_
            refine g_ior dX3_row_117 ?_
            refine g_pI0 lf_X3_231 (T1.S.l 33 rfl) (T1.S.k 33 rfl rfl) dX3_row_118 ?_
            refine g_ii3 dX3_row_121 rfl rfl ?_
            refine g_goto dX3_row_124 ?_
            rw [nI_1]
            exact ih (i + 1) _ _ _ _ _ (by omega) (he.trans (if_pos e1)) (T1.I _ (by decide) (by decide) (by decide) (by decide) (by decide)) ((TQ_I _ _ (by omega)).trans tq) ((FQ_I _ _ (by omega)).trans fq) ((gIk (by decide)).trans s8) (gIs _ _ _ _)
        · by_cases e2 : tx (tkP tx en q + i) = 120
          · rw [e2]
            refine g_iS4 dX3_row_40 rfl rfl ?_
            refine g_iL2 dX3_row_42 ?_
            refine g_ifeq dX3_row_43 (fun c43 => ?_) (fun c43 => ?_)
            · refine g_iconst dX3_row_57 ?_
              refine g_iS5 dX3_row_58 rfl rfl ?_
              refine g_iL4 dX3_row_60 ?_
              refine g_bipush dX3_row_62 ?_
              refine g_iceq dX3_row_64 (fun c64 => absurd c64 (by decide)) (fun c64 => ?_)
              refine g_iL4 dX3_row_67 ?_
              refine g_bipush dX3_row_69 ?_
              refine g_iceq dX3_row_71 (fun c71 => ?_) (fun c71 => absurd rfl c71)
              refine g_iL4 dX3_row_81 ?_
              refine g_bipush dX3_row_83 ?_
              refine g_icne dX3_row_85 (fun c85 => absurd rfl c85) (fun c85 => ?_)
              refine g_aL0 dX3_row_88 ?_
              refine g_dup dX3_row_89 rfl ?_
              refine g_gI lf_X3_181 (T1.S.l 33 rfl) (T1.S.k 33 rfl rfl) dX3_row_90 ?_
              rw [s8]
              refine g_iconst dX3_row_93 ?_
              refine g_iL1 dX3_row_94 ?_
              refine g_iL3 dX3_row_95 ?_
              refine g_iadd dX3_row_96 ?_
              refine g_ishl dX3_row_97 ?_
              refine g_ior dX3_row_98 ?_
              refine g_pI0 lf_X3_181 (T1.S.l 33 rfl) (T1.S.k 33 rfl rfl) dX3_row_99 ?_
              refine g_iL5 dX3_row_102 ?_
              refine g_ifne dX3_row_104 (fun c104 => absurd rfl c104) (fun c104 => ?_)
              refine g_aL0 dX3_row_107 ?_
              refine g_dup dX3_row_108 rfl ?_
              refine g_gI lf_X3_231 (T1.S.l 33 rfl) (T1.S.k 33 rfl rfl) dX3_row_109 ?_
              rw [gIk (by decide), s9]
              refine g_iconst dX3_row_112 ?_
              refine g_iL1 dX3_row_113 ?_
              refine g_iL3 dX3_row_114 ?_
              refine g_iadd dX3_row_115 ?_
              refine g_ishl dX3_row_116 ?_
              refine g_ior dX3_row_117 ?_
              refine g_pI0 lf_X3_231 (T1.S.l 33 rfl) (T1.S.k 33 rfl rfl) dX3_row_118 ?_
              refine g_ii3 dX3_row_121 rfl rfl ?_
              refine g_goto dX3_row_124 ?_
              rw [nI_1]
              exact ih (i + 1) _ _ _ _ _ (by omega) (he.trans ((if_neg e1).trans (if_pos e2))) ((T1.I (a := 33) (k := 8) _ (by decide) (by decide) (by decide) (by decide) (by decide)).I (a := 33) (k := 9) _ (by decide) (by decide) (by decide) (by decide) (by decide)) ((TQ_I _ _ (by omega)).trans ((TQ_I _ _ (by omega)).trans tq)) ((FQ_I _ _ (by omega)).trans ((FQ_I _ _ (by omega)).trans fq)) ((gIk (by decide)).trans (gIs _ _ _ _)) (gIs _ _ _ _)
            · refine g_iL4 dX3_row_46 ?_
              refine g_bipush dX3_row_48 ?_
              refine g_icne dX3_row_50 (fun c50 => ?_) (fun c50 => absurd c50 (by decide))
              refine g_iconst dX3_row_57 ?_
              refine g_iS5 dX3_row_58 rfl rfl ?_
              refine g_iL4 dX3_row_60 ?_
              refine g_bipush dX3_row_62 ?_
              refine g_iceq dX3_row_64 (fun c64 => absurd c64 (by decide)) (fun c64 => ?_)
              refine g_iL4 dX3_row_67 ?_
              refine g_bipush dX3_row_69 ?_
              refine g_iceq dX3_row_71 (fun c71 => ?_) (fun c71 => absurd rfl c71)
              refine g_iL4 dX3_row_81 ?_
              refine g_bipush dX3_row_83 ?_
              refine g_icne dX3_row_85 (fun c85 => absurd rfl c85) (fun c85 => ?_)
              refine g_aL0 dX3_row_88 ?_
              refine g_dup dX3_row_89 rfl ?_
              refine g_gI lf_X3_181 (T1.S.l 33 rfl) (T1.S.k 33 rfl rfl) dX3_row_90 ?_
              rw [s8]
              refine g_iconst dX3_row_93 ?_
              refine g_iL1 dX3_row_94 ?_
              refine g_iL3 dX3_row_95 ?_
              refine g_iadd dX3_row_96 ?_
              refine g_ishl dX3_row_97 ?_
              refine g_ior dX3_row_98 ?_
              refine g_pI0 lf_X3_181 (T1.S.l 33 rfl) (T1.S.k 33 rfl rfl) dX3_row_99 ?_
              refine g_iL5 dX3_row_102 ?_
              refine g_ifne dX3_row_104 (fun c104 => absurd rfl c104) (fun c104 => ?_)
              refine g_aL0 dX3_row_107 ?_
              refine g_dup dX3_row_108 rfl ?_
              refine g_gI lf_X3_231 (T1.S.l 33 rfl) (T1.S.k 33 rfl rfl) dX3_row_109 ?_
              rw [gIk (by decide), s9]
              refine g_iconst dX3_row_112 ?_
              refine g_iL1 dX3_row_113 ?_
              refine g_iL3 dX3_row_114 ?_
              refine g_iadd dX3_row_115 ?_
              refine g_ishl dX3_row_116 ?_
              refine g_ior dX3_row_117 ?_
              refine g_pI0 lf_X3_231 (T1.S.l 33 rfl) (T1.S.k 33 rfl rfl) dX3_row_118 ?_
              refine g_ii3 dX3_row_121 rfl rfl ?_
              refine g_goto dX3_row_124 ?_
              rw [nI_1]
              exact ih (i + 1) _ _ _ _ _ (by omega) (he.trans ((if_neg e1).trans (if_pos e2))) ((T1.I (a := 33) (k := 8) _ (by decide) (by decide) (by decide) (by decide) (by decide)).I (a := 33) (k := 9) _ (by decide) (by decide) (by decide) (by decide) (by decide)) ((TQ_I _ _ (by omega)).trans ((TQ_I _ _ (by omega)).trans tq)) ((FQ_I _ _ (by omega)).trans ((FQ_I _ _ (by omega)).trans fq)) ((gIk (by decide)).trans (gIs _ _ _ _)) (gIs _ _ _ _)
          · by_cases e3 : sh = 0
            · refine g_iS4 dX3_row_40 rfl rfl ?_
              refine g_iL2 dX3_row_42 ?_
              refine g_ifeq dX3_row_43 (fun c43 => ?_) (fun c43 => absurd e3 c43)
              refine g_iconst dX3_row_57 ?_
              refine g_iS5 dX3_row_58 rfl rfl ?_
              refine g_iL4 dX3_row_60 ?_
              refine g_bipush dX3_row_62 ?_
              refine g_iceq dX3_row_64 (fun c64 => absurd c64 e1) (fun c64 => ?_)
              refine g_iL4 dX3_row_67 ?_
              refine g_bipush dX3_row_69 ?_
              refine g_iceq dX3_row_71 (fun c71 => absurd c71 e2) (fun c71 => ?_)
              refine g_iL5 dX3_row_74 ?_
              refine g_ifne dX3_row_76 (fun c76 => absurd rfl c76) (fun c76 => ?_)
              refine g_iconst dX3_row_79 ?_
              exact g_zret rfl rfl dX3_row_80 rfl rfl ⟨tq, fq, T1, Or.inl ⟨(if_pos c14).trans (he.trans ((if_neg e1).trans ((if_neg e2).trans (if_pos e3)))), rfl⟩⟩
            · by_cases e4 : tx (tkP tx en q + i) = 109
              · rw [e4]
                refine g_iS4 dX3_row_40 rfl rfl ?_
                refine g_iL2 dX3_row_42 ?_
                refine g_ifeq dX3_row_43 (fun c43 => absurd c43 e3) (fun c43 => ?_)
                refine g_iL4 dX3_row_46 ?_
                refine g_bipush dX3_row_48 ?_
                refine g_icne dX3_row_50 (fun c50 => absurd rfl c50) (fun c50 => ?_)
                refine g_iconst dX3_row_53 ?_
                refine g_goto dX3_row_54 ?_
                refine g_iS5 dX3_row_58 rfl rfl ?_
                refine g_iL4 dX3_row_60 ?_
                refine g_bipush dX3_row_62 ?_
                refine g_iceq dX3_row_64 (fun c64 => absurd c64 (by decide)) (fun c64 => ?_)
                refine g_iL4 dX3_row_67 ?_
                refine g_bipush dX3_row_69 ?_
                refine g_iceq dX3_row_71 (fun c71 => absurd c71 (by decide)) (fun c71 => ?_)
                refine g_iL5 dX3_row_74 ?_
                refine g_ifne dX3_row_76 (fun c76 => ?_) (fun c76 => absurd c76 (by decide))
                refine g_iL4 dX3_row_81 ?_
                refine g_bipush dX3_row_83 ?_
                refine g_icne dX3_row_85 (fun c85 => ?_) (fun c85 => absurd c85 (by decide))
                refine g_iL5 dX3_row_102 ?_
                refine g_ifne dX3_row_104 (fun c104 => ?_) (fun c104 => absurd c104 (by decide))
                refine g_ii3 dX3_row_121 rfl rfl ?_
                refine g_goto dX3_row_124 ?_
                rw [nI_1]
                exact ih (i + 1) _ _ _ _ _ (by omega) (he.trans ((if_neg e1).trans ((if_neg e2).trans ((if_neg e3).trans (if_pos e4))))) T1 tq fq s8 s9
              · refine g_iS4 dX3_row_40 rfl rfl ?_
                refine g_iL2 dX3_row_42 ?_
                refine g_ifeq dX3_row_43 (fun c43 => absurd c43 e3) (fun c43 => ?_)
                refine g_iL4 dX3_row_46 ?_
                refine g_bipush dX3_row_48 ?_
                refine g_icne dX3_row_50 (fun c50 => ?_) (fun c50 => absurd c50 e4)
                refine g_iconst dX3_row_57 ?_
                refine g_iS5 dX3_row_58 rfl rfl ?_
                refine g_iL4 dX3_row_60 ?_
                refine g_bipush dX3_row_62 ?_
                refine g_iceq dX3_row_64 (fun c64 => absurd c64 e1) (fun c64 => ?_)
                refine g_iL4 dX3_row_67 ?_
                refine g_bipush dX3_row_69 ?_
                refine g_iceq dX3_row_71 (fun c71 => absurd c71 e2) (fun c71 => ?_)
                refine g_iL5 dX3_row_74 ?_
                refine g_ifne dX3_row_76 (fun c76 => absurd rfl c76) (fun c76 => ?_)
                refine g_iconst dX3_row_79 ?_
                exact g_zret rfl rfl dX3_row_80 rfl rfl ⟨tq, fq, T1, Or.inl ⟨(if_pos c14).trans (he.trans ((if_neg e1).trans ((if_neg e2).trans ((if_neg e3).trans (if_neg e4))))), rfl⟩⟩
    refine g_iconst dX3_row_19 ?_
    refine g_iS3 dX3_row_20 rfl rfl ?_
    exact loop _ 0 _ _ _ _ _ (by omega) rfl T (TQ.refl h) (FQ.refl h) rfl rfl
  · refine g_iconst dX3_row_17 ?_
    exact g_zret rfl rfl dX3_row_18 rfl rfl ⟨TQ.refl h, FQ.refl h, T, Or.inl ⟨if_neg c14, rfl⟩⟩
theorem c_rows {tx : Nat → Int32} {en : Nat} {h : Hp} {q : Nat} {K : List Nm} (T : PT tx en h q K) {s : Nat} (hs : s = 3 ∨ s = 18) (hR : gR h 33 5 = some s) {N : Nat} (hN : gI h s 2 = nI N) (hN4 : N ≤ 4) (sh : Int32) : gC 2 0 0 yX3_rows cX3_rows 4 (some .boolean) [.ref 33, .int sh] h (RQ h (rsP tx en (gI h s 1) sh N 0 q 0 0) (fun x h' => PT tx en h' x.1 K ∧ gI h' 33 8 = x.2.1 ∧ gI h' 33 9 = x.2.2)) := by
  refine g_entry (lv := [.ref 33, .int sh, .retAddr 0, .retAddr 0]) 2 pn_X3 rfl rfl rfl ?_
  refine g_aL0 dX3_rows_0 ?_
  refine g_iconst dX3_rows_1 ?_
  refine g_pI0 lf_X3_181 (T.S.l 33 rfl) (T.S.k 33 rfl rfl) dX3_rows_2 ?_
  refine g_aL0 dX3_rows_5 ?_
  refine g_iconst dX3_rows_6 ?_
  refine g_pI0 lf_X3_231 (T.S.l 33 rfl) (T.S.k 33 rfl rfl) dX3_rows_7 ?_
  refine g_iconst dX3_rows_10 ?_
  refine g_iS2 dX3_rows_11 rfl rfl ?_
  have loop : ∀ (n i : Nat) (v3 : Value) (hh : Hp) (q1 : Nat) (S1 : Int32) (C1 : Int32), i + n = N → rsP tx en (gI h s 1) sh N 0 q 0 0 = rsP tx en (gI h s 1) sh n i q1 S1 C1 → PT tx en hh q1 K → TQ hh h → FQ hh h → gI hh 33 8 = S1 → gI hh 33 9 = C1 → gY 2 0 0 yX3_rows cX3_rows 4 (some .boolean) 0 0 (RQ h (rsP tx en (gI h s 1) sh N 0 q 0 0) (fun x h' => PT tx en h' x.1 K ∧ gI h' 33 8 = x.2.1 ∧ gI h' 33 9 = x.2.2)) 12 [.ref 33, .int sh, .int (nI i), v3] [] hh := by
    intro n
    induction n with
    | zero =>
      intro i v3 hh q1 S1 C1 hi he T1 tq fq s8 s9
      have hR1 : gR hh 33 5 = some s := by rw [tq.R]; exact hR
      refine g_iL2 dX3_rows_12 ?_
      refine g_aL0 dX3_rows_13 ?_
      refine g_getR lf_X3_22 (T1.S.l 33 rfl) (T1.S.k 33 rfl rfl) hR1 dX3_rows_14 ?_
      refine g_gI lf_X3_124 (T1.S.cl hs 0 rfl) (T1.S.ck hs) dX3_rows_17 ?_
      rw [tq.2.2.2.2.1 s 2 (by omega) (by omega) (by omega) (by omega), hN]
      refine g_icge dX3_rows_20 (fun c20 => ?_) (fun c20 => absurd (nI_le (by omega) (by omega)) c20)
      refine g_iconst dX3_rows_148 ?_
      exact g_zret rfl rfl dX3_rows_149 rfl rfl ⟨tq, Or.inr ⟨_, he, rfl, fq, T1, s8, s9⟩⟩
    | succ n ih =>
      intro i v3 hh q1 S1 C1 hi he T1 tq fq s8 s9
      have hR1 : gR hh 33 5 = some s := by rw [tq.R]; exact hR
      refine g_iL2 dX3_rows_12 ?_
      refine g_aL0 dX3_rows_13 ?_
      refine g_getR lf_X3_22 (T1.S.l 33 rfl) (T1.S.k 33 rfl rfl) hR1 dX3_rows_14 ?_
      refine g_gI lf_X3_124 (T1.S.cl hs 0 rfl) (T1.S.ck hs) dX3_rows_17 ?_
      rw [tq.2.2.2.2.1 s 2 (by omega) (by omega) (by omega) (by omega), hN]
      refine g_icge dX3_rows_20 (fun c20 => absurd c20 (nI_ge (by omega) (by omega))) (fun c20 => ?_)
      have body : ∀ (v3 : Value) (hh : Hp) (q1 : Nat), PT tx en hh q1 K → TQ hh h → FQ hh h → gI hh 33 8 = S1 → gI hh 33 9 = C1 → rsP tx en (gI h s 1) sh N 0 q 0 0 = rsB tx en (fun q S C => rsP tx en (gI h s 1) sh n (i + 1) q S C) (gI h s 1) sh i q1 S1 C1 → gY 2 0 0 yX3_rows cX3_rows 4 (some .boolean) 0 0 (RQ h (rsP tx en (gI h s 1) sh N 0 q 0 0) (fun x h' => PT tx en h' x.1 K ∧ gI h' 33 8 = x.2.1 ∧ gI h' 33 9 = x.2.2)) 94 [.ref 33, .int sh, .int (nI i), v3] [] hh := by
        intro v3 hh q1 T1 tq fq s8 s9 he
        have hR1 : gR hh 33 5 = some s := by rw [tq.R]; exact hR
        have ew : gI hh s 1 = gI h s 1 := tq.2.2.2.2.1 s 1 (by omega) (by omega) (by omega) (by omega)
        refine g_aL0 dX3_rows_94 ?_
        refine g_getR lf_X3_16 (T1.S.l 33 rfl) (T1.S.k 33 rfl rfl) (T1.S.r 33 0 (b := 34) rfl rfl) dX3_rows_95 ?_
        refine g_gI lf_X3_60 (T1.S.l 34 rfl) (T1.S.k 34 rfl rfl) dX3_rows_98 ?_
        refine g_iconst dX3_rows_101 ?_
        rw [T1.s]
        refine g_iceq dX3_rows_102 (fun c102 => ?_) (fun c102 => ?_)
        · refine g_aL0 dX3_rows_111 ?_
          refine g_iL2 dX3_rows_112 ?_
          refine g_aL0 dX3_rows_113 ?_
          refine g_getR lf_X3_22 (T1.S.l 33 rfl) (T1.S.k 33 rfl rfl) hR1 dX3_rows_114 ?_
          refine g_gI lf_X3_120 (T1.S.cl hs 0 rfl) (T1.S.ck hs) dX3_rows_117 ?_
          refine g_imul dX3_rows_120 ?_
          rw [ew]
          refine g_iL1 dX3_rows_121 ?_
          refine g_v2 (c_row T1 hs hR1 _ _) lm_X3_254 dX3_rows_122 (T1.S.l 33 rfl) (T1.S.k 33 rfl rfl) rfl rfl rfl rfl (fun v h2 hq => ?_)
          obtain ⟨t2, f2, T2, ⟨ho, rfl⟩ | ⟨x, ho, rfl, r8, r9⟩⟩ := hq
          · rw [ew, s8, s9] at ho
            refine g_ifne dX3_rows_125 (fun c125 => absurd rfl c125) (fun c125 => ?_)
            refine g_aL0 dX3_rows_128 ?_
            refine g_bipush dX3_rows_129 ?_
            refine e_v1i (c_fail T2.S _) lm_X3_66 dX3_rows_131 (T2.S.l 33 rfl) (T2.S.k 33 rfl rfl) rfl rfl rfl rfl ?_
            exact g_zret rfl rfl dX3_rows_134 rfl rfl ⟨(TQ_fl _ _).trans (t2.trans tq), Or.inl ⟨_, (show _ = _ from he.trans (by unfold rsB; rw [if_pos c102, ho]; rfl)), rfl, FL_fl T2 _⟩⟩
          · rw [ew, s8, s9] at ho
            refine g_ifne dX3_rows_125 (fun c125 => ?_) (fun c125 => absurd c125 (by decide))
            refine g_aL0 dX3_rows_135 ?_
            refine g_getR lf_X3_16 (T2.S.l 33 rfl) (T2.S.k 33 rfl rfl) (T2.S.r 33 0 (b := 34) rfl rfl) dX3_rows_136 ?_
            refine e_v0u (w_step T2) lm_X3_70 dX3_rows_139 (T2.S.l 34 rfl) (T2.S.k 34 rfl rfl) rfl rfl rfl rfl ?_
            refine g_ii2 dX3_rows_142 rfl rfl ?_
            refine g_goto dX3_rows_145 ?_
            rw [nI_1]
            exact ih (i + 1) _ _ (nx tx en q1) x.1 x.2 (by omega) (show _ = _ from he.trans (by unfold rsB; rw [if_pos c102, ho])) T2.step ((TQ_st _ _ _).trans (t2.trans tq)) ((FQ_st _ _ _).trans (f2.trans fq)) ((t3_n _ _ _ _ (by omega)).trans r8) ((t3_n _ _ _ _ (by omega)).trans r9)
        · refine g_aL0 dX3_rows_105 ?_
          refine g_iconst dX3_rows_106 ?_
          refine e_v1i (c_fail T1.S _) lm_X3_66 dX3_rows_107 (T1.S.l 33 rfl) (T1.S.k 33 rfl rfl) rfl rfl rfl rfl ?_
          exact g_zret rfl rfl dX3_rows_110 rfl rfl ⟨(TQ_fl _ _).trans tq, Or.inl ⟨_, he.trans (if_neg c102), rfl, FL_fl T1 _⟩⟩
      by_cases i0 : i = 0
      · refine g_iL2 dX3_rows_23 ?_
        refine g_ifle dX3_rows_24 (fun c24 => ?_) (fun c24 => absurd (by rw [i0]; decide) c24)
        refine g_iL2 dX3_rows_48 ?_
        refine g_ifle dX3_rows_49 (fun c49 => ?_) (fun c49 => absurd (by rw [i0]; decide) c49)
        exact body _ _ _ T1 tq fq s8 s9 (he.trans (by rw [rsP, show rcP tx en i q1 = .ok q1 from if_pos i0]; rfl))
      · refine g_iL2 dX3_rows_23 ?_
        refine g_ifle dX3_rows_24 (fun c24 => absurd c24 (nI_nle (by omega) (by omega))) (fun c24 => ?_)
        refine g_aL0 dX3_rows_27 ?_
        refine g_getR lf_X3_16 (T1.S.l 33 rfl) (T1.S.k 33 rfl rfl) (T1.S.r 33 0 (b := 34) rfl rfl) dX3_rows_28 ?_
        refine g_gI lf_X3_60 (T1.S.l 34 rfl) (T1.S.k 34 rfl rfl) dX3_rows_31 ?_
        refine g_iconst dX3_rows_34 ?_
        rw [T1.s]
        refine g_icne dX3_rows_35 (fun c35 => ?_) (fun c35 => ?_)
        · refine g_iL2 dX3_rows_48 ?_
          refine g_ifle dX3_rows_49 (fun c49 => absurd c49 (nI_nle (by omega) (by omega))) (fun c49 => ?_)
          refine g_aL0 dX3_rows_52 ?_
          refine g_getR lf_X3_16 (T1.S.l 33 rfl) (T1.S.k 33 rfl rfl) (T1.S.r 33 0 (b := 34) rfl rfl) dX3_rows_53 ?_
          refine g_gI lf_X3_60 (T1.S.l 34 rfl) (T1.S.k 34 rfl rfl) dX3_rows_56 ?_
          refine g_iconst dX3_rows_59 ?_
          rw [T1.s]
          refine g_iceq dX3_rows_60 (fun c60 => ?_) (fun c60 => ?_)
          · refine g_iconst dX3_rows_73 ?_
            refine g_goto dX3_rows_74 ?_
            refine g_iS3 dX3_rows_78 rfl rfl ?_
            refine g_aL0 dX3_rows_79 ?_
            refine g_iL3 dX3_rows_80 ?_
            refine g_ifeq dX3_rows_81 (fun c81 => absurd c81 (by decide)) (fun c81 => ?_)
            refine g_bipush dX3_rows_84 ?_
            refine g_goto dX3_rows_86 ?_
            refine e_v1i (c_fail T1.S _) lm_X3_66 dX3_rows_90 (T1.S.l 33 rfl) (T1.S.k 33 rfl rfl) rfl rfl rfl rfl ?_
            exact g_zret rfl rfl dX3_rows_93 rfl rfl ⟨(TQ_fl _ _).trans tq, Or.inl ⟨_, (he.trans (by rw [rsP, show rcP tx en i q1 = _ from (if_neg i0).trans ((if_neg c35).trans (if_pos c60))]; rfl)), rfl, FL_fl T1 _⟩⟩
          · refine g_aL0 dX3_rows_63 ?_
            refine g_getR lf_X3_16 (T1.S.l 33 rfl) (T1.S.k 33 rfl rfl) (T1.S.r 33 0 (b := 34) rfl rfl) dX3_rows_64 ?_
            refine g_gI lf_X3_60 (T1.S.l 34 rfl) (T1.S.k 34 rfl rfl) dX3_rows_67 ?_
            rw [T1.s]
            refine g_ifne dX3_rows_70 (fun c70 => ?_) (fun c70 => ?_)
            · refine g_iconst dX3_rows_77 ?_
              refine g_iS3 dX3_rows_78 rfl rfl ?_
              refine g_aL0 dX3_rows_79 ?_
              refine g_iL3 dX3_rows_80 ?_
              refine g_ifeq dX3_rows_81 (fun c81 => ?_) (fun c81 => absurd rfl c81)
              refine g_iconst dX3_rows_89 ?_
              refine e_v1i (c_fail T1.S _) lm_X3_66 dX3_rows_90 (T1.S.l 33 rfl) (T1.S.k 33 rfl rfl) rfl rfl rfl rfl ?_
              exact g_zret rfl rfl dX3_rows_93 rfl rfl ⟨(TQ_fl _ _).trans tq, Or.inl ⟨_, (he.trans (by rw [rsP, show rcP tx en i q1 = _ from (if_neg i0).trans ((if_neg c35).trans ((if_neg c60).trans (if_neg c70)))]; rfl)), rfl, FL_fl T1 _⟩⟩
            · refine g_iconst dX3_rows_73 ?_
              refine g_goto dX3_rows_74 ?_
              refine g_iS3 dX3_rows_78 rfl rfl ?_
              refine g_aL0 dX3_rows_79 ?_
              refine g_iL3 dX3_rows_80 ?_
              refine g_ifeq dX3_rows_81 (fun c81 => absurd c81 (by decide)) (fun c81 => ?_)
              refine g_bipush dX3_rows_84 ?_
              refine g_goto dX3_rows_86 ?_
              refine e_v1i (c_fail T1.S _) lm_X3_66 dX3_rows_90 (T1.S.l 33 rfl) (T1.S.k 33 rfl rfl) rfl rfl rfl rfl ?_
              exact g_zret rfl rfl dX3_rows_93 rfl rfl ⟨(TQ_fl _ _).trans tq, Or.inl ⟨_, (he.trans (by rw [rsP, show rcP tx en i q1 = _ from (if_neg i0).trans ((if_neg c35).trans ((if_neg c60).trans (if_pos c70)))]; rfl)), rfl, FL_fl T1 _⟩⟩
        · refine g_aL0 dX3_rows_38 ?_
          refine g_getR lf_X3_16 (T1.S.l 33 rfl) (T1.S.k 33 rfl rfl) (T1.S.r 33 0 (b := 34) rfl rfl) dX3_rows_39 ?_
          refine e_v0u (w_step T1) lm_X3_70 dX3_rows_42 (T1.S.l 34 rfl) (T1.S.k 34 rfl rfl) rfl rfl rfl rfl ?_
          refine g_goto dX3_rows_45 ?_
          exact body _ _ _ T1.step ((TQ_st _ _ _).trans tq) ((FQ_st _ _ _).trans fq) ((t3_n _ _ _ _ (by omega)).trans s8) ((t3_n _ _ _ _ (by omega)).trans s9) (he.trans (by rw [rsP, show rcP tx en i q1 = _ from (if_neg i0).trans (if_pos c35)]; rfl))
  exact loop N 0 _ _ q 0 0 (by omega) rfl ((T.I (a := 33) (k := 8) _ (by decide) (by decide) (by decide) (by decide) (by decide)).I (a := 33) (k := 9) _ (by decide) (by decide) (by decide) (by decide) (by decide)) ((TQ_I _ _ (by omega)).trans (TQ_I h _ (by omega))) ((FQ_I _ _ (by omega)).trans (FQ_I h _ (by omega))) rfl rfl

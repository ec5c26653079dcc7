/-! THE REFERENCE'S PARSER: a line, all lines -/
/-- a line, as the reference reads it -/
def lxP (tx : Nat → Int32) (en : Nat) (C : CT) (q : Nat) (K : List Nm) : LR := if lsF tx en q = 0 then (if C 0 1 ≤ 0 then cityP tx en C (nx tx en q) K else er tx en 3 q) else if lsF tx en q = 1 then (lxB tx en C q 1 8 (fun q => panP tx en C q K)) else if lsF tx en q = 2 then (lxB tx en C q 2 8 (fun q => worP tx en C q K)) else if lsF tx en q = 3 then (lxB tx en C q 3 6 (fun q => vieP tx en C q K)) else if lsF tx en q = 4 then (lxB tx en C q 4 7 (fun q => corP tx en C q K)) else if lsF tx en q = 5 then (lxB tx en C q 5 12 (fun q => strP tx en C q K)) else if lsF tx en q = 6 then (Except.bind (osP tx en C q) (fun q => Except.bind (thiP tx en C q K) (cuP 6))) else if lsF tx en q = 7 then (lxB tx en C q 7 6 (fun q => senP tx en C q K)) else if lsF tx en q = 8 then (lxB tx en C q 8 4 (fun q => perP tx en C q K)) else if lsF tx en q = 9 then (lxB tx en C q 9 8 (fun q' => shaP tx en C (tkP tx en q) q' K)) else if lsF tx en q = 10 then (if C 1 10 = 0 then Except.bind (osP tx en C q) (fun q => Except.bind (sheP tx en C q K) (cuP 10)) else er tx en 3 q) else er tx en 1 q
theorem lx_0 {tx : Nat → Int32} {en : Nat} {C : CT} {q : Nat} {K : List Nm} (h : lsF tx en q = 0) : lxP tx en C q K = (if C 0 1 ≤ 0 then cityP tx en C (nx tx en q) K else er tx en 3 q) := by
  unfold lxP
  rw [h, if_pos rfl]
theorem lx_1 {tx : Nat → Int32} {en : Nat} {C : CT} {q : Nat} {K : List Nm} (h : lsF tx en q = 1) : lxP tx en C q K = (lxB tx en C q 1 8 (fun q => panP tx en C q K)) := by
  unfold lxP
  rw [h, if_neg (by decide), if_pos rfl]
theorem lx_2 {tx : Nat → Int32} {en : Nat} {C : CT} {q : Nat} {K : List Nm} (h : lsF tx en q = 2) : lxP tx en C q K = (lxB tx en C q 2 8 (fun q => worP tx en C q K)) := by
  unfold lxP
  rw [h, if_neg (by decide), if_neg (by decide), if_pos rfl]
theorem lx_3 {tx : Nat → Int32} {en : Nat} {C : CT} {q : Nat} {K : List Nm} (h : lsF tx en q = 3) : lxP tx en C q K = (lxB tx en C q 3 6 (fun q => vieP tx en C q K)) := by
  unfold lxP
  rw [h, if_neg (by decide), if_neg (by decide), if_neg (by decide), if_pos rfl]
theorem lx_4 {tx : Nat → Int32} {en : Nat} {C : CT} {q : Nat} {K : List Nm} (h : lsF tx en q = 4) : lxP tx en C q K = (lxB tx en C q 4 7 (fun q => corP tx en C q K)) := by
  unfold lxP
  rw [h, if_neg (by decide), if_neg (by decide), if_neg (by decide), if_neg (by decide), if_pos rfl]
theorem lx_5 {tx : Nat → Int32} {en : Nat} {C : CT} {q : Nat} {K : List Nm} (h : lsF tx en q = 5) : lxP tx en C q K = (lxB tx en C q 5 12 (fun q => strP tx en C q K)) := by
  unfold lxP
  rw [h, if_neg (by decide), if_neg (by decide), if_neg (by decide), if_neg (by decide), if_neg (by decide), if_pos rfl]
theorem lx_6 {tx : Nat → Int32} {en : Nat} {C : CT} {q : Nat} {K : List Nm} (h : lsF tx en q = 6) : lxP tx en C q K = (Except.bind (osP tx en C q) (fun q => Except.bind (thiP tx en C q K) (cuP 6))) := by
  unfold lxP
  rw [h, if_neg (by decide), if_neg (by decide), if_neg (by decide), if_neg (by decide), if_neg (by decide), if_neg (by decide), if_pos rfl]
theorem lx_7 {tx : Nat → Int32} {en : Nat} {C : CT} {q : Nat} {K : List Nm} (h : lsF tx en q = 7) : lxP tx en C q K = (lxB tx en C q 7 6 (fun q => senP tx en C q K)) := by
  unfold lxP
  rw [h, if_neg (by decide), if_neg (by decide), if_neg (by decide), if_neg (by decide), if_neg (by decide), if_neg (by decide), if_neg (by decide), if_pos rfl]
theorem lx_8 {tx : Nat → Int32} {en : Nat} {C : CT} {q : Nat} {K : List Nm} (h : lsF tx en q = 8) : lxP tx en C q K = (lxB tx en C q 8 4 (fun q => perP tx en C q K)) := by
  unfold lxP
  rw [h, if_neg (by decide), if_neg (by decide), if_neg (by decide), if_neg (by decide), if_neg (by decide), if_neg (by decide), if_neg (by decide), if_neg (by decide), if_pos rfl]
theorem lx_9 {tx : Nat → Int32} {en : Nat} {C : CT} {q : Nat} {K : List Nm} (h : lsF tx en q = 9) : lxP tx en C q K = (lxB tx en C q 9 8 (fun q' => shaP tx en C (tkP tx en q) q' K)) := by
  unfold lxP
  rw [h, if_neg (by decide), if_neg (by decide), if_neg (by decide), if_neg (by decide), if_neg (by decide), if_neg (by decide), if_neg (by decide), if_neg (by decide), if_neg (by decide), if_pos rfl]
theorem lx_10 {tx : Nat → Int32} {en : Nat} {C : CT} {q : Nat} {K : List Nm} (h : lsF tx en q = 10) : lxP tx en C q K = (if C 1 10 = 0 then Except.bind (osP tx en C q) (fun q => Except.bind (sheP tx en C q K) (cuP 10)) else er tx en 3 q) := by
  unfold lxP
  rw [h, if_neg (by decide), if_neg (by decide), if_neg (by decide), if_neg (by decide), if_neg (by decide), if_neg (by decide), if_neg (by decide), if_neg (by decide), if_neg (by decide), if_neg (by decide), if_pos rfl]
theorem lx_n {tx : Nat → Int32} {en : Nat} {C : CT} {q : Nat} {K : List Nm} (h : lsF tx en q = -1) : lxP tx en C q K = er tx en 1 q := by
  unfold lxP
  rw [h, if_neg (by decide), if_neg (by decide), if_neg (by decide), if_neg (by decide), if_neg (by decide), if_neg (by decide), if_neg (by decide), if_neg (by decide), if_neg (by decide), if_neg (by decide), if_neg (by decide)]
theorem r_readLine {tx : Nat → Int32} {en : Nat} {h : Hp} {c : Nat} {K : List Nm} (b : RB tx en h c K) {C : CT} (d : RD h c C) (wi : WI C K (nnC C)) (h05 : ¬ C 1 10 = 0 → ¬ C 0 5 = -1) (hL : LB h) {q : Nat} (r : RK tx en h q) : gC 10 0 0 yX10_readLine cX10_readLine 1 none [.ref 50] h (LM tx en h c (lxP tx en C q K)) := by
  refine g_entry (lv := [.ref 50]) 0 pn_X10 rfl rfl rfl ?_
  refine g_aL0 dX10_readLine_0 ?_
  refine g_ldcS (tx := "city") (n := 18) (x := 19) (List.mem_of_getElem? (i := 18) rfl) (by decide) dX10_readLine_1 ?_
  refine e_v1i (w_isWord b.S b.e2 r (k := 18) (k0 := 0) (by decide) (by decide) rfl) lm_X10_126 dX10_readLine_3 (b.S.l 50 rfl) (b.S.k 50 rfl rfl) rfl rfl rfl rfl ?_
  refine g_ifeq dX10_readLine_6 (fun c6 => ?_) (fun c6 => ?_)
  · refine g_aL0 dX10_readLine_16 ?_
    refine g_ldcS (tx := "pane") (n := 23) (x := 24) (List.mem_of_getElem? (i := 23) rfl) (by decide) dX10_readLine_17 ?_
    refine e_v1i (w_isWord b.S b.e2 r (k := 23) (k0 := 1) (by decide) (by decide) rfl) lm_X10_126 dX10_readLine_19 (b.S.l 50 rfl) (b.S.k 50 rfl rfl) rfl rfl rfl rfl ?_
    refine g_ifeq dX10_readLine_22 (fun c22 => ?_) (fun c22 => ?_)
    · refine g_aL0 dX10_readLine_32 ?_
      refine g_ldcS (tx := "word") (n := 24) (x := 25) (List.mem_of_getElem? (i := 24) rfl) (by decide) dX10_readLine_33 ?_
      refine e_v1i (w_isWord b.S b.e2 r (k := 24) (k0 := 2) (by decide) (by decide) rfl) lm_X10_126 dX10_readLine_35 (b.S.l 50 rfl) (b.S.k 50 rfl rfl) rfl rfl rfl rfl ?_
      refine g_ifeq dX10_readLine_38 (fun c38 => ?_) (fun c38 => ?_)
      · refine g_aL0 dX10_readLine_48 ?_
        refine g_ldcS (tx := "view") (n := 25) (x := 26) (List.mem_of_getElem? (i := 25) rfl) (by decide) dX10_readLine_49 ?_
        refine e_v1i (w_isWord b.S b.e2 r (k := 25) (k0 := 3) (by decide) (by decide) rfl) lm_X10_126 dX10_readLine_51 (b.S.l 50 rfl) (b.S.k 50 rfl rfl) rfl rfl rfl rfl ?_
        refine g_ifeq dX10_readLine_54 (fun c54 => ?_) (fun c54 => ?_)
        · refine g_aL0 dX10_readLine_64 ?_
          refine g_ldcS (tx := "corner") (n := 26) (x := 27) (List.mem_of_getElem? (i := 26) rfl) (by decide) dX10_readLine_65 ?_
          refine e_v1i (w_isWord b.S b.e2 r (k := 26) (k0 := 4) (by decide) (by decide) rfl) lm_X10_126 dX10_readLine_67 (b.S.l 50 rfl) (b.S.k 50 rfl rfl) rfl rfl rfl rfl ?_
          refine g_ifeq dX10_readLine_70 (fun c70 => ?_) (fun c70 => ?_)
          · refine g_aL0 dX10_readLine_80 ?_
            refine g_ldcS (tx := "street") (n := 27) (x := 28) (List.mem_of_getElem? (i := 27) rfl) (by decide) dX10_readLine_81 ?_
            refine e_v1i (w_isWord b.S b.e2 r (k := 27) (k0 := 5) (by decide) (by decide) rfl) lm_X10_126 dX10_readLine_83 (b.S.l 50 rfl) (b.S.k 50 rfl rfl) rfl rfl rfl rfl ?_
            refine g_ifeq dX10_readLine_86 (fun c86 => ?_) (fun c86 => ?_)
            · refine g_aL0 dX10_readLine_96 ?_
              refine g_ldcS (tx := "thief") (n := 28) (x := 29) (List.mem_of_getElem? (i := 28) rfl) (by decide) dX10_readLine_97 ?_
              refine e_v1i (w_isWord b.S b.e2 r (k := 28) (k0 := 6) (by decide) (by decide) rfl) lm_X10_126 dX10_readLine_99 (b.S.l 50 rfl) (b.S.k 50 rfl rfl) rfl rfl rfl rfl ?_
              refine g_ifeq dX10_readLine_102 (fun c102 => ?_) (fun c102 => ?_)
              · refine g_aL0 dX10_readLine_112 ?_
                refine g_ldcS (tx := "sent") (n := 29) (x := 30) (List.mem_of_getElem? (i := 29) rfl) (by decide) dX10_readLine_113 ?_
                refine e_v1i (w_isWord b.S b.e2 r (k := 29) (k0 := 7) (by decide) (by decide) rfl) lm_X10_126 dX10_readLine_115 (b.S.l 50 rfl) (b.S.k 50 rfl rfl) rfl rfl rfl rfl ?_
                refine g_ifeq dX10_readLine_118 (fun c118 => ?_) (fun c118 => ?_)
                · refine g_aL0 dX10_readLine_128 ?_
                  refine g_ldcS (tx := "person") (n := 30) (x := 31) (List.mem_of_getElem? (i := 30) rfl) (by decide) dX10_readLine_129 ?_
                  refine e_v1i (w_isWord b.S b.e2 r (k := 30) (k0 := 8) (by decide) (by decide) rfl) lm_X10_126 dX10_readLine_131 (b.S.l 50 rfl) (b.S.k 50 rfl rfl) rfl rfl rfl rfl ?_
                  refine g_ifeq dX10_readLine_134 (fun c134 => ?_) (fun c134 => ?_)
                  · refine g_aL0 dX10_readLine_144 ?_
                    refine g_ldcS (tx := "shard") (n := 31) (x := 32) (List.mem_of_getElem? (i := 31) rfl) (by decide) dX10_readLine_145 ?_
                    refine e_v1i (w_isWord b.S b.e2 r (k := 31) (k0 := 9) (by decide) (by decide) rfl) lm_X10_126 dX10_readLine_147 (b.S.l 50 rfl) (b.S.k 50 rfl rfl) rfl rfl rfl rfl ?_
                    refine g_ifeq dX10_readLine_150 (fun c150 => ?_) (fun c150 => ?_)
                    · refine g_aL0 dX10_readLine_160 ?_
                      refine g_ldcS (tx := "shelf") (n := 32) (x := 33) (List.mem_of_getElem? (i := 32) rfl) (by decide) dX10_readLine_161 ?_
                      refine e_v1i (w_isWord b.S b.e2 r (k := 32) (k0 := 10) (by decide) (by decide) rfl) lm_X10_126 dX10_readLine_163 (b.S.l 50 rfl) (b.S.k 50 rfl rfl) rfl rfl rfl rfl ?_
                      refine g_ifeq dX10_readLine_166 (fun c166 => ?_) (fun c166 => ?_)
                      · refine g_aL0 dX10_readLine_176 ?_
                        refine g_iconst dX10_readLine_177 ?_
                        refine e_v1u (d_flaw0 b.S r.n5 _) lm_X10_130 dX10_readLine_178 (b.S.l 50 rfl) (b.S.k 50 rfl rfl) rfl rfl rfl rfl ?_
                        exact g_vret rfl dX10_readLine_181 rfl rfl (by rw [lx_n (show lsF tx en q = -1 from ((if_pos c6).trans ((if_pos c22).trans ((if_pos c38).trans ((if_pos c54).trans ((if_pos c70).trans ((if_pos c86).trans ((if_pos c102).trans ((if_pos c118).trans ((if_pos c134).trans ((if_pos c150).trans (if_pos c166))))))))))))]; exact ⟨rfl, (GQ_fw _ _ _).p c, LB_fw hL _ _, Or.inl ⟨_, rfl, RF_fw r (by decide)⟩⟩)
                      · refine g_aL0 dX10_readLine_169 ?_
                        refine r_v0u (r_readShelf b d wi hL r (isP_1 c166) h05) lm_X10_248 dX10_readLine_170 (b.S.l 50 rfl) (b.S.k 50 rfl rfl) rfl rfl rfl rfl (fun v h' z => z.1) (fun h1 z => ?_)
                        refine g_goto dX10_readLine_173 ?_
                        exact g_vret rfl dX10_readLine_181 rfl rfl (by rw [lx_10 (show lsF tx en q = 10 from ((if_pos c6).trans ((if_pos c22).trans ((if_pos c38).trans ((if_pos c54).trans ((if_pos c70).trans ((if_pos c86).trans ((if_pos c102).trans ((if_pos c118).trans ((if_pos c134).trans ((if_pos c150).trans (if_neg c166))))))))))))]; exact z)
                    · refine g_aL0 dX10_readLine_153 ?_
                      refine r_v0u (r_readShard b d wi hL r (isP_1 c150)) lm_X10_245 dX10_readLine_154 (b.S.l 50 rfl) (b.S.k 50 rfl rfl) rfl rfl rfl rfl (fun v h' z => z.1) (fun h1 z => ?_)
                      refine g_goto dX10_readLine_157 ?_
                      exact g_vret rfl dX10_readLine_181 rfl rfl (by rw [lx_9 (show lsF tx en q = 9 from ((if_pos c6).trans ((if_pos c22).trans ((if_pos c38).trans ((if_pos c54).trans ((if_pos c70).trans ((if_pos c86).trans ((if_pos c102).trans ((if_pos c118).trans ((if_pos c134).trans (if_neg c150)))))))))))]; exact z)
                  · refine g_aL0 dX10_readLine_137 ?_
                    refine r_v0u (r_readPerson b d wi hL r (isP_1 c134)) lm_X10_242 dX10_readLine_138 (b.S.l 50 rfl) (b.S.k 50 rfl rfl) rfl rfl rfl rfl (fun v h' z => z.1) (fun h1 z => ?_)
                    refine g_goto dX10_readLine_141 ?_
                    exact g_vret rfl dX10_readLine_181 rfl rfl (by rw [lx_8 (show lsF tx en q = 8 from ((if_pos c6).trans ((if_pos c22).trans ((if_pos c38).trans ((if_pos c54).trans ((if_pos c70).trans ((if_pos c86).trans ((if_pos c102).trans ((if_pos c118).trans (if_neg c134))))))))))]; exact z)
                · refine g_aL0 dX10_readLine_121 ?_
                  refine r_v0u (r_readSent b d wi hL r (isP_1 c118)) lm_X10_239 dX10_readLine_122 (b.S.l 50 rfl) (b.S.k 50 rfl rfl) rfl rfl rfl rfl (fun v h' z => z.1) (fun h1 z => ?_)
                  refine g_goto dX10_readLine_125 ?_
                  exact g_vret rfl dX10_readLine_181 rfl rfl (by rw [lx_7 (show lsF tx en q = 7 from ((if_pos c6).trans ((if_pos c22).trans ((if_pos c38).trans ((if_pos c54).trans ((if_pos c70).trans ((if_pos c86).trans ((if_pos c102).trans (if_neg c118)))))))))]; exact z)
              · refine g_aL0 dX10_readLine_105 ?_
                refine r_v0u (r_readThief b d wi hL r (isP_1 c102)) lm_X10_236 dX10_readLine_106 (b.S.l 50 rfl) (b.S.k 50 rfl rfl) rfl rfl rfl rfl (fun v h' z => z.1) (fun h1 z => ?_)
                refine g_goto dX10_readLine_109 ?_
                exact g_vret rfl dX10_readLine_181 rfl rfl (by rw [lx_6 (show lsF tx en q = 6 from ((if_pos c6).trans ((if_pos c22).trans ((if_pos c38).trans ((if_pos c54).trans ((if_pos c70).trans ((if_pos c86).trans (if_neg c102))))))))]; exact z)
            · refine g_aL0 dX10_readLine_89 ?_
              refine r_v0u (r_readStreet b d wi hL r (isP_1 c86)) lm_X10_233 dX10_readLine_90 (b.S.l 50 rfl) (b.S.k 50 rfl rfl) rfl rfl rfl rfl (fun v h' z => z.1) (fun h1 z => ?_)
              refine g_goto dX10_readLine_93 ?_
              exact g_vret rfl dX10_readLine_181 rfl rfl (by rw [lx_5 (show lsF tx en q = 5 from ((if_pos c6).trans ((if_pos c22).trans ((if_pos c38).trans ((if_pos c54).trans ((if_pos c70).trans (if_neg c86)))))))]; exact z)
          · refine g_aL0 dX10_readLine_73 ?_
            refine r_v0u (r_readCorner b d wi hL r (isP_1 c70)) lm_X10_230 dX10_readLine_74 (b.S.l 50 rfl) (b.S.k 50 rfl rfl) rfl rfl rfl rfl (fun v h' z => z.1) (fun h1 z => ?_)
            refine g_goto dX10_readLine_77 ?_
            exact g_vret rfl dX10_readLine_181 rfl rfl (by rw [lx_4 (show lsF tx en q = 4 from ((if_pos c6).trans ((if_pos c22).trans ((if_pos c38).trans ((if_pos c54).trans (if_neg c70))))))]; exact z)
        · refine g_aL0 dX10_readLine_57 ?_
          refine r_v0u (r_readView b d wi hL r (isP_1 c54)) lm_X10_227 dX10_readLine_58 (b.S.l 50 rfl) (b.S.k 50 rfl rfl) rfl rfl rfl rfl (fun v h' z => z.1) (fun h1 z => ?_)
          refine g_goto dX10_readLine_61 ?_
          exact g_vret rfl dX10_readLine_181 rfl rfl (by rw [lx_3 (show lsF tx en q = 3 from ((if_pos c6).trans ((if_pos c22).trans ((if_pos c38).trans (if_neg c54)))))]; exact z)
      · refine g_aL0 dX10_readLine_41 ?_
        refine r_v0u (r_readWordLine b d wi hL r (isP_1 c38)) lm_X10_224 dX10_readLine_42 (b.S.l 50 rfl) (b.S.k 50 rfl rfl) rfl rfl rfl rfl (fun v h' z => z.1) (fun h1 z => ?_)
        refine g_goto dX10_readLine_45 ?_
        exact g_vret rfl dX10_readLine_181 rfl rfl (by rw [lx_2 (show lsF tx en q = 2 from ((if_pos c6).trans ((if_pos c22).trans (if_neg c38))))]; exact z)
    · refine g_aL0 dX10_readLine_25 ?_
      refine r_v0u (r_readPane b d wi hL r (isP_1 c22)) lm_X10_221 dX10_readLine_26 (b.S.l 50 rfl) (b.S.k 50 rfl rfl) rfl rfl rfl rfl (fun v h' z => z.1) (fun h1 z => ?_)
      refine g_goto dX10_readLine_29 ?_
      exact g_vret rfl dX10_readLine_181 rfl rfl (by rw [lx_1 (show lsF tx en q = 1 from ((if_pos c6).trans (if_neg c22)))]; exact z)
  · refine g_aL0 dX10_readLine_9 ?_
    refine r_v0u (r_readCity b d wi hL r (isP_1 c6)) lm_X10_218 dX10_readLine_10 (b.S.l 50 rfl) (b.S.k 50 rfl rfl) rfl rfl rfl rfl (fun v h' z => z.1) (fun h1 z => ?_)
    refine g_goto dX10_readLine_13 ?_
    exact g_vret rfl dX10_readLine_181 rfl rfl (by rw [lx_0 (show lsF tx en q = 0 from (if_neg c6))]; exact z)
theorem r_readAll {tx : Nat → Int32} {en : Nat} {h : Hp} {c : Nat} {K : List Nm} (b : RB tx en h c K) (hK : K = []) {C : CT} (d : RD h c C) (hL : LB h) (r : RK tx en h 0) (J : CT → List Nm → Prop) (hJ : ∀ C K, J C K → WI C K (nnC C) ∧ (¬ C 1 10 = 0 → ¬ C 0 5 = -1) ∧ ∀ q, lxP tx en C q K = lnP tx en C q K) (hJ1 : ∀ C q K x, J C K → lnP tx en C q K = .ok x → J x.2.1 x.2.2 ∧ q ≤ x.1) (w0 : WI C [] (nnC C) ∧ (¬ C 1 10 = 0 → ¬ C 0 5 = -1) ∧ lxP tx en C 0 [] = firP tx en C 0 []) (hJ0 : ∀ x, firP tx en C 0 [] = .ok x → J x.2.1 x.2.2 ∧ 1 ≤ x.1) {oo : LR} (hoo : parP tx en C = oo) : gC 11 0 0 yX10_readAll cX10_readAll 2 none [.ref 50] h (fun v h' => v = none ∧ PG c h' h ∧ LB h' ∧ ((∃ e, oo = .error e ∧ RF h' e) ∨ ∃ x, oo = .ok x ∧ RB tx en h' c x.2.2 ∧ RD h' c x.2.1 ∧ gI h' 50 13 = 0)) := by
  have hc6 := b.M.1
  have bad : ∀ (e : Int32 × Nat) (g : Hp) (v1 : Value), oo = .error e → SX g → MC g c → gR g 50 4 = some c → PG c g h → LB g → RF g e → gY 11 0 0 yX10_readAll cX10_readAll 2 none 0 0 (fun v h' => v = none ∧ PG c h' h ∧ LB h' ∧ ((∃ e, oo = .error e ∧ RF h' e) ∨ ∃ x, oo = .ok x ∧ RB tx en h' c x.2.2 ∧ RD h' c x.2.1 ∧ gI h' 50 13 = 0)) 10 [.ref 50, v1] [] g := by
    intro e g v1 ho S M Cc k hL f
    refine g_aL0 dX10_readAll_10 ?_
    refine g_bipush dX10_readAll_11 ?_
    refine e_v1i (d_eats5 S f.1 _) lm_X10_209 dX10_readAll_13 (S.l 50 rfl) (S.k 50 rfl rfl) rfl rfl rfl rfl ?_
    refine g_iS1 dX10_readAll_16 rfl rfl ?_
    refine g_goto dX10_readAll_17 ?_
    refine g_iL1 dX10_readAll_2 ?_
    refine g_ifeq dX10_readAll_3 (fun c3 => ?_) (fun c3 => absurd rfl c3)
    refine g_aL0 dX10_readAll_20 ?_
    refine g_gI lf_X10_71 (S.l 50 rfl) (S.k 50 rfl rfl) dX10_readAll_21 ?_
    refine g_iconst dX10_readAll_24 ?_
    refine g_iceq dX10_readAll_25 (fun c25 => absurd (f.1.symm.trans c25) (by decide)) (fun c25 => ?_)
    refine g_aL0 dX10_readAll_28 ?_
    refine g_iconst dX10_readAll_29 ?_
    refine e_v1u (d_flaw5 S f.1 _) lm_X10_130 dX10_readAll_30 (S.l 50 rfl) (S.k 50 rfl rfl) rfl rfl rfl rfl ?_
    refine g_aL0 dX10_readAll_33 ?_
    refine g_getR lf_X10_167 (S.l 50 rfl) (S.k 50 rfl rfl) Cc dX10_readAll_34 ?_
    refine g_gI lf_X10_215 (M.l 0 rfl) (M.k 0 rfl rfl) dX10_readAll_37 ?_
    refine g_ifne dX10_readAll_40 (fun c40 => ?_) (fun c40 => ?_)
    · exact g_vret rfl dX10_readAll_49 rfl rfl ⟨rfl, k, hL, Or.inl ⟨e, ho, f⟩⟩
    · refine g_aL0 dX10_readAll_43 ?_
      refine g_bipush dX10_readAll_44 ?_
      refine e_v1u (d_flaw5 S f.1 _) lm_X10_130 dX10_readAll_46 (S.l 50 rfl) (S.k 50 rfl rfl) rfl rfl rfl rfl ?_
      exact g_vret rfl dX10_readAll_49 rfl rfl ⟨rfl, k, hL, Or.inl ⟨e, ho, f⟩⟩
  have good : ∀ (f q : Nat) (C : CT) (K : List Nm) (g : Hp) (v1 : Value), en < f + q → oo = paL tx en f C q K → J C K → PG c g h → LB g → RK tx en g q → RB tx en g c K → RD g c C → gY 11 0 0 yX10_readAll cX10_readAll 2 none 0 0 (fun v h' => v = none ∧ PG c h' h ∧ LB h' ∧ ((∃ e, oo = .error e ∧ RF h' e) ∨ ∃ x, oo = .ok x ∧ RB tx en h' c x.2.2 ∧ RD h' c x.2.1 ∧ gI h' 50 13 = 0)) 10 [.ref 50, v1] [] g := by
    intro f
    induction f with
    | zero => intro q C K g v1 hf ho j k hL r b d; exact absurd r.1 (by omega)
    | succ f ih =>
      intro q C K g v1 hf ho j k hL r b d
      obtain ⟨wi, h05, hlx⟩ := hJ C K j
      rw [paL] at ho
      by_cases h3 : tkS tx en q = 3
      · rw [if_neg (by rw [h3]; decide), if_pos h3] at ho
        refine g_aL0 dX10_readAll_10 ?_
        refine g_bipush dX10_readAll_11 ?_
        refine r_v1i (d_eats1 b hL r (x := 59) (t := 3) (Or.inl ⟨rfl, rfl⟩) h3) lm_X10_209 dX10_readAll_13 (b.S.l 50 rfl) (b.S.k 50 rfl rfl) rfl rfl rfl rfl (fun v h' z => ⟨_, z.1⟩) (fun rv h1 z => ?_)
        obtain ⟨z0, k1, L1, r1⟩ := z
        obtain rfl := Value.int.inj (Option.some.inj z0)
        have b1 := b.go k1.q
        have d1 := RC.go d hc6 k1.q
        refine g_iS1 dX10_readAll_16 rfl rfl ?_
        refine g_goto dX10_readAll_17 ?_
        refine g_iL1 dX10_readAll_2 ?_
        refine g_ifeq dX10_readAll_3 (fun c3 => absurd c3 (by decide)) (fun c3 => ?_)
        refine g_aL0 dX10_readAll_6 ?_
        refine r_v0u (r_readLine b1 d1 wi h05 L1 r1) lm_X10_212 dX10_readAll_7 (b1.S.l 50 rfl) (b1.S.k 50 rfl rfl) rfl rfl rfl rfl (fun v h' z => z.1) (fun h2 z => ?_)
        obtain ⟨-, k2, L2, z2⟩ := z
        have kk := k2.trans ((k1.q.p c).trans k)
        rw [hlx] at z2
        rcases z2 with ⟨e, z, f2⟩ | ⟨x, z, r2, b2, d2⟩
        · exact bad e h2 _ (by rw [ho, z]; rfl) (k2.S b1.S) (b1.M.eq k2.1 k2.2.1 k2.2.2.1 k2.2.2.2.1) ((congrFun (congrFun k2.2.2.2.1 50) 4).trans b1.C) kk L2 f2
        · have hx := hJ1 C (nx tx en q) K x j z
          have hlt : q < nx tx en q := by
            have h0 : tk0 tx en q = 3 := by
              unfold tkS at h3
              by_cases z1 : tk0 tx en q = 1
              · rw [if_pos z1] at h3
                by_cases z2 : tkL tx en q ≤ 8
                · rw [if_pos z2] at h3; exact absurd h3 (by decide)
                · rw [if_neg z2] at h3; exact absurd h3 (by decide)
              · rw [if_neg z1] at h3
                by_cases z2 : tk0 tx en q = 2
                · rw [if_pos z2] at h3
                  by_cases z4 : tkL tx en q ≤ 2
                  · rw [if_pos z4] at h3; exact absurd h3 (by decide)
                  · rw [if_neg z4] at h3; exact absurd h3 (by decide)
                · rw [if_neg z2] at h3; exact h3
            have hl1 : tkL tx en q = 1 := by
              unfold tkL
              rw [if_neg (by rw [h0]; decide), if_neg (by rw [h0]; decide)]
            have := (tkP_le (tx := tx) r.1).1
            unfold nx
            omega
          exact ih x.1 x.2.1 x.2.2 h2 _ (by omega) (by rw [ho, z]; rfl) hx.1 kk L2 r2 b2 d2
      · rw [if_neg h3] at ho
        refine g_aL0 dX10_readAll_10 ?_
        refine g_bipush dX10_readAll_11 ?_
        refine e_v1i (d_eats0 b r (x := 59) (t := 3) (Or.inl ⟨rfl, rfl⟩) h3) lm_X10_209 dX10_readAll_13 (b.S.l 50 rfl) (b.S.k 50 rfl rfl) rfl rfl rfl rfl ?_
        refine g_iS1 dX10_readAll_16 rfl rfl ?_
        refine g_goto dX10_readAll_17 ?_
        refine g_iL1 dX10_readAll_2 ?_
        refine g_ifeq dX10_readAll_3 (fun c3 => ?_) (fun c3 => absurd rfl c3)
        refine g_aL0 dX10_readAll_20 ?_
        refine g_gI lf_X10_71 (b.S.l 50 rfl) (b.S.k 50 rfl rfl) dX10_readAll_21 ?_
        refine g_iconst dX10_readAll_24 ?_
        refine g_iceq dX10_readAll_25 (fun c25 => ?_) (fun c25 => ?_)
        · rw [if_pos ((rs_1 _).mp (r.2.1 ▸ c25))] at ho
          have hpn : gI g c 4 = C 1 1 := d.1 4 (by decide)
          have ckp := wi.c (k := 1) (by decide)
          refine g_aL0 dX10_readAll_33 ?_
          refine g_getR lf_X10_167 (b.S.l 50 rfl) (b.S.k 50 rfl rfl) b.C dX10_readAll_34 ?_
          refine g_gI lf_X10_215 (b.M.l 0 rfl) (b.M.k 0 rfl rfl) dX10_readAll_37 ?_
          rw [hpn]
          refine g_ifne dX10_readAll_40 (fun c40 => ?_) (fun c40 => ?_)
          · have h0 : 0 < C 1 1 := by
              rw [ckp]
              have hne : ¬ nnC C 1 = 0 := fun z => c40 (by rw [ckp, z]; rfl)
              exact nI_lt (a := 0) (by omega) (by have := wi.2.1; omega)
            rw [if_pos h0] at ho
            exact g_vret rfl dX10_readAll_49 rfl rfl ⟨rfl, k, hL, Or.inr ⟨_, ho, b, d, r.2.2.2.2.2.2.2⟩⟩
          · refine g_aL0 dX10_readAll_43 ?_
            refine g_bipush dX10_readAll_44 ?_
            refine e_v1u (d_flaw0 b.S r.n5 _) lm_X10_130 dX10_readAll_46 (b.S.l 50 rfl) (b.S.k 50 rfl rfl) rfl rfl rfl rfl ?_
            rw [if_neg (by rw [c40]; decide)] at ho
            exact g_vret rfl dX10_readAll_49 rfl rfl ⟨rfl, ((GQ_fw _ _ _).p c).trans k, LB_fw hL _ _, Or.inl ⟨_, ho, RF_fw r (by decide)⟩⟩
        · refine g_aL0 dX10_readAll_28 ?_
          refine g_iconst dX10_readAll_29 ?_
          refine e_v1u (d_flaw0 b.S r.n5 _) lm_X10_130 dX10_readAll_30 (b.S.l 50 rfl) (b.S.k 50 rfl rfl) rfl rfl rfl rfl ?_
          rw [if_neg (fun z => c25 (r.2.1.trans ((rs_1 _).mpr z)))] at ho
          have kf := GQ_fw g 1 (gI g 50 10)
          have b1 := b.go kf
          refine g_aL0 dX10_readAll_33 ?_
          refine g_getR lf_X10_167 (b1.S.l 50 rfl) (b1.S.k 50 rfl rfl) b1.C dX10_readAll_34 ?_
          refine g_gI lf_X10_215 (b1.M.l 0 rfl) (b1.M.k 0 rfl rfl) dX10_readAll_37 ?_
          refine g_ifne dX10_readAll_40 (fun c40 => ?_) (fun c40 => ?_)
          · exact g_vret rfl dX10_readAll_49 rfl rfl ⟨rfl, (kf.p c).trans k, LB_fw hL _ _, Or.inl ⟨_, ho, RF_fw r (by decide)⟩⟩
          · refine g_aL0 dX10_readAll_43 ?_
            refine g_bipush dX10_readAll_44 ?_
            refine e_v1u (d_flaw5 b1.S (fw5 _ _ _) _) lm_X10_130 dX10_readAll_46 (b1.S.l 50 rfl) (b1.S.k 50 rfl rfl) rfl rfl rfl rfl ?_
            exact g_vret rfl dX10_readAll_49 rfl rfl ⟨rfl, (kf.p c).trans k, LB_fw hL _ _, Or.inl ⟨_, ho, RF_fw r (by decide)⟩⟩
  subst hK
  obtain ⟨wi, h05, hlx⟩ := w0
  refine g_entry (lv := [.ref 50, .retAddr 0]) 1 pn_X10 rfl rfl rfl ?_
  refine g_iconst dX10_readAll_0 ?_
  refine g_iS1 dX10_readAll_1 rfl rfl ?_
  refine g_iL1 dX10_readAll_2 ?_
  refine g_ifeq dX10_readAll_3 (fun c3 => absurd c3 (by decide)) (fun c3 => ?_)
  refine g_aL0 dX10_readAll_6 ?_
  refine r_v0u (r_readLine b d wi h05 hL r) lm_X10_212 dX10_readAll_7 (b.S.l 50 rfl) (b.S.k 50 rfl rfl) rfl rfl rfl rfl (fun v h' z => z.1) (fun h2 z => ?_)
  obtain ⟨-, k2, L2, z2⟩ := z
  rw [hlx] at z2
  rcases z2 with ⟨e, z, f2⟩ | ⟨x, z, r2, b2, d2⟩
  · exact bad e h2 _ (by rw [← hoo, parP, z]; rfl) (k2.S b.S) (b.M.eq k2.1 k2.2.1 k2.2.2.1 k2.2.2.2.1) ((congrFun (congrFun k2.2.2.2.1 50) 4).trans b.C) k2 L2 f2
  · have hx := hJ0 x z
    exact good 1100 x.1 x.2.1 x.2.2 h2 _ (by have := b.e2; omega) (by rw [← hoo, parP, z]; rfl) hx.1 k2 L2 r2 b2 d2

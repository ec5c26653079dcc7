/-! THE REFERENCE'S PARSER: signs and rows -/
theorem isR_5 {s g x : Int32} (h : s = 5) : isR s g x = 0 := if_neg (by rw [h]; decide)
theorem isR_K {tx : Nat → Int32} {en q : Nat} {h : Hp} (r : RK tx en h q) {x t : Int32} (hx : (x = 59 ∧ t = 3) ∨ (x = 44 ∧ t = 4)) : isR (gI h 50 9) (gI h 50 11) x = if tkS tx en q = t then 1 else 0 := by
  have hx2 : x = 59 ∨ x = 44 := hx.imp (fun z => z.1) (fun z => z.1)
  have key := rs_4 (tkS tx en q) x hx2
  unfold isR
  rw [r.2.1, r.2.2.2.2.1]
  by_cases z : tkS tx en q = t
  · have : rsM' (tkS tx en q) = 4 ∧ sgM (tkS tx en q) = x := key.mpr (hx.imp (fun y => ⟨y.1, z.trans y.2⟩) (fun y => ⟨y.1, z.trans y.2⟩))
    rw [if_pos this.1, if_pos this.2, if_pos z]
  · rw [if_neg z]
    by_cases y : rsM' (tkS tx en q) = 4
    · rw [if_pos y]
      refine if_neg (fun u => z ?_)
      rcases key.mp ⟨y, u⟩ with v | v <;> rcases hx with p | p
      · rw [v.2, p.2]
      · exact absurd (v.1.symm.trans p.1) (by decide)
      · exact absurd (v.1.symm.trans p.1) (by decide)
      · rw [v.2, p.2]
    · exact if_neg y
theorem d_eats5 {h : Hp} (S : SX h) (hs : gI h 50 9 = 5) (x : Int32) : gCi 2 0 0 yX10_eatsSign cX10_eatsSign 3 (some .boolean) [.ref 50, .int x] h (some (.int 0)) h := by
  refine g_entry (lv := [.ref 50, .int x, .retAddr 0]) 1 pn_X10 rfl rfl rfl ?_
  refine g_aL0 dX10_eatsSign_0 ?_
  refine g_iL1 dX10_eatsSign_1 ?_
  refine e_v1i (d_isSign S _) lm_X10_120 dX10_eatsSign_2 (S.l 50 rfl) (S.k 50 rfl rfl) rfl rfl rfl rfl ?_
  rw [isR_5 hs]
  refine g_iS2 dX10_eatsSign_5 rfl rfl ?_
  refine g_iL2 dX10_eatsSign_6 ?_
  refine g_ifeq dX10_eatsSign_7 (fun c7 => ?_) (fun c7 => absurd rfl c7)
  refine g_iL2 dX10_eatsSign_14 ?_
  exact e_zret rfl (by decide) dX10_eatsSign_15 rfl rfl rfl rfl
theorem d_eats0 {tx : Nat → Int32} {en : Nat} {h : Hp} {c : Nat} {K : List Nm} (b : RB tx en h c K) {q : Nat} (r : RK tx en h q) {x t : Int32} (hx : (x = 59 ∧ t = 3) ∨ (x = 44 ∧ t = 4)) (ht : ¬ tkS tx en q = t) : gCi 2 0 0 yX10_eatsSign cX10_eatsSign 3 (some .boolean) [.ref 50, .int x] h (some (.int 0)) h := by
  refine g_entry (lv := [.ref 50, .int x, .retAddr 0]) 1 pn_X10 rfl rfl rfl ?_
  refine g_aL0 dX10_eatsSign_0 ?_
  refine g_iL1 dX10_eatsSign_1 ?_
  refine e_v1i (d_isSign b.S _) lm_X10_120 dX10_eatsSign_2 (b.S.l 50 rfl) (b.S.k 50 rfl rfl) rfl rfl rfl rfl ?_
  rw [isR_K r hx, if_neg ht]
  refine g_iS2 dX10_eatsSign_5 rfl rfl ?_
  refine g_iL2 dX10_eatsSign_6 ?_
  refine g_ifeq dX10_eatsSign_7 (fun c7 => ?_) (fun c7 => absurd rfl c7)
  refine g_iL2 dX10_eatsSign_14 ?_
  exact e_zret rfl (by decide) dX10_eatsSign_15 rfl rfl rfl rfl
theorem d_goA {tx : Nat → Int32} {en : Nat} {h : Hp} {c : Nat} {K : List Nm} (b : RB tx en h c K) (hL : LB h) {q : Nat} (r : RK tx en h q) (ht : ¬ tkS tx en q = 5) : gC 1 0 0 yX10_goesOn cX10_goesOn 3 none [.ref 50] h (fun v h' => v = none ∧ GO h' h ∧ LB h' ∧ RK tx en h' (nx tx en q)) := d_goesOn b.y b.e2 b.S b.x b.e (r.2.2.2.1 ht) (tkL_le r.1 b.e2) r.n5 r.2.2.2.2.2.2.2 hL
theorem d_eats1 {tx : Nat → Int32} {en : Nat} {h : Hp} {c : Nat} {K : List Nm} (b : RB tx en h c K) (hL : LB h) {q : Nat} (r : RK tx en h q) {x t : Int32} (hx : (x = 59 ∧ t = 3) ∨ (x = 44 ∧ t = 4)) (ht : tkS tx en q = t) : gC 2 0 0 yX10_eatsSign cX10_eatsSign 3 (some .boolean) [.ref 50, .int x] h (fun v h' => v = some (.int 1) ∧ GO h' h ∧ LB h' ∧ RK tx en h' (nx tx en q)) := by
  refine g_entry (lv := [.ref 50, .int x, .retAddr 0]) 1 pn_X10 rfl rfl rfl ?_
  refine g_aL0 dX10_eatsSign_0 ?_
  refine g_iL1 dX10_eatsSign_1 ?_
  refine e_v1i (d_isSign b.S _) lm_X10_120 dX10_eatsSign_2 (b.S.l 50 rfl) (b.S.k 50 rfl rfl) rfl rfl rfl rfl ?_
  rw [isR_K r hx, if_pos ht]
  refine g_iS2 dX10_eatsSign_5 rfl rfl ?_
  refine g_iL2 dX10_eatsSign_6 ?_
  refine g_ifeq dX10_eatsSign_7 (fun c7 => absurd c7 (by decide)) (fun c7 => ?_)
  refine g_aL0 dX10_eatsSign_10 ?_
  refine r_v0u (d_goA b hL r (by rw [ht]; rcases hx with p | p <;> rw [p.2] <;> decide)) lm_X10_123 dX10_eatsSign_11 (b.S.l 50 rfl) (b.S.k 50 rfl rfl) rfl rfl rfl rfl (fun v h' z => z.1) (fun h1 z => ?_)
  obtain ⟨-, k1, L1, r1⟩ := z
  refine g_iL2 dX10_eatsSign_14 ?_
  exact g_zret rfl rfl dX10_eatsSign_15 rfl rfl ⟨rfl, k1, L1, r1⟩
theorem RF.I {h : Hp} {e : Int32 × Nat} (f : RF h e) {k : Nat} (v : Int32) (hk : k = 18 ∨ k = 19) : RF (pI h 50 k v) e := ⟨(gIk (by omega)).trans f.1, (gIk (by omega)).trans f.2.1, (gIk (by omega)).trans f.2.2.1, f.2.2.2⟩
theorem RK.I {tx : Nat → Int32} {en q : Nat} {h : Hp} (r : RK tx en h q) {k : Nat} (v : Int32) (hk : k = 18 ∨ k = 19) : RK tx en (pI h 50 k v) q := ⟨r.1, (gIk (by omega)).trans r.2.1, (gIk (by omega)).trans r.2.2.1, fun z => (gIk (by omega)).trans (r.2.2.2.1 z), (gIk (by omega)).trans r.2.2.2.2.1, fun z => ⟨(r.2.2.2.2.2.1 z).1, (gIk (by omega)).trans (r.2.2.2.2.2.1 z).2.1, (gIk (by omega)).trans (r.2.2.2.2.2.1 z).2.2⟩, fun z => (gIk (by omega)).trans (r.2.2.2.2.2.2.1 z), (gIk (by omega)).trans r.2.2.2.2.2.2.2⟩
theorem ba_lo {x : Int32} (h : -128 ≤ x.toInt ∧ x.toInt ≤ 127) (h1 : 97 ≤ x.toInt) : x &&& 255 = x := by
  have key : ∀ v : Fin 128, Int32.ofInt (v.1 : Int) &&& 255 = Int32.ofInt (v.1 : Int) := by decide +kernel
  have := key ⟨x.toInt.toNat, by omega⟩
  rwa [show ((x.toInt.toNat : Nat) : Int) = x.toInt by omega, Int32.ofInt_toInt] at this
theorem r_readRows {tx : Nat → Int32} {en : Nat} {h : Hp} {c : Nat} {K : List Nm} (b : RB tx en h c K) {o : Ex Nat} (s : RSt h o (RKs tx en)) {wd : Int32} (hw : gI h c 0 = wd) {H : Nat} (hH : gI h c 1 = nI H) (hH4 : H ≤ 4) (sh : Int32) : gC 3 0 0 yX10_readRows cX10_readRows 6 none [.ref 50, .int sh] h (fun v h' => v = none ∧ GQ h' h ∧ RSt h' (o.bind fun q => rsP tx en wd sh H 0 q 0 0) (fun z g => RK tx en g z.1 ∧ gI g 50 19 = z.2.1 ∧ gI g 50 18 = z.2.2)) := by
  generalize hoo : (o.bind fun q => rsP tx en wd sh H 0 q 0 0) = oo
  have hc6 := b.M.1
  have hw' : ∀ {g : Hp}, GQ g h → gI g c 0 = wd := fun k => (k.2.2.2.2.1 c 0 (by omega)).trans hw
  have hH' : ∀ {g : Hp}, GQ g h → gI g c 1 = nI H := fun k => (k.2.2.2.2.1 c 1 (by omega)).trans hH
  have ft : ∀ (e : Int32 × Nat) (g : Hp) (i3 : Int32) (v3 v4 v5 : Value), oo = .error e → GQ g h → LB g → RF g e → gY 3 0 0 yX10_readRows cX10_readRows 6 none 0 0 (fun v h' => v = none ∧ GQ h' h ∧ RSt h' oo (fun z g => RK tx en g z.1 ∧ gI g 50 19 = z.2.1 ∧ gI g 50 18 = z.2.2)) 77 [.ref 50, .int sh, .int i3, v3, v4, v5] [] g := by
    intro e g i3 v3 v4 v5 he k hL f
    have lp : ∀ (n j : Nat) (g : Hp) (is : Int32) (v5 : Value) (a w0 : Nat), j + n = a → a ≤ 1100 → w0 ≤ 1100 → gI g 50 15 = nI a → gI g 50 16 = nI w0 → GQ g h → RF g e → gY 3 0 0 yX10_readRows cX10_readRows 6 none 0 0 (fun v h' => v = none ∧ GQ h' h ∧ RSt h' oo (fun z g => RK tx en g z.1 ∧ gI g 50 19 = z.2.1 ∧ gI g 50 18 = z.2.2)) 100 [.ref 50, .int sh, .int i3, .int is, .int (nI j), v5] [] g := by
      intro n
      induction n with
      | zero =>
        intro j g is v5 a w0 hj ha hw0 h15 h16 k f
        have hL : LB g := ⟨⟨a, ha, h15⟩, ⟨w0, hw0, h16⟩⟩
        refine g_iL4 dX10_readRows_100 ?_
        refine g_aL0 dX10_readRows_102 ?_
        refine g_gI lf_X10_97 ((k.S b.S).l 50 rfl) ((k.S b.S).k 50 rfl rfl) dX10_readRows_103 ?_
        rw [h15]
        refine g_icge dX10_readRows_106 (fun c106 => ?_) (fun c106 => absurd (nI_le (by omega) (by omega)) c106)
        refine g_iL3 dX10_readRows_223 ?_
        refine g_ifne dX10_readRows_224 (fun c224 => ?_) (fun c224 => ?_)
        · refine g_aL0 dX10_readRows_233 ?_
          refine e_v0u (d_goesOn5 (k.S b.S) f.1) lm_X10_123 dX10_readRows_234 ((k.S b.S).l 50 rfl) ((k.S b.S).k 50 rfl rfl) rfl rfl rfl rfl ?_
          refine g_aL0 dX10_readRows_237 ?_
          refine g_gI lf_X10_71 ((k.S b.S).l 50 rfl) ((k.S b.S).k 50 rfl rfl) dX10_readRows_238 ?_
          refine g_iconst dX10_readRows_241 ?_
          refine g_icne dX10_readRows_242 (fun c242 => absurd f.1 c242) (fun c242 => ?_)
          exact g_vret rfl dX10_readRows_245 rfl rfl ⟨rfl, k, hL, Or.inl ⟨e, he, f⟩⟩
        · refine g_aL0 dX10_readRows_227 ?_
          refine g_bipush dX10_readRows_228 ?_
          refine e_v1u (d_flaw5 (k.S b.S) f.1 _) lm_X10_130 dX10_readRows_230 ((k.S b.S).l 50 rfl) ((k.S b.S).k 50 rfl rfl) rfl rfl rfl rfl ?_
          refine g_aL0 dX10_readRows_233 ?_
          refine e_v0u (d_goesOn5 (k.S b.S) f.1) lm_X10_123 dX10_readRows_234 ((k.S b.S).l 50 rfl) ((k.S b.S).k 50 rfl rfl) rfl rfl rfl rfl ?_
          refine g_aL0 dX10_readRows_237 ?_
          refine g_gI lf_X10_71 ((k.S b.S).l 50 rfl) ((k.S b.S).k 50 rfl rfl) dX10_readRows_238 ?_
          refine g_iconst dX10_readRows_241 ?_
          refine g_icne dX10_readRows_242 (fun c242 => absurd f.1 c242) (fun c242 => ?_)
          exact g_vret rfl dX10_readRows_245 rfl rfl ⟨rfl, k, hL, Or.inl ⟨e, he, f⟩⟩
      | succ n ih =>
        intro j g is v5 a w0 hj ha hw0 h15 h16 k f
        have hL : LB g := ⟨⟨a, ha, h15⟩, ⟨w0, hw0, h16⟩⟩
        refine g_iL4 dX10_readRows_100 ?_
        refine g_aL0 dX10_readRows_102 ?_
        refine g_gI lf_X10_97 ((k.S b.S).l 50 rfl) ((k.S b.S).k 50 rfl rfl) dX10_readRows_103 ?_
        rw [h15]
        refine g_icge dX10_readRows_106 (fun c106 => absurd c106 (nI_ge (by omega) (by omega))) (fun c106 => ?_)
        refine g_iL3 dX10_readRows_109 ?_
        refine g_ifeq dX10_readRows_110 (fun c110 => ?_) (fun c110 => ?_)
        · refine g_iL3 dX10_readRows_223 ?_
          refine g_ifne dX10_readRows_224 (fun c224 => ?_) (fun c224 => ?_)
          · refine g_aL0 dX10_readRows_233 ?_
            refine e_v0u (d_goesOn5 (k.S b.S) f.1) lm_X10_123 dX10_readRows_234 ((k.S b.S).l 50 rfl) ((k.S b.S).k 50 rfl rfl) rfl rfl rfl rfl ?_
            refine g_aL0 dX10_readRows_237 ?_
            refine g_gI lf_X10_71 ((k.S b.S).l 50 rfl) ((k.S b.S).k 50 rfl rfl) dX10_readRows_238 ?_
            refine g_iconst dX10_readRows_241 ?_
            refine g_icne dX10_readRows_242 (fun c242 => absurd f.1 c242) (fun c242 => ?_)
            exact g_vret rfl dX10_readRows_245 rfl rfl ⟨rfl, k, hL, Or.inl ⟨e, he, f⟩⟩
          · refine g_aL0 dX10_readRows_227 ?_
            refine g_bipush dX10_readRows_228 ?_
            refine e_v1u (d_flaw5 (k.S b.S) f.1 _) lm_X10_130 dX10_readRows_230 ((k.S b.S).l 50 rfl) ((k.S b.S).k 50 rfl rfl) rfl rfl rfl rfl ?_
            refine g_aL0 dX10_readRows_233 ?_
            refine e_v0u (d_goesOn5 (k.S b.S) f.1) lm_X10_123 dX10_readRows_234 ((k.S b.S).l 50 rfl) ((k.S b.S).k 50 rfl rfl) rfl rfl rfl rfl ?_
            refine g_aL0 dX10_readRows_237 ?_
            refine g_gI lf_X10_71 ((k.S b.S).l 50 rfl) ((k.S b.S).k 50 rfl rfl) dX10_readRows_238 ?_
            refine g_iconst dX10_readRows_241 ?_
            refine g_icne dX10_readRows_242 (fun c242 => absurd f.1 c242) (fun c242 => ?_)
            exact g_vret rfl dX10_readRows_245 rfl rfl ⟨rfl, k, hL, Or.inl ⟨e, he, f⟩⟩
        · refine g_aL0 dX10_readRows_113 ?_
          refine g_aL0 dX10_readRows_114 ?_
          refine g_gI lf_X10_94 ((k.S b.S).l 50 rfl) ((k.S b.S).k 50 rfl rfl) dX10_readRows_115 ?_
          rw [h16]
          refine g_iL4 dX10_readRows_118 ?_
          refine g_iadd dX10_readRows_120 ?_
          rw [nI_add]
          refine e_v1i (d_byteAt (k.S b.S) (b.go k).x (b.go k).e b.e2 (p := w0 + j) (by omega)) lm_X10_77 dX10_readRows_121 ((k.S b.S).l 50 rfl) ((k.S b.S).k 50 rfl rfl) rfl rfl rfl rfl ?_
          refine g_iS5 dX10_readRows_124 rfl rfl ?_
          refine g_iL5 dX10_readRows_126 ?_
          refine g_bipush dX10_readRows_128 ?_
          refine g_iceq dX10_readRows_130 (fun c130 => ?_) (fun c130 => ?_)
          · refine g_iconst dX10_readRows_151 ?_
            refine g_goto dX10_readRows_152 ?_
            refine g_iS3 dX10_readRows_156 rfl rfl ?_
            refine g_iL5 dX10_readRows_157 ?_
            refine g_bipush dX10_readRows_159 ?_
            refine g_iceq dX10_readRows_161 (fun c161 => ?_) (fun c161 => ?_)
            · refine g_iL5 dX10_readRows_187 ?_
              refine g_bipush dX10_readRows_189 ?_
              refine g_icne dX10_readRows_191 (fun c191 => ?_) (fun c191 => ?_)
              · refine g_ii4 dX10_readRows_217 rfl rfl ?_
                refine g_goto dX10_readRows_220 ?_
                rw [nI_1]
                exact ih (j + 1) _ _ _ a w0 (by omega) ha hw0 (h15) (h16) (k) f
              · refine g_aL0 dX10_readRows_194 ?_
                refine g_dup dX10_readRows_195 rfl ?_
                refine g_gI lf_X10_203 ((k.S b.S).l 50 rfl) ((k.S b.S).k 50 rfl rfl) dX10_readRows_196 ?_
                refine g_iconst dX10_readRows_199 ?_
                refine g_iL2 dX10_readRows_200 ?_
                refine g_aL0 dX10_readRows_201 ?_
                refine g_getR lf_X10_167 ((k.S b.S).l 50 rfl) ((k.S b.S).k 50 rfl rfl) (b.go k).C dX10_readRows_202 ?_
                refine g_gI lf_X10_171 ((b.go k).M.l 0 rfl) ((b.go k).M.k 0 rfl rfl) dX10_readRows_205 ?_
                refine g_imul dX10_readRows_208 ?_
                refine g_iL4 dX10_readRows_209 ?_
                refine g_iadd dX10_readRows_211 ?_
                refine g_ishl dX10_readRows_212 ?_
                refine g_ior dX10_readRows_213 ?_
                refine g_pI0 lf_X10_203 ((k.S b.S).l 50 rfl) ((k.S b.S).k 50 rfl rfl) dX10_readRows_214 ?_
                refine g_ii4 dX10_readRows_217 rfl rfl ?_
                refine g_goto dX10_readRows_220 ?_
                rw [nI_1]
                exact ih (j + 1) _ _ _ a w0 (by omega) ha hw0 ((gIk (by decide)).trans (h15)) ((gIk (by decide)).trans (h16)) ((GQ_I _ _ (by omega)).trans (k)) (f.I _ (by omega))
            · refine g_aL0 dX10_readRows_164 ?_
              refine g_dup dX10_readRows_165 rfl ?_
              refine g_gI lf_X10_200 ((k.S b.S).l 50 rfl) ((k.S b.S).k 50 rfl rfl) dX10_readRows_166 ?_
              refine g_iconst dX10_readRows_169 ?_
              refine g_iL2 dX10_readRows_170 ?_
              refine g_aL0 dX10_readRows_171 ?_
              refine g_getR lf_X10_167 ((k.S b.S).l 50 rfl) ((k.S b.S).k 50 rfl rfl) (b.go k).C dX10_readRows_172 ?_
              refine g_gI lf_X10_171 ((b.go k).M.l 0 rfl) ((b.go k).M.k 0 rfl rfl) dX10_readRows_175 ?_
              refine g_imul dX10_readRows_178 ?_
              refine g_iL4 dX10_readRows_179 ?_
              refine g_iadd dX10_readRows_181 ?_
              refine g_ishl dX10_readRows_182 ?_
              refine g_ior dX10_readRows_183 ?_
              refine g_pI0 lf_X10_200 ((k.S b.S).l 50 rfl) ((k.S b.S).k 50 rfl rfl) dX10_readRows_184 ?_
              refine g_iL5 dX10_readRows_187 ?_
              refine g_bipush dX10_readRows_189 ?_
              refine g_icne dX10_readRows_191 (fun c191 => ?_) (fun c191 => ?_)
              · refine g_ii4 dX10_readRows_217 rfl rfl ?_
                refine g_goto dX10_readRows_220 ?_
                rw [nI_1]
                exact ih (j + 1) _ _ _ a w0 (by omega) ha hw0 ((gIk (by decide)).trans (h15)) ((gIk (by decide)).trans (h16)) ((GQ_I _ _ (by omega)).trans (k)) (f.I _ (by omega))
              · refine g_aL0 dX10_readRows_194 ?_
                refine g_dup dX10_readRows_195 rfl ?_
                refine g_gI lf_X10_203 ((k.S b.S).l 50 rfl) ((k.S b.S).k 50 rfl rfl) dX10_readRows_196 ?_
                refine g_iconst dX10_readRows_199 ?_
                refine g_iL2 dX10_readRows_200 ?_
                refine g_aL0 dX10_readRows_201 ?_
                refine g_getR lf_X10_167 ((k.S b.S).l 50 rfl) ((k.S b.S).k 50 rfl rfl) (b.go k).C dX10_readRows_202 ?_
                refine g_gI lf_X10_171 ((b.go k).M.l 0 rfl) ((b.go k).M.k 0 rfl rfl) dX10_readRows_205 ?_
                refine g_imul dX10_readRows_208 ?_
                refine g_iL4 dX10_readRows_209 ?_
                refine g_iadd dX10_readRows_211 ?_
                refine g_ishl dX10_readRows_212 ?_
                refine g_ior dX10_readRows_213 ?_
                refine g_pI0 lf_X10_203 ((k.S b.S).l 50 rfl) ((k.S b.S).k 50 rfl rfl) dX10_readRows_214 ?_
                refine g_ii4 dX10_readRows_217 rfl rfl ?_
                refine g_goto dX10_readRows_220 ?_
                rw [nI_1]
                exact ih (j + 1) _ _ _ a w0 (by omega) ha hw0 ((gIk (by decide)).trans ((gIk (by decide)).trans (h15))) ((gIk (by decide)).trans ((gIk (by decide)).trans (h16))) ((GQ_I _ _ (by omega)).trans ((GQ_I _ _ (by omega)).trans (k))) ((f.I _ (by omega)).I _ (by omega))
          · refine g_iL5 dX10_readRows_133 ?_
            refine g_bipush dX10_readRows_135 ?_
            refine g_iceq dX10_readRows_137 (fun c137 => ?_) (fun c137 => ?_)
            · refine g_iconst dX10_readRows_151 ?_
              refine g_goto dX10_readRows_152 ?_
              refine g_iS3 dX10_readRows_156 rfl rfl ?_
              refine g_iL5 dX10_readRows_157 ?_
              refine g_bipush dX10_readRows_159 ?_
              refine g_iceq dX10_readRows_161 (fun c161 => ?_) (fun c161 => ?_)
              · refine g_iL5 dX10_readRows_187 ?_
                refine g_bipush dX10_readRows_189 ?_
                refine g_icne dX10_readRows_191 (fun c191 => ?_) (fun c191 => ?_)
                · refine g_ii4 dX10_readRows_217 rfl rfl ?_
                  refine g_goto dX10_readRows_220 ?_
                  rw [nI_1]
                  exact ih (j + 1) _ _ _ a w0 (by omega) ha hw0 (h15) (h16) (k) f
                · refine g_aL0 dX10_readRows_194 ?_
                  refine g_dup dX10_readRows_195 rfl ?_
                  refine g_gI lf_X10_203 ((k.S b.S).l 50 rfl) ((k.S b.S).k 50 rfl rfl) dX10_readRows_196 ?_
                  refine g_iconst dX10_readRows_199 ?_
                  refine g_iL2 dX10_readRows_200 ?_
                  refine g_aL0 dX10_readRows_201 ?_
                  refine g_getR lf_X10_167 ((k.S b.S).l 50 rfl) ((k.S b.S).k 50 rfl rfl) (b.go k).C dX10_readRows_202 ?_
                  refine g_gI lf_X10_171 ((b.go k).M.l 0 rfl) ((b.go k).M.k 0 rfl rfl) dX10_readRows_205 ?_
                  refine g_imul dX10_readRows_208 ?_
                  refine g_iL4 dX10_readRows_209 ?_
                  refine g_iadd dX10_readRows_211 ?_
                  refine g_ishl dX10_readRows_212 ?_
                  refine g_ior dX10_readRows_213 ?_
                  refine g_pI0 lf_X10_203 ((k.S b.S).l 50 rfl) ((k.S b.S).k 50 rfl rfl) dX10_readRows_214 ?_
                  refine g_ii4 dX10_readRows_217 rfl rfl ?_
                  refine g_goto dX10_readRows_220 ?_
                  rw [nI_1]
                  exact ih (j + 1) _ _ _ a w0 (by omega) ha hw0 ((gIk (by decide)).trans (h15)) ((gIk (by decide)).trans (h16)) ((GQ_I _ _ (by omega)).trans (k)) (f.I _ (by omega))
              · refine g_aL0 dX10_readRows_164 ?_
                refine g_dup dX10_readRows_165 rfl ?_
                refine g_gI lf_X10_200 ((k.S b.S).l 50 rfl) ((k.S b.S).k 50 rfl rfl) dX10_readRows_166 ?_
                refine g_iconst dX10_readRows_169 ?_
                refine g_iL2 dX10_readRows_170 ?_
                refine g_aL0 dX10_readRows_171 ?_
                refine g_getR lf_X10_167 ((k.S b.S).l 50 rfl) ((k.S b.S).k 50 rfl rfl) (b.go k).C dX10_readRows_172 ?_
                refine g_gI lf_X10_171 ((b.go k).M.l 0 rfl) ((b.go k).M.k 0 rfl rfl) dX10_readRows_175 ?_
                refine g_imul dX10_readRows_178 ?_
                refine g_iL4 dX10_readRows_179 ?_
                refine g_iadd dX10_readRows_181 ?_
                refine g_ishl dX10_readRows_182 ?_
                refine g_ior dX10_readRows_183 ?_
                refine g_pI0 lf_X10_200 ((k.S b.S).l 50 rfl) ((k.S b.S).k 50 rfl rfl) dX10_readRows_184 ?_
                refine g_iL5 dX10_readRows_187 ?_
                refine g_bipush dX10_readRows_189 ?_
                refine g_icne dX10_readRows_191 (fun c191 => ?_) (fun c191 => ?_)
                · refine g_ii4 dX10_readRows_217 rfl rfl ?_
                  refine g_goto dX10_readRows_220 ?_
                  rw [nI_1]
                  exact ih (j + 1) _ _ _ a w0 (by omega) ha hw0 ((gIk (by decide)).trans (h15)) ((gIk (by decide)).trans (h16)) ((GQ_I _ _ (by omega)).trans (k)) (f.I _ (by omega))
                · refine g_aL0 dX10_readRows_194 ?_
                  refine g_dup dX10_readRows_195 rfl ?_
                  refine g_gI lf_X10_203 ((k.S b.S).l 50 rfl) ((k.S b.S).k 50 rfl rfl) dX10_readRows_196 ?_
                  refine g_iconst dX10_readRows_199 ?_
                  refine g_iL2 dX10_readRows_200 ?_
                  refine g_aL0 dX10_readRows_201 ?_
                  refine g_getR lf_X10_167 ((k.S b.S).l 50 rfl) ((k.S b.S).k 50 rfl rfl) (b.go k).C dX10_readRows_202 ?_
                  refine g_gI lf_X10_171 ((b.go k).M.l 0 rfl) ((b.go k).M.k 0 rfl rfl) dX10_readRows_205 ?_
                  refine g_imul dX10_readRows_208 ?_
                  refine g_iL4 dX10_readRows_209 ?_
                  refine g_iadd dX10_readRows_211 ?_
                  refine g_ishl dX10_readRows_212 ?_
                  refine g_ior dX10_readRows_213 ?_
                  refine g_pI0 lf_X10_203 ((k.S b.S).l 50 rfl) ((k.S b.S).k 50 rfl rfl) dX10_readRows_214 ?_
                  refine g_ii4 dX10_readRows_217 rfl rfl ?_
                  refine g_goto dX10_readRows_220 ?_
                  rw [nI_1]
                  exact ih (j + 1) _ _ _ a w0 (by omega) ha hw0 ((gIk (by decide)).trans ((gIk (by decide)).trans (h15))) ((gIk (by decide)).trans ((gIk (by decide)).trans (h16))) ((GQ_I _ _ (by omega)).trans ((GQ_I _ _ (by omega)).trans (k))) ((f.I _ (by omega)).I _ (by omega))
            · refine g_iL1 dX10_readRows_140 ?_
              refine g_ifeq dX10_readRows_141 (fun c141 => ?_) (fun c141 => ?_)
              · refine g_iconst dX10_readRows_155 ?_
                refine g_iS3 dX10_readRows_156 rfl rfl ?_
                refine g_iL5 dX10_readRows_157 ?_
                refine g_bipush dX10_readRows_159 ?_
                refine g_iceq dX10_readRows_161 (fun c161 => ?_) (fun c161 => ?_)
                · refine g_iL5 dX10_readRows_187 ?_
                  refine g_bipush dX10_readRows_189 ?_
                  refine g_icne dX10_readRows_191 (fun c191 => ?_) (fun c191 => ?_)
                  · refine g_ii4 dX10_readRows_217 rfl rfl ?_
                    refine g_goto dX10_readRows_220 ?_
                    rw [nI_1]
                    exact ih (j + 1) _ _ _ a w0 (by omega) ha hw0 (h15) (h16) (k) f
                  · refine g_aL0 dX10_readRows_194 ?_
                    refine g_dup dX10_readRows_195 rfl ?_
                    refine g_gI lf_X10_203 ((k.S b.S).l 50 rfl) ((k.S b.S).k 50 rfl rfl) dX10_readRows_196 ?_
                    refine g_iconst dX10_readRows_199 ?_
                    refine g_iL2 dX10_readRows_200 ?_
                    refine g_aL0 dX10_readRows_201 ?_
                    refine g_getR lf_X10_167 ((k.S b.S).l 50 rfl) ((k.S b.S).k 50 rfl rfl) (b.go k).C dX10_readRows_202 ?_
                    refine g_gI lf_X10_171 ((b.go k).M.l 0 rfl) ((b.go k).M.k 0 rfl rfl) dX10_readRows_205 ?_
                    refine g_imul dX10_readRows_208 ?_
                    refine g_iL4 dX10_readRows_209 ?_
                    refine g_iadd dX10_readRows_211 ?_
                    refine g_ishl dX10_readRows_212 ?_
                    refine g_ior dX10_readRows_213 ?_
                    refine g_pI0 lf_X10_203 ((k.S b.S).l 50 rfl) ((k.S b.S).k 50 rfl rfl) dX10_readRows_214 ?_
                    refine g_ii4 dX10_readRows_217 rfl rfl ?_
                    refine g_goto dX10_readRows_220 ?_
                    rw [nI_1]
                    exact ih (j + 1) _ _ _ a w0 (by omega) ha hw0 ((gIk (by decide)).trans (h15)) ((gIk (by decide)).trans (h16)) ((GQ_I _ _ (by omega)).trans (k)) (f.I _ (by omega))
                · refine g_aL0 dX10_readRows_164 ?_
                  refine g_dup dX10_readRows_165 rfl ?_
                  refine g_gI lf_X10_200 ((k.S b.S).l 50 rfl) ((k.S b.S).k 50 rfl rfl) dX10_readRows_166 ?_
                  refine g_iconst dX10_readRows_169 ?_
                  refine g_iL2 dX10_readRows_170 ?_
                  refine g_aL0 dX10_readRows_171 ?_
                  refine g_getR lf_X10_167 ((k.S b.S).l 50 rfl) ((k.S b.S).k 50 rfl rfl) (b.go k).C dX10_readRows_172 ?_
                  refine g_gI lf_X10_171 ((b.go k).M.l 0 rfl) ((b.go k).M.k 0 rfl rfl) dX10_readRows_175 ?_
                  refine g_imul dX10_readRows_178 ?_
                  refine g_iL4 dX10_readRows_179 ?_
                  refine g_iadd dX10_readRows_181 ?_
                  refine g_ishl dX10_readRows_182 ?_
                  refine g_ior dX10_readRows_183 ?_
                  refine g_pI0 lf_X10_200 ((k.S b.S).l 50 rfl) ((k.S b.S).k 50 rfl rfl) dX10_readRows_184 ?_
                  refine g_iL5 dX10_readRows_187 ?_
                  refine g_bipush dX10_readRows_189 ?_
                  refine g_icne dX10_readRows_191 (fun c191 => ?_) (fun c191 => ?_)
                  · refine g_ii4 dX10_readRows_217 rfl rfl ?_
                    refine g_goto dX10_readRows_220 ?_
                    rw [nI_1]
                    exact ih (j + 1) _ _ _ a w0 (by omega) ha hw0 ((gIk (by decide)).trans (h15)) ((gIk (by decide)).trans (h16)) ((GQ_I _ _ (by omega)).trans (k)) (f.I _ (by omega))
                  · refine g_aL0 dX10_readRows_194 ?_
                    refine g_dup dX10_readRows_195 rfl ?_
                    refine g_gI lf_X10_203 ((k.S b.S).l 50 rfl) ((k.S b.S).k 50 rfl rfl) dX10_readRows_196 ?_
                    refine g_iconst dX10_readRows_199 ?_
                    refine g_iL2 dX10_readRows_200 ?_
                    refine g_aL0 dX10_readRows_201 ?_
                    refine g_getR lf_X10_167 ((k.S b.S).l 50 rfl) ((k.S b.S).k 50 rfl rfl) (b.go k).C dX10_readRows_202 ?_
                    refine g_gI lf_X10_171 ((b.go k).M.l 0 rfl) ((b.go k).M.k 0 rfl rfl) dX10_readRows_205 ?_
                    refine g_imul dX10_readRows_208 ?_
                    refine g_iL4 dX10_readRows_209 ?_
                    refine g_iadd dX10_readRows_211 ?_
                    refine g_ishl dX10_readRows_212 ?_
                    refine g_ior dX10_readRows_213 ?_
                    refine g_pI0 lf_X10_203 ((k.S b.S).l 50 rfl) ((k.S b.S).k 50 rfl rfl) dX10_readRows_214 ?_
                    refine g_ii4 dX10_readRows_217 rfl rfl ?_
                    refine g_goto dX10_readRows_220 ?_
                    rw [nI_1]
                    exact ih (j + 1) _ _ _ a w0 (by omega) ha hw0 ((gIk (by decide)).trans ((gIk (by decide)).trans (h15))) ((gIk (by decide)).trans ((gIk (by decide)).trans (h16))) ((GQ_I _ _ (by omega)).trans ((GQ_I _ _ (by omega)).trans (k))) ((f.I _ (by omega)).I _ (by omega))
              · refine g_iL5 dX10_readRows_144 ?_
                refine g_bipush dX10_readRows_146 ?_
                refine g_icne dX10_readRows_148 (fun c148 => ?_) (fun c148 => ?_)
                · refine g_iconst dX10_readRows_155 ?_
                  refine g_iS3 dX10_readRows_156 rfl rfl ?_
                  refine g_iL5 dX10_readRows_157 ?_
                  refine g_bipush dX10_readRows_159 ?_
                  refine g_iceq dX10_readRows_161 (fun c161 => ?_) (fun c161 => ?_)
                  · refine g_iL5 dX10_readRows_187 ?_
                    refine g_bipush dX10_readRows_189 ?_
                    refine g_icne dX10_readRows_191 (fun c191 => ?_) (fun c191 => ?_)
                    · refine g_ii4 dX10_readRows_217 rfl rfl ?_
                      refine g_goto dX10_readRows_220 ?_
                      rw [nI_1]
                      exact ih (j + 1) _ _ _ a w0 (by omega) ha hw0 (h15) (h16) (k) f
                    · refine g_aL0 dX10_readRows_194 ?_
                      refine g_dup dX10_readRows_195 rfl ?_
                      refine g_gI lf_X10_203 ((k.S b.S).l 50 rfl) ((k.S b.S).k 50 rfl rfl) dX10_readRows_196 ?_
                      refine g_iconst dX10_readRows_199 ?_
                      refine g_iL2 dX10_readRows_200 ?_
                      refine g_aL0 dX10_readRows_201 ?_
                      refine g_getR lf_X10_167 ((k.S b.S).l 50 rfl) ((k.S b.S).k 50 rfl rfl) (b.go k).C dX10_readRows_202 ?_
                      refine g_gI lf_X10_171 ((b.go k).M.l 0 rfl) ((b.go k).M.k 0 rfl rfl) dX10_readRows_205 ?_
                      refine g_imul dX10_readRows_208 ?_
                      refine g_iL4 dX10_readRows_209 ?_
                      refine g_iadd dX10_readRows_211 ?_
                      refine g_ishl dX10_readRows_212 ?_
                      refine g_ior dX10_readRows_213 ?_
                      refine g_pI0 lf_X10_203 ((k.S b.S).l 50 rfl) ((k.S b.S).k 50 rfl rfl) dX10_readRows_214 ?_
                      refine g_ii4 dX10_readRows_217 rfl rfl ?_
                      refine g_goto dX10_readRows_220 ?_
                      rw [nI_1]
                      exact ih (j + 1) _ _ _ a w0 (by omega) ha hw0 ((gIk (by decide)).trans (h15)) ((gIk (by decide)).trans (h16)) ((GQ_I _ _ (by omega)).trans (k)) (f.I _ (by omega))
                  · refine g_aL0 dX10_readRows_164 ?_
                    refine g_dup dX10_readRows_165 rfl ?_
                    refine g_gI lf_X10_200 ((k.S b.S).l 50 rfl) ((k.S b.S).k 50 rfl rfl) dX10_readRows_166 ?_
                    refine g_iconst dX10_readRows_169 ?_
                    refine g_iL2 dX10_readRows_170 ?_
                    refine g_aL0 dX10_readRows_171 ?_
                    refine g_getR lf_X10_167 ((k.S b.S).l 50 rfl) ((k.S b.S).k 50 rfl rfl) (b.go k).C dX10_readRows_172 ?_
                    refine g_gI lf_X10_171 ((b.go k).M.l 0 rfl) ((b.go k).M.k 0 rfl rfl) dX10_readRows_175 ?_
                    refine g_imul dX10_readRows_178 ?_
                    refine g_iL4 dX10_readRows_179 ?_
                    refine g_iadd dX10_readRows_181 ?_
                    refine g_ishl dX10_readRows_182 ?_
                    refine g_ior dX10_readRows_183 ?_
                    refine g_pI0 lf_X10_200 ((k.S b.S).l 50 rfl) ((k.S b.S).k 50 rfl rfl) dX10_readRows_184 ?_
                    refine g_iL5 dX10_readRows_187 ?_
                    refine g_bipush dX10_readRows_189 ?_
                    refine g_icne dX10_readRows_191 (fun c191 => ?_) (fun c191 => ?_)
                    · refine g_ii4 dX10_readRows_217 rfl rfl ?_
                      refine g_goto dX10_readRows_220 ?_
                      rw [nI_1]
                      exact ih (j + 1) _ _ _ a w0 (by omega) ha hw0 ((gIk (by decide)).trans (h15)) ((gIk (by decide)).trans (h16)) ((GQ_I _ _ (by omega)).trans (k)) (f.I _ (by omega))
                    · refine g_aL0 dX10_readRows_194 ?_
                      refine g_dup dX10_readRows_195 rfl ?_
                      refine g_gI lf_X10_203 ((k.S b.S).l 50 rfl) ((k.S b.S).k 50 rfl rfl) dX10_readRows_196 ?_
                      refine g_iconst dX10_readRows_199 ?_
                      refine g_iL2 dX10_readRows_200 ?_
                      refine g_aL0 dX10_readRows_201 ?_
                      refine g_getR lf_X10_167 ((k.S b.S).l 50 rfl) ((k.S b.S).k 50 rfl rfl) (b.go k).C dX10_readRows_202 ?_
                      refine g_gI lf_X10_171 ((b.go k).M.l 0 rfl) ((b.go k).M.k 0 rfl rfl) dX10_readRows_205 ?_
                      refine g_imul dX10_readRows_208 ?_
                      refine g_iL4 dX10_readRows_209 ?_
                      refine g_iadd dX10_readRows_211 ?_
                      refine g_ishl dX10_readRows_212 ?_
                      refine g_ior dX10_readRows_213 ?_
                      refine g_pI0 lf_X10_203 ((k.S b.S).l 50 rfl) ((k.S b.S).k 50 rfl rfl) dX10_readRows_214 ?_
                      refine g_ii4 dX10_readRows_217 rfl rfl ?_
                      refine g_goto dX10_readRows_220 ?_
                      rw [nI_1]
                      exact ih (j + 1) _ _ _ a w0 (by omega) ha hw0 ((gIk (by decide)).trans ((gIk (by decide)).trans (h15))) ((gIk (by decide)).trans ((gIk (by decide)).trans (h16))) ((GQ_I _ _ (by omega)).trans ((GQ_I _ _ (by omega)).trans (k))) ((f.I _ (by omega)).I _ (by omega))
                · refine g_iconst dX10_readRows_151 ?_
                  refine g_goto dX10_readRows_152 ?_
                  refine g_iS3 dX10_readRows_156 rfl rfl ?_
                  refine g_iL5 dX10_readRows_157 ?_
                  refine g_bipush dX10_readRows_159 ?_
                  refine g_iceq dX10_readRows_161 (fun c161 => ?_) (fun c161 => ?_)
                  · refine g_iL5 dX10_readRows_187 ?_
                    refine g_bipush dX10_readRows_189 ?_
                    refine g_icne dX10_readRows_191 (fun c191 => ?_) (fun c191 => ?_)
                    · refine g_ii4 dX10_readRows_217 rfl rfl ?_
                      refine g_goto dX10_readRows_220 ?_
                      rw [nI_1]
                      exact ih (j + 1) _ _ _ a w0 (by omega) ha hw0 (h15) (h16) (k) f
                    · refine g_aL0 dX10_readRows_194 ?_
                      refine g_dup dX10_readRows_195 rfl ?_
                      refine g_gI lf_X10_203 ((k.S b.S).l 50 rfl) ((k.S b.S).k 50 rfl rfl) dX10_readRows_196 ?_
                      refine g_iconst dX10_readRows_199 ?_
                      refine g_iL2 dX10_readRows_200 ?_
                      refine g_aL0 dX10_readRows_201 ?_
                      refine g_getR lf_X10_167 ((k.S b.S).l 50 rfl) ((k.S b.S).k 50 rfl rfl) (b.go k).C dX10_readRows_202 ?_
                      refine g_gI lf_X10_171 ((b.go k).M.l 0 rfl) ((b.go k).M.k 0 rfl rfl) dX10_readRows_205 ?_
                      refine g_imul dX10_readRows_208 ?_
                      refine g_iL4 dX10_readRows_209 ?_
                      refine g_iadd dX10_readRows_211 ?_
                      refine g_ishl dX10_readRows_212 ?_
                      refine g_ior dX10_readRows_213 ?_
                      refine g_pI0 lf_X10_203 ((k.S b.S).l 50 rfl) ((k.S b.S).k 50 rfl rfl) dX10_readRows_214 ?_
                      refine g_ii4 dX10_readRows_217 rfl rfl ?_
                      refine g_goto dX10_readRows_220 ?_
                      rw [nI_1]
                      exact ih (j + 1) _ _ _ a w0 (by omega) ha hw0 ((gIk (by decide)).trans (h15)) ((gIk (by decide)).trans (h16)) ((GQ_I _ _ (by omega)).trans (k)) (f.I _ (by omega))
                  · refine g_aL0 dX10_readRows_164 ?_
                    refine g_dup dX10_readRows_165 rfl ?_
                    refine g_gI lf_X10_200 ((k.S b.S).l 50 rfl) ((k.S b.S).k 50 rfl rfl) dX10_readRows_166 ?_
                    refine g_iconst dX10_readRows_169 ?_
                    refine g_iL2 dX10_readRows_170 ?_
                    refine g_aL0 dX10_readRows_171 ?_
                    refine g_getR lf_X10_167 ((k.S b.S).l 50 rfl) ((k.S b.S).k 50 rfl rfl) (b.go k).C dX10_readRows_172 ?_
                    refine g_gI lf_X10_171 ((b.go k).M.l 0 rfl) ((b.go k).M.k 0 rfl rfl) dX10_readRows_175 ?_
                    refine g_imul dX10_readRows_178 ?_
                    refine g_iL4 dX10_readRows_179 ?_
                    refine g_iadd dX10_readRows_181 ?_
                    refine g_ishl dX10_readRows_182 ?_
                    refine g_ior dX10_readRows_183 ?_
                    refine g_pI0 lf_X10_200 ((k.S b.S).l 50 rfl) ((k.S b.S).k 50 rfl rfl) dX10_readRows_184 ?_
                    refine g_iL5 dX10_readRows_187 ?_
                    refine g_bipush dX10_readRows_189 ?_
                    refine g_icne dX10_readRows_191 (fun c191 => ?_) (fun c191 => ?_)
                    · refine g_ii4 dX10_readRows_217 rfl rfl ?_
                      refine g_goto dX10_readRows_220 ?_
                      rw [nI_1]
                      exact ih (j + 1) _ _ _ a w0 (by omega) ha hw0 ((gIk (by decide)).trans (h15)) ((gIk (by decide)).trans (h16)) ((GQ_I _ _ (by omega)).trans (k)) (f.I _ (by omega))
                    · refine g_aL0 dX10_readRows_194 ?_
                      refine g_dup dX10_readRows_195 rfl ?_
                      refine g_gI lf_X10_203 ((k.S b.S).l 50 rfl) ((k.S b.S).k 50 rfl rfl) dX10_readRows_196 ?_
                      refine g_iconst dX10_readRows_199 ?_
                      refine g_iL2 dX10_readRows_200 ?_
                      refine g_aL0 dX10_readRows_201 ?_
                      refine g_getR lf_X10_167 ((k.S b.S).l 50 rfl) ((k.S b.S).k 50 rfl rfl) (b.go k).C dX10_readRows_202 ?_
                      refine g_gI lf_X10_171 ((b.go k).M.l 0 rfl) ((b.go k).M.k 0 rfl rfl) dX10_readRows_205 ?_
                      refine g_imul dX10_readRows_208 ?_
                      refine g_iL4 dX10_readRows_209 ?_
                      refine g_iadd dX10_readRows_211 ?_
                      refine g_ishl dX10_readRows_212 ?_
                      refine g_ior dX10_readRows_213 ?_
                      refine g_pI0 lf_X10_203 ((k.S b.S).l 50 rfl) ((k.S b.S).k 50 rfl rfl) dX10_readRows_214 ?_
                      refine g_ii4 dX10_readRows_217 rfl rfl ?_
                      refine g_goto dX10_readRows_220 ?_
                      rw [nI_1]
                      exact ih (j + 1) _ _ _ a w0 (by omega) ha hw0 ((gIk (by decide)).trans ((gIk (by decide)).trans (h15))) ((gIk (by decide)).trans ((gIk (by decide)).trans (h16))) ((GQ_I _ _ (by omega)).trans ((GQ_I _ _ (by omega)).trans (k))) ((f.I _ (by omega)).I _ (by omega))
    obtain ⟨⟨a, ha, h15⟩, ⟨w0, hw0, h16⟩⟩ := hL
    refine g_aL0 dX10_readRows_77 ?_
    refine g_gI lf_X10_97 ((k.S b.S).l 50 rfl) ((k.S b.S).k 50 rfl rfl) dX10_readRows_78 ?_
    rw [h15]
    refine g_aL0 dX10_readRows_81 ?_
    refine g_getR lf_X10_167 ((k.S b.S).l 50 rfl) ((k.S b.S).k 50 rfl rfl) (b.go k).C dX10_readRows_82 ?_
    refine g_gI lf_X10_171 ((b.go k).M.l 0 rfl) ((b.go k).M.k 0 rfl rfl) dX10_readRows_85 ?_
    refine g_icne dX10_readRows_88 (fun c88 => ?_) (fun c88 => ?_)
    · refine g_iconst dX10_readRows_95 ?_
      refine g_iS3 dX10_readRows_96 rfl rfl ?_
      refine g_iconst dX10_readRows_97 ?_
      refine g_iS4 dX10_readRows_98 rfl rfl ?_
      exact lp a 0 g _ _ a w0 (by omega) ha hw0 h15 h16 k f
    · refine g_iconst dX10_readRows_91 ?_
      refine g_goto dX10_readRows_92 ?_
      refine g_iS3 dX10_readRows_96 rfl rfl ?_
      refine g_iconst dX10_readRows_97 ?_
      refine g_iS4 dX10_readRows_98 rfl rfl ?_
      exact lp a 0 g _ _ a w0 (by omega) ha hw0 h15 h16 k f
  have rows : ∀ (n i q : Nat) (g : Hp) (S C : Int32) (v3 v4 v5 : Value), i + n = H → oo = rsP tx en wd sh n i q S C → GQ g h → LB g → RK tx en g q → gI g 50 19 = S → gI g 50 18 = C → gY 3 0 0 yX10_readRows cX10_readRows 6 none 0 0 (fun v h' => v = none ∧ GQ h' h ∧ RSt h' oo (fun z g => RK tx en g z.1 ∧ gI g 50 19 = z.2.1 ∧ gI g 50 18 = z.2.2)) 12 [.ref 50, .int sh, .int (nI i), v3, v4, v5] [] g := by
    intro n
    induction n with
    | zero =>
      intro i q g S C v3 v4 v5 hi he k hL r h19 h18
      refine g_iL2 dX10_readRows_12 ?_
      refine g_aL0 dX10_readRows_13 ?_
      refine g_getR lf_X10_167 ((k.S b.S).l 50 rfl) ((k.S b.S).k 50 rfl rfl) (b.go k).C dX10_readRows_14 ?_
      refine g_gI lf_X10_206 ((b.go k).M.l 0 rfl) ((b.go k).M.k 0 rfl rfl) dX10_readRows_17 ?_
      rw [hH' k]
      refine g_icge dX10_readRows_20 (fun c20 => ?_) (fun c20 => absurd (nI_le (by omega) (by omega)) c20)
      exact g_vret rfl dX10_readRows_252 rfl rfl ⟨rfl, k, hL, Or.inr ⟨_, he, r, h19, h18⟩⟩
    | succ n ih =>
      intro i q g S C v3 v4 v5 hi he k hL r h19 h18
      have row : ∀ (q : Nat) (g : Hp) (v3 v4 v5 : Value), oo = rsB tx en (fun q S C => rsP tx en wd sh n (i + 1) q S C) wd sh i q S C → GQ g h → LB g → RK tx en g q → gI g 50 19 = S → gI g 50 18 = C → gY 3 0 0 yX10_readRows cX10_readRows 6 none 0 0 (fun v h' => v = none ∧ GQ h' h ∧ RSt h' oo (fun z g => RK tx en g z.1 ∧ gI g 50 19 = z.2.1 ∧ gI g 50 18 = z.2.2)) 64 [.ref 50, .int sh, .int (nI i), v3, v4, v5] [] g := by
        intro q g v3 v4 v5 he k hL r h19 h18
        have lp : tkS tx en q = 1 → nI (tkL tx en q) = wd → ∀ (n2 j : Nat) (g : Hp) (S2 C2 : Int32) (v5 : Value), j + n2 = tkL tx en q → oo = (match rwF tx (tkP tx en q) (nI i * wd) sh n2 j S2 C2 with | none => er tx en 7 q | some x => rsP tx en wd sh n (i + 1) (nx tx en q) x.1 x.2) → GQ g h → LB g → RK tx en g q → gI g 50 19 = S2 → gI g 50 18 = C2 → gY 3 0 0 yX10_readRows cX10_readRows 6 none 0 0 (fun v h' => v = none ∧ GQ h' h ∧ RSt h' oo (fun z g => RK tx en g z.1 ∧ gI g 50 19 = z.2.1 ∧ gI g 50 18 = z.2.2)) 100 [.ref 50, .int sh, .int (nI i), .int 1, .int (nI j), v5] [] g := by
          intro hs1 hlw n2
          have h8 := (tkS_1 hs1).2
          have hle := tkL_le (tx := tx) r.1 b.e2
          have he2 := b.e2
          induction n2 with
          | zero =>
            intro j g S2 C2 v5 hj he k hL r h19 h18
            have hk3 := r.2.2.2.2.2.1 hs1
            refine g_iL4 dX10_readRows_100 ?_
            refine g_aL0 dX10_readRows_102 ?_
            refine g_gI lf_X10_97 ((k.S b.S).l 50 rfl) ((k.S b.S).k 50 rfl rfl) dX10_readRows_103 ?_
            rw [hk3.2.1]
            refine g_icge dX10_readRows_106 (fun c106 => ?_) (fun c106 => absurd (nI_le (by omega) (by omega)) c106)
            refine g_iL3 dX10_readRows_223 ?_
            refine g_ifne dX10_readRows_224 (fun c224 => ?_) (fun c224 => absurd c224 (by decide))
            refine g_aL0 dX10_readRows_233 ?_
            refine r_v0u (d_goA (b.go k) hL r (by rw [hs1]; decide)) lm_X10_123 dX10_readRows_234 ((k.S b.S).l 50 rfl) ((k.S b.S).k 50 rfl rfl) rfl rfl rfl rfl (fun v h' z => z.1) (fun h1 z => ?_)
            obtain ⟨-, k1, L1, r1⟩ := z
            have k := k1.q.trans k
            have h19 := (k1.2.2.2.2.1 50 19 (by omega)).trans h19
            have h18 := (k1.2.2.2.2.1 50 18 (by omega)).trans h18
            refine g_aL0 dX10_readRows_237 ?_
            refine g_gI lf_X10_71 ((k.S b.S).l 50 rfl) ((k.S b.S).k 50 rfl rfl) dX10_readRows_238 ?_
            refine g_iconst dX10_readRows_241 ?_
            refine g_icne dX10_readRows_242 (fun c242 => ?_) (fun c242 => absurd c242 r1.n5)
            refine g_ii2 dX10_readRows_246 rfl rfl ?_
            refine g_goto dX10_readRows_249 ?_
            rw [nI_1]
            exact ih (i + 1) (nx tx en q) h1 _ _ _ _ _ (by omega) he k L1 r1 h19 h18
          | succ n2 ih2 =>
            intro j g S2 C2 v5 hj he k hL r h19 h18
            have hk3 := r.2.2.2.2.2.1 hs1
            have hlt := tk_let b.e2 r.1 hs1 j (by omega)
            have hb : baF tx en (tkP tx en q + j) = tx (tkP tx en q + j) := by
              have hin : tkP tx en q + j < en := by omega
              have hs : sAt tx en (tkP tx en q + j) = 1 := by
                rw [sA_in hin he2]
                have := (by_f (b.y (tkP tx en q + j))).1
                by_cases z : ck (tx (tkP tx en q + j)) = 1
                · exact z
                · exfalso
                  rw [if_neg z] at this
                  have h0 := in_f this
                  rw [ba_lo (b.y _) hlt.1] at h0
                  rw [show (97 : Int32).toInt = 97 from rfl, show (122 : Int32).toInt = 122 from rfl] at h0
                  omega
              exact (ba_s (p := tkP tx en q + j) b.y he2 (by omega)).2.2.2.2.2.2 (Or.inl hs)
            refine g_iL4 dX10_readRows_100 ?_
            refine g_aL0 dX10_readRows_102 ?_
            refine g_gI lf_X10_97 ((k.S b.S).l 50 rfl) ((k.S b.S).k 50 rfl rfl) dX10_readRows_103 ?_
            rw [hk3.2.1]
            refine g_icge dX10_readRows_106 (fun c106 => absurd c106 (nI_ge (by omega) (by omega))) (fun c106 => ?_)
            refine g_iL3 dX10_readRows_109 ?_
            refine g_ifeq dX10_readRows_110 (fun c110 => absurd c110 (by decide)) (fun c110 => ?_)
            refine g_aL0 dX10_readRows_113 ?_
            refine g_aL0 dX10_readRows_114 ?_
            refine g_gI lf_X10_94 ((k.S b.S).l 50 rfl) ((k.S b.S).k 50 rfl rfl) dX10_readRows_115 ?_
            rw [hk3.2.2]
            refine g_iL4 dX10_readRows_118 ?_
            refine g_iadd dX10_readRows_120 ?_
            rw [nI_add]
            refine e_v1i (d_byteAt (k.S b.S) (b.go k).x (b.go k).e b.e2 (p := tkP tx en q + j) (by omega)) lm_X10_77 dX10_readRows_121 ((k.S b.S).l 50 rfl) ((k.S b.S).k 50 rfl rfl) rfl rfl rfl rfl ?_
            refine g_iS5 dX10_readRows_124 rfl rfl ?_
            rw [hb]
            refine g_iL5 dX10_readRows_126 ?_
            refine g_bipush dX10_readRows_128 ?_
            refine g_iceq dX10_readRows_130 (fun c130 => ?_) (fun c130 => ?_)
            · refine g_iconst dX10_readRows_151 ?_
              refine g_goto dX10_readRows_152 ?_
              refine g_iS3 dX10_readRows_156 rfl rfl ?_
              refine g_iL5 dX10_readRows_157 ?_
              refine g_bipush dX10_readRows_159 ?_
              refine g_iceq dX10_readRows_161 (fun c161 => absurd (c130.symm.trans c161) (by decide)) (fun c161 => ?_)
              refine g_aL0 dX10_readRows_164 ?_
              refine g_dup dX10_readRows_165 rfl ?_
              refine g_gI lf_X10_200 ((k.S b.S).l 50 rfl) ((k.S b.S).k 50 rfl rfl) dX10_readRows_166 ?_
              rw [h18]
              refine g_iconst dX10_readRows_169 ?_
              refine g_iL2 dX10_readRows_170 ?_
              refine g_aL0 dX10_readRows_171 ?_
              refine g_getR lf_X10_167 ((k.S b.S).l 50 rfl) ((k.S b.S).k 50 rfl rfl) (b.go k).C dX10_readRows_172 ?_
              refine g_gI lf_X10_171 ((b.go k).M.l 0 rfl) ((b.go k).M.k 0 rfl rfl) dX10_readRows_175 ?_
              rw [hw' k]
              refine g_imul dX10_readRows_178 ?_
              refine g_iL4 dX10_readRows_179 ?_
              refine g_iadd dX10_readRows_181 ?_
              refine g_ishl dX10_readRows_182 ?_
              refine g_ior dX10_readRows_183 ?_
              refine g_pI0 lf_X10_200 ((k.S b.S).l 50 rfl) ((k.S b.S).k 50 rfl rfl) dX10_readRows_184 ?_
              refine g_iL5 dX10_readRows_187 ?_
              refine g_bipush dX10_readRows_189 ?_
              refine g_icne dX10_readRows_191 (fun c191 => ?_) (fun c191 => absurd (c130.symm.trans c191) (by decide))
              refine g_ii4 dX10_readRows_217 rfl rfl ?_
              refine g_goto dX10_readRows_220 ?_
              have e9 : rwF tx (tkP tx en q) (nI i * wd) sh (n2 + 1) j S2 C2 = _ := if_pos c130
              rw [e9] at he
              rw [nI_1]
              exact ih2 (j + 1) _ _ _ _ (by omega) he ((GQ_I _ _ (by omega)).trans k) (LB_I hL (by omega)) (r.I _ (by omega)) ((gIk (by decide)).trans h19) (gIs _ _ _ _)
            · refine g_iL5 dX10_readRows_133 ?_
              refine g_bipush dX10_readRows_135 ?_
              refine g_iceq dX10_readRows_137 (fun c137 => ?_) (fun c137 => ?_)
              · refine g_iconst dX10_readRows_151 ?_
                refine g_goto dX10_readRows_152 ?_
                refine g_iS3 dX10_readRows_156 rfl rfl ?_
                refine g_iL5 dX10_readRows_157 ?_
                refine g_bipush dX10_readRows_159 ?_
                refine g_iceq dX10_readRows_161 (fun c161 => absurd (c137.symm.trans c161) (by decide)) (fun c161 => ?_)
                refine g_aL0 dX10_readRows_164 ?_
                refine g_dup dX10_readRows_165 rfl ?_
                refine g_gI lf_X10_200 ((k.S b.S).l 50 rfl) ((k.S b.S).k 50 rfl rfl) dX10_readRows_166 ?_
                rw [h18]
                refine g_iconst dX10_readRows_169 ?_
                refine g_iL2 dX10_readRows_170 ?_
                refine g_aL0 dX10_readRows_171 ?_
                refine g_getR lf_X10_167 ((k.S b.S).l 50 rfl) ((k.S b.S).k 50 rfl rfl) (b.go k).C dX10_readRows_172 ?_
                refine g_gI lf_X10_171 ((b.go k).M.l 0 rfl) ((b.go k).M.k 0 rfl rfl) dX10_readRows_175 ?_
                rw [hw' k]
                refine g_imul dX10_readRows_178 ?_
                refine g_iL4 dX10_readRows_179 ?_
                refine g_iadd dX10_readRows_181 ?_
                refine g_ishl dX10_readRows_182 ?_
                refine g_ior dX10_readRows_183 ?_
                refine g_pI0 lf_X10_200 ((k.S b.S).l 50 rfl) ((k.S b.S).k 50 rfl rfl) dX10_readRows_184 ?_
                refine g_iL5 dX10_readRows_187 ?_
                refine g_bipush dX10_readRows_189 ?_
                refine g_icne dX10_readRows_191 (fun c191 => absurd c137 c191) (fun c191 => ?_)
                refine g_aL0 dX10_readRows_194 ?_
                refine g_dup dX10_readRows_195 rfl ?_
                refine g_gI lf_X10_203 ((k.S b.S).l 50 rfl) ((k.S b.S).k 50 rfl rfl) dX10_readRows_196 ?_
                rw [show gI _ 50 19 = S2 from by first | exact h19 | exact (gIk (by decide)).trans h19]
                refine g_iconst dX10_readRows_199 ?_
                refine g_iL2 dX10_readRows_200 ?_
                refine g_aL0 dX10_readRows_201 ?_
                refine g_getR lf_X10_167 ((k.S b.S).l 50 rfl) ((k.S b.S).k 50 rfl rfl) (b.go k).C dX10_readRows_202 ?_
                refine g_gI lf_X10_171 ((b.go k).M.l 0 rfl) ((b.go k).M.k 0 rfl rfl) dX10_readRows_205 ?_
                rw [show gI _ c 0 = wd from by first | exact hw' k | exact (gIq (by omega)).trans (hw' k)]
                refine g_imul dX10_readRows_208 ?_
                refine g_iL4 dX10_readRows_209 ?_
                refine g_iadd dX10_readRows_211 ?_
                refine g_ishl dX10_readRows_212 ?_
                refine g_ior dX10_readRows_213 ?_
                refine g_pI0 lf_X10_203 ((k.S b.S).l 50 rfl) ((k.S b.S).k 50 rfl rfl) dX10_readRows_214 ?_
                refine g_ii4 dX10_readRows_217 rfl rfl ?_
                refine g_goto dX10_readRows_220 ?_
                have e9 : rwF tx (tkP tx en q) (nI i * wd) sh (n2 + 1) j S2 C2 = _ := (if_neg c130).trans (if_pos c137)
                rw [e9] at he
                rw [nI_1]
                exact ih2 (j + 1) _ _ _ _ (by omega) he ((GQ_I _ _ (by omega)).trans ((GQ_I _ _ (by omega)).trans k)) (LB_I (LB_I hL (by omega)) (by omega)) ((r.I _ (by omega)).I _ (by omega)) (gIs _ _ _ _) ((gIk (by decide)).trans (gIs _ _ _ _))
              · refine g_iL1 dX10_readRows_140 ?_
                refine g_ifeq dX10_readRows_141 (fun c141 => ?_) (fun c141 => ?_)
                · refine g_iconst dX10_readRows_155 ?_
                  refine g_iS3 dX10_readRows_156 rfl rfl ?_
                  refine g_iL5 dX10_readRows_157 ?_
                  refine g_bipush dX10_readRows_159 ?_
                  refine g_iceq dX10_readRows_161 (fun c161 => ?_) (fun c161 => ?_)
                  · refine g_iL5 dX10_readRows_187 ?_
                    refine g_bipush dX10_readRows_189 ?_
                    refine g_icne dX10_readRows_191 (fun c191 => ?_) (fun c191 => absurd c191 c137)
                    refine g_ii4 dX10_readRows_217 rfl rfl ?_
                    refine g_goto dX10_readRows_220 ?_
                    have e9 : rwF tx (tkP tx en q) (nI i * wd) sh (n2 + 1) j S2 C2 = _ := (if_neg c130).trans ((if_neg c137).trans (if_pos c141))
                    rw [e9] at he
                    refine g_iL4 dX10_readRows_100 ?_
                    refine g_aL0 dX10_readRows_102 ?_
                    refine g_gI lf_X10_97 ((k.S b.S).l 50 rfl) ((k.S b.S).k 50 rfl rfl) dX10_readRows_103 ?_
                    refine g_icge dX10_readRows_106 (fun c106 => ?_) (fun c106 => ?_)
                    · refine g_iL3 dX10_readRows_223 ?_
                      refine g_ifne dX10_readRows_224 (fun c224 => absurd rfl c224) (fun c224 => ?_)
                      refine g_aL0 dX10_readRows_227 ?_
                      refine g_bipush dX10_readRows_228 ?_
                      refine e_v1u (d_flaw0 (k.S b.S) r.n5 _) lm_X10_130 dX10_readRows_230 ((k.S b.S).l 50 rfl) ((k.S b.S).k 50 rfl rfl) rfl rfl rfl rfl ?_
                      refine g_aL0 dX10_readRows_233 ?_
                      refine e_v0u (d_goesOn5 (((GQ_fw _ _ _).trans k).S b.S) (fw5 _ _ _)) lm_X10_123 dX10_readRows_234 ((((GQ_fw _ _ _).trans k).S b.S).l 50 rfl) ((((GQ_fw _ _ _).trans k).S b.S).k 50 rfl rfl) rfl rfl rfl rfl ?_
                      refine g_aL0 dX10_readRows_237 ?_
                      refine g_gI lf_X10_71 ((((GQ_fw _ _ _).trans k).S b.S).l 50 rfl) ((((GQ_fw _ _ _).trans k).S b.S).k 50 rfl rfl) dX10_readRows_238 ?_
                      refine g_iconst dX10_readRows_241 ?_
                      refine g_icne dX10_readRows_242 (fun c242 => absurd (fw5 _ _ _) c242) (fun c242 => ?_)
                      exact g_vret rfl dX10_readRows_245 rfl rfl ⟨rfl, ((GQ_fw _ _ _).trans k), LB_fw hL _ _, Or.inl ⟨(7, tkP tx en q), he, RF_fw r (by decide)⟩⟩
                    · refine g_iL3 dX10_readRows_109 ?_
                      refine g_ifeq dX10_readRows_110 (fun c110 => ?_) (fun c110 => absurd rfl c110)
                      refine g_iL3 dX10_readRows_223 ?_
                      refine g_ifne dX10_readRows_224 (fun c224 => absurd rfl c224) (fun c224 => ?_)
                      refine g_aL0 dX10_readRows_227 ?_
                      refine g_bipush dX10_readRows_228 ?_
                      refine e_v1u (d_flaw0 (k.S b.S) r.n5 _) lm_X10_130 dX10_readRows_230 ((k.S b.S).l 50 rfl) ((k.S b.S).k 50 rfl rfl) rfl rfl rfl rfl ?_
                      refine g_aL0 dX10_readRows_233 ?_
                      refine e_v0u (d_goesOn5 (((GQ_fw _ _ _).trans k).S b.S) (fw5 _ _ _)) lm_X10_123 dX10_readRows_234 ((((GQ_fw _ _ _).trans k).S b.S).l 50 rfl) ((((GQ_fw _ _ _).trans k).S b.S).k 50 rfl rfl) rfl rfl rfl rfl ?_
                      refine g_aL0 dX10_readRows_237 ?_
                      refine g_gI lf_X10_71 ((((GQ_fw _ _ _).trans k).S b.S).l 50 rfl) ((((GQ_fw _ _ _).trans k).S b.S).k 50 rfl rfl) dX10_readRows_238 ?_
                      refine g_iconst dX10_readRows_241 ?_
                      refine g_icne dX10_readRows_242 (fun c242 => absurd (fw5 _ _ _) c242) (fun c242 => ?_)
                      exact g_vret rfl dX10_readRows_245 rfl rfl ⟨rfl, ((GQ_fw _ _ _).trans k), LB_fw hL _ _, Or.inl ⟨(7, tkP tx en q), he, RF_fw r (by decide)⟩⟩
                  · refine g_aL0 dX10_readRows_164 ?_
                    refine g_dup dX10_readRows_165 rfl ?_
                    refine g_gI lf_X10_200 ((k.S b.S).l 50 rfl) ((k.S b.S).k 50 rfl rfl) dX10_readRows_166 ?_
                    rw [h18]
                    refine g_iconst dX10_readRows_169 ?_
                    refine g_iL2 dX10_readRows_170 ?_
                    refine g_aL0 dX10_readRows_171 ?_
                    refine g_getR lf_X10_167 ((k.S b.S).l 50 rfl) ((k.S b.S).k 50 rfl rfl) (b.go k).C dX10_readRows_172 ?_
                    refine g_gI lf_X10_171 ((b.go k).M.l 0 rfl) ((b.go k).M.k 0 rfl rfl) dX10_readRows_175 ?_
                    rw [hw' k]
                    refine g_imul dX10_readRows_178 ?_
                    refine g_iL4 dX10_readRows_179 ?_
                    refine g_iadd dX10_readRows_181 ?_
                    refine g_ishl dX10_readRows_182 ?_
                    refine g_ior dX10_readRows_183 ?_
                    refine g_pI0 lf_X10_200 ((k.S b.S).l 50 rfl) ((k.S b.S).k 50 rfl rfl) dX10_readRows_184 ?_
                    refine g_iL5 dX10_readRows_187 ?_
                    refine g_bipush dX10_readRows_189 ?_
                    refine g_icne dX10_readRows_191 (fun c191 => ?_) (fun c191 => absurd c191 c137)
                    refine g_ii4 dX10_readRows_217 rfl rfl ?_
                    refine g_goto dX10_readRows_220 ?_
                    have e9 : rwF tx (tkP tx en q) (nI i * wd) sh (n2 + 1) j S2 C2 = _ := (if_neg c130).trans ((if_neg c137).trans (if_pos c141))
                    rw [e9] at he
                    refine g_iL4 dX10_readRows_100 ?_
                    refine g_aL0 dX10_readRows_102 ?_
                    refine g_gI lf_X10_97 ((((GQ_I _ _ (by omega)).trans k).S b.S).l 50 rfl) ((((GQ_I _ _ (by omega)).trans k).S b.S).k 50 rfl rfl) dX10_readRows_103 ?_
                    refine g_icge dX10_readRows_106 (fun c106 => ?_) (fun c106 => ?_)
                    · refine g_iL3 dX10_readRows_223 ?_
                      refine g_ifne dX10_readRows_224 (fun c224 => absurd rfl c224) (fun c224 => ?_)
                      refine g_aL0 dX10_readRows_227 ?_
                      refine g_bipush dX10_readRows_228 ?_
                      refine e_v1u (d_flaw0 (((GQ_I _ _ (by omega)).trans k).S b.S) (r.I _ (by omega)).n5 _) lm_X10_130 dX10_readRows_230 ((((GQ_I _ _ (by omega)).trans k).S b.S).l 50 rfl) ((((GQ_I _ _ (by omega)).trans k).S b.S).k 50 rfl rfl) rfl rfl rfl rfl ?_
                      refine g_aL0 dX10_readRows_233 ?_
                      refine e_v0u (d_goesOn5 (((GQ_fw _ _ _).trans ((GQ_I _ _ (by omega)).trans k)).S b.S) (fw5 _ _ _)) lm_X10_123 dX10_readRows_234 ((((GQ_fw _ _ _).trans ((GQ_I _ _ (by omega)).trans k)).S b.S).l 50 rfl) ((((GQ_fw _ _ _).trans ((GQ_I _ _ (by omega)).trans k)).S b.S).k 50 rfl rfl) rfl rfl rfl rfl ?_
                      refine g_aL0 dX10_readRows_237 ?_
                      refine g_gI lf_X10_71 ((((GQ_fw _ _ _).trans ((GQ_I _ _ (by omega)).trans k)).S b.S).l 50 rfl) ((((GQ_fw _ _ _).trans ((GQ_I _ _ (by omega)).trans k)).S b.S).k 50 rfl rfl) dX10_readRows_238 ?_
                      refine g_iconst dX10_readRows_241 ?_
                      refine g_icne dX10_readRows_242 (fun c242 => absurd (fw5 _ _ _) c242) (fun c242 => ?_)
                      exact g_vret rfl dX10_readRows_245 rfl rfl ⟨rfl, ((GQ_fw _ _ _).trans ((GQ_I _ _ (by omega)).trans k)), LB_fw (LB_I hL (by omega)) _ _, Or.inl ⟨(7, tkP tx en q), he, RF_fw (r.I _ (by omega)) (by decide)⟩⟩
                    · refine g_iL3 dX10_readRows_109 ?_
                      refine g_ifeq dX10_readRows_110 (fun c110 => ?_) (fun c110 => absurd rfl c110)
                      refine g_iL3 dX10_readRows_223 ?_
                      refine g_ifne dX10_readRows_224 (fun c224 => absurd rfl c224) (fun c224 => ?_)
                      refine g_aL0 dX10_readRows_227 ?_
                      refine g_bipush dX10_readRows_228 ?_
                      refine e_v1u (d_flaw0 (((GQ_I _ _ (by omega)).trans k).S b.S) (r.I _ (by omega)).n5 _) lm_X10_130 dX10_readRows_230 ((((GQ_I _ _ (by omega)).trans k).S b.S).l 50 rfl) ((((GQ_I _ _ (by omega)).trans k).S b.S).k 50 rfl rfl) rfl rfl rfl rfl ?_
                      refine g_aL0 dX10_readRows_233 ?_
                      refine e_v0u (d_goesOn5 (((GQ_fw _ _ _).trans ((GQ_I _ _ (by omega)).trans k)).S b.S) (fw5 _ _ _)) lm_X10_123 dX10_readRows_234 ((((GQ_fw _ _ _).trans ((GQ_I _ _ (by omega)).trans k)).S b.S).l 50 rfl) ((((GQ_fw _ _ _).trans ((GQ_I _ _ (by omega)).trans k)).S b.S).k 50 rfl rfl) rfl rfl rfl rfl ?_
                      refine g_aL0 dX10_readRows_237 ?_
                      refine g_gI lf_X10_71 ((((GQ_fw _ _ _).trans ((GQ_I _ _ (by omega)).trans k)).S b.S).l 50 rfl) ((((GQ_fw _ _ _).trans ((GQ_I _ _ (by omega)).trans k)).S b.S).k 50 rfl rfl) dX10_readRows_238 ?_
                      refine g_iconst dX10_readRows_241 ?_
                      refine g_icne dX10_readRows_242 (fun c242 => absurd (fw5 _ _ _) c242) (fun c242 => ?_)
                      exact g_vret rfl dX10_readRows_245 rfl rfl ⟨rfl, ((GQ_fw _ _ _).trans ((GQ_I _ _ (by omega)).trans k)), LB_fw (LB_I hL (by omega)) _ _, Or.inl ⟨(7, tkP tx en q), he, RF_fw (r.I _ (by omega)) (by decide)⟩⟩
                · refine g_iL5 dX10_readRows_144 ?_
                  refine g_bipush dX10_readRows_146 ?_
                  refine g_icne dX10_readRows_148 (fun c148 => ?_) (fun c148 => ?_)
                  · refine g_iconst dX10_readRows_155 ?_
                    refine g_iS3 dX10_readRows_156 rfl rfl ?_
                    refine g_iL5 dX10_readRows_157 ?_
                    refine g_bipush dX10_readRows_159 ?_
                    refine g_iceq dX10_readRows_161 (fun c161 => absurd c161 c148) (fun c161 => ?_)
                    refine g_aL0 dX10_readRows_164 ?_
                    refine g_dup dX10_readRows_165 rfl ?_
                    refine g_gI lf_X10_200 ((k.S b.S).l 50 rfl) ((k.S b.S).k 50 rfl rfl) dX10_readRows_166 ?_
                    rw [h18]
                    refine g_iconst dX10_readRows_169 ?_
                    refine g_iL2 dX10_readRows_170 ?_
                    refine g_aL0 dX10_readRows_171 ?_
                    refine g_getR lf_X10_167 ((k.S b.S).l 50 rfl) ((k.S b.S).k 50 rfl rfl) (b.go k).C dX10_readRows_172 ?_
                    refine g_gI lf_X10_171 ((b.go k).M.l 0 rfl) ((b.go k).M.k 0 rfl rfl) dX10_readRows_175 ?_
                    rw [hw' k]
                    refine g_imul dX10_readRows_178 ?_
                    refine g_iL4 dX10_readRows_179 ?_
                    refine g_iadd dX10_readRows_181 ?_
                    refine g_ishl dX10_readRows_182 ?_
                    refine g_ior dX10_readRows_183 ?_
                    refine g_pI0 lf_X10_200 ((k.S b.S).l 50 rfl) ((k.S b.S).k 50 rfl rfl) dX10_readRows_184 ?_
                    refine g_iL5 dX10_readRows_187 ?_
                    refine g_bipush dX10_readRows_189 ?_
                    refine g_icne dX10_readRows_191 (fun c191 => ?_) (fun c191 => absurd c191 c137)
                    refine g_ii4 dX10_readRows_217 rfl rfl ?_
                    refine g_goto dX10_readRows_220 ?_
                    have e9 : rwF tx (tkP tx en q) (nI i * wd) sh (n2 + 1) j S2 C2 = _ := (if_neg c130).trans ((if_neg c137).trans ((if_neg c141).trans (if_neg c148)))
                    rw [e9] at he
                    refine g_iL4 dX10_readRows_100 ?_
                    refine g_aL0 dX10_readRows_102 ?_
                    refine g_gI lf_X10_97 ((((GQ_I _ _ (by omega)).trans k).S b.S).l 50 rfl) ((((GQ_I _ _ (by omega)).trans k).S b.S).k 50 rfl rfl) dX10_readRows_103 ?_
                    refine g_icge dX10_readRows_106 (fun c106 => ?_) (fun c106 => ?_)
                    · refine g_iL3 dX10_readRows_223 ?_
                      refine g_ifne dX10_readRows_224 (fun c224 => absurd rfl c224) (fun c224 => ?_)
                      refine g_aL0 dX10_readRows_227 ?_
                      refine g_bipush dX10_readRows_228 ?_
                      refine e_v1u (d_flaw0 (((GQ_I _ _ (by omega)).trans k).S b.S) (r.I _ (by omega)).n5 _) lm_X10_130 dX10_readRows_230 ((((GQ_I _ _ (by omega)).trans k).S b.S).l 50 rfl) ((((GQ_I _ _ (by omega)).trans k).S b.S).k 50 rfl rfl) rfl rfl rfl rfl ?_
                      refine g_aL0 dX10_readRows_233 ?_
                      refine e_v0u (d_goesOn5 (((GQ_fw _ _ _).trans ((GQ_I _ _ (by omega)).trans k)).S b.S) (fw5 _ _ _)) lm_X10_123 dX10_readRows_234 ((((GQ_fw _ _ _).trans ((GQ_I _ _ (by omega)).trans k)).S b.S).l 50 rfl) ((((GQ_fw _ _ _).trans ((GQ_I _ _ (by omega)).trans k)).S b.S).k 50 rfl rfl) rfl rfl rfl rfl ?_
                      refine g_aL0 dX10_readRows_237 ?_
                      refine g_gI lf_X10_71 ((((GQ_fw _ _ _).trans ((GQ_I _ _ (by omega)).trans k)).S b.S).l 50 rfl) ((((GQ_fw _ _ _).trans ((GQ_I _ _ (by omega)).trans k)).S b.S).k 50 rfl rfl) dX10_readRows_238 ?_
                      refine g_iconst dX10_readRows_241 ?_
                      refine g_icne dX10_readRows_242 (fun c242 => absurd (fw5 _ _ _) c242) (fun c242 => ?_)
                      exact g_vret rfl dX10_readRows_245 rfl rfl ⟨rfl, ((GQ_fw _ _ _).trans ((GQ_I _ _ (by omega)).trans k)), LB_fw (LB_I hL (by omega)) _ _, Or.inl ⟨(7, tkP tx en q), he, RF_fw (r.I _ (by omega)) (by decide)⟩⟩
                    · refine g_iL3 dX10_readRows_109 ?_
                      refine g_ifeq dX10_readRows_110 (fun c110 => ?_) (fun c110 => absurd rfl c110)
                      refine g_iL3 dX10_readRows_223 ?_
                      refine g_ifne dX10_readRows_224 (fun c224 => absurd rfl c224) (fun c224 => ?_)
                      refine g_aL0 dX10_readRows_227 ?_
                      refine g_bipush dX10_readRows_228 ?_
                      refine e_v1u (d_flaw0 (((GQ_I _ _ (by omega)).trans k).S b.S) (r.I _ (by omega)).n5 _) lm_X10_130 dX10_readRows_230 ((((GQ_I _ _ (by omega)).trans k).S b.S).l 50 rfl) ((((GQ_I _ _ (by omega)).trans k).S b.S).k 50 rfl rfl) rfl rfl rfl rfl ?_
                      refine g_aL0 dX10_readRows_233 ?_
                      refine e_v0u (d_goesOn5 (((GQ_fw _ _ _).trans ((GQ_I _ _ (by omega)).trans k)).S b.S) (fw5 _ _ _)) lm_X10_123 dX10_readRows_234 ((((GQ_fw _ _ _).trans ((GQ_I _ _ (by omega)).trans k)).S b.S).l 50 rfl) ((((GQ_fw _ _ _).trans ((GQ_I _ _ (by omega)).trans k)).S b.S).k 50 rfl rfl) rfl rfl rfl rfl ?_
                      refine g_aL0 dX10_readRows_237 ?_
                      refine g_gI lf_X10_71 ((((GQ_fw _ _ _).trans ((GQ_I _ _ (by omega)).trans k)).S b.S).l 50 rfl) ((((GQ_fw _ _ _).trans ((GQ_I _ _ (by omega)).trans k)).S b.S).k 50 rfl rfl) dX10_readRows_238 ?_
                      refine g_iconst dX10_readRows_241 ?_
                      refine g_icne dX10_readRows_242 (fun c242 => absurd (fw5 _ _ _) c242) (fun c242 => ?_)
                      exact g_vret rfl dX10_readRows_245 rfl rfl ⟨rfl, ((GQ_fw _ _ _).trans ((GQ_I _ _ (by omega)).trans k)), LB_fw (LB_I hL (by omega)) _ _, Or.inl ⟨(7, tkP tx en q), he, RF_fw (r.I _ (by omega)) (by decide)⟩⟩
                  · refine g_iconst dX10_readRows_151 ?_
                    refine g_goto dX10_readRows_152 ?_
                    refine g_iS3 dX10_readRows_156 rfl rfl ?_
                    refine g_iL5 dX10_readRows_157 ?_
                    refine g_bipush dX10_readRows_159 ?_
                    refine g_iceq dX10_readRows_161 (fun c161 => ?_) (fun c161 => absurd c148 c161)
                    refine g_iL5 dX10_readRows_187 ?_
                    refine g_bipush dX10_readRows_189 ?_
                    refine g_icne dX10_readRows_191 (fun c191 => ?_) (fun c191 => absurd c191 c137)
                    refine g_ii4 dX10_readRows_217 rfl rfl ?_
                    refine g_goto dX10_readRows_220 ?_
                    have e9 : rwF tx (tkP tx en q) (nI i * wd) sh (n2 + 1) j S2 C2 = _ := (if_neg c130).trans ((if_neg c137).trans ((if_neg c141).trans (if_pos c148)))
                    rw [e9] at he
                    rw [nI_1]
                    exact ih2 (j + 1) _ _ _ _ (by omega) he k hL r h19 h18
        refine g_aL0 dX10_readRows_64 ?_
        refine g_gI lf_X10_71 ((k.S b.S).l 50 rfl) ((k.S b.S).k 50 rfl rfl) dX10_readRows_65 ?_
        refine g_iconst dX10_readRows_68 ?_
        refine g_iceq dX10_readRows_69 (fun c69 => ?_) (fun c69 => ?_)
        · have hs1 : tkS tx en q = 1 := (rs_2 _).mp (r.2.1 ▸ c69)
          have hk3 := r.2.2.2.2.2.1 hs1
          rw [rsB, if_pos hs1] at he
          unfold rowP at he
          refine g_aL0 dX10_readRows_77 ?_
          refine g_gI lf_X10_97 ((k.S b.S).l 50 rfl) ((k.S b.S).k 50 rfl rfl) dX10_readRows_78 ?_
          rw [hk3.2.1]
          refine g_aL0 dX10_readRows_81 ?_
          refine g_getR lf_X10_167 ((k.S b.S).l 50 rfl) ((k.S b.S).k 50 rfl rfl) (b.go k).C dX10_readRows_82 ?_
          refine g_gI lf_X10_171 ((b.go k).M.l 0 rfl) ((b.go k).M.k 0 rfl rfl) dX10_readRows_85 ?_
          rw [hw' k]
          refine g_icne dX10_readRows_88 (fun c88 => ?_) (fun c88 => ?_)
          · refine g_iconst dX10_readRows_95 ?_
            refine g_iS3 dX10_readRows_96 rfl rfl ?_
            refine g_iconst dX10_readRows_97 ?_
            refine g_iS4 dX10_readRows_98 rfl rfl ?_
            rw [if_neg c88] at he
            refine g_iL4 dX10_readRows_100 ?_
            refine g_aL0 dX10_readRows_102 ?_
            refine g_gI lf_X10_97 ((k.S b.S).l 50 rfl) ((k.S b.S).k 50 rfl rfl) dX10_readRows_103 ?_
            refine g_icge dX10_readRows_106 (fun c106 => ?_) (fun c106 => ?_)
            · refine g_iL3 dX10_readRows_223 ?_
              refine g_ifne dX10_readRows_224 (fun c224 => absurd rfl c224) (fun c224 => ?_)
              refine g_aL0 dX10_readRows_227 ?_
              refine g_bipush dX10_readRows_228 ?_
              refine e_v1u (d_flaw0 (k.S b.S) r.n5 _) lm_X10_130 dX10_readRows_230 ((k.S b.S).l 50 rfl) ((k.S b.S).k 50 rfl rfl) rfl rfl rfl rfl ?_
              refine g_aL0 dX10_readRows_233 ?_
              refine e_v0u (d_goesOn5 (((GQ_fw _ _ _).trans k).S b.S) (fw5 _ _ _)) lm_X10_123 dX10_readRows_234 ((((GQ_fw _ _ _).trans k).S b.S).l 50 rfl) ((((GQ_fw _ _ _).trans k).S b.S).k 50 rfl rfl) rfl rfl rfl rfl ?_
              refine g_aL0 dX10_readRows_237 ?_
              refine g_gI lf_X10_71 ((((GQ_fw _ _ _).trans k).S b.S).l 50 rfl) ((((GQ_fw _ _ _).trans k).S b.S).k 50 rfl rfl) dX10_readRows_238 ?_
              refine g_iconst dX10_readRows_241 ?_
              refine g_icne dX10_readRows_242 (fun c242 => absurd (fw5 _ _ _) c242) (fun c242 => ?_)
              exact g_vret rfl dX10_readRows_245 rfl rfl ⟨rfl, ((GQ_fw _ _ _).trans k), LB_fw hL _ _, Or.inl ⟨(7, tkP tx en q), he, RF_fw r (by decide)⟩⟩
            · refine g_iL3 dX10_readRows_109 ?_
              refine g_ifeq dX10_readRows_110 (fun c110 => ?_) (fun c110 => absurd rfl c110)
              refine g_iL3 dX10_readRows_223 ?_
              refine g_ifne dX10_readRows_224 (fun c224 => absurd rfl c224) (fun c224 => ?_)
              refine g_aL0 dX10_readRows_227 ?_
              refine g_bipush dX10_readRows_228 ?_
              refine e_v1u (d_flaw0 (k.S b.S) r.n5 _) lm_X10_130 dX10_readRows_230 ((k.S b.S).l 50 rfl) ((k.S b.S).k 50 rfl rfl) rfl rfl rfl rfl ?_
              refine g_aL0 dX10_readRows_233 ?_
              refine e_v0u (d_goesOn5 (((GQ_fw _ _ _).trans k).S b.S) (fw5 _ _ _)) lm_X10_123 dX10_readRows_234 ((((GQ_fw _ _ _).trans k).S b.S).l 50 rfl) ((((GQ_fw _ _ _).trans k).S b.S).k 50 rfl rfl) rfl rfl rfl rfl ?_
              refine g_aL0 dX10_readRows_237 ?_
              refine g_gI lf_X10_71 ((((GQ_fw _ _ _).trans k).S b.S).l 50 rfl) ((((GQ_fw _ _ _).trans k).S b.S).k 50 rfl rfl) dX10_readRows_238 ?_
              refine g_iconst dX10_readRows_241 ?_
              refine g_icne dX10_readRows_242 (fun c242 => absurd (fw5 _ _ _) c242) (fun c242 => ?_)
              exact g_vret rfl dX10_readRows_245 rfl rfl ⟨rfl, ((GQ_fw _ _ _).trans k), LB_fw hL _ _, Or.inl ⟨(7, tkP tx en q), he, RF_fw r (by decide)⟩⟩
          · refine g_iconst dX10_readRows_91 ?_
            refine g_goto dX10_readRows_92 ?_
            refine g_iS3 dX10_readRows_96 rfl rfl ?_
            refine g_iconst dX10_readRows_97 ?_
            refine g_iS4 dX10_readRows_98 rfl rfl ?_
            rw [if_pos c88] at he
            exact lp hs1 c88 (tkL tx en q) 0 g _ _ _ (by omega) he k hL r h19 h18
        · refine g_aL0 dX10_readRows_72 ?_
          refine g_iconst dX10_readRows_73 ?_
          refine e_v1u (d_flaw0 (k.S b.S) r.n5 _) lm_X10_130 dX10_readRows_74 ((k.S b.S).l 50 rfl) ((k.S b.S).k 50 rfl rfl) rfl rfl rfl rfl ?_
          exact ft (1, tkP tx en q) _ _ _ _ _ (he.trans (if_neg (fun z => c69 (r.2.1.trans ((rs_2 _).mpr z))))) ((GQ_fw _ _ _).trans k) (LB_fw hL _ _) (RF_fw r (by decide))
      refine g_iL2 dX10_readRows_12 ?_
      refine g_aL0 dX10_readRows_13 ?_
      refine g_getR lf_X10_167 ((k.S b.S).l 50 rfl) ((k.S b.S).k 50 rfl rfl) (b.go k).C dX10_readRows_14 ?_
      refine g_gI lf_X10_206 ((b.go k).M.l 0 rfl) ((b.go k).M.k 0 rfl rfl) dX10_readRows_17 ?_
      rw [hH' k]
      refine g_icge dX10_readRows_20 (fun c20 => absurd c20 (nI_ge (by omega) (by omega))) (fun c20 => ?_)
      refine g_iL2 dX10_readRows_23 ?_
      refine g_ifle dX10_readRows_24 (fun c24 => ?_) (fun c24 => ?_)
      · have hi0 : i = 0 := by
          rcases Nat.eq_zero_or_pos i with z | z
          · exact z
          · exact absurd c24 (nI_nle z (by omega))
        rw [rsP, rcP, if_pos hi0] at he
        exact row q g _ _ _ he k hL r h19 h18
      · have hi0 : ¬ i = 0 := fun z => c24 (by rw [z]; decide)
        rw [rsP, rcP, if_neg hi0] at he
        by_cases h4 : tkS tx en q = 4
        · refine g_aL0 dX10_readRows_27 ?_
          refine g_bipush dX10_readRows_28 ?_
          refine r_v1i (d_eats1 (b.go k) hL r (x := 44) (t := 4) (Or.inr ⟨rfl, rfl⟩) h4) lm_X10_209 dX10_readRows_30 ((k.S b.S).l 50 rfl) ((k.S b.S).k 50 rfl rfl) rfl rfl rfl rfl (fun v h' z => ⟨_, z.1⟩) (fun rv h1 z => ?_)
          obtain ⟨z0, k1, L1, r1⟩ := z
          obtain rfl := Value.int.inj (Option.some.inj z0)
          rw [if_pos h4] at he
          refine g_ifne dX10_readRows_33 (fun c33 => ?_) (fun c33 => absurd c33 (by decide))
          exact row (nx tx en q) h1 _ _ _ he (k1.q.trans k) L1 r1 ((k1.2.2.2.2.1 50 19 (by omega)).trans h19) ((k1.2.2.2.2.1 50 18 (by omega)).trans h18)
        · rw [if_neg h4] at he
          refine g_aL0 dX10_readRows_27 ?_
          refine g_bipush dX10_readRows_28 ?_
          refine e_v1i (d_eats0 (b.go k) r (x := 44) (t := 4) (Or.inr ⟨rfl, rfl⟩) h4) lm_X10_209 dX10_readRows_30 ((k.S b.S).l 50 rfl) ((k.S b.S).k 50 rfl rfl) rfl rfl rfl rfl ?_
          refine g_ifne dX10_readRows_33 (fun c33 => absurd rfl c33) (fun c33 => ?_)
          refine g_aL0 dX10_readRows_36 ?_
          refine g_aL0 dX10_readRows_37 ?_
          refine g_bipush dX10_readRows_38 ?_
          refine e_v1i (d_isSign (k.S b.S) _) lm_X10_120 dX10_readRows_40 ((k.S b.S).l 50 rfl) ((k.S b.S).k 50 rfl rfl) rfl rfl rfl rfl ?_
          refine g_ifne dX10_readRows_43 (fun c43 => ?_) (fun c43 => ?_)
          · refine g_bipush dX10_readRows_54 ?_
            refine g_goto dX10_readRows_56 ?_
            refine e_v1u (d_flaw0 (k.S b.S) r.n5 _) lm_X10_130 dX10_readRows_60 ((k.S b.S).l 50 rfl) ((k.S b.S).k 50 rfl rfl) rfl rfl rfl rfl ?_
            have h3 : tkS tx en q = 3 := by
              by_cases z : tkS tx en q = 3
              · exact z
              · rw [isR_K r (Or.inl ⟨rfl, rfl⟩), if_neg z] at c43; exact absurd rfl c43
            rw [if_pos h3] at he
            exact g_vret rfl dX10_readRows_63 rfl rfl ⟨rfl, (GQ_fw _ _ _).trans k, LB_fw hL _ _, Or.inl ⟨(6, tkP tx en q), he, RF_fw r (by decide)⟩⟩
          · refine g_aL0 dX10_readRows_46 ?_
            refine g_gI lf_X10_71 ((k.S b.S).l 50 rfl) ((k.S b.S).k 50 rfl rfl) dX10_readRows_47 ?_
            refine g_iconst dX10_readRows_50 ?_
            refine g_icne dX10_readRows_51 (fun c51 => ?_) (fun c51 => ?_)
            · refine g_iconst dX10_readRows_59 ?_
              refine e_v1u (d_flaw0 (k.S b.S) r.n5 _) lm_X10_130 dX10_readRows_60 ((k.S b.S).l 50 rfl) ((k.S b.S).k 50 rfl rfl) rfl rfl rfl rfl ?_
              have h3 : ¬ tkS tx en q = 3 := fun z => by rw [isR_K r (Or.inl ⟨rfl, rfl⟩), if_pos z] at c43; exact absurd c43 (by decide)
              rw [if_neg h3] at he
              rw [if_neg (fun z => c51 (r.2.1.trans ((rs_1 _).mpr z)))] at he
              exact g_vret rfl dX10_readRows_63 rfl rfl ⟨rfl, (GQ_fw _ _ _).trans k, LB_fw hL _ _, Or.inl ⟨(1, tkP tx en q), he, RF_fw r (by decide)⟩⟩
            · refine g_bipush dX10_readRows_54 ?_
              refine g_goto dX10_readRows_56 ?_
              refine e_v1u (d_flaw0 (k.S b.S) r.n5 _) lm_X10_130 dX10_readRows_60 ((k.S b.S).l 50 rfl) ((k.S b.S).k 50 rfl rfl) rfl rfl rfl rfl ?_
              have h3 : ¬ tkS tx en q = 3 := fun z => by rw [isR_K r (Or.inl ⟨rfl, rfl⟩), if_pos z] at c43; exact absurd c43 (by decide)
              rw [if_neg h3] at he
              rw [if_pos ((rs_1 _).mp (r.2.1 ▸ c51))] at he
              exact g_vret rfl dX10_readRows_63 rfl rfl ⟨rfl, (GQ_fw _ _ _).trans k, LB_fw hL _ _, Or.inl ⟨(6, tkP tx en q), he, RF_fw r (by decide)⟩⟩
  rcases s with ⟨hL, ⟨e, rfl, f⟩ | ⟨q, rfl, r⟩⟩
  · have k : GQ (pI (pI h 50 18 0) 50 19 0) h := (GQ_I _ _ (by omega)).trans (GQ_I _ _ (by omega))
    have hL2 : LB (pI (pI h 50 18 0) 50 19 0) := LB_I (LB_I hL (by omega)) (by omega)
    have f2 : RF (pI (pI h 50 18 0) 50 19 0) e := (f.I _ (by omega)).I _ (by omega)
    refine g_entry (lv := [.ref 50, .int sh, .retAddr 0, .retAddr 0, .retAddr 0, .retAddr 0]) 4 pn_X10 rfl rfl rfl ?_
    refine g_aL0 dX10_readRows_0 ?_
    refine g_iconst dX10_readRows_1 ?_
    refine g_pI0 lf_X10_200 (b.S.l 50 rfl) (b.S.k 50 rfl rfl) dX10_readRows_2 ?_
    refine g_aL0 dX10_readRows_5 ?_
    refine g_iconst dX10_readRows_6 ?_
    refine g_pI0 lf_X10_203 (b.S.l 50 rfl) (b.S.k 50 rfl rfl) dX10_readRows_7 ?_
    refine g_iconst dX10_readRows_10 ?_
    refine g_iS2 dX10_readRows_11 rfl rfl ?_
    refine g_iL2 dX10_readRows_12 ?_
    refine g_aL0 dX10_readRows_13 ?_
    refine g_getR lf_X10_167 ((k.S b.S).l 50 rfl) ((k.S b.S).k 50 rfl rfl) (b.go k).C dX10_readRows_14 ?_
    refine g_gI lf_X10_206 ((b.go k).M.l 0 rfl) ((b.go k).M.k 0 rfl rfl) dX10_readRows_17 ?_
    rw [hH' k]
    refine g_icge dX10_readRows_20 (fun c20 => ?_) (fun c20 => ?_)
    · exact g_vret rfl dX10_readRows_252 rfl rfl ⟨rfl, k, hL2, Or.inl ⟨e, hoo.symm, f2⟩⟩
    · refine g_iL2 dX10_readRows_23 ?_
      refine g_ifle dX10_readRows_24 (fun c24 => ?_) (fun c24 => absurd (by decide) c24)
      refine g_aL0 dX10_readRows_64 ?_
      refine g_gI lf_X10_71 ((k.S b.S).l 50 rfl) ((k.S b.S).k 50 rfl rfl) dX10_readRows_65 ?_
      refine g_iconst dX10_readRows_68 ?_
      refine g_iceq dX10_readRows_69 (fun c69 => absurd (f2.1.symm.trans c69) (by decide)) (fun c69 => ?_)
      refine g_aL0 dX10_readRows_72 ?_
      refine g_iconst dX10_readRows_73 ?_
      refine e_v1u (d_flaw5 (k.S b.S) f2.1 _) lm_X10_130 dX10_readRows_74 ((k.S b.S).l 50 rfl) ((k.S b.S).k 50 rfl rfl) rfl rfl rfl rfl ?_
      exact ft e _ _ _ _ _ hoo.symm k hL2 f2
  · have k : GQ (pI (pI h 50 18 0) 50 19 0) h := (GQ_I _ _ (by omega)).trans (GQ_I _ _ (by omega))
    refine g_entry (lv := [.ref 50, .int sh, .retAddr 0, .retAddr 0, .retAddr 0, .retAddr 0]) 4 pn_X10 rfl rfl rfl ?_
    refine g_aL0 dX10_readRows_0 ?_
    refine g_iconst dX10_readRows_1 ?_
    refine g_pI0 lf_X10_200 (b.S.l 50 rfl) (b.S.k 50 rfl rfl) dX10_readRows_2 ?_
    refine g_aL0 dX10_readRows_5 ?_
    refine g_iconst dX10_readRows_6 ?_
    refine g_pI0 lf_X10_203 (b.S.l 50 rfl) (b.S.k 50 rfl rfl) dX10_readRows_7 ?_
    refine g_iconst dX10_readRows_10 ?_
    refine g_iS2 dX10_readRows_11 rfl rfl ?_
    exact rows H 0 q _ 0 0 _ _ _ (by omega) hoo.symm k (LB_I (LB_I hL (by omega)) (by omega)) ((r.I _ (by omega)).I _ (by omega)) (gIs _ _ _ _) ((gIk (by decide)).trans (gIs _ _ _ _))

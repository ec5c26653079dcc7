/-! THE REFERENCE'S PARSER: streets, thieves, letters, shards, shelf, city -/
theorem kn_mem {tx : Nat → Int32} {en q : Nat} {K : List Nm} {so v : Int32} (h : knP tx en q K so = .ok v) : tkS tx en q = 1 ∧ ∃ x ∈ K, x.2.1 = so ∧ x.2.2 = v := by
  have key : ∀ (K : List Nm) (ky : Int64) (p : Int32 × Int32), fdP ky K = some p → ∃ x ∈ K, x.2 = p := by
    intro K ky p
    induction K with
    | nil => intro z; cases z
    | cons y K ih =>
      intro z
      rw [fdP] at z
      by_cases u : lg_cmp y.1 ky = 0
      · rw [if_pos u] at z; cases z; exact ⟨y, List.mem_cons_self .., rfl⟩
      · rw [if_neg u] at z
        obtain ⟨x, hx, e⟩ := ih z
        exact ⟨x, List.mem_cons_of_mem _ hx, e⟩
  unfold knP at h
  by_cases a : tkS tx en q = 1
  · rw [if_pos a] at h
    by_cases y : lsF tx en q = -1
    · rw [if_pos y] at h
      cases hf : fdP (kyP tx en q) K with
      | none => rw [hf] at h; cases h
      | some p =>
        rw [hf] at h
        have h : (if p.1 = so then Except.ok p.2 else er tx en 2 q) = Except.ok v := h
        by_cases u : p.1 = so
        · rw [if_pos u] at h
          obtain ⟨x, hx, e⟩ := key K _ p hf
          cases h
          exact ⟨a, x, hx, by rw [e]; exact u, by rw [e]⟩
        · rw [if_neg u] at h; cases h
    · rw [if_neg y] at h; cases h
  · rw [if_neg a] at h; cases h
theorem RSt.map {α β : Type} {h : Hp} {o : Ex α} {R : α → Hp → Prop} {R' : β → Hp → Prop} (s : RSt h o R) (F : α → β) (hF : ∀ a, R a h → R' (F a) h) : RSt h (o.bind fun a => .ok (F a)) R' := ⟨s.1, s.2.imp (fun ⟨e, z, f⟩ => ⟨e, by rw [z]; rfl, f⟩) (fun ⟨a, z, f⟩ => ⟨F a, by rw [z]; rfl, hF a f⟩)⟩
def osP (tx : Nat → Int32) (en : Nat) (C : CT) (q : Nat) : Ex Nat := if (0 : Int32) = 1 then er tx en 5 q else if C 0 1 = 0 then er tx en 6 q else .ok (nx tx en q)
theorem os_eq {tx : Nat → Int32} {en : Nat} {C : CT} {q : Nat} : osP tx en C q = if C 0 1 = 0 then er tx en 6 q else .ok (nx tx en q) := if_neg (by decide)
theorem r_readStreet {tx : Nat → Int32} {en : Nat} {h : Hp} {c : Nat} {K : List Nm} (b : RB tx en h c K) {C : CT} (d : RD h c C) (wi : WI C K (nnC C)) (hL : LB h) {q : Nat} (r : RK tx en h q) (ht : tkS tx en q = 1) : gC 9 0 0 yX10_readStreet cX10_readStreet 5 none [.ref 50] h (LM tx en h c (lxB tx en C q 5 12 (fun q => strP tx en C q K))) := by
  have hc6 := b.M.1
  have hu := wi.2.1
  generalize hoo : (lxB tx en C q 5 12 (fun q => strP tx en C q K)) = oo
  refine g_entry (lv := [.ref 50, .retAddr 0, .retAddr 0, .retAddr 0, .retAddr 0]) 4 pn_X10 rfl rfl rfl ?_
  have rest : ∀ (g : Hp) (o4 : Ex Nat) (xa xb : Int32), GQ g h → RSt g o4 (RKs tx en) → (∀ q2, o4 = .ok q2 → ¬ tkS tx en q2 = 5 ∧ ¬ C 1 5 = 12 ∧ ∃ A B, A < 7 ∧ B < 7 ∧ xa = nI A ∧ xb = nI B) → oo = o4.bind (fun q2 => Except.bind ((nwP tx en (nx tx en q2) 1 99).bind fun m => (fxP tx en m.2 17).bind fun q4 => (nwP tx en q4 0 50).bind fun r => .ok (r.2, (u2 (u2 (u2 (u2 C 7 (pn xa * 7 + pn xb) m.1) 7 (pn xb * 7 + pn xa) m.1) 8 (pn xa * 7 + pn xb) r.1) 8 (pn xb * 7 + pn xa) r.1), K)) (cuP 5)) → gY 9 0 0 yX10_readStreet cX10_readStreet 5 none 0 0 (LM tx en h c oo) 60 [.ref 50, .int xa, .int xb, .retAddr 0, .retAddr 0] [] g := by
    intro g o4 xa xb k4 s4 hq4 ho
    have b4 := b.go k4
    have d4 := RC.go d hc6 k4
    refine g_aL0 dX10_readStreet_60 ?_
    refine r_v0u (r_goesOn b4 s4 (fun q' z => (hq4 q' z).1)) lm_X10_123 dX10_readStreet_61 (b4.S.l 50 rfl) (b4.S.k 50 rfl rfl) rfl rfl rfl rfl (fun v h' z => z.1) (fun h1 z => ?_)
    obtain ⟨-, k5, s5⟩ := z
    have b5 := b4.go k5
    have d5 := RC.go d4 hc6 k5
    refine g_aL0 dX10_readStreet_64 ?_
    refine g_iconst dX10_readStreet_65 ?_
    refine g_bipush dX10_readStreet_66 ?_
    refine r_v2i (r_readWhole b5 s5 1 99) lm_X10_142 dX10_readStreet_68 (b5.S.l 50 rfl) (b5.S.k 50 rfl rfl) rfl rfl rfl rfl (fun v h' z => ⟨_, z.choose_spec.1⟩) (fun xm h1 z => ?_)
    obtain ⟨xw, z0, k6, s6⟩ := z
    obtain rfl := Value.int.inj (Option.some.inj z0)
    have b6 := b5.go k6
    have d6 := RC.go d5 hc6 k6
    have s6' := s6.map (R' := RKs tx en) (fun y => y.2) (fun a f => f.1)
    refine g_iS3 dX10_readStreet_71 rfl rfl ?_
    refine g_aL0 dX10_readStreet_72 ?_
    refine g_ldcSw (tx := "breaks") (n := 35) (x := 36) (List.mem_of_getElem? (i := 35) rfl) (by decide) dX10_readStreet_73 ?_
    refine g_iconst dX10_readStreet_76 ?_
    refine g_bipush dX10_readStreet_77 ?_
    refine r_v3i (r_readPart b6 s6' (k := 35) (k0 := 17) (by decide) (by decide) rfl 0 50) lm_X10_252 dX10_readStreet_79 (b6.S.l 50 rfl) (b6.S.k 50 rfl rfl) rfl rfl rfl rfl (fun v h' z => ⟨_, z.choose_spec.1⟩) (fun xr h1 z => ?_)
    obtain ⟨xw, z0, k7, s7⟩ := z
    obtain rfl := Value.int.inj (Option.some.inj z0)
    have b7 := b6.go k7
    have d7 := RC.go d6 hc6 k7
    refine g_iS4 dX10_readStreet_82 rfl rfl ?_
    rcases s7.2 with ⟨e, z, f⟩ | ⟨y, z, f⟩
    · have ho : oo = .error e := by
        rw [ho]
        cases o4 with
        | error e4 => cases z; rfl
        | ok q2 =>
          rw [eb_ok, eb_ok] at z
          show Except.bind (Except.bind (nwP tx en (nx tx en q2) 1 99) _) _ = _
          cases h9 : nwP tx en (nx tx en q2) 1 99 with
          | error e5 => rw [h9] at z; cases z; rfl
          | ok m =>
            rw [h9, eb_ok, eb_ok] at z
            show Except.bind (Except.bind (fxP tx en m.2 17) _) _ = _
            cases h8 : fxP tx en m.2 17 with
            | error e6 => rw [h8] at z; cases z; rfl
            | ok q4 =>
              rw [h8, eb_ok] at z
              show Except.bind (Except.bind (nwP tx en q4 0 50) _) _ = _
              rw [z]; rfl
      refine g_aL0 dX10_readStreet_84 ?_
      refine g_gI lf_X10_71 (b7.S.l 50 rfl) (b7.S.k 50 rfl rfl) dX10_readStreet_85 ?_
      refine g_iconst dX10_readStreet_88 ?_
      refine g_icne dX10_readStreet_89 (fun c89 => absurd f.1 c89) (fun c89 => ?_)
      exact g_vret rfl dX10_readStreet_92 rfl rfl ⟨rfl, (k7.trans (k6.trans (k5.trans k4))).p c, s7.1, Or.inl ⟨e, ho, f⟩⟩
    · cases o4 with
      | error e4 => cases z
      | ok q2 =>
        obtain ⟨-, hn8, A, B, hA, hB, rfl, rfl⟩ := hq4 q2 rfl
        obtain ⟨r7, rfl⟩ := f
        have hnl := wi.lt (k := 5) (m := 12) (by decide) hn8 (by omega)
        have ck := wi.c (k := 5) (by decide)
        generalize hnn : nnC C 5 = n at hnl ck
        have hxm : ∀ m, nwP tx en (nx tx en q2) 1 99 = .ok m → xm = m.1 := by
          intro m hm
          rcases s6.2 with ⟨e3, z3, _⟩ | ⟨a3, z3, f3⟩
          · rw [eb_ok, eb_ok, hm] at z3; cases z3
          · rw [eb_ok, eb_ok, hm] at z3; cases z3; exact f3.2
        have pA := pn_nI (n := A) (by omega)
        have pB := pn_nI (n := B) (by omega)
        have ho : oo = .ok (y.2, u2 (u2 (u2 (u2 (u2 C 7 (pn (nI A) * 7 + pn (nI B)) xm) 7 (pn (nI B) * 7 + pn (nI A)) xm) 8 (pn (nI A) * 7 + pn (nI B)) y.1) 8 (pn (nI B) * 7 + pn (nI A)) y.1) 1 5 ((u2 (u2 (u2 (u2 C 7 (pn (nI A) * 7 + pn (nI B)) xm) 7 (pn (nI B) * 7 + pn (nI A)) xm) 8 (pn (nI A) * 7 + pn (nI B)) y.1) 8 (pn (nI B) * 7 + pn (nI A)) y.1) 1 5 + 1), K) := by
          rw [ho]
          rw [eb_ok, eb_ok] at z
          show Except.bind (Except.bind (nwP tx en (nx tx en q2) 1 99) _) _ = _
          cases h9 : nwP tx en (nx tx en q2) 1 99 with
          | error e5 => rw [h9] at z; cases z
          | ok m =>
            rw [hxm m h9]
            rw [h9, eb_ok, eb_ok] at z
            show Except.bind (Except.bind (fxP tx en m.2 17) _) _ = _
            cases h8 : fxP tx en m.2 17 with
            | error e6 => rw [h8] at z; cases z
            | ok q4 =>
              rw [h8, eb_ok] at z
              show Except.bind (Except.bind (nwP tx en q4 0 50) _) _ = _
              rw [z]; rfl
        rw [pA, pB] at ho
        refine g_aL0 dX10_readStreet_84 ?_
        refine g_gI lf_X10_71 (b7.S.l 50 rfl) (b7.S.k 50 rfl rfl) dX10_readStreet_85 ?_
        refine g_iconst dX10_readStreet_88 ?_
        refine g_icne dX10_readStreet_89 (fun c89 => ?_) (fun c89 => absurd c89 r7.n5)
        refine g_aL0 dX10_readStreet_93 ?_
        refine g_getR lf_X10_167 (b7.S.l 50 rfl) (b7.S.k 50 rfl rfl) b7.C dX10_readStreet_94 ?_
        refine g_getRn lf_X10_312 (b7.M.l 0 rfl) (b7.M.k 0 rfl rfl) (b7.M.r 20 (j := 6) rfl) dX10_readStreet_97 ?_
        refine g_bipush dX10_readStreet_100 ?_
        refine g_iL1 dX10_readStreet_102 ?_
        refine g_imul dX10_readStreet_103 ?_
        refine g_iL2 dX10_readStreet_104 ?_
        refine g_iadd dX10_readStreet_105 ?_
        rw [show (7 : Int32) * nI A = nI (7 * A) from pk_mul 7 A, nI_add, show 7 * A + B = A * 7 + B by omega]
        refine g_iL3 dX10_readStreet_106 ?_
        refine g_iastoreN (b7.M.l 6 rfl) (b7.M.k 6 rfl rfl) (b7.M.n 6 (n := 49) rfl rfl) (by omega) (by decide) dX10_readStreet_107 ?_
        refine g_aL0 dX10_readStreet_108 ?_
        refine g_getR lf_X10_167 (b7.S.l 50 rfl) (b7.S.k 50 rfl rfl) b7.C dX10_readStreet_109 ?_
        refine g_getRn lf_X10_312 (b7.M.l 0 rfl) (b7.M.k 0 rfl rfl) (b7.M.r 20 (j := 6) rfl) dX10_readStreet_112 ?_
        refine g_bipush dX10_readStreet_115 ?_
        refine g_iL2 dX10_readStreet_117 ?_
        refine g_imul dX10_readStreet_118 ?_
        refine g_iL1 dX10_readStreet_119 ?_
        refine g_iadd dX10_readStreet_120 ?_
        rw [show (7 : Int32) * nI B = nI (7 * B) from pk_mul 7 B, nI_add, show 7 * B + A = B * 7 + A by omega]
        refine g_iL3 dX10_readStreet_121 ?_
        refine g_iastoreN (b7.M.l 6 rfl) (b7.M.k 6 rfl rfl) (b7.M.n 6 (n := 49) rfl rfl) (by omega) (by decide) dX10_readStreet_122 ?_
        refine g_aL0 dX10_readStreet_123 ?_
        refine g_getR lf_X10_167 (b7.S.l 50 rfl) (b7.S.k 50 rfl rfl) b7.C dX10_readStreet_124 ?_
        refine g_getRn lf_X10_317 (b7.M.l 0 rfl) (b7.M.k 0 rfl rfl) (b7.M.r 21 (j := 7) rfl) dX10_readStreet_127 ?_
        refine g_bipush dX10_readStreet_130 ?_
        refine g_iL1 dX10_readStreet_132 ?_
        refine g_imul dX10_readStreet_133 ?_
        refine g_iL2 dX10_readStreet_134 ?_
        refine g_iadd dX10_readStreet_135 ?_
        rw [show (7 : Int32) * nI A = nI (7 * A) from pk_mul 7 A, nI_add, show 7 * A + B = A * 7 + B by omega]
        refine g_iL4 dX10_readStreet_136 ?_
        refine g_iastoreN (b7.M.l 7 rfl) (b7.M.k 7 rfl rfl) (b7.M.n 7 (n := 49) rfl rfl) (by omega) (by decide) dX10_readStreet_138 ?_
        refine g_aL0 dX10_readStreet_139 ?_
        refine g_getR lf_X10_167 (b7.S.l 50 rfl) (b7.S.k 50 rfl rfl) b7.C dX10_readStreet_140 ?_
        refine g_getRn lf_X10_317 (b7.M.l 0 rfl) (b7.M.k 0 rfl rfl) (b7.M.r 21 (j := 7) rfl) dX10_readStreet_143 ?_
        refine g_bipush dX10_readStreet_146 ?_
        refine g_iL2 dX10_readStreet_148 ?_
        refine g_imul dX10_readStreet_149 ?_
        refine g_iL1 dX10_readStreet_150 ?_
        refine g_iadd dX10_readStreet_151 ?_
        rw [show (7 : Int32) * nI B = nI (7 * B) from pk_mul 7 B, nI_add, show 7 * B + A = B * 7 + A by omega]
        refine g_iL4 dX10_readStreet_152 ?_
        refine g_iastoreN (b7.M.l 7 rfl) (b7.M.k 7 rfl rfl) (b7.M.n 7 (n := 49) rfl rfl) (by omega) (by decide) dX10_readStreet_154 ?_
        refine g_aL0 dX10_readStreet_155 ?_
        refine g_getR lf_X10_167 (b7.S.l 50 rfl) (b7.S.k 50 rfl rfl) b7.C dX10_readStreet_156 ?_
        refine g_dup dX10_readStreet_159 rfl ?_
        refine g_gI lf_X10_309 (b7.M.l 0 rfl) (b7.M.k 0 rfl rfl) dX10_readStreet_160 ?_
        rw [show gI (pI (pI (pI (pI h1 (c + 6) (A * 7 + B) xm) (c + 6) (B * 7 + A) xm) (c + 7) (A * 7 + B) y.1) (c + 7) (B * 7 + A) y.1) c 8 = C 1 5 from (gIq (by omega)).trans ((gIq (by omega)).trans ((gIq (by omega)).trans ((gIq (by omega)).trans (d7.1 8 (by decide)))))]
        refine g_iconst dX10_readStreet_163 ?_
        refine g_iadd dX10_readStreet_164 ?_
        refine g_pI1 lf_X10_309 (b7.M.l 0 rfl) (b7.M.k 0 rfl rfl) dX10_readStreet_165 ?_
        have hI : ∀ j, gI (pI (pI (pI (pI (pI h1 (c + 6) (A * 7 + B) xm) (c + 6) (B * 7 + A) xm) (c + 7) (A * 7 + B) y.1) (c + 7) (B * 7 + A) y.1) c 8 (C 1 5 + 1)) 50 j = gI h1 50 j := fun j => (gIq (by omega)).trans ((gIq (by omega)).trans ((gIq (by omega)).trans ((gIq (by omega)).trans ((gIq (by omega)).trans ((fun j => rfl) j)))))
        refine g_vret rfl dX10_readStreet_168 rfl rfl ⟨rfl, (PG_0 _ _).trans ((PG_I _ _ (by omega)).trans ((PG_I _ _ (by omega)).trans ((PG_I _ _ (by omega)).trans ((PG_I _ _ (by omega)).trans ((k7.trans (k6.trans (k5.trans k4))).p c))))), s7.1.o hI, Or.inr ⟨_, ho, r7.o hI rfl, (((((b7.pI (a := 6) _ (by decide) (by omega)).pI (a := 6) _ (by decide) (by omega)).pI (a := 7) _ (by decide) (by omega)).pI (a := 7) _ (by decide) (by omega)).pI (a := 0) _ (by decide) (by decide)), ?_⟩⟩
        exact RCx.w (RCx.cnt (RCx.put (RCx.put (RCx.put (RCx.put d7 (a0 := 6) (by decide) (A * 7 + B) xm) (a0 := 6) (by decide) (B * 7 + A) xm) (a0 := 7) (by decide) (A * 7 + B) y.1) (a0 := 7) (by decide) (B * 7 + A) y.1) (f0 := 8) (by decide) (C 1 5 + 1)) (lv' := lvF (nnC (u2 (u2 (u2 (u2 (u2 C 7 (A * 7 + B) xm) 7 (B * 7 + A) xm) 8 (A * 7 + B) y.1) 8 (B * 7 + A) y.1) 1 5 (u2 (u2 (u2 (u2 C 7 (A * 7 + B) xm) 7 (B * 7 + A) xm) 8 (A * 7 + B) y.1) 8 (B * 7 + A) y.1 1 5 + 1)))) (fun a' j h1 h2 h3 => by
          rw [nn_up (C := C) ck (by omega) (fun j => by first | rfl | (simp only [u2_na _ _ _ (show ¬ (1 : Nat) = 2 by decide), u2_na _ _ _ (show ¬ (1 : Nat) = 3 by decide), u2_na _ _ _ (show ¬ (1 : Nat) = 6 by decide), u2_na _ _ _ (show ¬ (1 : Nat) = 7 by decide), u2_na _ _ _ (show ¬ (1 : Nat) = 8 by decide), u2_na _ _ _ (show ¬ (1 : Nat) = 9 by decide), u2_na _ _ _ (show ¬ (1 : Nat) = 10 by decide), u2_na _ _ _ (show ¬ (1 : Nat) = 11 by decide), u2_na _ _ _ (show ¬ (1 : Nat) = 12 by decide), u2_na _ _ _ (show ¬ (1 : Nat) = 13 by decide), u2_na _ _ _ (show ¬ (1 : Nat) = 14 by decide)]))] at h3
          rcases lv_up a' j h3 with z5 | z5
          · exact (Or.inl (Or.inl (Or.inl (Or.inl z5))))
          · exact absurd z5.1 (gp_no5 ⟨a', by omega⟩))
  refine g_aL0 dX10_readStreet_0 ?_
  refine g_aL0 dX10_readStreet_1 ?_
  refine g_getR lf_X10_167 (b.S.l 50 rfl) (b.S.k 50 rfl rfl) b.C dX10_readStreet_2 ?_
  refine g_gI lf_X10_309 (b.M.l 0 rfl) (b.M.k 0 rfl rfl) dX10_readStreet_5 ?_
  rw [show gI h c 8 = C 1 5 from d.1 8 (by decide)]
  refine g_bipush dX10_readStreet_8 ?_
  refine r_v2u (r_begins b (o := (.ok q)) ⟨hL, Or.inr ⟨q, rfl, r⟩⟩ (fun q' z => by cases z; rw [ht]; decide) (wd := C 0 1) (d.1 0 (by decide)) (C 1 5) 12) lm_X10_265 dX10_readStreet_10 (b.S.l 50 rfl) (b.S.k 50 rfl rfl) rfl rfl rfl rfl (fun v h' z => z.1) (fun h1 z => ?_)
  obtain ⟨-, k1, s1⟩ := z
  have b1 := b.go k1
  have d1 := RC.go d hc6 k1
  replace s1 : RSt h1 (o1P tx en C q 5 12) (RKs tx en) := s1
  refine g_aL0 dX10_readStreet_13 ?_
  refine g_iconst dX10_readStreet_14 ?_
  rw [show (3 : Int32) = nsM 4 from by decide]
  refine r_v1i (r_readKnown b1 s1 (so := 4) (by decide)) lm_X10_303 dX10_readStreet_15 (b1.S.l 50 rfl) (b1.S.k 50 rfl rfl) rfl rfl rfl rfl (fun v h' z => ⟨_, z.choose_spec.1⟩) (fun xa h1 z => ?_)
  obtain ⟨xw, z0, k2, s2⟩ := z
  obtain rfl := Value.int.inj (Option.some.inj z0)
  have b2 := b1.go k2
  have d2 := RC.go d1 hc6 k2
  have s2' := s2.map (R' := RKs tx en) (fun y => y.2) (fun a f => f.1)
  refine g_iS1 dX10_readStreet_18 rfl rfl ?_
  refine g_aL0 dX10_readStreet_19 ?_
  refine g_iconst dX10_readStreet_20 ?_
  rw [show (3 : Int32) = nsM 4 from by decide]
  refine r_v1i (r_knownOne b2 s2' (so := 4) (by decide)) lm_X10_197 dX10_readStreet_21 (b2.S.l 50 rfl) (b2.S.k 50 rfl rfl) rfl rfl rfl rfl (fun v h' z => ⟨_, z.choose_spec.1⟩) (fun xb h1 z => ?_)
  obtain ⟨xw, z0, k3, s3⟩ := z
  obtain rfl := Value.int.inj (Option.some.inj z0)
  have b3 := b2.go k3
  have d3 := RC.go d2 hc6 k3
  refine g_iS2 dX10_readStreet_24 rfl rfl ?_
  have hoo2 : oo = Except.bind (o1P tx en C q 5 12) (fun q => Except.bind (strP tx en C q K) (cuP 5)) := hoo.symm
  rcases s3.2 with ⟨e, z, f⟩ | ⟨y, z, f⟩
  · have ho : oo = .error e := by
      rw [hoo2]
      cases h1 : o1P tx en C q 5 12 with
      | error e1 => rw [h1] at z; cases z; rfl
      | ok q1 =>
        rw [h1, eb_ok] at z
        show Except.bind (Except.bind (knP tx en q1 K 4) _) _ = _
        cases h2 : knP tx en q1 K 4 with
        | error e2 => rw [h2] at z; cases z; rfl
        | ok a =>
          rw [h2, eb_ok, eb_ok] at z
          show Except.bind (Except.bind (knP tx en (nx tx en q1) K 4) _) _ = _
          cases h3 : knP tx en (nx tx en q1) K 4 with
          | error e3 => rw [eb_ok, h3] at z; cases z; rfl
          | ok b => rw [eb_ok, h3] at z; cases z
    refine g_aL0 dX10_readStreet_25 ?_
    refine g_gI lf_X10_71 (b3.S.l 50 rfl) (b3.S.k 50 rfl rfl) dX10_readStreet_26 ?_
    refine g_iconst dX10_readStreet_29 ?_
    refine g_iceq dX10_readStreet_30 (fun c30 => ?_) (fun c30 => absurd f.1 c30)
    exact rest _ (.error e) _ _ (k3.trans (k2.trans k1)) ⟨s3.1, Or.inl ⟨e, rfl, f⟩⟩ (fun q2 z => by cases z) ho
  · obtain ⟨r3, rfl⟩ := f
    cases h1' : o1P tx en C q 5 12 with
    | error e1 => rw [h1'] at z; cases z
    | ok q1 =>
      obtain ⟨hn8, hw0, -⟩ := o1_ok h1'
      rw [h1', eb_ok] at hoo2
      rw [h1', eb_ok] at z
      replace hoo2 : oo = Except.bind (Except.bind (knP tx en q1 K 4) _) _ := hoo2
      cases h2' : knP tx en q1 K 4 with
      | error e2 => rw [h2'] at z; cases z
      | ok a =>
        rw [h2', eb_ok, eb_ok] at z
        rw [h2', eb_ok] at hoo2
        replace hoo2 : oo = Except.bind (Except.bind (knP tx en (nx tx en q1) K 4) _) _ := hoo2
        have hxa : xa = a := by
          rcases s2.2 with ⟨e3, z3, _⟩ | ⟨a3, z3, f3⟩
          · rw [h1', eb_ok, h2'] at z3; cases z3
          · rw [h1', eb_ok, h2'] at z3; cases z3; exact f3.2
        cases h3' : knP tx en (nx tx en q1) K 4 with
        | error e3 => rw [eb_ok, h3'] at z; cases z
        | ok bb =>
          rw [eb_ok, h3'] at z
          cases z
          rw [h3', eb_ok] at hoo2
          subst hxa
          obtain ⟨ht2, x1, m1, e1, e2⟩ := kn_mem h2'
          obtain ⟨ht3, x2, m2, e3, e4⟩ := kn_mem h3'
          obtain ⟨A, hA, eA⟩ := wi.2.2.2.1 x1 m1 e1
          obtain ⟨B, hB, eB⟩ := wi.2.2.2.1 x2 m2 e3
          obtain rfl : xa = nI A := e2.symm.trans eA
          obtain rfl : bb = nI B := e4.symm.trans eB
          have pA := pn_nI (n := A) (by omega)
          have pB := pn_nI (n := B) (by omega)
          have hm7 : gI h1 (c + 6) (A * 7 + B) = C 7 (A * 7 + B) := d3.2.1 6 (A * 7 + B) (by decide) (by decide) (by show A * 7 + B < 49; omega)
          refine g_aL0 dX10_readStreet_25 ?_
          refine g_gI lf_X10_71 (b3.S.l 50 rfl) (b3.S.k 50 rfl rfl) dX10_readStreet_26 ?_
          refine g_iconst dX10_readStreet_29 ?_
          refine g_iceq dX10_readStreet_30 (fun c30 => absurd c30 r3.n5) (fun c30 => ?_)
          refine g_iL1 dX10_readStreet_33 ?_
          refine g_iL2 dX10_readStreet_34 ?_
          refine g_iceq dX10_readStreet_35 (fun c35 => ?_) (fun c35 => ?_)
          · refine g_aL0 dX10_readStreet_55 ?_
            refine g_iconst dX10_readStreet_56 ?_
            refine e_v1u (d_flaw0 b3.S r3.n5 _) lm_X10_130 dX10_readStreet_57 (b3.S.l 50 rfl) (b3.S.k 50 rfl rfl) rfl rfl rfl rfl ?_
            exact rest _ (.error (3, tkP tx en (nx tx en q1))) _ _ ((GQ_fw _ _ _).trans (k3.trans (k2.trans k1))) ⟨LB_fw s3.1 _ _, Or.inl ⟨_, rfl, RF_fw r3 (by decide)⟩⟩ (fun q2 z => by cases z) (hoo2.trans (by rw [if_pos c35.symm]; rfl))
          · refine g_aL0 dX10_readStreet_38 ?_
            refine g_getR lf_X10_167 (b3.S.l 50 rfl) (b3.S.k 50 rfl rfl) b3.C dX10_readStreet_39 ?_
            refine g_getRn lf_X10_312 (b3.M.l 0 rfl) (b3.M.k 0 rfl rfl) (b3.M.r 20 (j := 6) rfl) dX10_readStreet_42 ?_
            refine g_bipush dX10_readStreet_45 ?_
            refine g_iL1 dX10_readStreet_47 ?_
            refine g_imul dX10_readStreet_48 ?_
            refine g_iL2 dX10_readStreet_49 ?_
            refine g_iadd dX10_readStreet_50 ?_
            rw [show (7 : Int32) * nI A = nI (7 * A) from pk_mul 7 A, nI_add, show 7 * A + B = A * 7 + B by omega]
            refine g_ialoadN (b3.M.l 6 rfl) (b3.M.k 6 rfl rfl) (b3.M.n 6 (n := 49) rfl rfl) (by omega) (by decide) dX10_readStreet_51 ?_
            rw [hm7]
            refine g_ifle dX10_readStreet_52 (fun c52 => ?_) (fun c52 => ?_)
            · exact rest h1 (.ok (nx tx en q1)) _ _ (k3.trans (k2.trans k1)) ⟨s3.1, Or.inr ⟨_, rfl, r3⟩⟩ (fun q2 z => by cases z; exact ⟨by rw [ht3]; decide, hn8, A, B, hA, hB, rfl, rfl⟩) (hoo2.trans (by rw [if_neg (fun u => c35 u.symm), if_pos (show C 7 (pn (nI A) * 7 + pn (nI B)) ≤ 0 by rw [pA, pB]; exact c52)]; rfl))
            · refine g_aL0 dX10_readStreet_55 ?_
              refine g_iconst dX10_readStreet_56 ?_
              refine e_v1u (d_flaw0 b3.S r3.n5 _) lm_X10_130 dX10_readStreet_57 (b3.S.l 50 rfl) (b3.S.k 50 rfl rfl) rfl rfl rfl rfl ?_
              exact rest _ (.error (3, tkP tx en (nx tx en q1))) _ _ ((GQ_fw _ _ _).trans (k3.trans (k2.trans k1))) ⟨LB_fw s3.1 _ _, Or.inl ⟨_, rfl, RF_fw r3 (by decide)⟩⟩ (fun q2 z => by cases z) (hoo2.trans (by rw [if_neg (fun u => c35 u.symm), if_neg (show ¬ C 7 (pn (nI A) * 7 + pn (nI B)) ≤ 0 by rw [pA, pB]; exact c52)]; rfl))

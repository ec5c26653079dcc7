/-! THE REFERENCE'S PARSER: shards, shelf, city -/
theorem RF_at {h : Hp} (f : Int32) (p : Nat) (hf : 0 < f) : RF (fwH h f (nI p)) (f, p) := ⟨gIs _ _ _ _, rfl, rfl, hf⟩
theorem r_readShard {tx : Nat → Int32} {en : Nat} {h : Hp} {c : Nat} {K : List Nm} (b : RB tx en h c K) {C : CT} (d : RD h c C) (wi : WI C K (nnC C)) (hL : LB h) {q : Nat} (r : RK tx en h q) (ht : tkS tx en q = 1) : gC 9 0 0 yX10_readShard cX10_readShard 3 none [.ref 50] h (LM tx en h c (lxB tx en C q 9 8 (fun q' => shaP tx en C (tkP tx en q) q' K))) := by
  have hc6 := b.M.1
  have hu := wi.2.1
  generalize hoo : (lxB tx en C q 9 8 (fun q' => shaP tx en C (tkP tx en q) q' K)) = oo
  refine g_entry (lv := [.ref 50, .retAddr 0, .retAddr 0]) 2 pn_X10 rfl rfl rfl ?_
  obtain ⟨HH, hH4, eH⟩ := wi.2.2.2.2
  refine g_aL0 dX10_readShard_0 ?_
  refine g_gI lf_X10_80 (b.S.l 50 rfl) (b.S.k 50 rfl rfl) dX10_readShard_1 ?_
  rw [r.2.2.1]
  refine g_iS1 dX10_readShard_4 rfl rfl ?_
  refine g_aL0 dX10_readShard_5 ?_
  refine g_aL0 dX10_readShard_6 ?_
  refine g_getR lf_X10_167 (b.S.l 50 rfl) (b.S.k 50 rfl rfl) b.C dX10_readShard_7 ?_
  refine g_gI lf_X10_338 (b.M.l 0 rfl) (b.M.k 0 rfl rfl) dX10_readShard_10 ?_
  rw [show gI h c 12 = C 1 9 from d.1 12 (by decide)]
  refine g_bipush dX10_readShard_13 ?_
  refine r_v2u (r_begins b (o := (.ok q)) ⟨hL, Or.inr ⟨q, rfl, r⟩⟩ (fun q' z => by cases z; rw [ht]; decide) (wd := C 0 1) (d.1 0 (by decide)) (C 1 9) 8) lm_X10_265 dX10_readShard_15 (b.S.l 50 rfl) (b.S.k 50 rfl rfl) rfl rfl rfl rfl (fun v h' z => z.1) (fun h1 z => ?_)
  obtain ⟨-, k1, s1⟩ := z
  have b1 := b.go k1
  have d1 := RC.go d hc6 k1
  replace s1 : RSt h1 (o1P tx en C q 9 8) (RKs tx en) := s1
  refine g_aL0 dX10_readShard_18 ?_
  refine g_iconst dX10_readShard_19 ?_
  rw [show (4 : Int32) = nsM 8 from by decide]
  refine r_v1i (r_readKnown b1 s1 (so := 8) (by decide)) lm_X10_303 dX10_readShard_20 (b1.S.l 50 rfl) (b1.S.k 50 rfl rfl) rfl rfl rfl rfl (fun v h' z => ⟨_, z.choose_spec.1⟩) (fun xp h1 z => ?_)
  obtain ⟨xw, z0, k2, s2⟩ := z
  obtain rfl := Value.int.inj (Option.some.inj z0)
  have b2 := b1.go k2
  have d2 := RC.go d1 hc6 k2
  have s2' := s2.map (R' := RKs tx en) (fun y => y.2) (fun a f => f.1)
  refine g_iS2 dX10_readShard_23 rfl rfl ?_
  refine g_aL0 dX10_readShard_24 ?_
  refine g_iconst dX10_readShard_25 ?_
  refine r_v1u (r_readRows b2 s2' (wd := C 0 1) (d2.1 0 (by decide)) (H := HH) ((d2.1 1 (by decide)).trans eH) hH4 1) lm_X10_276 dX10_readShard_26 (b2.S.l 50 rfl) (b2.S.k 50 rfl rfl) rfl rfl rfl rfl (fun v h' z => z.1) (fun h1 z => ?_)
  obtain ⟨-, k3, s3⟩ := z
  have b3 := b2.go k3
  have d3 := RC.go d2 hc6 k3
  have hoo2 : oo = Except.bind (o1P tx en C q 9 8) (fun q' => Except.bind (shaP tx en C (tkP tx en q) q' K) (cuP 9)) := hoo.symm
  rcases s3.2 with ⟨e, z, f⟩ | ⟨y, z, f⟩
  · have ho : oo = .error e := by
      rw [hoo2]
      cases h1 : o1P tx en C q 9 8 with
      | error e1 => rw [h1] at z; cases z; rfl
      | ok q1 =>
        rw [h1, eb_ok] at z
        show Except.bind (Except.bind (knP tx en q1 K 8) _) _ = _
        cases h2 : knP tx en q1 K 8 with
        | error e2 => rw [h2] at z; cases z; rfl
        | ok a =>
          rw [h2, eb_ok, eb_ok, eb_ok] at z
          show Except.bind (Except.bind (roP tx en C 1 (nx tx en q1)) _) _ = _
          rw [show roP tx en C 1 (nx tx en q1) = .error e from by unfold roP; rw [eH, pn_nI (by omega)]; exact z]; rfl
    refine g_aL0 dX10_readShard_29 ?_
    refine g_gI lf_X10_71 (b3.S.l 50 rfl) (b3.S.k 50 rfl rfl) dX10_readShard_30 ?_
    refine g_iconst dX10_readShard_33 ?_
    refine g_iceq dX10_readShard_34 (fun c34 => ?_) (fun c34 => absurd f.1 c34)
    refine g_aL0 dX10_readShard_51 ?_
    refine g_gI lf_X10_71 (b3.S.l 50 rfl) (b3.S.k 50 rfl rfl) dX10_readShard_52 ?_
    refine g_iconst dX10_readShard_55 ?_
    refine g_icne dX10_readShard_56 (fun c56 => absurd f.1 c56) (fun c56 => ?_)
    exact g_vret rfl dX10_readShard_59 rfl rfl ⟨rfl, (k3.trans (k2.trans k1)).p c, s3.1, Or.inl ⟨e, ho, f⟩⟩
  · obtain ⟨r3, e19, e18⟩ := f
    obtain ⟨hn8, ho⟩ : ¬ C 1 9 = 8 ∧ oo = Except.bind (if y.2.2 = 0 then .error (7, tkP tx en q) else .ok (y.1, (u2 (u2 (u2 C 12 (pn (C 1 9)) xp) 13 (pn (C 1 9)) y.2.2) 14 (pn (C 1 9)) y.2.1), K)) (cuP 9) := by
      cases h1 : o1P tx en C q 9 8 with
      | error e1 => rw [h1] at z; cases z
      | ok q1 =>
        refine ⟨(o1_ok h1).1, ?_⟩
        rw [hoo2, h1]
        rw [h1, eb_ok] at z
        show Except.bind (Except.bind (knP tx en q1 K 8) _) _ = _
        cases h2 : knP tx en q1 K 8 with
        | error e2 => rw [h2] at z; cases z
        | ok a =>
          have e1 : xp = a := by
            rcases s2.2 with ⟨e3, z3, _⟩ | ⟨a3, z3, f3⟩
            · rw [h1, eb_ok, h2] at z3; cases z3
            · rw [h1, eb_ok, h2] at z3; cases z3; exact f3.2
          rw [h2, eb_ok, eb_ok, eb_ok] at z
          show Except.bind (Except.bind (roP tx en C 1 (nx tx en q1)) _) _ = _
          rw [show roP tx en C 1 (nx tx en q1) = .ok y from by unfold roP; rw [eH, pn_nI (by omega)]; exact z, e1]; rfl
    have hnl := wi.lt (k := 9) (m := 8) (by decide) hn8 (by omega)
    have ck := wi.c (k := 9) (by decide)
    generalize hnn : nnC C 9 = n at hnl ck
    refine g_aL0 dX10_readShard_29 ?_
    refine g_gI lf_X10_71 (b3.S.l 50 rfl) (b3.S.k 50 rfl rfl) dX10_readShard_30 ?_
    refine g_iconst dX10_readShard_33 ?_
    refine g_iceq dX10_readShard_34 (fun c34 => absurd c34 r3.n5) (fun c34 => ?_)
    refine g_aL0 dX10_readShard_37 ?_
    refine g_gI lf_X10_200 (b3.S.l 50 rfl) (b3.S.k 50 rfl rfl) dX10_readShard_38 ?_
    rw [e18]
    refine g_ifne dX10_readShard_41 (fun c41 => ?_) (fun c41 => ?_)
    · rw [if_neg c41, eb_ok] at ho
      have hnp : pn (C 1 9) = n := by rw [ck, pn_nI (by omega)]
      rw [hnp] at ho
      replace ho : oo = .ok (y.1, (u2 (u2 (u2 (u2 C 12 n xp) 13 n y.2.2) 14 n y.2.1) 1 9 ((u2 (u2 (u2 C 12 n xp) 13 n y.2.2) 14 n y.2.1) 1 9 + 1)), K) := ho
      refine g_aL0 dX10_readShard_51 ?_
      refine g_gI lf_X10_71 (b3.S.l 50 rfl) (b3.S.k 50 rfl rfl) dX10_readShard_52 ?_
      refine g_iconst dX10_readShard_55 ?_
      refine g_icne dX10_readShard_56 (fun c56 => ?_) (fun c56 => absurd c56 r3.n5)
      refine g_aL0 dX10_readShard_60 ?_
      refine g_getR lf_X10_167 (b3.S.l 50 rfl) (b3.S.k 50 rfl rfl) b3.C dX10_readShard_61 ?_
      refine g_getRn lf_X10_341 (b3.M.l 0 rfl) (b3.M.k 0 rfl rfl) (b3.M.r 25 (j := 11) rfl) dX10_readShard_64 ?_
      refine g_aL0 dX10_readShard_67 ?_
      refine g_getR lf_X10_167 (b3.S.l 50 rfl) (b3.S.k 50 rfl rfl) b3.C dX10_readShard_68 ?_
      refine g_gI lf_X10_338 (b3.M.l 0 rfl) (b3.M.k 0 rfl rfl) dX10_readShard_71 ?_
      rw [show gI h1 c 12 = nI n from ((d3.1 12 (by decide))).trans ck]
      refine g_iL2 dX10_readShard_74 ?_
      refine g_iastoreN (b3.M.l 11 rfl) (b3.M.k 11 rfl rfl) (b3.M.n 11 (n := 8) rfl rfl) (by omega) (by decide) dX10_readShard_75 ?_
      refine g_aL0 dX10_readShard_76 ?_
      refine g_getR lf_X10_167 (b3.S.l 50 rfl) (b3.S.k 50 rfl rfl) b3.C dX10_readShard_77 ?_
      refine g_getRn lf_X10_344 (b3.M.l 0 rfl) (b3.M.k 0 rfl rfl) (b3.M.r 26 (j := 12) rfl) dX10_readShard_80 ?_
      refine g_aL0 dX10_readShard_83 ?_
      refine g_getR lf_X10_167 (b3.S.l 50 rfl) (b3.S.k 50 rfl rfl) b3.C dX10_readShard_84 ?_
      refine g_gI lf_X10_338 (b3.M.l 0 rfl) (b3.M.k 0 rfl rfl) dX10_readShard_87 ?_
      rw [show gI (pI h1 (c + 11) n xp) c 12 = nI n from ((gIq (by omega)).trans ((d3.1 12 (by decide)))).trans ck]
      refine g_aL0 dX10_readShard_90 ?_
      refine g_gI lf_X10_200 (b3.S.l 50 rfl) (b3.S.k 50 rfl rfl) dX10_readShard_91 ?_
      rw [show gI (pI h1 (c + 11) n xp) 50 18 = y.2.2 from (gIq (by omega)).trans e18]
      refine g_iastoreN (b3.M.l 12 rfl) (b3.M.k 12 rfl rfl) (b3.M.n 12 (n := 8) rfl rfl) (by omega) (by decide) dX10_readShard_94 ?_
      refine g_aL0 dX10_readShard_95 ?_
      refine g_getR lf_X10_167 (b3.S.l 50 rfl) (b3.S.k 50 rfl rfl) b3.C dX10_readShard_96 ?_
      refine g_getRn lf_X10_347 (b3.M.l 0 rfl) (b3.M.k 0 rfl rfl) (b3.M.r 27 (j := 13) rfl) dX10_readShard_99 ?_
      refine g_aL0 dX10_readShard_102 ?_
      refine g_getR lf_X10_167 (b3.S.l 50 rfl) (b3.S.k 50 rfl rfl) b3.C dX10_readShard_103 ?_
      refine g_gI lf_X10_338 (b3.M.l 0 rfl) (b3.M.k 0 rfl rfl) dX10_readShard_106 ?_
      rw [show gI (pI (pI h1 (c + 11) n xp) (c + 12) n y.2.2) c 12 = nI n from ((gIq (by omega)).trans ((gIq (by omega)).trans ((d3.1 12 (by decide))))).trans ck]
      refine g_aL0 dX10_readShard_109 ?_
      refine g_gI lf_X10_203 (b3.S.l 50 rfl) (b3.S.k 50 rfl rfl) dX10_readShard_110 ?_
      rw [show gI (pI (pI h1 (c + 11) n xp) (c + 12) n y.2.2) 50 19 = y.2.1 from (gIq (by omega)).trans ((gIq (by omega)).trans e19)]
      refine g_iastoreN (b3.M.l 13 rfl) (b3.M.k 13 rfl rfl) (b3.M.n 13 (n := 8) rfl rfl) (by omega) (by decide) dX10_readShard_113 ?_
      refine g_aL0 dX10_readShard_114 ?_
      refine g_getR lf_X10_167 (b3.S.l 50 rfl) (b3.S.k 50 rfl rfl) b3.C dX10_readShard_115 ?_
      refine g_dup dX10_readShard_118 rfl ?_
      refine g_gI lf_X10_338 (b3.M.l 0 rfl) (b3.M.k 0 rfl rfl) dX10_readShard_119 ?_
      rw [show gI (pI (pI (pI h1 (c + 11) n xp) (c + 12) n y.2.2) (c + 13) n y.2.1) c 12 = C 1 9 from (gIq (by omega)).trans ((gIq (by omega)).trans ((gIq (by omega)).trans ((d3.1 12 (by decide)))))]
      refine g_iconst dX10_readShard_122 ?_
      refine g_iadd dX10_readShard_123 ?_
      refine g_pI1 lf_X10_338 (b3.M.l 0 rfl) (b3.M.k 0 rfl rfl) dX10_readShard_124 ?_
      have hI : ∀ j, gI (pI (pI (pI (pI h1 (c + 11) n xp) (c + 12) n y.2.2) (c + 13) n y.2.1) c 12 (C 1 9 + 1)) 50 j = gI h1 50 j := fun j => (gIq (by omega)).trans ((gIq (by omega)).trans ((gIq (by omega)).trans ((gIq (by omega)).trans ((fun j => rfl) j))))
      refine g_vret rfl dX10_readShard_127 rfl rfl ⟨rfl, (PG_0 _ _).trans ((PG_I _ _ (by omega)).trans ((PG_I _ _ (by omega)).trans ((PG_I _ _ (by omega)).trans ((k3.trans (k2.trans k1)).p c)))), s3.1.o hI, Or.inr ⟨_, ho, r3.o hI rfl, ((((b3.pI (a := 11) _ (by decide) (by omega)).pI (a := 12) _ (by decide) (by omega)).pI (a := 13) _ (by decide) (by omega)).pI (a := 0) _ (by decide) (by decide)), ?_⟩⟩
      exact RCx.w (RCx.cnt (RCx.put (RCx.put (RCx.put d3 (a0 := 11) (by decide) n xp) (a0 := 12) (by decide) n y.2.2) (a0 := 13) (by decide) n y.2.1) (f0 := 12) (by decide) (C 1 9 + 1)) (lv' := lvF (nnC (u2 (u2 (u2 (u2 C 12 n xp) 13 n y.2.2) 14 n y.2.1) 1 9 ((u2 (u2 (u2 C 12 n xp) 13 n y.2.2) 14 n y.2.1) 1 9 + 1)))) (fun a' j h1 h2 h3 => by
        rw [nn_up (C := C) ck (by omega) (fun j => by first | rfl | (simp only [u2_na _ _ _ (show ¬ (1 : Nat) = 2 by decide), u2_na _ _ _ (show ¬ (1 : Nat) = 3 by decide), u2_na _ _ _ (show ¬ (1 : Nat) = 6 by decide), u2_na _ _ _ (show ¬ (1 : Nat) = 7 by decide), u2_na _ _ _ (show ¬ (1 : Nat) = 8 by decide), u2_na _ _ _ (show ¬ (1 : Nat) = 9 by decide), u2_na _ _ _ (show ¬ (1 : Nat) = 10 by decide), u2_na _ _ _ (show ¬ (1 : Nat) = 11 by decide), u2_na _ _ _ (show ¬ (1 : Nat) = 12 by decide), u2_na _ _ _ (show ¬ (1 : Nat) = 13 by decide), u2_na _ _ _ (show ¬ (1 : Nat) = 14 by decide)]))] at h3
        rcases lv_up a' j h3 with z5 | z5
        · exact (Or.inl (Or.inl (Or.inl z5)))
        · rcases gp_9 ⟨a', by omega⟩ h1 z5.1 with z6 | z6 | z6
          · exact (Or.inl (Or.inl (Or.inr ⟨z6, z5.2.2.trans hnn⟩)))
          · exact (Or.inl (Or.inr ⟨z6, z5.2.2.trans hnn⟩))
          · exact (Or.inr ⟨z6, z5.2.2.trans hnn⟩))
    · refine g_aL0 dX10_readShard_44 ?_
      refine g_bipush dX10_readShard_45 ?_
      refine g_iL1 dX10_readShard_47 ?_
      refine e_v2u (d_flawAt0 b3.S r3.n5 _ _) lm_X10_106 dX10_readShard_48 (b3.S.l 50 rfl) (b3.S.k 50 rfl rfl) rfl rfl rfl rfl ?_
      rw [if_pos c41] at ho
      have kf := GQ_fw h1 7 (nI (tkP tx en q))
      have b4 := b3.go kf
      refine g_aL0 dX10_readShard_51 ?_
      refine g_gI lf_X10_71 (b4.S.l 50 rfl) (b4.S.k 50 rfl rfl) dX10_readShard_52 ?_
      refine g_iconst dX10_readShard_55 ?_
      refine g_icne dX10_readShard_56 (fun c56 => absurd (fw5 _ _ _) c56) (fun c56 => ?_)
      exact g_vret rfl dX10_readShard_59 rfl rfl ⟨rfl, (kf.trans (k3.trans (k2.trans k1))).p c, LB_fw s3.1 _ _, Or.inl ⟨_, ho, RF_at 7 _ (by decide)⟩⟩
theorem r_readShelf {tx : Nat → Int32} {en : Nat} {h : Hp} {c : Nat} {K : List Nm} (b : RB tx en h c K) {C : CT} (d : RD h c C) (wi : WI C K (nnC C)) (hL : LB h) {q : Nat} (r : RK tx en h q) (ht : tkS tx en q = 1) (h05 : ¬ C 1 10 = 0 → ¬ C 0 5 = -1) : gC 9 0 0 yX10_readShelf cX10_readShelf 2 none [.ref 50] h (LM tx en h c (if C 1 10 = 0 then Except.bind (osP tx en C q) (fun q => Except.bind (sheP tx en C q K) (cuP 10)) else er tx en 3 q)) := by
  have hc6 := b.M.1
  have hu := wi.2.1
  generalize hoo : (if C 1 10 = 0 then Except.bind (osP tx en C q) (fun q => Except.bind (sheP tx en C q K) (cuP 10)) else er tx en 3 q) = oo
  refine g_entry (lv := [.ref 50, .retAddr 0]) 1 pn_X10 rfl rfl rfl ?_
  refine g_aL0 dX10_readShelf_0 ?_
  refine g_getR lf_X10_167 (b.S.l 50 rfl) (b.S.k 50 rfl rfl) b.C dX10_readShelf_1 ?_
  refine g_gI lf_X10_350 (b.M.l 0 rfl) (b.M.k 0 rfl rfl) dX10_readShelf_4 ?_
  rw [show gI h c 13 = _ from d.2.2]
  refine g_iconst dX10_readShelf_7 ?_
  refine g_iceq dX10_readShelf_8 (fun c8 => ?_) (fun c8 => ?_)
  · have c10 : C 1 10 = 0 := by
      by_cases z : C 1 10 = 0
      · exact z
      · rw [if_neg z] at c8; exact absurd c8 (h05 z)
    rw [if_pos c10] at hoo
    refine g_aL0 dX10_readShelf_16 ?_
    refine g_iconst dX10_readShelf_17 ?_
    refine g_iconst dX10_readShelf_18 ?_
    refine r_v2u (r_begins b (o := (.ok q)) ⟨hL, Or.inr ⟨q, rfl, r⟩⟩ (fun q' z => by cases z; rw [ht]; decide) (wd := C 0 1) (d.1 0 (by decide)) 0 1) lm_X10_265 dX10_readShelf_19 (b.S.l 50 rfl) (b.S.k 50 rfl rfl) rfl rfl rfl rfl (fun v h' z => z.1) (fun h1 z => ?_)
    obtain ⟨-, k1, s1⟩ := z
    have b1 := b.go k1
    have d1 := RC.go d hc6 k1
    refine g_aL0 dX10_readShelf_22 ?_
    refine g_iconst dX10_readShelf_23 ?_
    refine g_bipush dX10_readShelf_24 ?_
    refine r_v2i (r_readWhole b1 s1 0 99) lm_X10_142 dX10_readShelf_26 (b1.S.l 50 rfl) (b1.S.k 50 rfl rfl) rfl rfl rfl rfl (fun v h' z => ⟨_, z.choose_spec.1⟩) (fun xv h1 z => ?_)
    obtain ⟨xw, z0, k2, s2⟩ := z
    obtain rfl := Value.int.inj (Option.some.inj z0)
    have b2 := b1.go k2
    have d2 := RC.go d1 hc6 k2
    refine g_iS1 dX10_readShelf_29 rfl rfl ?_
    rcases s2.2 with ⟨e, z, f⟩ | ⟨y, z, f⟩
    · have ho : oo = .error e := by
        rw [← hoo]
        replace z : Except.bind (osP tx en C q) (fun q => nwP tx en q 0 99) = .error e := z
        cases h1 : osP tx en C q with
        | error e1 => rw [h1] at z; cases z; rfl
        | ok q1 =>
          rw [h1, eb_ok] at z
          show Except.bind (Except.bind (nwP tx en q1 0 99) _) _ = _
          rw [z]; rfl
      refine g_aL0 dX10_readShelf_30 ?_
      refine g_gI lf_X10_71 (b2.S.l 50 rfl) (b2.S.k 50 rfl rfl) dX10_readShelf_31 ?_
      refine g_iconst dX10_readShelf_34 ?_
      refine g_iceq dX10_readShelf_35 (fun c35 => ?_) (fun c35 => absurd f.1 c35)
      exact g_vret rfl dX10_readShelf_46 rfl rfl ⟨rfl, (k2.trans (k1)).p c, s2.1, Or.inl ⟨_, ho, f⟩⟩
    · obtain ⟨r2, rfl⟩ := f
      have ho : oo = .ok (y.2, (u2 (u2 C 0 5 y.1) 1 10 (u2 C 0 5 y.1 1 10 + 1)), K) := by
        rw [← hoo]
        replace z : Except.bind (osP tx en C q) (fun q => nwP tx en q 0 99) = .ok y := z
        cases h1 : osP tx en C q with
        | error e1 => rw [h1] at z; cases z
        | ok q1 =>
          rw [h1, eb_ok] at z
          show Except.bind (Except.bind (nwP tx en q1 0 99) _) _ = _
          rw [z]; rfl
      refine g_aL0 dX10_readShelf_30 ?_
      refine g_gI lf_X10_71 (b2.S.l 50 rfl) (b2.S.k 50 rfl rfl) dX10_readShelf_31 ?_
      refine g_iconst dX10_readShelf_34 ?_
      refine g_iceq dX10_readShelf_35 (fun c35 => absurd c35 r2.n5) (fun c35 => ?_)
      refine g_aL0 dX10_readShelf_38 ?_
      refine g_getR lf_X10_167 (b2.S.l 50 rfl) (b2.S.k 50 rfl rfl) b2.C dX10_readShelf_39 ?_
      refine g_iL1 dX10_readShelf_42 ?_
      refine g_pI1 lf_X10_350 (b2.M.l 0 rfl) (b2.M.k 0 rfl rfl) dX10_readShelf_43 ?_
      have hI : ∀ j, gI (pI h1 c 13 y.1) 50 j = gI h1 50 j := fun j => gIq (by omega)
      refine g_vret rfl dX10_readShelf_46 rfl rfl ⟨rfl, (PG_0 _ _).trans ((k2.trans (k1)).p c), s2.1.o hI, Or.inr ⟨_, ho, r2.o hI rfl, b2.pI (a := 0) _ (by decide) (by decide), ?_⟩⟩
      refine RCx.w (lv := lvF (nnC C)) (lv' := lvF (nnC (u2 (u2 C 0 5 y.1) 1 10 (u2 C 0 5 y.1 1 10 + 1)))) ⟨?_, ?_, ?_⟩ (fun a' j h1 h2 h3 => ?_)
      · exact RSc.cnt (RSc.cnt (fun f h1 => (gIk (by omega)).trans (d2.1 f h1)) (Or.inr ⟨rfl, rfl⟩) _) (Or.inl ⟨rfl, Or.inl rfl⟩) _
      · exact ((d2.2.1.off (Or.inl (Nat.le_refl c)) _).sc (by decide) _).sc (by decide) _
      · show gI (pI h1 c 13 y.1) c 13 = if u2 (u2 C 0 5 y.1) 1 10 (u2 C 0 5 y.1 1 10 + 1) 1 10 = 0 then -1 else u2 (u2 C 0 5 y.1) 1 10 (u2 C 0 5 y.1 1 10 + 1) 0 5
        rw [gIs, u2_s, u2_n _ _ (by decide), u2_n _ _ (by decide), u2_s, c10, if_neg (by decide)]
      · rw [nn_up (C := C) (wi.c (k := 10) (by decide)) (by omega) (fun j => u2_na _ _ _ (show ¬ (1 : Nat) = 0 by decide) ▸ rfl)] at h3
        rcases lv_up a' j h3 with z5 | z5
        · exact z5
        · exact absurd z5.1 (gp_no10 ⟨a', by omega⟩)
  · refine g_aL0 dX10_readShelf_11 ?_
    refine g_iconst dX10_readShelf_12 ?_
    refine e_v1u (d_flaw0 b.S r.n5 _) lm_X10_130 dX10_readShelf_13 (b.S.l 50 rfl) (b.S.k 50 rfl rfl) rfl rfl rfl rfl ?_
    have c10 : ¬ C 1 10 = 0 := fun z => c8 (if_pos z)
    rw [if_neg c10] at hoo
    have kf := GQ_fw h 3 (gI h 50 10)
    have b0 := b.go kf
    have d0 := RC.go d hc6 kf
    refine g_aL0 dX10_readShelf_16 ?_
    refine g_iconst dX10_readShelf_17 ?_
    refine g_iconst dX10_readShelf_18 ?_
    refine r_v2u (r_begins b0 (o := (.error (3, tkP tx en q))) ⟨LB_fw hL _ _, Or.inl ⟨_, rfl, RF_fw r (by decide)⟩⟩ (fun q' z => by cases z) (wd := C 0 1) (d0.1 0 (by decide)) 0 1) lm_X10_265 dX10_readShelf_19 (b0.S.l 50 rfl) (b0.S.k 50 rfl rfl) rfl rfl rfl rfl (fun v h' z => z.1) (fun h1 z => ?_)
    obtain ⟨-, k1, s1⟩ := z
    have b1 := b0.go k1
    have d1 := RC.go d0 hc6 k1
    refine g_aL0 dX10_readShelf_22 ?_
    refine g_iconst dX10_readShelf_23 ?_
    refine g_bipush dX10_readShelf_24 ?_
    refine r_v2i (r_readWhole b1 s1 0 99) lm_X10_142 dX10_readShelf_26 (b1.S.l 50 rfl) (b1.S.k 50 rfl rfl) rfl rfl rfl rfl (fun v h' z => ⟨_, z.choose_spec.1⟩) (fun xv h1 z => ?_)
    obtain ⟨xw, z0, k2, s2⟩ := z
    obtain rfl := Value.int.inj (Option.some.inj z0)
    have b2 := b1.go k2
    have d2 := RC.go d1 hc6 k2
    refine g_iS1 dX10_readShelf_29 rfl rfl ?_
    rcases s2.2 with ⟨e, z, f⟩ | ⟨y, z, f⟩
    · cases z
      have ho := hoo.symm
      refine g_aL0 dX10_readShelf_30 ?_
      refine g_gI lf_X10_71 (b2.S.l 50 rfl) (b2.S.k 50 rfl rfl) dX10_readShelf_31 ?_
      refine g_iconst dX10_readShelf_34 ?_
      refine g_iceq dX10_readShelf_35 (fun c35 => ?_) (fun c35 => absurd f.1 c35)
      exact g_vret rfl dX10_readShelf_46 rfl rfl ⟨rfl, (k2.trans (k1.trans kf)).p c, s2.1, Or.inl ⟨_, ho, f⟩⟩
    · cases z
theorem r_readCity {tx : Nat → Int32} {en : Nat} {h : Hp} {c : Nat} {K : List Nm} (b : RB tx en h c K) {C : CT} (d : RD h c C) (wi : WI C K (nnC C)) (hL : LB h) {q : Nat} (r : RK tx en h q) (ht : tkS tx en q = 1) : gC 9 0 0 yX10_readCity cX10_readCity 5 none [.ref 50] h (LM tx en h c (if C 0 1 ≤ 0 then cityP tx en C (nx tx en q) K else er tx en 3 q)) := by
  have hc6 := b.M.1
  have hu := wi.2.1
  generalize hoo : (if C 0 1 ≤ 0 then cityP tx en C (nx tx en q) K else er tx en 3 q) = oo
  refine g_entry (lv := [.ref 50, .retAddr 0, .retAddr 0, .retAddr 0, .retAddr 0]) 4 pn_X10 rfl rfl rfl ?_
  have rest : ∀ (g : Hp) (o4 : Ex Nat), GQ g h → RSt g o4 (RKs tx en) → oo = (Except.bind o4 (fun q => cityP tx en C q K)) → gY 9 0 0 yX10_readCity cX10_readCity 5 none 0 0 (LM tx en h c oo) 19 [.ref 50, .retAddr 0, .retAddr 0, .retAddr 0, .retAddr 0] [] g := by
    intro g o4 k0 s0 ho
    have b0 := b.go k0
    have d0 := RC.go d hc6 k0
    refine g_aL0 dX10_readCity_19 ?_
    refine g_ldcS (tx := "wide") (n := 19) (x := 20) (List.mem_of_getElem? (i := 19) rfl) (by decide) dX10_readCity_20 ?_
    refine g_iconst dX10_readCity_22 ?_
    refine g_iconst dX10_readCity_23 ?_
    refine r_v3i (r_readPart b0 s0 (k := 19) (k0 := 11) (by decide) (by decide) rfl 2 5) lm_X10_252 dX10_readCity_24 (b0.S.l 50 rfl) (b0.S.k 50 rfl rfl) rfl rfl rfl rfl (fun v h' z => ⟨_, z.choose_spec.1⟩) (fun x1 h1 z => ?_)
    obtain ⟨xw, z0, k1, s1⟩ := z
    obtain rfl := Value.int.inj (Option.some.inj z0)
    have b1 := b0.go k1
    have d1 := RC.go d0 hc6 k1
    have s1' := s1.map (R' := RKs tx en) (fun y => y.2) (fun a f => f.1)
    refine g_iS1 dX10_readCity_27 rfl rfl ?_
    refine g_aL0 dX10_readCity_28 ?_
    refine g_ldcSw (tx := "high") (n := 20) (x := 21) (List.mem_of_getElem? (i := 20) rfl) (by decide) dX10_readCity_29 ?_
    refine g_iconst dX10_readCity_32 ?_
    refine g_iconst dX10_readCity_33 ?_
    refine r_v3i (r_readPart b1 s1' (k := 20) (k0 := 12) (by decide) (by decide) rfl 2 4) lm_X10_252 dX10_readCity_34 (b1.S.l 50 rfl) (b1.S.k 50 rfl rfl) rfl rfl rfl rfl (fun v h' z => ⟨_, z.choose_spec.1⟩) (fun x2 h1 z => ?_)
    obtain ⟨xw, z0, k2, s2⟩ := z
    obtain rfl := Value.int.inj (Option.some.inj z0)
    have b2 := b1.go k2
    have d2 := RC.go d1 hc6 k2
    have s2' := s2.map (R' := RKs tx en) (fun y => y.2) (fun a f => f.1)
    refine g_iS2 dX10_readCity_37 rfl rfl ?_
    refine g_aL0 dX10_readCity_38 ?_
    refine g_ldcSw (tx := "hail") (n := 21) (x := 22) (List.mem_of_getElem? (i := 21) rfl) (by decide) dX10_readCity_39 ?_
    refine g_iconst dX10_readCity_42 ?_
    refine g_bipush dX10_readCity_43 ?_
    refine r_v3i (r_readPart b2 s2' (k := 21) (k0 := 13) (by decide) (by decide) rfl 0 99) lm_X10_252 dX10_readCity_45 (b2.S.l 50 rfl) (b2.S.k 50 rfl rfl) rfl rfl rfl rfl (fun v h' z => ⟨_, z.choose_spec.1⟩) (fun x3 h1 z => ?_)
    obtain ⟨xw, z0, k3, s3⟩ := z
    obtain rfl := Value.int.inj (Option.some.inj z0)
    have b3 := b2.go k3
    have d3 := RC.go d2 hc6 k3
    have s3' := s3.map (R' := RKs tx en) (fun y => y.2) (fun a f => f.1)
    refine g_iS3 dX10_readCity_48 rfl rfl ?_
    refine g_aL0 dX10_readCity_49 ?_
    refine g_ldcSw (tx := "ice") (n := 22) (x := 23) (List.mem_of_getElem? (i := 22) rfl) (by decide) dX10_readCity_50 ?_
    refine g_iconst dX10_readCity_53 ?_
    refine g_bipush dX10_readCity_54 ?_
    refine r_v3i (r_readPart b3 s3' (k := 22) (k0 := 14) (by decide) (by decide) rfl 1 60) lm_X10_252 dX10_readCity_56 (b3.S.l 50 rfl) (b3.S.k 50 rfl rfl) rfl rfl rfl rfl (fun v h' z => ⟨_, z.choose_spec.1⟩) (fun x4 h1 z => ?_)
    obtain ⟨xw, z0, k4, s4⟩ := z
    obtain rfl := Value.int.inj (Option.some.inj z0)
    have b4 := b3.go k4
    have d4 := RC.go d3 hc6 k4
    have s4' := s4.map (R' := RKs tx en) (fun y => y.2) (fun a f => f.1)
    refine g_iS4 dX10_readCity_59 rfl rfl ?_
    rcases s4.2 with ⟨e, z, f⟩ | ⟨y, z, f⟩
    · have ho : oo = .error e := by
        rw [ho]
        cases o4 with
        | error e0 => cases z; rfl
        | ok q0 =>
          rw [eb_ok] at z
          rw [eb_ok]
          unfold cityP
          cases g0 : fxP tx en q0 11 with
          | error e1 => rw [g0] at z; cases z; rfl
          | ok p0 =>
            rw [g0, eb_ok] at z
            rw [eb_ok]
            cases f0 : nwP tx en p0 2 5 with
            | error e1 => rw [f0] at z; cases z; rfl
            | ok m1 =>
              rw [f0, eb_ok, eb_ok] at z
              rw [eb_ok]
              cases g1 : fxP tx en m1.2 12 with
              | error e1 => rw [g1] at z; cases z; rfl
              | ok p1 =>
                rw [g1, eb_ok] at z
                rw [eb_ok]
                cases f1 : nwP tx en p1 2 4 with
                | error e1 => rw [f1] at z; cases z; rfl
                | ok m2 =>
                  rw [f1, eb_ok, eb_ok] at z
                  rw [eb_ok]
                  cases g2 : fxP tx en m2.2 13 with
                  | error e1 => rw [g2] at z; cases z; rfl
                  | ok p2 =>
                    rw [g2, eb_ok] at z
                    rw [eb_ok]
                    cases f2 : nwP tx en p2 0 99 with
                    | error e1 => rw [f2] at z; cases z; rfl
                    | ok m3 =>
                      rw [f2, eb_ok, eb_ok] at z
                      rw [eb_ok]
                      cases g3 : fxP tx en m3.2 14 with
                      | error e1 => rw [g3] at z; cases z; rfl
                      | ok p3 =>
                        rw [g3, eb_ok] at z
                        rw [eb_ok]
                        cases f3 : nwP tx en p3 1 60 with
                        | error e1 => rw [f3] at z; cases z; rfl
                        | ok m4 =>
                          rw [f3] at z; cases z
      refine g_aL0 dX10_readCity_61 ?_
      refine g_gI lf_X10_71 (b4.S.l 50 rfl) (b4.S.k 50 rfl rfl) dX10_readCity_62 ?_
      refine g_iconst dX10_readCity_65 ?_
      refine g_icne dX10_readCity_66 (fun c66 => absurd f.1 c66) (fun c66 => ?_)
      exact g_vret rfl dX10_readCity_69 rfl rfl ⟨rfl, (k4.trans (k3.trans (k2.trans (k1.trans k0)))).p c, s4.1, Or.inl ⟨e, ho, f⟩⟩
    · obtain ⟨r4, rfl⟩ := f
      have ho : oo = .ok (y.2, (u2 (u2 (u2 (u2 C 0 1 x1) 0 2 x2) 0 3 x3) 0 4 y.1), K) := by
        rw [ho]
        cases o4 with
        | error e0 => cases z
        | ok q0 =>
          rw [eb_ok] at z
          rw [eb_ok]
          unfold cityP
          cases g0 : fxP tx en q0 11 with
          | error e1 => rw [g0] at z; cases z
          | ok p0 =>
            rw [g0, eb_ok] at z
            rw [eb_ok]
            cases f0 : nwP tx en p0 2 5 with
            | error e1 => rw [f0] at z; cases z
            | ok m1 =>
              have v0 : x1 = m1.1 := by
                rcases s1.2 with ⟨e3, z3, _⟩ | ⟨a3, z3, f3⟩
                · rw [eb_ok, g0, eb_ok, f0] at z3; cases z3
                · rw [eb_ok, g0, eb_ok, f0] at z3; cases z3; exact f3.2
              rw [f0, eb_ok, eb_ok] at z
              rw [eb_ok]
              cases g1 : fxP tx en m1.2 12 with
              | error e1 => rw [g1] at z; cases z
              | ok p1 =>
                rw [g1, eb_ok] at z
                rw [eb_ok]
                cases f1 : nwP tx en p1 2 4 with
                | error e1 => rw [f1] at z; cases z
                | ok m2 =>
                  have v1 : x2 = m2.1 := by
                    rcases s2.2 with ⟨e3, z3, _⟩ | ⟨a3, z3, f3⟩
                    · rw [eb_ok, g0, eb_ok, f0, eb_ok, eb_ok, g1, eb_ok, f1] at z3; cases z3
                    · rw [eb_ok, g0, eb_ok, f0, eb_ok, eb_ok, g1, eb_ok, f1] at z3; cases z3; exact f3.2
                  rw [f1, eb_ok, eb_ok] at z
                  rw [eb_ok]
                  cases g2 : fxP tx en m2.2 13 with
                  | error e1 => rw [g2] at z; cases z
                  | ok p2 =>
                    rw [g2, eb_ok] at z
                    rw [eb_ok]
                    cases f2 : nwP tx en p2 0 99 with
                    | error e1 => rw [f2] at z; cases z
                    | ok m3 =>
                      have v2 : x3 = m3.1 := by
                        rcases s3.2 with ⟨e3, z3, _⟩ | ⟨a3, z3, f3⟩
                        · rw [eb_ok, g0, eb_ok, f0, eb_ok, eb_ok, g1, eb_ok, f1, eb_ok, eb_ok, g2, eb_ok, f2] at z3; cases z3
                        · rw [eb_ok, g0, eb_ok, f0, eb_ok, eb_ok, g1, eb_ok, f1, eb_ok, eb_ok, g2, eb_ok, f2] at z3; cases z3; exact f3.2
                      rw [f2, eb_ok, eb_ok] at z
                      rw [eb_ok]
                      cases g3 : fxP tx en m3.2 14 with
                      | error e1 => rw [g3] at z; cases z
                      | ok p3 =>
                        rw [g3, eb_ok] at z
                        rw [eb_ok]
                        cases f3 : nwP tx en p3 1 60 with
                        | error e1 => rw [f3] at z; cases z
                        | ok m4 =>
                          rw [f3] at z; cases z; rw [eb_ok, v0, v1, v2]
      refine g_aL0 dX10_readCity_61 ?_
      refine g_gI lf_X10_71 (b4.S.l 50 rfl) (b4.S.k 50 rfl rfl) dX10_readCity_62 ?_
      refine g_iconst dX10_readCity_65 ?_
      refine g_icne dX10_readCity_66 (fun c66 => ?_) (fun c66 => absurd c66 r4.n5)
      refine g_aL0 dX10_readCity_70 ?_
      refine g_getR lf_X10_167 (b4.S.l 50 rfl) (b4.S.k 50 rfl rfl) b4.C dX10_readCity_71 ?_
      refine g_iL1 dX10_readCity_74 ?_
      refine g_pI1 lf_X10_171 (b4.M.l 0 rfl) (b4.M.k 0 rfl rfl) dX10_readCity_75 ?_
      refine g_aL0 dX10_readCity_78 ?_
      refine g_getR lf_X10_167 (b4.S.l 50 rfl) (b4.S.k 50 rfl rfl) b4.C dX10_readCity_79 ?_
      refine g_iL2 dX10_readCity_82 ?_
      refine g_pI1 lf_X10_206 (b4.M.l 0 rfl) (b4.M.k 0 rfl rfl) dX10_readCity_83 ?_
      refine g_aL0 dX10_readCity_86 ?_
      refine g_getR lf_X10_167 (b4.S.l 50 rfl) (b4.S.k 50 rfl rfl) b4.C dX10_readCity_87 ?_
      refine g_iL3 dX10_readCity_90 ?_
      refine g_pI1 lf_X10_261 (b4.M.l 0 rfl) (b4.M.k 0 rfl rfl) dX10_readCity_91 ?_
      refine g_aL0 dX10_readCity_94 ?_
      refine g_getR lf_X10_167 (b4.S.l 50 rfl) (b4.S.k 50 rfl rfl) b4.C dX10_readCity_95 ?_
      refine g_iL4 dX10_readCity_98 ?_
      refine g_pI1 lf_X10_263 (b4.M.l 0 rfl) (b4.M.k 0 rfl rfl) dX10_readCity_100 ?_
      have hI : ∀ j, gI (pI (pI (pI (pI h1 c 0 x1) c 1 x2) c 2 x3) c 3 y.1) 50 j = gI h1 50 j := fun j => (gIq (by omega)).trans ((gIq (by omega)).trans ((gIq (by omega)).trans (gIq (by omega))))
      refine g_vret rfl dX10_readCity_103 rfl rfl ⟨rfl, (PG_0 _ _).trans ((PG_0 _ _).trans ((PG_0 _ _).trans ((PG_0 _ _).trans ((k4.trans (k3.trans (k2.trans (k1.trans k0)))).p c)))), s4.1.o hI, Or.inr ⟨_, ho, r4.o hI rfl, (((b4.pI (a := 0) _ (by decide) (by decide)).pI (a := 0) _ (by decide) (by decide)).pI (a := 0) _ (by decide) (by decide)).pI (a := 0) _ (by decide) (by decide), ?_⟩⟩
      exact RCx.cnt (RCx.cnt (RCx.cnt (RCx.cnt d4 (f0 := 0) (by decide) x1) (f0 := 1) (by decide) x2) (f0 := 2) (by decide) x3) (f0 := 3) (by decide) y.1
  refine g_aL0 dX10_readCity_0 ?_
  refine g_getR lf_X10_167 (b.S.l 50 rfl) (b.S.k 50 rfl rfl) b.C dX10_readCity_1 ?_
  refine g_gI lf_X10_171 (b.M.l 0 rfl) (b.M.k 0 rfl rfl) dX10_readCity_4 ?_
  rw [show gI h c 0 = C 0 1 from d.1 0 (by decide)]
  refine g_ifle dX10_readCity_7 (fun c7 => ?_) (fun c7 => ?_)
  · rw [if_pos c7] at hoo
    refine g_aL0 dX10_readCity_15 ?_
    refine r_v0u (r_goesOn b (o := .ok q) ⟨hL, Or.inr ⟨q, rfl, r⟩⟩ (fun q' z => by cases z; rw [ht]; decide)) lm_X10_123 dX10_readCity_16 (b.S.l 50 rfl) (b.S.k 50 rfl rfl) rfl rfl rfl rfl (fun v h' z => z.1) (fun h1 z => ?_)
    obtain ⟨-, k1, s1⟩ := z
    exact rest h1 _ k1 s1 hoo.symm
  · refine g_aL0 dX10_readCity_10 ?_
    refine g_iconst dX10_readCity_11 ?_
    refine e_v1u (d_flaw0 b.S r.n5 _) lm_X10_130 dX10_readCity_12 (b.S.l 50 rfl) (b.S.k 50 rfl rfl) rfl rfl rfl rfl ?_
    rw [if_neg c7] at hoo
    have kf := GQ_fw h 3 (gI h 50 10)
    have b0 := b.go kf
    refine g_aL0 dX10_readCity_15 ?_
    refine e_v0u (d_goesOn5 b0.S (fw5 _ _ _)) lm_X10_123 dX10_readCity_16 (b0.S.l 50 rfl) (b0.S.k 50 rfl rfl) rfl rfl rfl rfl ?_
    exact rest _ (.error (3, tkP tx en q)) kf ⟨LB_fw hL _ _, Or.inl ⟨_, rfl, RF_fw r (by decide)⟩⟩ hoo.symm

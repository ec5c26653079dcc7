/-! THE REFERENCE'S PARSER: thieves, letters, shards, shelf, city -/
theorem r_readSent {tx : Nat → Int32} {en : Nat} {h : Hp} {c : Nat} {K : List Nm} (b : RB tx en h c K) {C : CT} (d : RD h c C) (wi : WI C K (nnC C)) (hL : LB h) {q : Nat} (r : RK tx en h q) (ht : tkS tx en q = 1) : gC 9 0 0 yX10_readSent cX10_readSent 4 none [.ref 50] h (LM tx en h c (lxB tx en C q 7 6 (fun q => senP tx en C q K))) := by
  have hc6 := b.M.1
  have hu := wi.2.1
  generalize hoo : (lxB tx en C q 7 6 (fun q => senP tx en C q K)) = oo
  refine g_entry (lv := [.ref 50, .retAddr 0, .retAddr 0, .retAddr 0]) 3 pn_X10 rfl rfl rfl ?_
  refine g_aL0 dX10_readSent_0 ?_
  refine g_aL0 dX10_readSent_1 ?_
  refine g_getR lf_X10_167 (b.S.l 50 rfl) (b.S.k 50 rfl rfl) b.C dX10_readSent_2 ?_
  refine g_gI lf_X10_325 (b.M.l 0 rfl) (b.M.k 0 rfl rfl) dX10_readSent_5 ?_
  rw [show gI h c 10 = C 1 7 from d.1 10 (by decide)]
  refine g_bipush dX10_readSent_8 ?_
  refine r_v2u (r_begins b (o := (.ok q)) ⟨hL, Or.inr ⟨q, rfl, r⟩⟩ (fun q' z => by cases z; rw [ht]; decide) (wd := C 0 1) (d.1 0 (by decide)) (C 1 7) 6) lm_X10_265 dX10_readSent_10 (b.S.l 50 rfl) (b.S.k 50 rfl rfl) rfl rfl rfl rfl (fun v h' z => z.1) (fun h1 z => ?_)
  obtain ⟨-, k1, s1⟩ := z
  have b1 := b.go k1
  have d1 := RC.go d hc6 k1
  replace s1 : RSt h1 (o1P tx en C q 7 6) (RKs tx en) := s1
  refine g_aL0 dX10_readSent_13 ?_
  refine g_iconst dX10_readSent_14 ?_
  rw [show (0 : Int32) = nsM 1 from by decide]
  refine r_v1i (r_readKnown b1 s1 (so := 1) (by decide)) lm_X10_303 dX10_readSent_15 (b1.S.l 50 rfl) (b1.S.k 50 rfl rfl) rfl rfl rfl rfl (fun v h' z => ⟨_, z.choose_spec.1⟩) (fun xp h1 z => ?_)
  obtain ⟨xw, z0, k2, s2⟩ := z
  obtain rfl := Value.int.inj (Option.some.inj z0)
  have b2 := b1.go k2
  have d2 := RC.go d1 hc6 k2
  have s2' := s2.map (R' := RKs tx en) (fun y => y.2) (fun a f => f.1)
  refine g_iS1 dX10_readSent_18 rfl rfl ?_
  refine g_aL0 dX10_readSent_19 ?_
  refine g_iconst dX10_readSent_20 ?_
  rw [show (3 : Int32) = nsM 4 from by decide]
  refine r_v1i (r_readKnown b2 s2' (so := 4) (by decide)) lm_X10_303 dX10_readSent_21 (b2.S.l 50 rfl) (b2.S.k 50 rfl rfl) rfl rfl rfl rfl (fun v h' z => ⟨_, z.choose_spec.1⟩) (fun xf h1 z => ?_)
  obtain ⟨xw, z0, k3, s3⟩ := z
  obtain rfl := Value.int.inj (Option.some.inj z0)
  have b3 := b2.go k3
  have d3 := RC.go d2 hc6 k3
  have s3' := s3.map (R' := RKs tx en) (fun y => y.2) (fun a f => f.1)
  refine g_iS2 dX10_readSent_24 rfl rfl ?_
  refine g_aL0 dX10_readSent_25 ?_
  refine g_iconst dX10_readSent_26 ?_
  rw [show (3 : Int32) = nsM 4 from by decide]
  refine r_v1i (r_readKnown b3 s3' (so := 4) (by decide)) lm_X10_303 dX10_readSent_27 (b3.S.l 50 rfl) (b3.S.k 50 rfl rfl) rfl rfl rfl rfl (fun v h' z => ⟨_, z.choose_spec.1⟩) (fun xt h1 z => ?_)
  obtain ⟨xw, z0, k4, s4⟩ := z
  obtain rfl := Value.int.inj (Option.some.inj z0)
  have b4 := b3.go k4
  have d4 := RC.go d3 hc6 k4
  have s4' := s4.map (R' := RKs tx en) (fun y => y.2) (fun a f => f.1)
  refine g_iS3 dX10_readSent_30 rfl rfl ?_
  have hoo2 : oo = Except.bind (o1P tx en C q 7 6) (fun q => Except.bind (senP tx en C q K) (cuP 7)) := hoo.symm
  rcases s4.2 with ⟨e, z, f⟩ | ⟨y, z, f⟩
  · have ho : oo = .error e := by
      rw [hoo2]
      cases h1 : o1P tx en C q 7 6 with
      | error e1 => rw [h1] at z; cases z; rfl
      | ok q1 =>
        rw [h1, eb_ok] at z
        show Except.bind (Except.bind (knP tx en q1 K 1) _) _ = _
        cases h2 : knP tx en q1 K 1 with
        | error e2 => rw [h2] at z; cases z; rfl
        | ok a =>
          rw [h2, eb_ok, eb_ok, eb_ok] at z
          show Except.bind (Except.bind (knP tx en (nx tx en q1) K 4) _) _ = _
          cases h3 : knP tx en (nx tx en q1) K 4 with
          | error e3 => rw [h3] at z; cases z; rfl
          | ok b =>
            rw [h3, eb_ok, eb_ok, eb_ok] at z
            show Except.bind (Except.bind (knP tx en (nx tx en (nx tx en q1)) K 4) _) _ = _
            cases h4 : knP tx en (nx tx en (nx tx en q1)) K 4 with
            | error e3 => rw [h4] at z; cases z; rfl
            | ok b => rw [h4] at z; cases z
    refine g_aL0 dX10_readSent_31 ?_
    refine g_gI lf_X10_71 (b4.S.l 50 rfl) (b4.S.k 50 rfl rfl) dX10_readSent_32 ?_
    refine g_iconst dX10_readSent_35 ?_
    refine g_icne dX10_readSent_36 (fun c36 => absurd f.1 c36) (fun c36 => ?_)
    exact g_vret rfl dX10_readSent_39 rfl rfl ⟨rfl, (k4.trans (k3.trans (k2.trans k1))).p c, s4.1, Or.inl ⟨e, ho, f⟩⟩
  · obtain ⟨r4, rfl⟩ := f
    obtain ⟨hn8, hnl, ho⟩ : ¬ C 1 7 = 6 ∧ nnC C 7 < 6 ∧ oo = .ok (y.2, u2 (u2 (u2 (u2 C 9 (pn (C 1 7)) xp) 10 (pn (C 1 7)) xf) 11 (pn (C 1 7)) y.1) 1 7 (u2 (u2 (u2 C 9 (pn (C 1 7)) xp) 10 (pn (C 1 7)) xf) 11 (pn (C 1 7)) y.1 1 7 + 1), K) := by
      cases h1 : o1P tx en C q 7 6 with
      | error e1 => rw [h1] at z; cases z
      | ok q1 =>
        have hn8 := (o1_ok h1).1
        refine ⟨hn8, wi.lt (k := 7) (m := 6) (by decide) hn8 (by omega), ?_⟩
        rw [hoo2, h1]
        rw [h1, eb_ok] at z
        show Except.bind (Except.bind (knP tx en q1 K 1) _) _ = _
        cases h2 : knP tx en q1 K 1 with
        | error e2 => rw [h2] at z; cases z
        | ok a =>
          have e1 : xp = a := by
            rcases s2.2 with ⟨e3, z3, _⟩ | ⟨a3, z3, f3⟩
            · rw [h1, eb_ok, h2] at z3; cases z3
            · rw [h1, eb_ok, h2] at z3; cases z3; exact f3.2
          rw [h2, eb_ok, eb_ok, eb_ok] at z
          show Except.bind (Except.bind (knP tx en (nx tx en q1) K 4) _) _ = _
          cases h3 : knP tx en (nx tx en q1) K 4 with
          | error e3 => rw [h3] at z; cases z
          | ok b =>
            have e2 : xf = b := by
              rcases s3.2 with ⟨e3, z3, _⟩ | ⟨a3, z3, f3⟩
              · rw [h1, eb_ok, h2, eb_ok, eb_ok, eb_ok, h3] at z3; cases z3
              · rw [h1, eb_ok, h2, eb_ok, eb_ok, eb_ok, h3] at z3; cases z3; exact f3.2
            rw [h3, eb_ok, eb_ok, eb_ok] at z
            show Except.bind (Except.bind (knP tx en (nx tx en (nx tx en q1)) K 4) _) _ = _
            cases h4 : knP tx en (nx tx en (nx tx en q1)) K 4 with
            | error e3 => rw [h4] at z; cases z
            | ok t => rw [h4] at z; cases z; rw [e1, e2]; rfl
    have ck := wi.c (k := 7) (by decide)
    generalize hnn : nnC C 7 = n at hnl ck
    rw [ck, pn_nI (by omega)] at ho
    refine g_aL0 dX10_readSent_31 ?_
    refine g_gI lf_X10_71 (b4.S.l 50 rfl) (b4.S.k 50 rfl rfl) dX10_readSent_32 ?_
    refine g_iconst dX10_readSent_35 ?_
    refine g_icne dX10_readSent_36 (fun c36 => ?_) (fun c36 => absurd c36 r4.n5)
    refine g_aL0 dX10_readSent_40 ?_
    refine g_getR lf_X10_167 (b4.S.l 50 rfl) (b4.S.k 50 rfl rfl) b4.C dX10_readSent_41 ?_
    refine g_getRn lf_X10_326 (b4.M.l 0 rfl) (b4.M.k 0 rfl rfl) (b4.M.r 22 (j := 8) rfl) dX10_readSent_44 ?_
    refine g_aL0 dX10_readSent_47 ?_
    refine g_getR lf_X10_167 (b4.S.l 50 rfl) (b4.S.k 50 rfl rfl) b4.C dX10_readSent_48 ?_
    refine g_gI lf_X10_325 (b4.M.l 0 rfl) (b4.M.k 0 rfl rfl) dX10_readSent_51 ?_
    rw [show gI h1 c 10 = nI n from (d4.1 10 (by decide)).trans ck]
    refine g_iL1 dX10_readSent_54 ?_
    refine g_iastoreN (b4.M.l 8 rfl) (b4.M.k 8 rfl rfl) (b4.M.n 8 (n := 6) rfl rfl) (by omega) (by decide) dX10_readSent_55 ?_
    refine g_aL0 dX10_readSent_56 ?_
    refine g_getR lf_X10_167 (b4.S.l 50 rfl) (b4.S.k 50 rfl rfl) b4.C dX10_readSent_57 ?_
    refine g_getRn lf_X10_329 (b4.M.l 0 rfl) (b4.M.k 0 rfl rfl) (b4.M.r 23 (j := 9) rfl) dX10_readSent_60 ?_
    refine g_aL0 dX10_readSent_63 ?_
    refine g_getR lf_X10_167 (b4.S.l 50 rfl) (b4.S.k 50 rfl rfl) b4.C dX10_readSent_64 ?_
    refine g_gI lf_X10_325 (b4.M.l 0 rfl) (b4.M.k 0 rfl rfl) dX10_readSent_67 ?_
    rw [show gI (pI h1 (c + 8) n xp) c 10 = nI n from (gIq (by omega)).trans ((d4.1 10 (by decide)).trans ck)]
    refine g_iL2 dX10_readSent_70 ?_
    refine g_iastoreN (b4.M.l 9 rfl) (b4.M.k 9 rfl rfl) (b4.M.n 9 (n := 6) rfl rfl) (by omega) (by decide) dX10_readSent_71 ?_
    refine g_aL0 dX10_readSent_72 ?_
    refine g_getR lf_X10_167 (b4.S.l 50 rfl) (b4.S.k 50 rfl rfl) b4.C dX10_readSent_73 ?_
    refine g_getRn lf_X10_332 (b4.M.l 0 rfl) (b4.M.k 0 rfl rfl) (b4.M.r 24 (j := 10) rfl) dX10_readSent_76 ?_
    refine g_aL0 dX10_readSent_79 ?_
    refine g_getR lf_X10_167 (b4.S.l 50 rfl) (b4.S.k 50 rfl rfl) b4.C dX10_readSent_80 ?_
    refine g_gI lf_X10_325 (b4.M.l 0 rfl) (b4.M.k 0 rfl rfl) dX10_readSent_83 ?_
    rw [show gI (pI (pI h1 (c + 8) n xp) (c + 9) n xf) c 10 = nI n from (gIq (by omega)).trans ((gIq (by omega)).trans ((d4.1 10 (by decide)).trans ck))]
    refine g_iL3 dX10_readSent_86 ?_
    refine g_iastoreN (b4.M.l 10 rfl) (b4.M.k 10 rfl rfl) (b4.M.n 10 (n := 6) rfl rfl) (by omega) (by decide) dX10_readSent_87 ?_
    refine g_aL0 dX10_readSent_88 ?_
    refine g_getR lf_X10_167 (b4.S.l 50 rfl) (b4.S.k 50 rfl rfl) b4.C dX10_readSent_89 ?_
    refine g_dup dX10_readSent_92 rfl ?_
    refine g_gI lf_X10_325 (b4.M.l 0 rfl) (b4.M.k 0 rfl rfl) dX10_readSent_93 ?_
    rw [show gI (pI (pI (pI h1 (c + 8) n xp) (c + 9) n xf) (c + 10) n y.1) c 10 = nI n from (gIq (by omega)).trans ((gIq (by omega)).trans ((gIq (by omega)).trans ((d4.1 10 (by decide)).trans ck)))]
    refine g_iconst dX10_readSent_96 ?_
    refine g_iadd dX10_readSent_97 ?_
    refine g_pI1 lf_X10_325 (b4.M.l 0 rfl) (b4.M.k 0 rfl rfl) dX10_readSent_98 ?_
    replace ho : oo = .ok (y.2, (u2 (u2 (u2 (u2 C 9 n xp) 10 n xf) 11 n y.1) 1 7 (nI n + 1)), K) := ho.trans (by rw [show (u2 (u2 (u2 C 9 n xp) 10 n xf) 11 n y.1) 1 7 = nI n from ck])
    have hI : ∀ j, gI (pI (pI (pI (pI h1 (c + 8) n xp) (c + 9) n xf) (c + 10) n y.1) c 10 (nI n + 1)) 50 j = gI h1 50 j := fun j => (gIq (by omega)).trans ((gIq (by omega)).trans ((gIq (by omega)).trans ((gIq (by omega)).trans ((fun j => rfl) j))))
    refine g_vret rfl dX10_readSent_101 rfl rfl ⟨rfl, (PG_0 _ _).trans ((PG_I _ _ (by omega)).trans ((PG_I _ _ (by omega)).trans ((PG_I _ _ (by omega)).trans ((k4.trans (k3.trans (k2.trans k1))).p c)))), s4.1.o hI, Or.inr ⟨_, ho, r4.o hI rfl, ((((b4.pI (a := 8) _ (by decide) (by omega)).pI (a := 9) _ (by decide) (by omega)).pI (a := 10) _ (by decide) (by omega)).pI (a := 0) _ (by decide) (by decide)), ?_⟩⟩
    exact RCx.w (RCx.cnt (RCx.put (RCx.put (RCx.put d4 (a0 := 8) (by decide) n xp) (a0 := 9) (by decide) n xf) (a0 := 10) (by decide) n y.1) (f0 := 10) (by decide) (nI n + 1)) (lv' := lvF (nnC (u2 (u2 (u2 (u2 C 9 n xp) 10 n xf) 11 n y.1) 1 7 (nI n + 1)))) (fun a' j h1 h2 h3 => by
      rw [show (nI n + 1) = (u2 (u2 (u2 C 9 n xp) 10 n xf) 11 n y.1) 1 7 + 1 from by rw [show (u2 (u2 (u2 C 9 n xp) 10 n xf) 11 n y.1) 1 7 = nI n from ck], nn_up (C := C) ck (by omega) (fun j => by first | rfl | (simp only [u2_na _ _ _ (show ¬ (1 : Nat) = 2 by decide), u2_na _ _ _ (show ¬ (1 : Nat) = 3 by decide), u2_na _ _ _ (show ¬ (1 : Nat) = 6 by decide), u2_na _ _ _ (show ¬ (1 : Nat) = 7 by decide), u2_na _ _ _ (show ¬ (1 : Nat) = 8 by decide), u2_na _ _ _ (show ¬ (1 : Nat) = 9 by decide), u2_na _ _ _ (show ¬ (1 : Nat) = 10 by decide), u2_na _ _ _ (show ¬ (1 : Nat) = 11 by decide), u2_na _ _ _ (show ¬ (1 : Nat) = 12 by decide), u2_na _ _ _ (show ¬ (1 : Nat) = 13 by decide), u2_na _ _ _ (show ¬ (1 : Nat) = 14 by decide)]))] at h3
      rcases lv_up a' j h3 with z5 | z5
      · exact (Or.inl (Or.inl (Or.inl z5)))
      · rcases gp_7 ⟨a', by omega⟩ h1 z5.1 z5.2.1 with z6 | z6 | z6
        · exact (Or.inl (Or.inl (Or.inr ⟨z6, z5.2.2.trans hnn⟩)))
        · exact (Or.inl (Or.inr ⟨z6, z5.2.2.trans hnn⟩))
        · exact (Or.inr ⟨z6, z5.2.2.trans hnn⟩))
theorem d_isThiefR {tx : Nat → Int32} {en : Nat} {h : Hp} {c : Nat} {K : List Nm} (b : RB tx en h c K) (x : Int32) : gCi 0 0 0 yX9_isThief cX9_isThief 2 (some .boolean) [.ref c, .int x] h (some (.int (thF (gI h c 9) x))) h := by
  refine g_entry (lv := [.ref c, .int x]) 0 pn_X9 rfl rfl rfl ?_
  refine g_aL0 dX9_isThief_0 ?_
  refine g_gI lf_X9_74 (b.M.l 0 rfl) (b.M.k 0 rfl rfl) dX9_isThief_1 ?_
  refine g_iL1 dX9_isThief_4 ?_
  refine g_ishr dX9_isThief_5 ?_
  refine g_iconst dX9_isThief_6 ?_
  refine g_iand dX9_isThief_7 ?_
  refine g_iconst dX9_isThief_8 ?_
  refine g_icne dX9_isThief_9 (fun c9 => ?_) (fun c9 => ?_)
  · refine g_iconst dX9_isThief_16 ?_
    exact e_zret rfl (by decide) dX9_isThief_17 rfl rfl (th0 c9).symm rfl
  · refine g_iconst dX9_isThief_12 ?_
    refine g_goto dX9_isThief_13 ?_
    exact e_zret rfl (by decide) dX9_isThief_17 rfl rfl (th1 c9).symm rfl
theorem r_readThief {tx : Nat → Int32} {en : Nat} {h : Hp} {c : Nat} {K : List Nm} (b : RB tx en h c K) {C : CT} (d : RD h c C) (wi : WI C K (nnC C)) (hL : LB h) {q : Nat} (r : RK tx en h q) (ht : tkS tx en q = 1) : gC 9 0 0 yX10_readThief cX10_readThief 2 none [.ref 50] h (LM tx en h c (Except.bind (osP tx en C q) (fun q => Except.bind (thiP tx en C q K) (cuP 6)))) := by
  have hc6 := b.M.1
  have hu := wi.2.1
  generalize hoo : (Except.bind (osP tx en C q) (fun q => Except.bind (thiP tx en C q K) (cuP 6))) = oo
  refine g_entry (lv := [.ref 50, .retAddr 0]) 1 pn_X10 rfl rfl rfl ?_
  refine g_aL0 dX10_readThief_0 ?_
  refine g_iconst dX10_readThief_1 ?_
  refine g_iconst dX10_readThief_2 ?_
  refine r_v2u (r_begins b (o := (.ok q)) ⟨hL, Or.inr ⟨q, rfl, r⟩⟩ (fun q' z => by cases z; rw [ht]; decide) (wd := C 0 1) (d.1 0 (by decide)) 0 1) lm_X10_265 dX10_readThief_3 (b.S.l 50 rfl) (b.S.k 50 rfl rfl) rfl rfl rfl rfl (fun v h' z => z.1) (fun h1 z => ?_)
  obtain ⟨-, k1, s1⟩ := z
  have b1 := b.go k1
  have d1 := RC.go d hc6 k1
  replace s1 : RSt h1 (osP tx en C q) (RKs tx en) := s1
  refine g_aL0 dX10_readThief_6 ?_
  refine g_iconst dX10_readThief_7 ?_
  rw [show (3 : Int32) = nsM 4 from by decide]
  refine r_v1i (r_knownOne b1 s1 (so := 4) (by decide)) lm_X10_197 dX10_readThief_8 (b1.S.l 50 rfl) (b1.S.k 50 rfl rfl) rfl rfl rfl rfl (fun v h' z => ⟨_, z.choose_spec.1⟩) (fun xa h1 z => ?_)
  obtain ⟨xw, z0, k2, s2⟩ := z
  obtain rfl := Value.int.inj (Option.some.inj z0)
  have b2 := b1.go k2
  have d2 := RC.go d1 hc6 k2
  refine g_iS1 dX10_readThief_11 rfl rfl ?_
  rcases s2.2 with ⟨e, z, f⟩ | ⟨y, z, f⟩
  · have ho : oo = .error e := by
      rw [← hoo]
      cases h1 : osP tx en C q with
      | error e1 => rw [h1] at z; cases z; rfl
      | ok q1 =>
        rw [h1, eb_ok] at z
        show Except.bind (Except.bind (knP tx en q1 K 4) _) _ = _
        cases h2 : knP tx en q1 K 4 with
        | error e2 => rw [h2] at z; cases z; rfl
        | ok a => rw [h2] at z; cases z
    refine g_aL0 dX10_readThief_12 ?_
    refine g_gI lf_X10_71 (b2.S.l 50 rfl) (b2.S.k 50 rfl rfl) dX10_readThief_13 ?_
    refine g_iconst dX10_readThief_16 ?_
    refine g_iceq dX10_readThief_17 (fun c17 => ?_) (fun c17 => absurd f.1 c17)
    refine g_aL0 dX10_readThief_36 ?_
    refine e_v0u (d_goesOn5 b2.S f.1) lm_X10_123 dX10_readThief_37 (b2.S.l 50 rfl) (b2.S.k 50 rfl rfl) rfl rfl rfl rfl ?_
    refine g_aL0 dX10_readThief_40 ?_
    refine g_gI lf_X10_71 (b2.S.l 50 rfl) (b2.S.k 50 rfl rfl) dX10_readThief_41 ?_
    refine g_iconst dX10_readThief_44 ?_
    refine g_iceq dX10_readThief_45 (fun c45 => ?_) (fun c45 => absurd f.1 c45)
    exact g_vret rfl dX10_readThief_63 rfl rfl ⟨rfl, (k2.trans k1).p c, s2.1, Or.inl ⟨e, ho, f⟩⟩
  · obtain ⟨r2, rfl⟩ := f
    cases h1' : osP tx en C q with
    | error e1 => rw [h1'] at z; cases z
    | ok q1 =>
      rw [h1', eb_ok] at z hoo
      replace hoo : Except.bind (Except.bind (knP tx en q1 K 4) _) _ = oo := hoo
      cases h2' : knP tx en q1 K 4 with
      | error e2 => rw [h2'] at z; cases z
      | ok a =>
        rw [h2'] at z
        cases z
        rw [h2', eb_ok] at hoo
        have ht1 := (kn_mem h2').1
        refine g_aL0 dX10_readThief_12 ?_
        refine g_gI lf_X10_71 (b2.S.l 50 rfl) (b2.S.k 50 rfl rfl) dX10_readThief_13 ?_
        refine g_iconst dX10_readThief_16 ?_
        refine g_iceq dX10_readThief_17 (fun c17 => absurd c17 r2.n5) (fun c17 => ?_)
        refine g_aL0 dX10_readThief_20 ?_
        refine g_getR lf_X10_167 (b2.S.l 50 rfl) (b2.S.k 50 rfl rfl) b2.C dX10_readThief_21 ?_
        refine g_iL1 dX10_readThief_24 ?_
        refine e_v1i (d_isThiefR b2 _) lm_X10_319 dX10_readThief_25 (b2.M.l 0 rfl) (b2.M.k 0 rfl rfl) rfl rfl rfl rfl ?_
        rw [show gI h1 c 9 = C 0 13 from d2.1 9 (by decide)]
        refine g_ifeq dX10_readThief_28 (fun c28 => ?_) (fun c28 => ?_)
        · rw [if_pos c28] at hoo
          refine g_aL0 dX10_readThief_36 ?_
          refine r_v0u (r_goesOn b2 (o := .ok q1) ⟨s2.1, Or.inr ⟨_, rfl, r2⟩⟩ (fun q' z => by cases z; rw [ht1]; decide)) lm_X10_123 dX10_readThief_37 (b2.S.l 50 rfl) (b2.S.k 50 rfl rfl) rfl rfl rfl rfl (fun v h' z => z.1) (fun h1 z => ?_)
          obtain ⟨-, k3, s3⟩ := z
          have b3 := b2.go k3
          have d3 := RC.go d2 hc6 k3
          rcases s3.2 with ⟨e3, z3, f3⟩ | ⟨a3, z3, r3⟩
          · cases z3
          cases z3
          refine g_aL0 dX10_readThief_40 ?_
          refine g_gI lf_X10_71 (b3.S.l 50 rfl) (b3.S.k 50 rfl rfl) dX10_readThief_41 ?_
          refine g_iconst dX10_readThief_44 ?_
          refine g_iceq dX10_readThief_45 (fun c45 => absurd c45 r3.n5) (fun c45 => ?_)
          refine g_aL0 dX10_readThief_48 ?_
          refine g_getR lf_X10_167 (b3.S.l 50 rfl) (b3.S.k 50 rfl rfl) b3.C dX10_readThief_49 ?_
          refine g_dup dX10_readThief_52 rfl ?_
          refine g_gI lf_X10_322 (b3.M.l 0 rfl) (b3.M.k 0 rfl rfl) dX10_readThief_53 ?_
          rw [show gI h1 c 9 = C 0 13 from d3.1 9 (by decide)]
          refine g_iconst dX10_readThief_56 ?_
          refine g_iL1 dX10_readThief_57 ?_
          refine g_ishl dX10_readThief_58 ?_
          refine g_ior dX10_readThief_59 ?_
          refine g_pI1 lf_X10_322 (b3.M.l 0 rfl) (b3.M.k 0 rfl rfl) dX10_readThief_60 ?_
          have hI : ∀ j, gI (pI h1 c 9 (C 0 13 ||| ((1 : Int32) <<< (a &&& 31)))) 50 j = gI h1 50 j := fun j => gIq (by omega)
          refine g_vret rfl dX10_readThief_63 rfl rfl ⟨rfl, (PG_0 _ _).trans ((k3.trans (k2.trans k1)).p c), s3.1.o hI, Or.inr ⟨_, hoo.symm, r3.o hI rfl, b3.pI (a := 0) _ (by decide) (by decide), ?_⟩⟩
          have dx := RCx.cnt d3 (f0 := 9) (by decide) (C 0 13 ||| ((1 : Int32) <<< (a &&& 31)))
          refine RCx.w (lv := lvF (nnC C)) (lv' := lvF (nnC (u2 (u2 C 0 13 (C 0 13 ||| ((1 : Int32) <<< (a &&& 31)))) 1 6 (u2 C 0 13 (C 0 13 ||| ((1 : Int32) <<< (a &&& 31))) 1 6 + 1)))) ⟨dx.1.cnt (Or.inl ⟨rfl, Or.inr rfl⟩) _, dx.2.1.sc (by decide) _, dx.2.2.u (by decide) _⟩ (fun a' j h1 h2 h3 => ?_)
          rw [nn_up (C := C) (wi.c (k := 6) (by decide)) (by omega) (fun j => u2_na _ _ _ (show ¬ (1 : Nat) = 0 by decide) ▸ rfl)] at h3
          rcases lv_up a' j h3 with z5 | z5
          · exact z5
          · exact absurd z5.1 (gp_no6 ⟨a', by omega⟩)
        · refine g_aL0 dX10_readThief_31 ?_
          refine g_iconst dX10_readThief_32 ?_
          refine e_v1u (d_flaw0 b2.S r2.n5 _) lm_X10_130 dX10_readThief_33 (b2.S.l 50 rfl) (b2.S.k 50 rfl rfl) rfl rfl rfl rfl ?_
          rw [if_neg c28] at hoo
          have kf := GQ_fw h1 3 (gI h1 50 10)
          have b3 := b2.go kf
          refine g_aL0 dX10_readThief_36 ?_
          refine e_v0u (d_goesOn5 b3.S (fw5 _ _ _)) lm_X10_123 dX10_readThief_37 (b3.S.l 50 rfl) (b3.S.k 50 rfl rfl) rfl rfl rfl rfl ?_
          refine g_aL0 dX10_readThief_40 ?_
          refine g_gI lf_X10_71 (b3.S.l 50 rfl) (b3.S.k 50 rfl rfl) dX10_readThief_41 ?_
          refine g_iconst dX10_readThief_44 ?_
          refine g_iceq dX10_readThief_45 (fun c45 => ?_) (fun c45 => absurd (fw5 _ _ _) c45)
          exact g_vret rfl dX10_readThief_63 rfl rfl ⟨rfl, (kf.trans (k2.trans k1)).p c, LB_fw s2.1 _ _, Or.inl ⟨_, hoo.symm, RF_fw r2 (by decide)⟩⟩

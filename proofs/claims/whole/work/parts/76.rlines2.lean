/-! THE REFERENCE'S PARSER: panes, corners, people -/
section LW
variable {p : Program} {l : Launch} {e : Env} {R : Room} {s : State} {m : MethodId} {args : Array Value} {below : List Frame} {meth : Method} {c : Code} {H : Heap} {locs : List Loc} {cells slots : Nat} {Q : State → Prop} {cc : ByteArray} {pc : Nat} {ls : Array Slot} {rest : List Value}
theorem ga_ldcSw (hexec : p.tables.exec = Jvm.exec) (hb : c.code = cc) {own tx : String} {index q : Nat} (hown : s.vm.findClass own = some m.cls) (hZ : vk_R own index tx q s) (hdg : decode cc pc = .ok (.ldc_w index, 3))
    (k : W p l e R s m args below meth c H locs cells slots Q (F0 m (pc + 3) ls (.ref q :: rest))) : W p l e R s m args below meth c H locs cells slots Q (F0 m pc ls rest) := by
  intro T hT X
  obtain ⟨t, a1, b1⟩ := k T hT X
  exact ⟨t, X.ldcStringW hexec hown (text := tx) (a := q) hZ.1 hZ.2 (g := F0 m pc ls rest) rfl (by rw [hb]; exact hdg) t a1, b1⟩
end LW
theorem g_ldcSw {d RC RS nL cells slots pc q : Nat} {y : MethodName} {cc : ByteArray} {ret : Option FieldType} {Q : Option Value → Hp → Prop} {lv st : List Value} {h : Hp} {idx : Nat} {tx : String} {n : Nat} {x : UInt32} (hin : (y.cls, idx, tx, n) ∈ gsr) (hx0 : ¬ x = 0 ∧ x.toNat - 1 = n) (hd : gd cc pc (.ldc_w idx) 3 q) (k : gY d RC RS y cc nL ret cells slots Q q lv (.float x :: st) h) : gY d RC RS y cc nL ret cells slots Q pc lv st h := by
  obtain ⟨hd, rfl⟩ := hd
  intro p l e s m args below meth c G C ls H locs hl hw hS
  obtain ⟨hx, hb, hml, hown, hts, -, -, -, hKo⟩ := id C
  refine ga_ldcSw hx hb hown (hKo.2.2.2.1 _ hin) hd ?_
  have e9 : Value.ref (gAK G n) = gtr G (.float x) := by
    show _ = Value.ref (if x = 0 then _ else _)
    rw [if_neg hx0.1, hx0.2]
  show W _ _ _ _ _ _ _ _ _ _ _ _ _ _ _ (F0 m (pc + 3) ls (Value.ref (gAK G n) :: st.map (gtr G)))
  rw [e9]
  exact k p l e s m args below meth c G C ls H locs hl hw hS
theorem gp_no5 : ∀ a : Fin 14, ¬ gpF a.1 = 5 := by decide
theorem gp_no6 : ∀ a : Fin 14, ¬ gpF a.1 = 6 := by decide
theorem gp_no8 : ∀ a : Fin 14, ¬ gpF a.1 = 8 := by decide
theorem gp_no10 : ∀ a : Fin 14, ¬ gpF a.1 = 10 := by decide
theorem is_ne {tx : Nat → Int32} {en q a b : Nat} (hab : ¬ (gbl a = gbl b ∧ gch a 0 = gch b 0)) (ha : 0 < gbl a ∧ gbl a < 2147483648 ∧ gbl b < 2147483648) (hq : q ≤ en) (he : en ≤ 1100) (h : ¬ isP tx en q a = 0) : isP tx en q b = 0 := by
  have h1 := isP_1 h
  have h8 := (tkS_1 h1).2
  unfold isP at h ⊢
  rw [h1] at h ⊢
  rcases is_eq (tx := tx) (p := tkP tx en q) (l := tkL tx en q) (k := a) (by omega) ha.2.1 with z | z
  · rcases is_eq (tx := tx) (p := tkP tx en q) (l := tkL tx en q) (k := b) (by omega) ha.2.2 with y | y
    · exfalso
      refine hab ⟨z.2.1.symm.trans y.2.1, ?_⟩
      have h0 : 0 < tkL tx en q := by rw [z.2.1]; exact ha.1
      exact (z.2.2 0 h0).symm.trans (y.2.2 0 h0)
    · exact y.1
  · exact absurd z.1 h
theorem kd_0 {tx : Nat → Int32} {en q : Nat} (hq : q ≤ en) (he : en ≤ 1100) (h : ¬ isP tx en q 16 = 0) : kdP tx en q = .ok (0, nx tx en q) := by
  unfold kdP
  rw [if_pos (is_ne (a := 16) (b := 15) (by decide) (by decide) hq he h), if_pos (is_ne (a := 16) (b := 14) (by decide) (by decide) hq he h), if_neg h]
theorem kd_1 {tx : Nat → Int32} {en q : Nat} (h : ¬ isP tx en q 15 = 0) : kdP tx en q = .ok (1, nx tx en q) := if_neg h
theorem kd_2 {tx : Nat → Int32} {en q : Nat} (h1 : isP tx en q 15 = 0) (h : ¬ isP tx en q 14 = 0) : kdP tx en q = .ok (2, nx tx en q) := (if_pos h1).trans (if_neg h)
theorem kd_n {tx : Nat → Int32} {en q : Nat} (h0 : isP tx en q 16 = 0) (h1 : isP tx en q 15 = 0) (h2 : isP tx en q 14 = 0) : kdP tx en q = er tx en 1 q := (if_pos h1).trans ((if_pos h2).trans (if_pos h0))
theorem r_readPane {tx : Nat → Int32} {en : Nat} {h : Hp} {c : Nat} {K : List Nm} (b : RB tx en h c K) {C : CT} (d : RD h c C) (wi : WI C K (nnC C)) (hL : LB h) {q : Nat} (r : RK tx en h q) (ht : tkS tx en q = 1) : gC 9 0 0 yX10_readPane cX10_readPane 4 none [.ref 50] h (LM tx en h c (lxB tx en C q 1 8 (fun q => (nmP tx en q K (nI 1) (C 1 1)).bind fun x => (kdP tx en x.1).bind fun y => (roP tx en C 0 y.2).bind fun z => .ok (z.1, u2 (u2 C 2 (pn (C 1 1)) y.1) 3 (pn (C 1 1)) z.2.1, x.2)))) := by
  have hc6 := b.M.1
  have hu := wi.2.1
  generalize hoo : (lxB tx en C q 1 8 (fun q => (nmP tx en q K (nI 1) (C 1 1)).bind fun x => (kdP tx en x.1).bind fun y => (roP tx en C 0 y.2).bind fun z => .ok (z.1, u2 (u2 C 2 (pn (C 1 1)) y.1) 3 (pn (C 1 1)) z.2.1, x.2))) = oo
  refine g_entry (lv := [.ref 50, .retAddr 0, .retAddr 0, .retAddr 0]) 3 pn_X10 rfl rfl rfl ?_
  obtain ⟨HH, hH4, eH⟩ := wi.2.2.2.2
  refine g_aL0 dX10_readPane_0 ?_
  refine g_aL0 dX10_readPane_1 ?_
  refine g_getR lf_X10_167 (b.S.l 50 rfl) (b.S.k 50 rfl rfl) b.C dX10_readPane_2 ?_
  refine g_gI lf_X10_215 (b.M.l 0 rfl) (b.M.k 0 rfl rfl) dX10_readPane_5 ?_
  rw [show gI h c 4 = C 1 1 from d.1 4 (by decide)]
  refine g_bipush dX10_readPane_8 ?_
  refine r_v2u (r_begins b (o := (.ok q)) ⟨hL, Or.inr ⟨q, rfl, r⟩⟩ (fun q' z => by cases z; rw [ht]; decide) (wd := C 0 1) (d.1 0 (by decide)) (C 1 1) 8) lm_X10_265 dX10_readPane_10 (b.S.l 50 rfl) (b.S.k 50 rfl rfl) rfl rfl rfl rfl (fun v h' z => z.1) (fun h1 z => ?_)
  obtain ⟨-, k1, s1⟩ := z
  have b1 := b.go k1
  have d1 := RC.go d hc6 k1
  refine g_aL0 dX10_readPane_13 ?_
  refine r_v0l (r_readFresh b1 s1) lm_X10_268 dX10_readPane_14 (b1.S.l 50 rfl) (b1.S.k 50 rfl rfl) rfl rfl rfl rfl (fun v h' z => ⟨_, z.choose_spec.1⟩) (fun xv h1 z => ?_)
  obtain ⟨xw, z0, k2, s2⟩ := z
  obtain rfl := Value.long.inj (Option.some.inj z0)
  have b2 := b1.go k2
  have d2 := RC.go d1 hc6 k2
  rw [lx_nm] at hoo
  refine g_lS1 dX10_readPane_17 rfl rfl ?_
  rcases s2.2 with ⟨e, z, f⟩ | ⟨y, z, f⟩
  · rw [show ((o1P tx en C q 1 8).bind fun q => nfP tx en q K) = .error e from z, eb_er] at hoo
    refine g_aL0 dX10_readPane_18 ?_
    refine g_ldcSw (tx := "plain") (n := 33) (x := 34) (List.mem_of_getElem? (i := 33) rfl) (by decide) dX10_readPane_19 ?_
    refine e_v1i (w_isWord5 b2.S f.1 (k := 33) (by decide) (by decide)) lm_X10_126 dX10_readPane_22 (b2.S.l 50 rfl) (b2.S.k 50 rfl rfl) rfl rfl rfl rfl ?_
    refine g_ifeq dX10_readPane_25 (fun c25 => ?_) (fun c25 => absurd rfl c25)
    refine g_aL0 dX10_readPane_32 ?_
    refine g_ldcSw (tx := "thick") (n := 34) (x := 35) (List.mem_of_getElem? (i := 34) rfl) (by decide) dX10_readPane_33 ?_
    refine e_v1i (w_isWord5 b2.S f.1 (k := 34) (by decide) (by decide)) lm_X10_126 dX10_readPane_36 (b2.S.l 50 rfl) (b2.S.k 50 rfl rfl) rfl rfl rfl rfl ?_
    refine g_ifeq dX10_readPane_39 (fun c39 => ?_) (fun c39 => absurd rfl c39)
    refine g_aL0 dX10_readPane_46 ?_
    refine g_ldcSw (tx := "ice") (n := 22) (x := 23) (List.mem_of_getElem? (i := 22) rfl) (by decide) dX10_readPane_47 ?_
    refine e_v1i (w_isWord5 b2.S f.1 (k := 22) (by decide) (by decide)) lm_X10_126 dX10_readPane_50 (b2.S.l 50 rfl) (b2.S.k 50 rfl rfl) rfl rfl rfl rfl ?_
    refine g_ifeq dX10_readPane_53 (fun c53 => ?_) (fun c53 => absurd rfl c53)
    refine g_iconst dX10_readPane_60 ?_
    refine g_iS3 dX10_readPane_61 rfl rfl ?_
    refine g_iL3 dX10_readPane_62 ?_
    refine g_iconst dX10_readPane_63 ?_
    refine g_icne dX10_readPane_64 (fun c64 => absurd rfl c64) (fun c64 => ?_)
    refine g_aL0 dX10_readPane_67 ?_
    refine g_iconst dX10_readPane_68 ?_
    refine e_v1u (d_flaw5 b2.S f.1 _) lm_X10_130 dX10_readPane_69 (b2.S.l 50 rfl) (b2.S.k 50 rfl rfl) rfl rfl rfl rfl ?_
    refine g_aL0 dX10_readPane_72 ?_
    refine e_v0u (d_goesOn5 b2.S f.1) lm_X10_123 dX10_readPane_73 (b2.S.l 50 rfl) (b2.S.k 50 rfl rfl) rfl rfl rfl rfl ?_
    refine g_aL0 dX10_readPane_76 ?_
    refine g_iconst dX10_readPane_77 ?_
    refine r_v1u (r_readRows b2 (o := .error e) ⟨s2.1, Or.inl ⟨e, rfl, f⟩⟩ (wd := C 0 1) (d2.1 0 (by decide)) (H := HH) ((d2.1 1 (by decide)).trans eH) hH4 0) lm_X10_276 dX10_readPane_78 (b2.S.l 50 rfl) (b2.S.k 50 rfl rfl) rfl rfl rfl rfl (fun v h' z => z.1) (fun h1 z => ?_)
    obtain ⟨-, k3, s4⟩ := z
    have b3 := b2.go k3
    have d3 := RC.go d2 hc6 k3
    rcases s4.2 with ⟨e4, z4, f4⟩ | ⟨a4, z4, f4⟩
    · cases z4
      refine g_aL0 dX10_readPane_81 ?_
      refine g_gI lf_X10_71 (b3.S.l 50 rfl) (b3.S.k 50 rfl rfl) dX10_readPane_82 ?_
      refine g_iconst dX10_readPane_85 ?_
      refine g_icne dX10_readPane_86 (fun c86 => absurd f4.1 c86) (fun c86 => ?_)
      exact g_vret rfl dX10_readPane_89 rfl rfl ⟨rfl, (k3.trans (k2.trans k1)).p c, s4.1, Or.inl ⟨e, hoo.symm, f4⟩⟩
    · cases z4
  · obtain ⟨hn8, hw0, -⟩ := o2_ok (show ((o1P tx en C q 1 8).bind fun q => nfP tx en q K) = .ok y from z)
    rw [show ((o1P tx en C q 1 8).bind fun q => nfP tx en q K) = .ok y from z, eb_ok] at hoo
    obtain ⟨r2, rfl⟩ := f
    have hnl := wi.lt (k := 1) (m := 8) (by decide) hn8 (by omega)
    have hkl : K.length < 33 := by have := wi.2.2.1; omega
    have ck := wi.c (k := 1) (by decide)
    generalize hnn : nnC C 1 = n at hnl ck
    rw [ad_lt hkl] at hoo
    refine g_aL0 dX10_readPane_18 ?_
    refine g_ldcSw (tx := "plain") (n := 33) (x := 34) (List.mem_of_getElem? (i := 33) rfl) (by decide) dX10_readPane_19 ?_
    refine e_v1i (w_isWord b2.S b2.e2 r2 (k := 33) (k0 := 16) (by decide) (by decide) rfl) lm_X10_126 dX10_readPane_22 (b2.S.l 50 rfl) (b2.S.k 50 rfl rfl) rfl rfl rfl rfl ?_
    refine g_ifeq dX10_readPane_25 (fun c25 => ?_) (fun c25 => ?_)
    · refine g_aL0 dX10_readPane_32 ?_
      refine g_ldcSw (tx := "thick") (n := 34) (x := 35) (List.mem_of_getElem? (i := 34) rfl) (by decide) dX10_readPane_33 ?_
      refine e_v1i (w_isWord b2.S b2.e2 r2 (k := 34) (k0 := 15) (by decide) (by decide) rfl) lm_X10_126 dX10_readPane_36 (b2.S.l 50 rfl) (b2.S.k 50 rfl rfl) rfl rfl rfl rfl ?_
      refine g_ifeq dX10_readPane_39 (fun c39 => ?_) (fun c39 => ?_)
      · refine g_aL0 dX10_readPane_46 ?_
        refine g_ldcSw (tx := "ice") (n := 22) (x := 23) (List.mem_of_getElem? (i := 22) rfl) (by decide) dX10_readPane_47 ?_
        refine e_v1i (w_isWord b2.S b2.e2 r2 (k := 22) (k0 := 14) (by decide) (by decide) rfl) lm_X10_126 dX10_readPane_50 (b2.S.l 50 rfl) (b2.S.k 50 rfl rfl) rfl rfl rfl rfl ?_
        refine g_ifeq dX10_readPane_53 (fun c53 => ?_) (fun c53 => ?_)
        · refine g_iconst dX10_readPane_60 ?_
          have ho : oo = .error (1, tkP tx en y.2) := by
            rw [← hoo]
            show Except.bind (Except.bind (kdP tx en y.2) _) _ = _
            rw [kd_n c25 c39 c53]; rfl
          refine g_iS3 dX10_readPane_61 rfl rfl ?_
          refine g_iL3 dX10_readPane_62 ?_
          refine g_iconst dX10_readPane_63 ?_
          refine g_icne dX10_readPane_64 (fun c64 => absurd rfl c64) (fun c64 => ?_)
          refine g_aL0 dX10_readPane_67 ?_
          refine g_iconst dX10_readPane_68 ?_
          refine e_v1u (d_flaw0 b2.S r2.n5 _) lm_X10_130 dX10_readPane_69 (b2.S.l 50 rfl) (b2.S.k 50 rfl rfl) rfl rfl rfl rfl ?_
          have kf := GQ_fw h1 1 (gI h1 50 10)
          have b2 := b2.go kf
          have d2 := RC.go d2 hc6 kf
          refine g_aL0 dX10_readPane_72 ?_
          refine e_v0u (d_goesOn5 b2.S (fw5 _ _ _)) lm_X10_123 dX10_readPane_73 (b2.S.l 50 rfl) (b2.S.k 50 rfl rfl) rfl rfl rfl rfl ?_
          refine g_aL0 dX10_readPane_76 ?_
          refine g_iconst dX10_readPane_77 ?_
          refine r_v1u (r_readRows b2 (o := .error (1, tkP tx en y.2)) ⟨LB_fw s2.1 _ _, Or.inl ⟨_, rfl, RF_fw r2 (by decide)⟩⟩ (wd := C 0 1) (d2.1 0 (by decide)) (H := HH) ((d2.1 1 (by decide)).trans eH) hH4 0) lm_X10_276 dX10_readPane_78 (b2.S.l 50 rfl) (b2.S.k 50 rfl rfl) rfl rfl rfl rfl (fun v h' z => z.1) (fun h1 z => ?_)
          obtain ⟨-, k3, s4⟩ := z
          have b3 := b2.go k3
          have d3 := RC.go d2 hc6 k3
          rcases s4.2 with ⟨e4, z4, f4⟩ | ⟨a4, z4, f4⟩
          · cases z4
            refine g_aL0 dX10_readPane_81 ?_
            refine g_gI lf_X10_71 (b3.S.l 50 rfl) (b3.S.k 50 rfl rfl) dX10_readPane_82 ?_
            refine g_iconst dX10_readPane_85 ?_
            refine g_icne dX10_readPane_86 (fun c86 => absurd f4.1 c86) (fun c86 => ?_)
            exact g_vret rfl dX10_readPane_89 rfl rfl ⟨rfl, (k3.trans (kf.trans (k2.trans k1))).p c, s4.1, Or.inl ⟨_, ho, f4⟩⟩
          · cases z4
        · refine g_iconst dX10_readPane_56 ?_
          refine g_goto dX10_readPane_57 ?_
          refine g_iS3 dX10_readPane_61 rfl rfl ?_
          refine g_iL3 dX10_readPane_62 ?_
          refine g_iconst dX10_readPane_63 ?_
          refine g_icne dX10_readPane_64 (fun c64 => ?_) (fun c64 => absurd c64 (by decide))
          refine g_aL0 dX10_readPane_72 ?_
          refine r_v0u (r_goesOn b2 (o := .ok y.2) ⟨s2.1, Or.inr ⟨_, rfl, r2⟩⟩ (fun q' z => by cases z; rw [isP_1 c53]; decide)) lm_X10_123 dX10_readPane_73 (b2.S.l 50 rfl) (b2.S.k 50 rfl rfl) rfl rfl rfl rfl (fun v h' z => z.1) (fun h1 z => ?_)
          obtain ⟨-, k3, s3⟩ := z
          have b2 := b2.go k3
          have d2 := RC.go d2 hc6 k3
          refine g_aL0 dX10_readPane_76 ?_
          refine g_iconst dX10_readPane_77 ?_
          refine r_v1u (r_readRows b2 s3 (wd := C 0 1) (d2.1 0 (by decide)) (H := HH) ((d2.1 1 (by decide)).trans eH) hH4 0) lm_X10_276 dX10_readPane_78 (b2.S.l 50 rfl) (b2.S.k 50 rfl rfl) rfl rfl rfl rfl (fun v h' z => z.1) (fun h1 z => ?_)
          obtain ⟨-, k4, s4⟩ := z
          have b3 := b2.go k4
          have d3 := RC.go d2 hc6 k4
          rcases s4.2 with ⟨e, z4, f4⟩ | ⟨a, z4, f4⟩
          · have ho : oo = .error e := by
              rw [← hoo]
              show Except.bind (Except.bind (kdP tx en y.2) _) _ = _
              rw [kd_2 c39 c53, eb_ok]
              show Except.bind (Except.bind (roP tx en C 0 (nx tx en y.2)) _) _ = _
              rw [show roP tx en C 0 (nx tx en y.2) = .error e from by unfold roP; rw [eH, pn_nI (by omega)]; exact z4]; rfl
            refine g_aL0 dX10_readPane_81 ?_
            refine g_gI lf_X10_71 (b3.S.l 50 rfl) (b3.S.k 50 rfl rfl) dX10_readPane_82 ?_
            refine g_iconst dX10_readPane_85 ?_
            refine g_icne dX10_readPane_86 (fun c86 => absurd f4.1 c86) (fun c86 => ?_)
            exact g_vret rfl dX10_readPane_89 rfl rfl ⟨rfl, (k4.trans (k3.trans (k2.trans k1))).p c, s4.1, Or.inl ⟨e, ho, f4⟩⟩
          · have ho : oo = .ok (a.1, (u2 (u2 (u2 C 2 n 2) 3 n a.2.1) 1 1 (u2 (u2 C 2 n 2) 3 n a.2.1 1 1 + 1)), K ++ [(y.1, nI 1, C 1 1)]) := by
              rw [← hoo]
              show Except.bind (Except.bind (kdP tx en y.2) _) _ = _
              rw [kd_2 c39 c53, eb_ok]
              show Except.bind (Except.bind (roP tx en C 0 (nx tx en y.2)) _) _ = _
              rw [show roP tx en C 0 (nx tx en y.2) = .ok a from by unfold roP; rw [eH, pn_nI (by omega)]; exact z4]
              show cuP 1 (a.1, u2 (u2 C 2 (pn (C 1 1)) 2) 3 (pn (C 1 1)) a.2.1, _) = _
              rw [ck, pn_nI (by omega)]; rfl
            refine g_aL0 dX10_readPane_81 ?_
            refine g_gI lf_X10_71 (b3.S.l 50 rfl) (b3.S.k 50 rfl rfl) dX10_readPane_82 ?_
            refine g_iconst dX10_readPane_85 ?_
            refine g_icne dX10_readPane_86 (fun c86 => ?_) (fun c86 => absurd c86 f4.1.n5)
            refine g_aL0 dX10_readPane_90 ?_
            refine g_lL1 dX10_readPane_91 ?_
            refine g_iconst dX10_readPane_92 ?_
            refine g_aL0 dX10_readPane_93 ?_
            refine g_getR lf_X10_167 (b3.S.l 50 rfl) (b3.S.k 50 rfl rfl) b3.C dX10_readPane_94 ?_
            refine g_gI lf_X10_215 (b3.M.l 0 rfl) (b3.M.k 0 rfl rfl) dX10_readPane_97 ?_
            rw [show gI h1 c 4 = C 1 1 from d3.1 4 (by decide)]
            refine e_v3u (d_names b3 hkl _ _ _) lm_X10_280 dX10_readPane_100 (b3.S.l 50 rfl) (b3.S.k 50 rfl rfl) rfl rfl rfl rfl ?_
            have bN := b3.nm (x := (y.1, nI 1, C 1 1)) hkl (Or.inl rfl)
            rw [show nsM ((y.1, nI 1, C 1 1) : Nm).2.1 = 0 from ns1] at bN
            have dN := RC.nm d3 (n := K.length) y.1 0 (C 1 1)
            refine g_aL0 dX10_readPane_103 ?_
            refine g_getR lf_X10_167 (bN.S.l 50 rfl) (bN.S.k 50 rfl rfl) bN.C dX10_readPane_104 ?_
            refine g_getRn lf_X10_283 (bN.M.l 0 rfl) (bN.M.k 0 rfl rfl) (bN.M.r 15 (j := 1) rfl) dX10_readPane_107 ?_
            refine g_aL0 dX10_readPane_110 ?_
            refine g_getR lf_X10_167 (bN.S.l 50 rfl) (bN.S.k 50 rfl rfl) bN.C dX10_readPane_111 ?_
            refine g_gI lf_X10_215 (bN.M.l 0 rfl) (bN.M.k 0 rfl rfl) dX10_readPane_114 ?_
            rw [show gI (nmH h1 c K.length y.1 0 (C 1 1)) c 4 = nI n from (dN.1 4 (by decide)).trans ck]
            refine g_iL3 dX10_readPane_117 ?_
            refine g_iastoreN (bN.M.l 1 rfl) (bN.M.k 1 rfl rfl) (bN.M.n 1 (n := 8) rfl rfl) (by omega) (by decide) dX10_readPane_118 ?_
            refine g_aL0 dX10_readPane_119 ?_
            refine g_getR lf_X10_167 (bN.S.l 50 rfl) (bN.S.k 50 rfl rfl) bN.C dX10_readPane_120 ?_
            refine g_getRn lf_X10_286 (bN.M.l 0 rfl) (bN.M.k 0 rfl rfl) (bN.M.r 16 (j := 2) rfl) dX10_readPane_123 ?_
            refine g_aL0 dX10_readPane_126 ?_
            refine g_getR lf_X10_167 (bN.S.l 50 rfl) (bN.S.k 50 rfl rfl) bN.C dX10_readPane_127 ?_
            refine g_gI lf_X10_215 (bN.M.l 0 rfl) (bN.M.k 0 rfl rfl) dX10_readPane_130 ?_
            rw [show ∀ x, gI (pI (nmH h1 c K.length y.1 0 (C 1 1)) (c + 1) n x) c 4 = nI n from fun x => (gIq (by omega)).trans ((dN.1 4 (by decide)).trans ck)]
            refine g_aL0 dX10_readPane_133 ?_
            refine g_gI lf_X10_203 (bN.S.l 50 rfl) (bN.S.k 50 rfl rfl) dX10_readPane_134 ?_
            rw [show ∀ x, gI (pI (nmH h1 c K.length y.1 0 (C 1 1)) (c + 1) n x) 50 19 = a.2.1 from fun x => (gIq (by omega)).trans ((nmH_I _ _ _ _ _ _ (by omega) (by omega) (by omega)).trans f4.2.1)]
            refine g_iastoreN (bN.M.l 2 rfl) (bN.M.k 2 rfl rfl) (bN.M.n 2 (n := 8) rfl rfl) (by omega) (by decide) dX10_readPane_137 ?_
            refine g_aL0 dX10_readPane_138 ?_
            refine g_getR lf_X10_167 (bN.S.l 50 rfl) (bN.S.k 50 rfl rfl) bN.C dX10_readPane_139 ?_
            refine g_dup dX10_readPane_142 rfl ?_
            refine g_gI lf_X10_215 (bN.M.l 0 rfl) (bN.M.k 0 rfl rfl) dX10_readPane_143 ?_
            rw [show ∀ x z, gI (pI (pI (nmH h1 c K.length y.1 0 (C 1 1)) (c + 1) n x) (c + 2) n z) c 4 = C 1 1 from fun x z => (gIq (by omega)).trans ((gIq (by omega)).trans (dN.1 4 (by decide)))]
            refine g_iconst dX10_readPane_146 ?_
            refine g_iadd dX10_readPane_147 ?_
            refine g_pI1 lf_X10_215 (bN.M.l 0 rfl) (bN.M.k 0 rfl rfl) dX10_readPane_148 ?_
            have hI : ∀ j, gI (pI (pI (pI (nmH h1 c K.length y.1 0 (C 1 1)) (c + 1) n 2) (c + 2) n a.2.1) c 4 (C 1 1 + 1)) 50 j = gI h1 50 j := fun j => (gIq (by omega)).trans ((gIq (by omega)).trans ((gIq (by omega)).trans ((fun j => nmH_I _ _ _ _ _ _ (by omega) (by omega) (by omega)) j)))
            refine g_vret rfl dX10_readPane_151 rfl rfl ⟨rfl, (PG_0 _ _).trans ((PG_I _ _ (by omega)).trans ((PG_I _ _ (by omega)).trans ((nmH_P _ _ _ _ _ _).trans ((k4.trans (k3.trans (k2.trans k1))).p c)))), s4.1.o hI, Or.inr ⟨_, ho, f4.1.o hI (u2_n _ _ (by omega)), (((bN.pI (a := 1) _ (by decide) (by omega)).pI (a := 2) _ (by decide) (by omega)).pI (a := 0) _ (by decide) (by decide)), ?_⟩⟩
            exact RCx.w (RCx.cnt (RCx.put (RCx.put dN (a0 := 1) (by decide) n 2) (a0 := 2) (by decide) n a.2.1) (f0 := 4) (by decide) (C 1 1 + 1)) (lv' := lvF (nnC (u2 (u2 (u2 C 2 n 2) 3 n a.2.1) 1 1 (u2 (u2 C 2 n 2) 3 n a.2.1 1 1 + 1)))) (fun a' j h1 h2 h3 => by
              rw [nn_up (C := C) ck (by omega) (fun j => by first | rfl | (simp only [u2_na _ _ _ (show ¬ (1 : Nat) = 2 by decide), u2_na _ _ _ (show ¬ (1 : Nat) = 3 by decide), u2_na _ _ _ (show ¬ (1 : Nat) = 6 by decide), u2_na _ _ _ (show ¬ (1 : Nat) = 7 by decide), u2_na _ _ _ (show ¬ (1 : Nat) = 8 by decide), u2_na _ _ _ (show ¬ (1 : Nat) = 9 by decide), u2_na _ _ _ (show ¬ (1 : Nat) = 10 by decide), u2_na _ _ _ (show ¬ (1 : Nat) = 11 by decide), u2_na _ _ _ (show ¬ (1 : Nat) = 12 by decide), u2_na _ _ _ (show ¬ (1 : Nat) = 13 by decide), u2_na _ _ _ (show ¬ (1 : Nat) = 14 by decide)]))] at h3
              rcases lv_up a' j h3 with z5 | z5
              · exact (Or.inl (Or.inl z5))
              · rcases gp_1 ⟨a', by omega⟩ h1 z5.1 with z6 | z6
                · exact (Or.inl (Or.inr ⟨z6, z5.2.2.trans hnn⟩))
                · exact (Or.inr ⟨z6, z5.2.2.trans hnn⟩))
      · refine g_iconst dX10_readPane_42 ?_
        refine g_goto dX10_readPane_43 ?_
        refine g_iS3 dX10_readPane_61 rfl rfl ?_
        refine g_iL3 dX10_readPane_62 ?_
        refine g_iconst dX10_readPane_63 ?_
        refine g_icne dX10_readPane_64 (fun c64 => ?_) (fun c64 => absurd c64 (by decide))
        refine g_aL0 dX10_readPane_72 ?_
        refine r_v0u (r_goesOn b2 (o := .ok y.2) ⟨s2.1, Or.inr ⟨_, rfl, r2⟩⟩ (fun q' z => by cases z; rw [isP_1 c39]; decide)) lm_X10_123 dX10_readPane_73 (b2.S.l 50 rfl) (b2.S.k 50 rfl rfl) rfl rfl rfl rfl (fun v h' z => z.1) (fun h1 z => ?_)
        obtain ⟨-, k3, s3⟩ := z
        have b2 := b2.go k3
        have d2 := RC.go d2 hc6 k3
        refine g_aL0 dX10_readPane_76 ?_
        refine g_iconst dX10_readPane_77 ?_
        refine r_v1u (r_readRows b2 s3 (wd := C 0 1) (d2.1 0 (by decide)) (H := HH) ((d2.1 1 (by decide)).trans eH) hH4 0) lm_X10_276 dX10_readPane_78 (b2.S.l 50 rfl) (b2.S.k 50 rfl rfl) rfl rfl rfl rfl (fun v h' z => z.1) (fun h1 z => ?_)
        obtain ⟨-, k4, s4⟩ := z
        have b3 := b2.go k4
        have d3 := RC.go d2 hc6 k4
        rcases s4.2 with ⟨e, z4, f4⟩ | ⟨a, z4, f4⟩
        · have ho : oo = .error e := by
            rw [← hoo]
            show Except.bind (Except.bind (kdP tx en y.2) _) _ = _
            rw [kd_1 c39, eb_ok]
            show Except.bind (Except.bind (roP tx en C 0 (nx tx en y.2)) _) _ = _
            rw [show roP tx en C 0 (nx tx en y.2) = .error e from by unfold roP; rw [eH, pn_nI (by omega)]; exact z4]; rfl
          refine g_aL0 dX10_readPane_81 ?_
          refine g_gI lf_X10_71 (b3.S.l 50 rfl) (b3.S.k 50 rfl rfl) dX10_readPane_82 ?_
          refine g_iconst dX10_readPane_85 ?_
          refine g_icne dX10_readPane_86 (fun c86 => absurd f4.1 c86) (fun c86 => ?_)
          exact g_vret rfl dX10_readPane_89 rfl rfl ⟨rfl, (k4.trans (k3.trans (k2.trans k1))).p c, s4.1, Or.inl ⟨e, ho, f4⟩⟩
        · have ho : oo = .ok (a.1, (u2 (u2 (u2 C 2 n 1) 3 n a.2.1) 1 1 (u2 (u2 C 2 n 1) 3 n a.2.1 1 1 + 1)), K ++ [(y.1, nI 1, C 1 1)]) := by
            rw [← hoo]
            show Except.bind (Except.bind (kdP tx en y.2) _) _ = _
            rw [kd_1 c39, eb_ok]
            show Except.bind (Except.bind (roP tx en C 0 (nx tx en y.2)) _) _ = _
            rw [show roP tx en C 0 (nx tx en y.2) = .ok a from by unfold roP; rw [eH, pn_nI (by omega)]; exact z4]
            show cuP 1 (a.1, u2 (u2 C 2 (pn (C 1 1)) 1) 3 (pn (C 1 1)) a.2.1, _) = _
            rw [ck, pn_nI (by omega)]; rfl
          refine g_aL0 dX10_readPane_81 ?_
          refine g_gI lf_X10_71 (b3.S.l 50 rfl) (b3.S.k 50 rfl rfl) dX10_readPane_82 ?_
          refine g_iconst dX10_readPane_85 ?_
          refine g_icne dX10_readPane_86 (fun c86 => ?_) (fun c86 => absurd c86 f4.1.n5)
          refine g_aL0 dX10_readPane_90 ?_
          refine g_lL1 dX10_readPane_91 ?_
          refine g_iconst dX10_readPane_92 ?_
          refine g_aL0 dX10_readPane_93 ?_
          refine g_getR lf_X10_167 (b3.S.l 50 rfl) (b3.S.k 50 rfl rfl) b3.C dX10_readPane_94 ?_
          refine g_gI lf_X10_215 (b3.M.l 0 rfl) (b3.M.k 0 rfl rfl) dX10_readPane_97 ?_
          rw [show gI h1 c 4 = C 1 1 from d3.1 4 (by decide)]
          refine e_v3u (d_names b3 hkl _ _ _) lm_X10_280 dX10_readPane_100 (b3.S.l 50 rfl) (b3.S.k 50 rfl rfl) rfl rfl rfl rfl ?_
          have bN := b3.nm (x := (y.1, nI 1, C 1 1)) hkl (Or.inl rfl)
          rw [show nsM ((y.1, nI 1, C 1 1) : Nm).2.1 = 0 from ns1] at bN
          have dN := RC.nm d3 (n := K.length) y.1 0 (C 1 1)
          refine g_aL0 dX10_readPane_103 ?_
          refine g_getR lf_X10_167 (bN.S.l 50 rfl) (bN.S.k 50 rfl rfl) bN.C dX10_readPane_104 ?_
          refine g_getRn lf_X10_283 (bN.M.l 0 rfl) (bN.M.k 0 rfl rfl) (bN.M.r 15 (j := 1) rfl) dX10_readPane_107 ?_
          refine g_aL0 dX10_readPane_110 ?_
          refine g_getR lf_X10_167 (bN.S.l 50 rfl) (bN.S.k 50 rfl rfl) bN.C dX10_readPane_111 ?_
          refine g_gI lf_X10_215 (bN.M.l 0 rfl) (bN.M.k 0 rfl rfl) dX10_readPane_114 ?_
          rw [show gI (nmH h1 c K.length y.1 0 (C 1 1)) c 4 = nI n from (dN.1 4 (by decide)).trans ck]
          refine g_iL3 dX10_readPane_117 ?_
          refine g_iastoreN (bN.M.l 1 rfl) (bN.M.k 1 rfl rfl) (bN.M.n 1 (n := 8) rfl rfl) (by omega) (by decide) dX10_readPane_118 ?_
          refine g_aL0 dX10_readPane_119 ?_
          refine g_getR lf_X10_167 (bN.S.l 50 rfl) (bN.S.k 50 rfl rfl) bN.C dX10_readPane_120 ?_
          refine g_getRn lf_X10_286 (bN.M.l 0 rfl) (bN.M.k 0 rfl rfl) (bN.M.r 16 (j := 2) rfl) dX10_readPane_123 ?_
          refine g_aL0 dX10_readPane_126 ?_
          refine g_getR lf_X10_167 (bN.S.l 50 rfl) (bN.S.k 50 rfl rfl) bN.C dX10_readPane_127 ?_
          refine g_gI lf_X10_215 (bN.M.l 0 rfl) (bN.M.k 0 rfl rfl) dX10_readPane_130 ?_
          rw [show ∀ x, gI (pI (nmH h1 c K.length y.1 0 (C 1 1)) (c + 1) n x) c 4 = nI n from fun x => (gIq (by omega)).trans ((dN.1 4 (by decide)).trans ck)]
          refine g_aL0 dX10_readPane_133 ?_
          refine g_gI lf_X10_203 (bN.S.l 50 rfl) (bN.S.k 50 rfl rfl) dX10_readPane_134 ?_
          rw [show ∀ x, gI (pI (nmH h1 c K.length y.1 0 (C 1 1)) (c + 1) n x) 50 19 = a.2.1 from fun x => (gIq (by omega)).trans ((nmH_I _ _ _ _ _ _ (by omega) (by omega) (by omega)).trans f4.2.1)]
          refine g_iastoreN (bN.M.l 2 rfl) (bN.M.k 2 rfl rfl) (bN.M.n 2 (n := 8) rfl rfl) (by omega) (by decide) dX10_readPane_137 ?_
          refine g_aL0 dX10_readPane_138 ?_
          refine g_getR lf_X10_167 (bN.S.l 50 rfl) (bN.S.k 50 rfl rfl) bN.C dX10_readPane_139 ?_
          refine g_dup dX10_readPane_142 rfl ?_
          refine g_gI lf_X10_215 (bN.M.l 0 rfl) (bN.M.k 0 rfl rfl) dX10_readPane_143 ?_
          rw [show ∀ x z, gI (pI (pI (nmH h1 c K.length y.1 0 (C 1 1)) (c + 1) n x) (c + 2) n z) c 4 = C 1 1 from fun x z => (gIq (by omega)).trans ((gIq (by omega)).trans (dN.1 4 (by decide)))]
          refine g_iconst dX10_readPane_146 ?_
          refine g_iadd dX10_readPane_147 ?_
          refine g_pI1 lf_X10_215 (bN.M.l 0 rfl) (bN.M.k 0 rfl rfl) dX10_readPane_148 ?_
          have hI : ∀ j, gI (pI (pI (pI (nmH h1 c K.length y.1 0 (C 1 1)) (c + 1) n 1) (c + 2) n a.2.1) c 4 (C 1 1 + 1)) 50 j = gI h1 50 j := fun j => (gIq (by omega)).trans ((gIq (by omega)).trans ((gIq (by omega)).trans ((fun j => nmH_I _ _ _ _ _ _ (by omega) (by omega) (by omega)) j)))
          refine g_vret rfl dX10_readPane_151 rfl rfl ⟨rfl, (PG_0 _ _).trans ((PG_I _ _ (by omega)).trans ((PG_I _ _ (by omega)).trans ((nmH_P _ _ _ _ _ _).trans ((k4.trans (k3.trans (k2.trans k1))).p c)))), s4.1.o hI, Or.inr ⟨_, ho, f4.1.o hI (u2_n _ _ (by omega)), (((bN.pI (a := 1) _ (by decide) (by omega)).pI (a := 2) _ (by decide) (by omega)).pI (a := 0) _ (by decide) (by decide)), ?_⟩⟩
          exact RCx.w (RCx.cnt (RCx.put (RCx.put dN (a0 := 1) (by decide) n 1) (a0 := 2) (by decide) n a.2.1) (f0 := 4) (by decide) (C 1 1 + 1)) (lv' := lvF (nnC (u2 (u2 (u2 C 2 n 1) 3 n a.2.1) 1 1 (u2 (u2 C 2 n 1) 3 n a.2.1 1 1 + 1)))) (fun a' j h1 h2 h3 => by
            rw [nn_up (C := C) ck (by omega) (fun j => by first | rfl | (simp only [u2_na _ _ _ (show ¬ (1 : Nat) = 2 by decide), u2_na _ _ _ (show ¬ (1 : Nat) = 3 by decide), u2_na _ _ _ (show ¬ (1 : Nat) = 6 by decide), u2_na _ _ _ (show ¬ (1 : Nat) = 7 by decide), u2_na _ _ _ (show ¬ (1 : Nat) = 8 by decide), u2_na _ _ _ (show ¬ (1 : Nat) = 9 by decide), u2_na _ _ _ (show ¬ (1 : Nat) = 10 by decide), u2_na _ _ _ (show ¬ (1 : Nat) = 11 by decide), u2_na _ _ _ (show ¬ (1 : Nat) = 12 by decide), u2_na _ _ _ (show ¬ (1 : Nat) = 13 by decide), u2_na _ _ _ (show ¬ (1 : Nat) = 14 by decide)]))] at h3
            rcases lv_up a' j h3 with z5 | z5
            · exact (Or.inl (Or.inl z5))
            · rcases gp_1 ⟨a', by omega⟩ h1 z5.1 with z6 | z6
              · exact (Or.inl (Or.inr ⟨z6, z5.2.2.trans hnn⟩))
              · exact (Or.inr ⟨z6, z5.2.2.trans hnn⟩))
    · refine g_iconst dX10_readPane_28 ?_
      refine g_goto dX10_readPane_29 ?_
      refine g_iS3 dX10_readPane_61 rfl rfl ?_
      refine g_iL3 dX10_readPane_62 ?_
      refine g_iconst dX10_readPane_63 ?_
      refine g_icne dX10_readPane_64 (fun c64 => ?_) (fun c64 => absurd c64 (by decide))
      refine g_aL0 dX10_readPane_72 ?_
      refine r_v0u (r_goesOn b2 (o := .ok y.2) ⟨s2.1, Or.inr ⟨_, rfl, r2⟩⟩ (fun q' z => by cases z; rw [isP_1 c25]; decide)) lm_X10_123 dX10_readPane_73 (b2.S.l 50 rfl) (b2.S.k 50 rfl rfl) rfl rfl rfl rfl (fun v h' z => z.1) (fun h1 z => ?_)
      obtain ⟨-, k3, s3⟩ := z
      have b2 := b2.go k3
      have d2 := RC.go d2 hc6 k3
      refine g_aL0 dX10_readPane_76 ?_
      refine g_iconst dX10_readPane_77 ?_
      refine r_v1u (r_readRows b2 s3 (wd := C 0 1) (d2.1 0 (by decide)) (H := HH) ((d2.1 1 (by decide)).trans eH) hH4 0) lm_X10_276 dX10_readPane_78 (b2.S.l 50 rfl) (b2.S.k 50 rfl rfl) rfl rfl rfl rfl (fun v h' z => z.1) (fun h1 z => ?_)
      obtain ⟨-, k4, s4⟩ := z
      have b3 := b2.go k4
      have d3 := RC.go d2 hc6 k4
      rcases s4.2 with ⟨e, z4, f4⟩ | ⟨a, z4, f4⟩
      · have ho : oo = .error e := by
          rw [← hoo]
          show Except.bind (Except.bind (kdP tx en y.2) _) _ = _
          rw [kd_0 r2.1 b2.e2 c25, eb_ok]
          show Except.bind (Except.bind (roP tx en C 0 (nx tx en y.2)) _) _ = _
          rw [show roP tx en C 0 (nx tx en y.2) = .error e from by unfold roP; rw [eH, pn_nI (by omega)]; exact z4]; rfl
        refine g_aL0 dX10_readPane_81 ?_
        refine g_gI lf_X10_71 (b3.S.l 50 rfl) (b3.S.k 50 rfl rfl) dX10_readPane_82 ?_
        refine g_iconst dX10_readPane_85 ?_
        refine g_icne dX10_readPane_86 (fun c86 => absurd f4.1 c86) (fun c86 => ?_)
        exact g_vret rfl dX10_readPane_89 rfl rfl ⟨rfl, (k4.trans (k3.trans (k2.trans k1))).p c, s4.1, Or.inl ⟨e, ho, f4⟩⟩
      · have ho : oo = .ok (a.1, (u2 (u2 (u2 C 2 n 0) 3 n a.2.1) 1 1 (u2 (u2 C 2 n 0) 3 n a.2.1 1 1 + 1)), K ++ [(y.1, nI 1, C 1 1)]) := by
          rw [← hoo]
          show Except.bind (Except.bind (kdP tx en y.2) _) _ = _
          rw [kd_0 r2.1 b2.e2 c25, eb_ok]
          show Except.bind (Except.bind (roP tx en C 0 (nx tx en y.2)) _) _ = _
          rw [show roP tx en C 0 (nx tx en y.2) = .ok a from by unfold roP; rw [eH, pn_nI (by omega)]; exact z4]
          show cuP 1 (a.1, u2 (u2 C 2 (pn (C 1 1)) 0) 3 (pn (C 1 1)) a.2.1, _) = _
          rw [ck, pn_nI (by omega)]; rfl
        refine g_aL0 dX10_readPane_81 ?_
        refine g_gI lf_X10_71 (b3.S.l 50 rfl) (b3.S.k 50 rfl rfl) dX10_readPane_82 ?_
        refine g_iconst dX10_readPane_85 ?_
        refine g_icne dX10_readPane_86 (fun c86 => ?_) (fun c86 => absurd c86 f4.1.n5)
        refine g_aL0 dX10_readPane_90 ?_
        refine g_lL1 dX10_readPane_91 ?_
        refine g_iconst dX10_readPane_92 ?_
        refine g_aL0 dX10_readPane_93 ?_
        refine g_getR lf_X10_167 (b3.S.l 50 rfl) (b3.S.k 50 rfl rfl) b3.C dX10_readPane_94 ?_
        refine g_gI lf_X10_215 (b3.M.l 0 rfl) (b3.M.k 0 rfl rfl) dX10_readPane_97 ?_
        rw [show gI h1 c 4 = C 1 1 from d3.1 4 (by decide)]
        refine e_v3u (d_names b3 hkl _ _ _) lm_X10_280 dX10_readPane_100 (b3.S.l 50 rfl) (b3.S.k 50 rfl rfl) rfl rfl rfl rfl ?_
        have bN := b3.nm (x := (y.1, nI 1, C 1 1)) hkl (Or.inl rfl)
        rw [show nsM ((y.1, nI 1, C 1 1) : Nm).2.1 = 0 from ns1] at bN
        have dN := RC.nm d3 (n := K.length) y.1 0 (C 1 1)
        refine g_aL0 dX10_readPane_103 ?_
        refine g_getR lf_X10_167 (bN.S.l 50 rfl) (bN.S.k 50 rfl rfl) bN.C dX10_readPane_104 ?_
        refine g_getRn lf_X10_283 (bN.M.l 0 rfl) (bN.M.k 0 rfl rfl) (bN.M.r 15 (j := 1) rfl) dX10_readPane_107 ?_
        refine g_aL0 dX10_readPane_110 ?_
        refine g_getR lf_X10_167 (bN.S.l 50 rfl) (bN.S.k 50 rfl rfl) bN.C dX10_readPane_111 ?_
        refine g_gI lf_X10_215 (bN.M.l 0 rfl) (bN.M.k 0 rfl rfl) dX10_readPane_114 ?_
        rw [show gI (nmH h1 c K.length y.1 0 (C 1 1)) c 4 = nI n from (dN.1 4 (by decide)).trans ck]
        refine g_iL3 dX10_readPane_117 ?_
        refine g_iastoreN (bN.M.l 1 rfl) (bN.M.k 1 rfl rfl) (bN.M.n 1 (n := 8) rfl rfl) (by omega) (by decide) dX10_readPane_118 ?_
        refine g_aL0 dX10_readPane_119 ?_
        refine g_getR lf_X10_167 (bN.S.l 50 rfl) (bN.S.k 50 rfl rfl) bN.C dX10_readPane_120 ?_
        refine g_getRn lf_X10_286 (bN.M.l 0 rfl) (bN.M.k 0 rfl rfl) (bN.M.r 16 (j := 2) rfl) dX10_readPane_123 ?_
        refine g_aL0 dX10_readPane_126 ?_
        refine g_getR lf_X10_167 (bN.S.l 50 rfl) (bN.S.k 50 rfl rfl) bN.C dX10_readPane_127 ?_
        refine g_gI lf_X10_215 (bN.M.l 0 rfl) (bN.M.k 0 rfl rfl) dX10_readPane_130 ?_
        rw [show ∀ x, gI (pI (nmH h1 c K.length y.1 0 (C 1 1)) (c + 1) n x) c 4 = nI n from fun x => (gIq (by omega)).trans ((dN.1 4 (by decide)).trans ck)]
        refine g_aL0 dX10_readPane_133 ?_
        refine g_gI lf_X10_203 (bN.S.l 50 rfl) (bN.S.k 50 rfl rfl) dX10_readPane_134 ?_
        rw [show ∀ x, gI (pI (nmH h1 c K.length y.1 0 (C 1 1)) (c + 1) n x) 50 19 = a.2.1 from fun x => (gIq (by omega)).trans ((nmH_I _ _ _ _ _ _ (by omega) (by omega) (by omega)).trans f4.2.1)]
        refine g_iastoreN (bN.M.l 2 rfl) (bN.M.k 2 rfl rfl) (bN.M.n 2 (n := 8) rfl rfl) (by omega) (by decide) dX10_readPane_137 ?_
        refine g_aL0 dX10_readPane_138 ?_
        refine g_getR lf_X10_167 (bN.S.l 50 rfl) (bN.S.k 50 rfl rfl) bN.C dX10_readPane_139 ?_
        refine g_dup dX10_readPane_142 rfl ?_
        refine g_gI lf_X10_215 (bN.M.l 0 rfl) (bN.M.k 0 rfl rfl) dX10_readPane_143 ?_
        rw [show ∀ x z, gI (pI (pI (nmH h1 c K.length y.1 0 (C 1 1)) (c + 1) n x) (c + 2) n z) c 4 = C 1 1 from fun x z => (gIq (by omega)).trans ((gIq (by omega)).trans (dN.1 4 (by decide)))]
        refine g_iconst dX10_readPane_146 ?_
        refine g_iadd dX10_readPane_147 ?_
        refine g_pI1 lf_X10_215 (bN.M.l 0 rfl) (bN.M.k 0 rfl rfl) dX10_readPane_148 ?_
        have hI : ∀ j, gI (pI (pI (pI (nmH h1 c K.length y.1 0 (C 1 1)) (c + 1) n 0) (c + 2) n a.2.1) c 4 (C 1 1 + 1)) 50 j = gI h1 50 j := fun j => (gIq (by omega)).trans ((gIq (by omega)).trans ((gIq (by omega)).trans ((fun j => nmH_I _ _ _ _ _ _ (by omega) (by omega) (by omega)) j)))
        refine g_vret rfl dX10_readPane_151 rfl rfl ⟨rfl, (PG_0 _ _).trans ((PG_I _ _ (by omega)).trans ((PG_I _ _ (by omega)).trans ((nmH_P _ _ _ _ _ _).trans ((k4.trans (k3.trans (k2.trans k1))).p c)))), s4.1.o hI, Or.inr ⟨_, ho, f4.1.o hI (u2_n _ _ (by omega)), (((bN.pI (a := 1) _ (by decide) (by omega)).pI (a := 2) _ (by decide) (by omega)).pI (a := 0) _ (by decide) (by decide)), ?_⟩⟩
        exact RCx.w (RCx.cnt (RCx.put (RCx.put dN (a0 := 1) (by decide) n 0) (a0 := 2) (by decide) n a.2.1) (f0 := 4) (by decide) (C 1 1 + 1)) (lv' := lvF (nnC (u2 (u2 (u2 C 2 n 0) 3 n a.2.1) 1 1 (u2 (u2 C 2 n 0) 3 n a.2.1 1 1 + 1)))) (fun a' j h1 h2 h3 => by
          rw [nn_up (C := C) ck (by omega) (fun j => by first | rfl | (simp only [u2_na _ _ _ (show ¬ (1 : Nat) = 2 by decide), u2_na _ _ _ (show ¬ (1 : Nat) = 3 by decide), u2_na _ _ _ (show ¬ (1 : Nat) = 6 by decide), u2_na _ _ _ (show ¬ (1 : Nat) = 7 by decide), u2_na _ _ _ (show ¬ (1 : Nat) = 8 by decide), u2_na _ _ _ (show ¬ (1 : Nat) = 9 by decide), u2_na _ _ _ (show ¬ (1 : Nat) = 10 by decide), u2_na _ _ _ (show ¬ (1 : Nat) = 11 by decide), u2_na _ _ _ (show ¬ (1 : Nat) = 12 by decide), u2_na _ _ _ (show ¬ (1 : Nat) = 13 by decide), u2_na _ _ _ (show ¬ (1 : Nat) = 14 by decide)]))] at h3
          rcases lv_up a' j h3 with z5 | z5
          · exact (Or.inl (Or.inl z5))
          · rcases gp_1 ⟨a', by omega⟩ h1 z5.1 with z6 | z6
            · exact (Or.inl (Or.inr ⟨z6, z5.2.2.trans hnn⟩))
            · exact (Or.inr ⟨z6, z5.2.2.trans hnn⟩))
theorem r_readPerson {tx : Nat → Int32} {en : Nat} {h : Hp} {c : Nat} {K : List Nm} (b : RB tx en h c K) {C : CT} (d : RD h c C) (wi : WI C K (nnC C)) (hL : LB h) {q : Nat} (r : RK tx en h q) (ht : tkS tx en q = 1) : gC 9 0 0 yX10_readPerson cX10_readPerson 3 none [.ref 50] h (LM tx en h c (lxB tx en C q 8 4 (fun q => (nmP tx en q K (nI 8) (C 1 8)).bind fun x => .ok (x.1, C, x.2)))) := by
  have hc6 := b.M.1
  have hu := wi.2.1
  generalize hoo : (lxB tx en C q 8 4 (fun q => (nmP tx en q K (nI 8) (C 1 8)).bind fun x => .ok (x.1, C, x.2))) = oo
  refine g_entry (lv := [.ref 50, .retAddr 0, .retAddr 0]) 2 pn_X10 rfl rfl rfl ?_
  refine g_aL0 dX10_readPerson_0 ?_
  refine g_aL0 dX10_readPerson_1 ?_
  refine g_getR lf_X10_167 (b.S.l 50 rfl) (b.S.k 50 rfl rfl) b.C dX10_readPerson_2 ?_
  refine g_gI lf_X10_335 (b.M.l 0 rfl) (b.M.k 0 rfl rfl) dX10_readPerson_5 ?_
  rw [show gI h c 11 = C 1 8 from d.1 11 (by decide)]
  refine g_iconst dX10_readPerson_8 ?_
  refine r_v2u (r_begins b (o := (.ok q)) ⟨hL, Or.inr ⟨q, rfl, r⟩⟩ (fun q' z => by cases z; rw [ht]; decide) (wd := C 0 1) (d.1 0 (by decide)) (C 1 8) 4) lm_X10_265 dX10_readPerson_9 (b.S.l 50 rfl) (b.S.k 50 rfl rfl) rfl rfl rfl rfl (fun v h' z => z.1) (fun h1 z => ?_)
  obtain ⟨-, k1, s1⟩ := z
  have b1 := b.go k1
  have d1 := RC.go d hc6 k1
  refine g_aL0 dX10_readPerson_12 ?_
  refine r_v0l (r_readFresh b1 s1) lm_X10_268 dX10_readPerson_13 (b1.S.l 50 rfl) (b1.S.k 50 rfl rfl) rfl rfl rfl rfl (fun v h' z => ⟨_, z.choose_spec.1⟩) (fun xv h1 z => ?_)
  obtain ⟨xw, z0, k2, s2⟩ := z
  obtain rfl := Value.long.inj (Option.some.inj z0)
  have b2 := b1.go k2
  have d2 := RC.go d1 hc6 k2
  rw [lx_nm] at hoo
  refine g_lS1 dX10_readPerson_16 rfl rfl ?_
  rcases s2.2 with ⟨e, z, f⟩ | ⟨y, z, f⟩
  · rw [show ((o1P tx en C q 8 4).bind fun q => nfP tx en q K) = .error e from z, eb_er] at hoo
    refine g_aL0 dX10_readPerson_17 ?_
    refine g_gI lf_X10_71 (b2.S.l 50 rfl) (b2.S.k 50 rfl rfl) dX10_readPerson_18 ?_
    refine g_iconst dX10_readPerson_21 ?_
    refine g_icne dX10_readPerson_22 (fun c22 => absurd f.1 c22) (fun c22 => ?_)
    exact g_vret rfl dX10_readPerson_25 rfl rfl ⟨rfl, (k2.trans k1).p c, s2.1, Or.inl ⟨e, hoo.symm, f⟩⟩
  · obtain ⟨hn8, hw0, -⟩ := o2_ok (show ((o1P tx en C q 8 4).bind fun q => nfP tx en q K) = .ok y from z)
    rw [show ((o1P tx en C q 8 4).bind fun q => nfP tx en q K) = .ok y from z, eb_ok] at hoo
    obtain ⟨r2, rfl⟩ := f
    have hnl := wi.lt (k := 8) (m := 4) (by decide) hn8 (by omega)
    have hkl : K.length < 33 := by have := wi.2.2.1; omega
    have ck := wi.c (k := 8) (by decide)
    generalize hnn : nnC C 8 = n at hnl ck
    rw [ad_lt hkl] at hoo
    have ho : oo = .ok (y.2, (u2 C 1 8 (C 1 8 + 1)), K ++ [(y.1, nI 8, C 1 8)]) := hoo.symm
    refine g_aL0 dX10_readPerson_17 ?_
    refine g_gI lf_X10_71 (b2.S.l 50 rfl) (b2.S.k 50 rfl rfl) dX10_readPerson_18 ?_
    refine g_iconst dX10_readPerson_21 ?_
    refine g_icne dX10_readPerson_22 (fun c22 => ?_) (fun c22 => absurd c22 r2.n5)
    refine g_aL0 dX10_readPerson_26 ?_
    refine g_lL1 dX10_readPerson_27 ?_
    refine g_iconst dX10_readPerson_28 ?_
    refine g_aL0 dX10_readPerson_29 ?_
    refine g_getR lf_X10_167 (b2.S.l 50 rfl) (b2.S.k 50 rfl rfl) b2.C dX10_readPerson_30 ?_
    refine g_gI lf_X10_335 (b2.M.l 0 rfl) (b2.M.k 0 rfl rfl) dX10_readPerson_33 ?_
    rw [show gI h1 c 11 = C 1 8 from d2.1 11 (by decide)]
    refine e_v3u (d_names b2 hkl _ _ _) lm_X10_280 dX10_readPerson_36 (b2.S.l 50 rfl) (b2.S.k 50 rfl rfl) rfl rfl rfl rfl ?_
    have bN := b2.nm (x := (y.1, nI 8, C 1 8)) hkl (Or.inr (Or.inr (Or.inr (Or.inr rfl))))
    rw [show nsM ((y.1, nI 8, C 1 8) : Nm).2.1 = 4 from ns8] at bN
    have dN := RC.nm d2 (n := K.length) y.1 4 (C 1 8)
    refine g_aL0 dX10_readPerson_39 ?_
    refine g_getR lf_X10_167 (bN.S.l 50 rfl) (bN.S.k 50 rfl rfl) bN.C dX10_readPerson_40 ?_
    refine g_dup dX10_readPerson_43 rfl ?_
    refine g_gI lf_X10_335 (bN.M.l 0 rfl) (bN.M.k 0 rfl rfl) dX10_readPerson_44 ?_
    rw [show gI (nmH h1 c K.length y.1 4 (C 1 8)) c 11 = C 1 8 from dN.1 11 (by decide)]
    refine g_iconst dX10_readPerson_47 ?_
    refine g_iadd dX10_readPerson_48 ?_
    refine g_pI1 lf_X10_335 (bN.M.l 0 rfl) (bN.M.k 0 rfl rfl) dX10_readPerson_49 ?_
    have hI : ∀ j, gI (pI (nmH h1 c K.length y.1 4 (C 1 8)) c 11 (C 1 8 + 1)) 50 j = gI h1 50 j := fun j => (gIq (by omega)).trans ((fun j => nmH_I _ _ _ _ _ _ (by omega) (by omega) (by omega)) j)
    refine g_vret rfl dX10_readPerson_52 rfl rfl ⟨rfl, (PG_0 _ _).trans ((nmH_P _ _ _ _ _ _).trans ((k2.trans k1).p c)), s2.1.o hI, Or.inr ⟨_, ho, r2.o hI (u2_n _ _ (by omega)), (bN.pI (a := 0) _ (by decide) (by decide)), ?_⟩⟩
    exact RCx.w (RCx.cnt dN (f0 := 11) (by decide) (C 1 8 + 1)) (lv' := lvF (nnC (u2 C 1 8 (C 1 8 + 1)))) (fun a' j h1 h2 h3 => by
      rw [nn_up (C := C) ck (by omega) (fun j => by first | rfl | (simp only [u2_na _ _ _ (show ¬ (1 : Nat) = 2 by decide), u2_na _ _ _ (show ¬ (1 : Nat) = 3 by decide), u2_na _ _ _ (show ¬ (1 : Nat) = 6 by decide), u2_na _ _ _ (show ¬ (1 : Nat) = 7 by decide), u2_na _ _ _ (show ¬ (1 : Nat) = 8 by decide), u2_na _ _ _ (show ¬ (1 : Nat) = 9 by decide), u2_na _ _ _ (show ¬ (1 : Nat) = 10 by decide), u2_na _ _ _ (show ¬ (1 : Nat) = 11 by decide), u2_na _ _ _ (show ¬ (1 : Nat) = 12 by decide), u2_na _ _ _ (show ¬ (1 : Nat) = 13 by decide), u2_na _ _ _ (show ¬ (1 : Nat) = 14 by decide)]))] at h3
      rcases lv_up a' j h3 with z5 | z5
      · exact z5
      · exact absurd z5.1 (gp_no8 ⟨a', by omega⟩))
theorem kn_ad {tx : Nat → Int32} {en q : Nat} {K : List Nm} {x : Nm} {so : Int32} (hx : ¬ x.2.1 = so) : knP tx en q (K ++ [x]) so = knP tx en q K so := by
  have key : ∀ (K : List Nm) (ky : Int64), fdP ky (K ++ [x]) = fdP ky K ∨ (fdP ky K = none ∧ fdP ky (K ++ [x]) = some x.2) := by
    intro K ky
    induction K with
    | nil =>
      show (if lg_cmp x.1 ky = 0 then some x.2 else none) = none ∨ _
      by_cases z : lg_cmp x.1 ky = 0
      · exact Or.inr ⟨rfl, if_pos z⟩
      · exact Or.inl (if_neg z)
    | cons y K ih =>
      show (if lg_cmp y.1 ky = 0 then some y.2 else fdP ky (K ++ [x])) = (if lg_cmp y.1 ky = 0 then some y.2 else fdP ky K) ∨ ((if lg_cmp y.1 ky = 0 then some y.2 else fdP ky K) = none ∧ (if lg_cmp y.1 ky = 0 then some y.2 else fdP ky (K ++ [x])) = some x.2)
      by_cases z : lg_cmp y.1 ky = 0
      · rw [if_pos z, if_pos z]; exact Or.inl rfl
      · rw [if_neg z, if_neg z]; exact ih
  unfold knP
  rcases key K (kyP tx en q) with z | ⟨z1, z2⟩
  · rw [z]
  · rw [z1, z2]
    by_cases a : tkS tx en q = 1
    · rw [if_pos a, if_pos a]
      by_cases y : lsF tx en q = -1
      · rw [if_pos y, if_pos y]; exact if_neg hx
      · rw [if_neg y, if_neg y]
    · rw [if_neg a, if_neg a]
theorem r_readCorner {tx : Nat → Int32} {en : Nat} {h : Hp} {c : Nat} {K : List Nm} (b : RB tx en h c K) {C : CT} (d : RD h c C) (wi : WI C K (nnC C)) (hL : LB h) {q : Nat} (r : RK tx en h q) (ht : tkS tx en q = 1) : gC 9 0 0 yX10_readCorner cX10_readCorner 4 none [.ref 50] h (LM tx en h c (lxB tx en C q 4 7 (fun q => (nmP tx en q K (nI 4) (C 1 4)).bind fun x => (knP tx en x.1 x.2 3).bind fun v => .ok (nx tx en x.1, u2 C 6 (pn (C 1 4)) v, x.2)))) := by
  have hc6 := b.M.1
  have hu := wi.2.1
  generalize hoo : (lxB tx en C q 4 7 (fun q => (nmP tx en q K (nI 4) (C 1 4)).bind fun x => (knP tx en x.1 x.2 3).bind fun v => .ok (nx tx en x.1, u2 C 6 (pn (C 1 4)) v, x.2))) = oo
  refine g_entry (lv := [.ref 50, .retAddr 0, .retAddr 0, .retAddr 0]) 3 pn_X10 rfl rfl rfl ?_
  refine g_aL0 dX10_readCorner_0 ?_
  refine g_aL0 dX10_readCorner_1 ?_
  refine g_getR lf_X10_167 (b.S.l 50 rfl) (b.S.k 50 rfl rfl) b.C dX10_readCorner_2 ?_
  refine g_gI lf_X10_300 (b.M.l 0 rfl) (b.M.k 0 rfl rfl) dX10_readCorner_5 ?_
  rw [show gI h c 7 = C 1 4 from d.1 7 (by decide)]
  refine g_bipush dX10_readCorner_8 ?_
  refine r_v2u (r_begins b (o := (.ok q)) ⟨hL, Or.inr ⟨q, rfl, r⟩⟩ (fun q' z => by cases z; rw [ht]; decide) (wd := C 0 1) (d.1 0 (by decide)) (C 1 4) 7) lm_X10_265 dX10_readCorner_10 (b.S.l 50 rfl) (b.S.k 50 rfl rfl) rfl rfl rfl rfl (fun v h' z => z.1) (fun h1 z => ?_)
  obtain ⟨-, k1, s1⟩ := z
  have b1 := b.go k1
  have d1 := RC.go d hc6 k1
  refine g_aL0 dX10_readCorner_13 ?_
  refine r_v0l (r_readFresh b1 s1) lm_X10_268 dX10_readCorner_14 (b1.S.l 50 rfl) (b1.S.k 50 rfl rfl) rfl rfl rfl rfl (fun v h' z => ⟨_, z.choose_spec.1⟩) (fun xv h1 z => ?_)
  obtain ⟨xw, z0, k2, s2⟩ := z
  obtain rfl := Value.long.inj (Option.some.inj z0)
  have b2 := b1.go k2
  have d2 := RC.go d1 hc6 k2
  rw [lx_nm] at hoo
  refine g_lS1 dX10_readCorner_17 rfl rfl ?_
  rcases s2.2 with ⟨e, z, f⟩ | ⟨y, z, f⟩
  · rw [show ((o1P tx en C q 4 7).bind fun q => nfP tx en q K) = .error e from z, eb_er] at hoo
    refine g_aL0 dX10_readCorner_18 ?_
    refine g_iconst dX10_readCorner_19 ?_
    refine r_v1i (r_readKnown b2 (o := .error e) ⟨s2.1, Or.inl ⟨e, rfl, f⟩⟩ (so := 3) (by decide)) lm_X10_303 dX10_readCorner_20 (b2.S.l 50 rfl) (b2.S.k 50 rfl rfl) rfl rfl rfl rfl (fun v h' z => ⟨_, z.choose_spec.1⟩) (fun xu h1 z => ?_)
    obtain ⟨xw, z0, k3, s4⟩ := z
    obtain rfl := Value.int.inj (Option.some.inj z0)
    have b3 := b2.go k3
    have d3 := RC.go d2 hc6 k3
    rcases s4.2 with ⟨e4, z4, f4⟩ | ⟨a4, z4, f4⟩
    · cases z4
      refine g_iS3 dX10_readCorner_23 rfl rfl ?_
      refine g_aL0 dX10_readCorner_24 ?_
      refine g_gI lf_X10_71 (b3.S.l 50 rfl) (b3.S.k 50 rfl rfl) dX10_readCorner_25 ?_
      refine g_iconst dX10_readCorner_28 ?_
      refine g_icne dX10_readCorner_29 (fun c29 => absurd f4.1 c29) (fun c29 => ?_)
      exact g_vret rfl dX10_readCorner_32 rfl rfl ⟨rfl, (k3.trans (k2.trans k1)).p c, s4.1, Or.inl ⟨e, hoo.symm, f4⟩⟩
    · cases z4
  · obtain ⟨hn8, hw0, -⟩ := o2_ok (show ((o1P tx en C q 4 7).bind fun q => nfP tx en q K) = .ok y from z)
    rw [show ((o1P tx en C q 4 7).bind fun q => nfP tx en q K) = .ok y from z, eb_ok] at hoo
    obtain ⟨r2, rfl⟩ := f
    have hnl := wi.lt (k := 4) (m := 7) (by decide) hn8 (by omega)
    have hkl : K.length < 33 := by have := wi.2.2.1; omega
    have ck := wi.c (k := 4) (by decide)
    generalize hnn : nnC C 4 = n at hnl ck
    rw [ad_lt hkl] at hoo
    replace hoo : Except.bind (Except.bind (knP tx en y.2 (K ++ [(y.1, nI 4, C 1 4)]) 3) (fun v => .ok (nx tx en y.2, u2 C 6 (pn (C 1 4)) v, K ++ [(y.1, nI 4, C 1 4)]))) (cuP 4) = oo := hoo
    rw [kn_ad (x := (y.1, nI 4, C 1 4)) (by show ¬ nI 4 = 3; decide)] at hoo
    refine g_aL0 dX10_readCorner_18 ?_
    refine g_iconst dX10_readCorner_19 ?_
    rw [show (2 : Int32) = nsM 3 from by decide]
    refine r_v1i (r_readKnown b2 (o := .ok y.2) ⟨s2.1, Or.inr ⟨_, rfl, r2⟩⟩ (so := 3) (by decide)) lm_X10_303 dX10_readCorner_20 (b2.S.l 50 rfl) (b2.S.k 50 rfl rfl) rfl rfl rfl rfl (fun v h' z => ⟨_, z.choose_spec.1⟩) (fun xu h1 z => ?_)
    obtain ⟨xw, z0, k3, s4⟩ := z
    obtain rfl := Value.int.inj (Option.some.inj z0)
    have b3 := b2.go k3
    have d3 := RC.go d2 hc6 k3
    rcases s4.2 with ⟨e, z4, f4⟩ | ⟨a, z4, f4⟩
    · have ho : oo = .error e := by
        rw [← hoo]
        cases hk : knP tx en y.2 K 3 with
        | error e2 => rw [eb_ok, hk] at z4; cases z4; rfl
        | ok v => rw [eb_ok, hk] at z4; cases z4
      refine g_iS3 dX10_readCorner_23 rfl rfl ?_
      refine g_aL0 dX10_readCorner_24 ?_
      refine g_gI lf_X10_71 (b3.S.l 50 rfl) (b3.S.k 50 rfl rfl) dX10_readCorner_25 ?_
      refine g_iconst dX10_readCorner_28 ?_
      refine g_icne dX10_readCorner_29 (fun c29 => absurd f4.1 c29) (fun c29 => ?_)
      exact g_vret rfl dX10_readCorner_32 rfl rfl ⟨rfl, (k3.trans (k2.trans k1)).p c, s4.1, Or.inl ⟨e, ho, f4⟩⟩
    · obtain ⟨r4, hxu⟩ := f4
      have ho : oo = .ok (a.2, (u2 (u2 C 6 n xu) 1 4 (u2 C 6 n xu 1 4 + 1)), K ++ [(y.1, nI 4, C 1 4)]) := by
        rw [← hoo]
        cases hk : knP tx en y.2 K 3 with
        | error e2 => rw [eb_ok, hk] at z4; cases z4
        | ok v =>
          rw [eb_ok, hk] at z4
          cases z4
          rw [hxu]
          show cuP 4 (nx tx en y.2, u2 C 6 (pn (C 1 4)) v, _) = _
          rw [ck, pn_nI (by omega)]; rfl
      refine g_iS3 dX10_readCorner_23 rfl rfl ?_
      refine g_aL0 dX10_readCorner_24 ?_
      refine g_gI lf_X10_71 (b3.S.l 50 rfl) (b3.S.k 50 rfl rfl) dX10_readCorner_25 ?_
      refine g_iconst dX10_readCorner_28 ?_
      refine g_icne dX10_readCorner_29 (fun c29 => ?_) (fun c29 => absurd c29 r4.n5)
      refine g_aL0 dX10_readCorner_33 ?_
      refine g_lL1 dX10_readCorner_34 ?_
      refine g_iconst dX10_readCorner_35 ?_
      refine g_aL0 dX10_readCorner_36 ?_
      refine g_getR lf_X10_167 (b3.S.l 50 rfl) (b3.S.k 50 rfl rfl) b3.C dX10_readCorner_37 ?_
      refine g_gI lf_X10_300 (b3.M.l 0 rfl) (b3.M.k 0 rfl rfl) dX10_readCorner_40 ?_
      rw [show gI h1 c 7 = C 1 4 from d3.1 7 (by decide)]
      refine e_v3u (d_names b3 hkl _ _ _) lm_X10_280 dX10_readCorner_43 (b3.S.l 50 rfl) (b3.S.k 50 rfl rfl) rfl rfl rfl rfl ?_
      have bN := b3.nm (x := (y.1, nI 4, C 1 4)) hkl (Or.inr (Or.inr (Or.inr (Or.inl rfl))))
      rw [show nsM ((y.1, nI 4, C 1 4) : Nm).2.1 = 3 from ns4] at bN
      have dN := RC.nm d3 (n := K.length) y.1 3 (C 1 4)
      refine g_aL0 dX10_readCorner_46 ?_
      refine g_getR lf_X10_167 (bN.S.l 50 rfl) (bN.S.k 50 rfl rfl) bN.C dX10_readCorner_47 ?_
      refine g_getRn lf_X10_306 (bN.M.l 0 rfl) (bN.M.k 0 rfl rfl) (bN.M.r 19 (j := 5) rfl) dX10_readCorner_50 ?_
      refine g_aL0 dX10_readCorner_53 ?_
      refine g_getR lf_X10_167 (bN.S.l 50 rfl) (bN.S.k 50 rfl rfl) bN.C dX10_readCorner_54 ?_
      refine g_gI lf_X10_300 (bN.M.l 0 rfl) (bN.M.k 0 rfl rfl) dX10_readCorner_57 ?_
      rw [show gI (nmH h1 c K.length y.1 3 (C 1 4)) c 7 = nI n from (dN.1 7 (by decide)).trans ck]
      refine g_iL3 dX10_readCorner_60 ?_
      refine g_iastoreN (bN.M.l 5 rfl) (bN.M.k 5 rfl rfl) (bN.M.n 5 (n := 7) rfl rfl) (by omega) (by decide) dX10_readCorner_61 ?_
      refine g_aL0 dX10_readCorner_62 ?_
      refine g_getR lf_X10_167 (bN.S.l 50 rfl) (bN.S.k 50 rfl rfl) bN.C dX10_readCorner_63 ?_
      refine g_dup dX10_readCorner_66 rfl ?_
      refine g_gI lf_X10_300 (bN.M.l 0 rfl) (bN.M.k 0 rfl rfl) dX10_readCorner_67 ?_
      rw [show ∀ x, gI (pI (nmH h1 c K.length y.1 3 (C 1 4)) (c + 5) n x) c 7 = C 1 4 from fun x => (gIq (by omega)).trans (dN.1 7 (by decide))]
      refine g_iconst dX10_readCorner_70 ?_
      refine g_iadd dX10_readCorner_71 ?_
      refine g_pI1 lf_X10_300 (bN.M.l 0 rfl) (bN.M.k 0 rfl rfl) dX10_readCorner_72 ?_
      have hI : ∀ j, gI (pI (pI (nmH h1 c K.length y.1 3 (C 1 4)) (c + 5) n xu) c 7 (C 1 4 + 1)) 50 j = gI h1 50 j := fun j => (gIq (by omega)).trans ((gIq (by omega)).trans ((fun j => nmH_I _ _ _ _ _ _ (by omega) (by omega) (by omega)) j))
      refine g_vret rfl dX10_readCorner_75 rfl rfl ⟨rfl, (PG_0 _ _).trans ((PG_I _ _ (by omega)).trans ((nmH_P _ _ _ _ _ _).trans ((k3.trans (k2.trans k1)).p c))), s4.1.o hI, Or.inr ⟨_, ho, r4.o hI (u2_n _ _ (by omega)), ((bN.pI (a := 5) _ (by decide) (by omega)).pI (a := 0) _ (by decide) (by decide)), ?_⟩⟩
      exact RCx.w (RCx.cnt (RCx.put dN (a0 := 5) (by decide) n xu) (f0 := 7) (by decide) (C 1 4 + 1)) (lv' := lvF (nnC (u2 (u2 C 6 n xu) 1 4 (u2 C 6 n xu 1 4 + 1)))) (fun a' j h1 h2 h3 => by
        rw [nn_up (C := C) ck (by omega) (fun j => by first | rfl | (simp only [u2_na _ _ _ (show ¬ (1 : Nat) = 2 by decide), u2_na _ _ _ (show ¬ (1 : Nat) = 3 by decide), u2_na _ _ _ (show ¬ (1 : Nat) = 6 by decide), u2_na _ _ _ (show ¬ (1 : Nat) = 7 by decide), u2_na _ _ _ (show ¬ (1 : Nat) = 8 by decide), u2_na _ _ _ (show ¬ (1 : Nat) = 9 by decide), u2_na _ _ _ (show ¬ (1 : Nat) = 10 by decide), u2_na _ _ _ (show ¬ (1 : Nat) = 11 by decide), u2_na _ _ _ (show ¬ (1 : Nat) = 12 by decide), u2_na _ _ _ (show ¬ (1 : Nat) = 13 by decide), u2_na _ _ _ (show ¬ (1 : Nat) = 14 by decide)]))] at h3
        rcases lv_up a' j h3 with z5 | z5
        · exact (Or.inl z5)
        · exact Or.inr ⟨gp_4 ⟨a', by omega⟩ h1 z5.1, z5.2.2.trans hnn⟩)

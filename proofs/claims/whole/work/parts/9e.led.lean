/-! LED: it returns, or throws; and the law's own, that catches it -/
section LDP
variable {PG : Gp → Code → Prop} {d RC RS nL cells slots pc : Nat} {y : MethodName} {cc : ByteArray} {ret : Option FieldType} {lv st : List Value} {h : Hp} {Q : Option Value → Hp → Prop}
theorem p_of (x : gY d RC RS y cc nL ret cells slots Q pc lv st h) : gP PG (fun G below args s => MQ below (gQc G Q) args s RC RS (gA G)) d RC RS y cc nL ret cells slots pc lv st h := fun p l e s m args below meth c G C _ ls H locs hl hw hS => x p l e s m args below meth c G C ls H locs hl hw hS
theorem p_ofx {XC : Gp → String → State → State → Prop} (x : gY d RC RS y cc nL ret cells slots Q pc lv st h) : gP PG (fun G below args s => vx_MQ below (gQc G Q) (XC G) args s RC RS (gA G)) d RC RS y cc nL ret cells slots pc lv st h := fun p l e s m args below meth c G C _ ls H locs hl hw hS => vx_ret (x p l e s m args below meth c G C ls H locs hl hw hS)
end LDP
theorem p_led {PG : Gp → Code → Prop} {PQ : Gp → List Frame → Array Value → State → State → Prop} {h : Hp} {t : Nat} {cn : Nat → Nat} (X : CX h t cn) (k : Int32) {d RC RS : Nat} (hd : Nat.ble 4 d = true) (hY : ∀ P, ldF (fun i => thF (gI h 38 3) (nI i)) (fun i => wrF h t (cn 2) i (-2)) k (cn 1) 0 0 = some P → ∀ v2 v3, gP PG PQ d RC RS yX8_led cX8_led 4 (some .int) 0 0 49 [.ref 0, .int k, v2, v3] [.int (nI P)] h) (hN : ldF (fun i => thF (gI h 38 3) (nI i)) (fun i => wrF h t (cn 2) i (-2)) k (cn 1) 0 0 = none → ∀ v2 v3, gP PG PQ d RC RS yX8_led cX8_led 4 (some .int) 0 0 59 [.ref 0, .int k, v2, v3] [] h) : gP PG PQ d RC RS yX8_led cX8_led 4 (some .int) 0 0 0 [.ref 0, .int k, .retAddr 0, .retAddr 0] [] h := by
  have loop : ∀ (n i : Nat) (m : Int32), i + n = cn 1 → ldF (fun i => thF (gI h 38 3) (nI i)) (fun i => wrF h t (cn 2) i (-2)) k (cn 1) 0 0 = ldF (fun i => thF (gI h 38 3) (nI i)) (fun i => wrF h t (cn 2) i (-2)) k n i m → gP PG PQ d RC RS yX8_led cX8_led 4 (some .int) 0 0 4 [.ref 0, .int k, .int m, .int (nI i)] [] h := by
    intro n
    induction n with
    | zero =>
      intro i m hi he
      refine p_iL3 dX8_led_4 ?_
      refine p_aL0 dX8_led_5 ?_
      refine p_getR lf_X8_19 (X.S.l 0 rfl) (X.S.k 0 rfl rfl) X.T dX8_led_6 ?_
      refine p_getR lf_X8_103 (X.S.cl X.hc 0 rfl) (X.S.ck X.hc) (X.S.cr X.hc 0 (j := 1) rfl rfl) dX8_led_9 ?_
      refine p_iconst dX8_led_12 ?_
      refine p_ialoadK (X.S.cl X.hc 1 rfl) (X.S.cka X.hc 1 rfl rfl) (X.S.cn X.hc 1 (n := 11) rfl rfl rfl) rfl (j := 1) rfl dX8_led_13 ?_
      rw [X.c 1 rfl]
      refine p_icge dX8_led_14 (fun c14 => ?_) (fun c14 => absurd (nI_le (by omega) (by have := X.b1; omega)) c14)
      exact hN he _ _
    | succ n ih =>
      intro i m hi he
      refine p_iL3 dX8_led_4 ?_
      refine p_aL0 dX8_led_5 ?_
      refine p_getR lf_X8_19 (X.S.l 0 rfl) (X.S.k 0 rfl rfl) X.T dX8_led_6 ?_
      refine p_getR lf_X8_103 (X.S.cl X.hc 0 rfl) (X.S.ck X.hc) (X.S.cr X.hc 0 (j := 1) rfl rfl) dX8_led_9 ?_
      refine p_iconst dX8_led_12 ?_
      refine p_ialoadK (X.S.cl X.hc 1 rfl) (X.S.cka X.hc 1 rfl rfl) (X.S.cn X.hc 1 (n := 11) rfl rfl rfl) rfl (j := 1) rfl dX8_led_13 ?_
      rw [X.c 1 rfl]
      refine p_icge dX8_led_14 (fun c14 => absurd c14 (nI_ge (by omega) (by have := X.b1; omega))) (fun c14 => ?_)
      refine p_aL0 dX8_led_17 ?_
      refine p_getR lf_X8_40 (X.S.l 0 rfl) (X.S.k 0 rfl rfl) (X.S.r 0 2 (b := 38) rfl rfl) dX8_led_18 ?_
      refine p_iL3 dX8_led_21 ?_
      refine pe_v1i (c_isBroken X.S _) lm_X8_123 dX8_led_22 (X.S.l 38 rfl) (X.S.k 38 rfl rfl) (Nat.ble_eq_true_of_le (Nat.le_trans (by decide) (Nat.le_of_ble_eq_true hd))) rfl rfl rfl ?_
      refine p_ifne dX8_led_25 (fun c25 => ?_) (fun c25 => ?_)
      · refine p_ii3 dX8_led_53 rfl rfl ?_
        refine p_goto dX8_led_56 ?_
        rw [nI_1]
        exact ih (i + 1) _ (by omega) (he.trans (if_neg c25))
      · refine p_aL0 dX8_led_28 ?_
        refine p_getR lf_X8_40 (X.S.l 0 rfl) (X.S.k 0 rfl rfl) (X.S.r 0 2 (b := 38) rfl rfl) dX8_led_29 ?_
        refine p_iL3 dX8_led_32 ?_
        refine p_bipush dX8_led_33 ?_
        refine pe_v2i (c_wordRead X.S X.hc X.P (X.c 2 rfl) X.b2 (show i < 8 from by have := X.b1; omega) _) lm_X8_152 dX8_led_35 (X.S.l 38 rfl) (X.S.k 38 rfl rfl) (Nat.ble_eq_true_of_le (Nat.le_trans (by decide) (Nat.le_of_ble_eq_true hd))) rfl rfl rfl ?_
        refine p_bipush dX8_led_38 ?_
        refine p_iceq dX8_led_40 (fun c40 => ?_) (fun c40 => ?_)
        · refine p_ii3 dX8_led_53 rfl rfl ?_
          refine p_goto dX8_led_56 ?_
          rw [nI_1]
          exact ih (i + 1) _ (by omega) (he.trans ((if_pos c25).trans (if_pos c40)))
        · refine p_iL2 dX8_led_43 ?_
          refine p_iL1 dX8_led_44 ?_
          refine p_icne dX8_led_45 (fun c45 => ?_) (fun c45 => ?_)
          · refine p_ii2 dX8_led_50 rfl rfl ?_
            refine p_ii3 dX8_led_53 rfl rfl ?_
            refine p_goto dX8_led_56 ?_
            rw [nI_1]
            exact ih (i + 1) _ (by omega) (he.trans ((if_pos c25).trans ((if_neg c40).trans (if_neg c45))))
          · refine p_iL3 dX8_led_48 ?_
            exact hY i (he.trans ((if_pos c25).trans ((if_neg c40).trans (if_pos c45)))) _ _
  refine p_iconst dX8_led_0 ?_
  refine p_iS2 dX8_led_1 rfl rfl ?_
  refine p_iconst dX8_led_2 ?_
  refine p_iS3 dX8_led_3 rfl rfl ?_
  exact loop (cn 1) 0 _ (by omega) rfl
/-- the picture where something lies beyond it -/
def gG (h : Hp) (m : Nat) : Hp := ((gL h, m), h.2)
theorem gfs_gG (G : Gp) (h : Hp) (m a : Nat) : ∀ (cs : List Nat) (j : Nat), gfs G (gG h m) a cs j = gfs G h a cs j := fun cs j => gfs_congr G cs j (fun _ _ _ => rfl)
theorem gen_gG (G : Gp) (h : Hp) (m a : Nat) : gen G (gG h m) a = gen G h a := by
  unfold gen
  show (if gK h a = 11 then _ else if gK h a = 12 then _ else if gK h a = 13 then _ else Sum.inr (gK h a, gfs G (gG h m) a (gty (gK h a)) 0)) = _
  rw [gfs_gG]
  rfl
theorem gG_l (G : Gp) (h : Hp) (m : Nat) : gwl G (gG h m) = gwl G h := by
  unfold gwl
  refine List.map_congr_left (fun a _ => ?_)
  exact congrArg (Prod.mk _) (gen_gG G h m a)
theorem gG_wh {G : Gp} {h : Hp} {H H1 : Heap} (hw : gWh G h H) (hs : H.size ≤ H1.size) (hq : ∀ q : Nat, q < H.size → H1[q]? = H[q]?) : ∃ m, gn h ≤ m ∧ gWh G (gG h m) H1 := by
  obtain ⟨hsz, hlt, hP, hD⟩ := hw
  refine ⟨H1.size - gB G, by omega, ?_, ?_, ?_, by rw [gG_l]; exact hD⟩
  · show H1.size = gB G + (H1.size - gB G); omega
  · intro a ha
    have h1 := hlt a ha
    show a < H1.size - gB G
    omega
  · rw [gG_l]; exact va_P.kept hP (fun k q hk => hq q.1 (vx_lt hP hk))
abbrev NSE : String := "java/util/NoSuchElementException"
abbrev NSN : List String := ["java/lang/RuntimeException", "java/lang/Exception"]
abbrev NSB : List Cond := [.declares ⟨"java/lang/RuntimeException", "<init>", "()V"⟩, .declares ⟨"java/lang/Exception", "<init>", "()V"⟩, .declares ⟨"java/lang/Throwable", "<init>", "()V"⟩, .castable NSE NSE]
theorem nse_at : ∀ w ∈ (vx_at0 RX8 303 NSE NSN).filter goodWord, w ∈ gtb := by decide +kernel
theorem nse_rest : ∀ w ∈ (vx_at0 RX8 303 NSE NSN).filter (fun w => !goodWord w), w ∈ NSB := by decide +kernel
theorem nse_cast : Cond.castable NSE NSE ∈ gnw := gkN5 122 rfl rfl
theorem nse_b : ∀ w ∈ NSB, w ∈ gnw := by
  intro w hw
  simp only [List.mem_cons, List.not_mem_nil, or_false] at hw
  rcases hw with rfl | rfl | rfl | rfl
  · exact gkN5 123 rfl rfl
  · exact gkN5 125 rfl rfl
  · exact gkN5 127 rfl rfl
  · exact nse_cast
theorem nse_before {args : Array Value} {s : State} (hts : ∀ w ∈ gtb, w.before args s = true) (hn : ∀ w ∈ gnw, va_Nw w s) : ∀ w ∈ vx_at0 RX8 303 NSE NSN, w.before args s = true := vx_hat (fun w hw => hts w (nse_at w hw)) nse_rest (fun w hw => by
  have h1 := hn w (nse_b w hw)
  simp only [List.mem_cons, List.not_mem_nil, or_false] at hw
  rcases hw with rfl | rfl | rfl | rfl <;> exact va_tabs rfl rfl h1)
theorem nse_good : ∀ w ∈ Cond.classLink RX8 301 NSE :: Cond.initialized NSE :: vx_at0 RX8 303 NSE NSN, vx_ot w = true := by decide +kernel
def ldX (h : Hp) (N : Prop) (G : Gp) : String → State → State → Prop := fun E st t => E = NSE ∧ N ∧ ∃ m, gn h ≤ m ∧ gWh G (gG h m) t.heap ∧ st.heap.size ≤ t.heap.size ∧ ∀ q : Nat, q < st.heap.size → ¬ gA G q → t.heap[q]? = st.heap[q]?
abbrev ldV (h : Hp) (t : Nat) (cn : Nat → Nat) (k : Int32) : Option Nat := ldF (fun i => thF (gI h 38 3) (nI i)) (fun i => wrF h t (cn 2) i (-2)) k (cn 1) 0 0
theorem p_ledT {lv : List Value} {h : Hp} {N : Prop} {Q : Option Value → Hp → Prop} (n : N) : gP (fun _ c => ∀ x ∈ c.exceptionTable.toList, False) (fun G below args s => vx_MQ below (gQc G Q) (ldX h N G) args s 1 6 (gA G)) 12 1 6 yX8_led cX8_led 4 (some .int) 0 0 59 lv [] h := by
  intro p l e s m args below meth c G C hPG ls H locs hl hw hS
  obtain ⟨hx, hb, hml, hown, hts, hlocks, hr, hname, hKo⟩ := id C
  exact vx_throw0 (own := RX8) (cls := NSE) (names := NSN) (ik := 301) (ic := 303) (A := gA G) hx hb l.2 hown (by decide +kernel) (by decide +kernel) (hts _ (gk5 120 rfl rfl)) (hts _ (gk1 21 rfl rfl)) (nse_before hts hKo.2.2.1) nse_good hKo.2.2.2.2.1.2.2.2.1 hKo.2.2.2.2.1.2.2.2.2 hS (hl.1.trans hml.symm) dX8_led_59.1 dX8_led_62.1 dX8_led_63.1 dX8_led_66.1 (fun x hx => (hPG x hx).elim) (by decide) (show 0 + (13 * (2 + 1) + 42) ≤ 720 by decide) (by decide) (by decide) hlocks (fun t ha hz hq => by
    obtain ⟨m, h1, h2⟩ := gG_wh hw hz hq
    exact ⟨rfl, n, m, h1, h2, Nat.le_trans hS.1 hz, fun q g1 g2 => (hq q (Nat.lt_of_lt_of_le g1 hS.1)).trans (hS.2.1 q g1 g2)⟩) hS.2.2 (by decide) (by decide)
theorem x_led {h : Hp} {t : Nat} {cn : Nat → Nat} (X : CX h t cn) (k : Int32) (l : gLn) (G : Gp) : vx_Met l.1 yX8_led (.code yX8_led cX8_led 4 (some .int) :: gtb) (grm 12 1 6) (gPc G [.ref 0, .int k] h) (gQc G (fun v h' => ∃ P, ldV h t cn k = some P ∧ v = some (.int (nI P)) ∧ h' = h)) (ldX h (ldV h t cn k = none) G) 1 6 (gA G) := by
  refine vx_ofW (cc := cX8_led) (maxL := 4) (ret := some .int) (by decide) rfl ?_
  intro p e s m av below meth c s₁ B hml ht hv
  obtain ⟨rfl, hw, hKo⟩ := hv
  have hts := atoms_spec (ws := .code yX8_led cX8_led 4 (some .int) :: gtb) B.pre
  have hl := lv_entry (([.ref 0, .int k] : List Value).map (gtr G)) (n := 4) (by rw [lg_len]; exact Nat.le_of_ble_eq_true rfl)
  rw [lg_entry_eq]
  rw [← gls_args 2 [.ref 0, .int k] 0 rfl] at hl
  exact p_led X k rfl (fun P hP v2 v3 => p_ofx (XC := ldX h (ldV h t cn k = none)) (g_iret rfl dX8_led_49 rfl rfl ⟨P, hP, rfl, rfl⟩)) (fun hN v2 v3 => p_ledT hN) p l e s m _ below meth c G ⟨B.exec, B.bytes, hml, findClass_of_methodNamed B.named, fun w hw => hts w (List.mem_cons_of_mem _ hw), B.notSynchronized, B.returns, (name_of_methodNamed B.named B.method).1, hKo⟩ ht _ s.heap [] hl hw va_S.rf
theorem m_ofWH {l : Launch} {y : MethodName} {ws ws' : List Cond} {rm : Room} {Pc : Array Value → State → Prop} {Qc : Array Value → State → Outcome → State → Prop} {mc ms : Nat} {free : Addr → Prop} {cc : ByteArray} {maxL : Nat} {ret : Option FieldType} {hh : List (Nat × Nat × Nat × Nat)}
    (hy : plainName y.cls = true) (hw : ws = Cond.codeWith y cc maxL ret hh :: ws')
    (body : ∀ p e s m args below meth c s₁, BodyLoose p l y (headSpec ws rm) cc maxL ret e s m args below meth c s₁ → c.maxLocals = maxL → Pc args s →
      W p l e (headSpec ws rm).room s m args below meth c s.heap [] 0 0 (MQ below Qc args s mc ms free) (entryFrame m args maxL)) : Met l y ws rm Pc Qc mc ms free := by
  refine MetFree.of_bodyS (code := cc) (maxLocals := maxL) (ret := ret) hy ?_ ?_
  · intro args s m h hn
    obtain ⟨m9, meth, c, hn9, h1, h2, h3, h4, -, h5, h6, -⟩ := Cond.codeWith_spec (atoms_spec (ws := ws) h _ (by rw [hw]; exact List.mem_cons_self))
    cases hn.symm.trans hn9
    exact ⟨meth, c, h1, h2, h3, h4, h5, h6⟩
  · intro p e s m args below meth c s₁ B hml hP _
    have hh0 : s₁.heap = s.heap := by rw [B.state]; rfl
    obtain ⟨t, a1, o, b1, b2, b3⟩ := body p e s m args below meth c s₁ B hml hP s₁ hh0 (Stand.of_body B)
    exact ⟨t, o, a1, b1, b2, b3⟩
abbrev hhL : List (Nat × Nat × Nat × Nat) := [(0, 9, 12, 13)]
abbrev ldQ (h : Hp) (t : Nat) (cn : Nat → Nat) (k : Int32) : Option Value → Hp → Prop := fun v h' => (∃ P, ldV h t cn k = some P ∧ v = some (.int 0) ∧ h' = pJ h 59 0 (nI P).toInt64) ∨ (ldV h t cn k = none ∧ ∃ m, gn h ≤ m ∧ v = some (.int 1) ∧ h' = gG h m)
abbrev pgL : Gp → Code → Prop := fun _ c => c.exceptionTable.toList = tableOf hhL
abbrev pqL (Q : Option Value → Hp → Prop) : Gp → List Frame → Array Value → State → State → Prop := fun G below args s => MQ below (gQc G Q) args s 1 6 (gA G)
theorem SX.i59 {h : Hp} (S : SX h) : 59 ∈ gL h := S.1 59 (by decide)
theorem SX.k59 {h : Hp} (S : SX h) : gK h 59 = 13 := S.2.1 59 (by decide)
theorem SX.n59 {h : Hp} (S : SX h) : gN h 59 = 1 := S.2.2.1 59 (by decide)
theorem p_Lled {h : Hp} {t : Nat} {cn : Nat → Nat} (X : CX h t cn) (k : Int32) : gP pgL (pqL (ldQ h t cn k)) 13 1 6 yL_led cL_led 4 (some .int) 0 0 0 [.ref 0, .int k, .ref 59, .retAddr 0] [] h := by
  refine p_aL2 dL_led_0 (p_iconst dL_led_1 (p_aL0 dL_led_2 (p_iL1 dL_led_3 ?_)))
  have S := X.S
  have kY : ∀ P, ldV h t cn k = some P → gP pgL (pqL (ldQ h t cn k)) 13 1 6 yL_led cL_led 4 (some .int) 1 6 7 [.ref 0, .int k, .ref 59, .retAddr 0] [.int (nI P), .int 0, .ref 59] h := by
    intro P hP
    refine p_i2l dL_led_7 (p_lastoreK S.i59 S.k59 S.n59 rfl (j := 0) rfl dL_led_8 (p_goto dL_led_9 (p_iconst dL_led_15 ?_)))
    exact p_of (g_iret rfl dL_led_16 rfl rfl (Or.inl ⟨P, hP, rfl, rfl⟩))
  have kN : ldV h t cn k = none → ∀ m, gn h ≤ m → gP pgL (pqL (ldQ h t cn k)) 13 1 6 yL_led cL_led 4 (some .int) 1 6 13 [.ref 0, .int k, .ref 59, .retAddr 0] [] (gG h m) := by
    intro hN m hm
    exact p_iconst dL_led_13 (p_of (g_iret rfl dL_led_14 rfl rfl (Or.inr ⟨hN, m, hm, rfl, rfl⟩)))
  intro p l e s m args below meth c G C hPG ls H locs hl hw hS
  obtain ⟨hx, hb, hml, hown, hts, hlocks, hr, hname, hKo⟩ := id C
  obtain ⟨hsz, hlt, hP, hD⟩ := id hw
  obtain ⟨q0, hq0⟩ := gwl_get (G := G) (S.1 0 (by decide))
  have hgood := gMi_good lm_L_7
  obtain ⟨l1, l2, l3, l4, l5, l6, l7, l8, l9⟩ := lm_L_7
  have hk0 : gK h 0 = 8 := S.k0
  rw [gen_obj hk0 l5] at hq0
  obtain ⟨cell, g1, g2, g3⟩ := va_recv hKo.2.1 hP (show gcl[8]? = some (RX8, TX8, 11) from rfl) hq0
  intro T hT Z
  rcases vx_runV (As := [.int k]) (rest := [.int 0, .ref (gB G + 59)]) ⟨hx, hb, hml, hown, hts⟩ (x_led X k l G) (cwV 1 hts hgood rfl rfl rfl ⟨rfl, l8⟩ (gRoom (d := 13) rfl l9)) ⟨gPc_blind, ⟨cell, g1, g2, g3⟩, gPc_at hKo hw hS⟩ rfl rfl hl.1 rfl (lv_room (show 1 + (1 + 0) ≤ 8 by decide)) dL_led_4.1 ⟨by decide, by decide⟩ T hT Z with ⟨v, st₀, t', T', L, h0, X', hL, e1, e2, ⟨v', h', hv, hQ, hw', hz, hk⟩, st⟩ | ⟨q, st₀, t', T', L, E, ce, h0, X', hL, e1, e2, ⟨rfl, hN, m9, hm9, hw', hz, hk⟩, hce, hcv, hcl, st⟩
  · obtain ⟨P, hP9, rfl, rfl⟩ := hQ
    have hv' : v = some (.int (nI P)) := by injection hv
    subst hv'
    rw [h0] at hz hk
    obtain ⟨t2, a1, b1⟩ := kY P hP9 p l e s m args below meth c G C hPG ls T'.heap (locs ++ L) hl (by rw [e1]; exact hw') ⟨Nat.le_trans hS.1 (by rw [e1]; exact hz), fun q h1 h2 => by rw [e1, hk q (Nat.lt_of_lt_of_le h1 hS.1) h2]; exact hS.2.1 q h1 h2, fun q hq => by
      rcases List.mem_append.mp hq with h | h
      · exact hS.2.2 q h
      · exact hL q h⟩ T' rfl X'
    exact ⟨t2, st t2 a1, b1⟩
  · rw [h0] at hz hk
    have key := kN hN m9 hm9 p l e s m args below meth c G C hPG
    have hS' : va_S (gA G) s.heap T'.heap (locs ++ L) := ⟨Nat.le_trans hS.1 (by rw [e1]; exact hz), fun q h1 h2 => by rw [e1, hk q (Nat.lt_of_lt_of_le h1 hS.1) h2]; exact hS.2.1 q h1 h2, fun q hq => by
      rcases List.mem_append.mp hq with h | h
      · exact hS.2.2 q h
      · exact hL q h⟩
    have hW : vx_W p l.1 e (grm 13 1 6) s m args below meth c T'.heap (locs ++ L) (0 + 1) (0 + 6) (pqL (ldQ h t cn k) G below args s) (F0 m 4 ls [.int 0, .ref (gB G + 59)]) q := by
      refine vx_catch (own := RL) (name := NSE) (E := NSE) (ce := ce) hown [] ⟨0, 9, 12, 13⟩ [] hPG (fun z hz => nomatch hz) rfl (by decide) (hts _ (gk5 115 rfl rfl)) (va_tabs rfl rfl (hKo.2.2.1 _ nse_cast)) (by rw [e1]; exact hce) hcv hcl ?_
      exact lv_astore_n hx hb (k := 3) (i := 3) (nL := 4) dL_led_12.1 rfl hl (by decide) rfl (fun ls' hl' => key ls' T'.heap (locs ++ L) ⟨hl'.1, hl'.2.1, fun q hq => hl'.2.2 q (List.mem_cons_of_mem _ hq)⟩ (by rw [e1]; exact hw') hS')
    obtain ⟨t2, a1, b1⟩ := hW T' rfl X'
    exact ⟨t2, st.trans a1, b1⟩
theorem y_Lled {h : Hp} {t : Nat} {cn : Nat → Nat} (X : CX h t cn) (k : Int32) (l : gLn) (G : Gp) : Met l.1 yL_led (.codeWith yL_led cL_led 4 (some .int) hhL :: gtb) (grm 13 1 6) (gPc G [.ref 0, .int k, .ref 59] h) (gQc G (ldQ h t cn k)) 1 6 (gA G) := by
  refine m_ofWH (cc := cL_led) (maxL := 4) (ret := some .int) (hh := hhL) (by decide) rfl ?_
  intro p e s m av below meth c s₁ B hml hv
  obtain ⟨rfl, hw, hKo⟩ := hv
  have hts := atoms_spec (ws := .codeWith yL_led cL_led 4 (some .int) hhL :: gtb) B.pre
  have hl := lv_entry (([.ref 0, .int k, .ref 59] : List Value).map (gtr G)) (n := 4) (by rw [lg_len]; exact Nat.le_of_ble_eq_true rfl)
  rw [lg_entry_eq]
  rw [← gls_args 1 [.ref 0, .int k, .ref 59] 0 rfl] at hl
  exact p_Lled X k p l e s m _ below meth c G ⟨B.exec, B.bytes, hml, findClass_of_methodNamed B.named, fun w hw => hts w (List.mem_cons_of_mem _ hw), B.notSynchronized, B.returns, (name_of_methodNamed B.named B.method).1, hKo⟩ (vx_table (x := yL_led) B (hts _ List.mem_cons_self)) _ s.heap [] hl hw va_S.rf

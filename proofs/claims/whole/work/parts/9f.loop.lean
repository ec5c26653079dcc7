/-! THE LAW'S TURN WITH LED, ITS LOOP, ITS BEGINNING -/
theorem J_pJ {h : Hp} (j : J h) (v : Int64) : J (pJ h 59 0 v) := ⟨j.1.fr ⟨rfl, rfl, rfl, fun _ _ _ => rfl, fun S => S, fun _ _ _ => rfl⟩, j.2⟩
theorem J_gG {h : Hp} (j : J h) {m : Nat} (hm : gn h ≤ m) : J (gG h m) := ⟨⟨⟨j.1.1.1, Nat.le_trans j.1.1.2.1 hm, fun a ha => Nat.lt_of_lt_of_le (j.1.1.2.2 a ha) hm⟩, j.1.2.1, j.1.2.2.1, j.1.2.2.2⟩, j.2⟩
theorem J_50 {h : Hp} (j : J h) (v : Int32) : J (pI h 50 0 v) := ⟨j.1.fr (FR_I h v (by unfold frx; omega)), j.2⟩
theorem led_m {h : Hp} {t c : Nat} {C : CT} {K : List Nm} (S : SX h) (ht : t = 3 ∨ t = 18) (jc : JC h t c C K) (k : Int32) : gCi 2 0 0 yX10_led cX10_led 4 (some .int) [.ref 50, .int k] h (some (.int (ldR (ldV h t (nnC C) k)))) (ldH (mT h) (ldV h t (nnC C) k)) := by
  have v := jc.vw (FR_mT h)
  have X : MX (mT h) c (nnC C) := (jc.fr ht (FR_mT h)).mx ((FR_mT h).2.2.2.2.1 S)
  have e : ldF (fun i => thF (gI (mT h) 52 16) (nI i)) (fun i => fwF (gI (mT h) (c + 3)) (shM (mT h) i) (nnC C 2) 0) k (nnC C 1) 0 0 = ldV h t (nnC C) k := ldF_c _ _ _ (fun j _ _ => by show thF (gI (mT h) 52 16) (nI j) = _; rw [v.th]) (fun j _ hj => by
    show fwF (gI (mT h) (c + 3)) (shM (mT h) j) (nnC C 2) 0 = _
    rw [v.sh (by omega)]; exact v.fw _)
  have key := n_led X k
  rw [e] at key
  exact key
/-- the two sides of led -/
theorem q_led {h : Hp} (j : J h) (k : Int32) : ∃ t cn, CX h t cn ∧ (∀ P, ldV h t cn k = some P → gCi 2 0 0 yX10_led cX10_led 4 (some .int) [.ref 50, .int k] (pJ h 59 0 (nI P).toInt64) (some (.int (nI P))) (mT (pJ h 59 0 (nI P).toInt64))) ∧ (ldV h t cn k = none → ∀ m, gn h ≤ m → gCi 2 0 0 yX10_led cX10_led 4 (some .int) [.ref 50, .int k] (gG h m) (some (.int 0)) (pI (mT (gG h m)) 50 0 1)) := by
  obtain ⟨⟨jh, jt, jl, t, s, jr, jz | ⟨c, C, K, jc⟩⟩, tr⟩ := id j
  · refine ⟨t, _, jz.cx jh.1 jr, fun P hP => ?_, fun _ m hm => ?_⟩
    · exact absurd hP (fun z => by cases z)
    · exact z_led ((FR_mT (gG h m)).2.2.2.2.1 jh.1) jz.1 k
  · refine ⟨t, _, jc.cx jh.1 jr, fun P hP => ?_, fun hN m hm => ?_⟩
    · have key := led_m (h := pJ h 59 0 (nI P).toInt64) jh.1 jr.t jc k
      rw [show ldV (pJ h 59 0 (nI P).toInt64) t (nnC C) k = some P from hP] at key
      exact key
    · have key := led_m (h := gG h m) jh.1 jr.t jc k
      rw [show ldV (gG h m) t (nnC C) k = none from hN] at key
      exact key
theorem ledGood : GoodIn gtb (va_wsS RL 217 yL_led (.codeWith yL_led cL_led 4 (some .int) hhL :: gtb)) := by
  intro w hw
  unfold va_wsS at hw
  rcases List.mem_append.mp hw with h | h
  · simp only [List.mem_cons, List.not_mem_nil, or_false] at h
    rcases h with rfl | rfl | rfl
    · exact g_good _ (gk5 112 rfl rfl)
    · exact g_good _ (gk5 113 rfl rfl)
    · exact g_good _ in_L
  · rcases List.mem_cons.mp h with rfl | h
    · exact g_good _ (gk5 114 rfl rfl)
    · exact g_good _ h
section LWL
variable {PQ : Gp → List Frame → Array Value → State → State → Prop} {L RC RS cells slots i pc : Nat} {f : Nat → Int32} {v5 v6 : Value} {st : List Value} {h : Hp}
theorem w_callLed {t : Nat} {cn : Nat → Nat} {k : Int32} (X : CX h t cn) (hc : Nat.ble (cells + 1) RC = true) (hs : Nat.ble (slots + 6) RS = true) (kk : ∀ v h', ldQ h t cn k v h' → lwF PQ L f RC RS (cells + 1) (slots + 6) 1885 i v5 v6 (v.toList ++ []) h') : lwF PQ L f RC RS cells slots 1882 i v5 v6 [.ref 59, .int k, .ref 0] h := by
  intro p l e s m args below meth c G C hPG ls H locs hl hw hS
  obtain ⟨hx, hb, hml, hown, hts, hlocks, hr, hname, hKo⟩ := id C
  have est : ([.ref 59, .int k, .ref 0] : List Value).map (gtr G) = (([.ref 0, .int k, .ref 59] : List Value).map (gtr G)).reverse ++ ([] : List Value).map (gtr G) := rfl
  rw [est]
  exact pRun C hPG hl hS (vx_runSW (hh := hhL) (As := ([.ref 0, .int k, .ref 59] : List Value).map (gtr G)) (rest := ([] : List Value).map (gtr G)) ⟨hx, hb, hml, hown, hts⟩ (y_Lled X k l G) (vx_cwSW 3 hts ledGood rfl rfl rfl ⟨by decide, by decide, by decide +kernel⟩ (gRoom (d := 20) rfl (by decide))) ⟨gPc_blind, gPc_at hKo hw hS⟩ rfl rfl hl.1 rfl (lv_room (Nat.zero_le _)) dL_law_1882.1 ⟨Nat.le_of_ble_eq_true hc, Nat.le_of_ble_eq_true hs⟩) kk
theorem w_led (j : J h) (hi : i + 7 ≤ L) (hL : L ≤ 3584) (hc : Nat.ble (cells + 17) RC = true) (hs : Nat.ble (slots + 307) RS = true) (x : ∀ h2 u5 u6, J h2 → lwF PQ L f RC RS (cells + 17) (slots + 307) 1968 i u5 u6 [] h2) : lwF PQ L f RC RS cells slots 1874 i v5 v6 [] h := by
  have hc1 : Nat.ble (cells + 16 + 1) RC = true := hc
  have hs1 : Nat.ble (slots + 301 + 6) RS = true := hs
  refine p_wide (cells + 16) (slots + 301) (by omega) (by omega) ?_
  obtain ⟨t, cn, X, qY, qN⟩ := q_led j (f (i + 1))
  refine p_aL1 dL_law_1874 ?_
  refine w_arg 1 hi hL (by decide) rfl dL_law_1875 dL_law_1876 dL_law_1878 dL_law_1879 dL_law_1880 ?_
  refine p_aL3 dL_law_1881 ?_
  refine w_callLed X hc1 hs1 (fun v h1 hq => ?_)
  rcases hq with ⟨P, hP, rfl, rfl⟩ | ⟨hN, m, hm, rfl, rfl⟩
  · have q1 := qY P hP
    have j1 := J_pJ j (nI P).toInt64
    generalize hh1 : pJ h 59 0 (nI P).toInt64 = h1 at q1 j1
    have g1 : gJ h1 59 0 = (nI P).toInt64 := by rw [← hh1]; exact u2_s (gJ h) 59 0 _
    have j2 := J_mT j1
    have z2 : gI (mT h1) 50 0 = 0 := u2_s (gI h1) 50 0 0
    show lwF PQ L f RC RS (cells + 17) (slots + 307) 1885 i v5 v6 [.int 0] h1
    refine p_iS5 dL_law_1885 rfl rfl ?_
    show lwF PQ L f RC RS (cells + 17) (slots + 307) 1887 i (.int 0) v6 [] h1
    refine p_aL2 dL_law_1887 ?_
    refine w_arg 1 hi hL (by decide) rfl dL_law_1888 dL_law_1889 dL_law_1891 dL_law_1892 dL_law_1893 ?_
    refine pe_v1i q1 lm_L_222 dL_law_1894 j1.1.1.1.i50 j1.1.1.1.k50 rfl rfl hc hs ?_
    refine p_iS6 dL_law_1897 rfl rfl ?_
    show lwF PQ L f RC RS (cells + 17) (slots + 307) 1899 i (.int 0) (.int (nI P)) [] (mT h1)
    refine p_aL2 dL_law_1899 ?_
    refine pe_v0i (n_thrown j2.1.1.1) lm_L_223 dL_law_1900 j2.1.1.1.i50 j2.1.1.1.k50 rfl rfl hc hs ?_
    rw [z2]
    refine p_iload dL_law_1903 rfl ?_
    refine p_iceq dL_law_1905 (fun _ => ?_) (fun z => absurd rfl z)
    refine p_iload dL_law_1910 rfl ?_
    refine p_ifne dL_law_1912 (fun z => absurd rfl z) (fun _ => ?_)
    refine p_aL3 dL_law_1915 (p_iconst dL_law_1916 (p_laloadK j2.1.1.1.i59 j2.1.1.1.k59 j2.1.1.1.n59 rfl (j := 0) rfl dL_law_1917 ?_))
    rw [show gJ (mT h1) 59 0 = (nI P).toInt64 from g1]
    refine p_iload dL_law_1918 rfl (p_i2l dL_law_1920 (p_lcmp dL_law_1921 ?_))
    refine p_ifeq dL_law_1922 (fun _ => ?_) (fun z => absurd (lg_cmp_rf _) z)
    exact p_goto dL_law_1927 (x (mT h1) _ _ j2)
  · have q1 := qN hN m hm
    have j1 := J_gG j hm
    generalize gG h m = h1 at q1 j1
    have j2 := J_50 (J_mT j1) 1
    have z2 : gI (pI (mT h1) 50 0 1) 50 0 = 1 := u2_s (gI (mT h1)) 50 0 1
    generalize pI (mT h1) 50 0 1 = h2 at q1 j2 z2
    show lwF PQ L f RC RS (cells + 17) (slots + 307) 1885 i v5 v6 [.int 1] h1
    refine p_iS5 dL_law_1885 rfl rfl ?_
    show lwF PQ L f RC RS (cells + 17) (slots + 307) 1887 i (.int 1) v6 [] h1
    refine p_aL2 dL_law_1887 ?_
    refine w_arg 1 hi hL (by decide) rfl dL_law_1888 dL_law_1889 dL_law_1891 dL_law_1892 dL_law_1893 ?_
    refine pe_v1i q1 lm_L_222 dL_law_1894 j1.1.1.1.i50 j1.1.1.1.k50 rfl rfl hc hs ?_
    refine p_iS6 dL_law_1897 rfl rfl ?_
    show lwF PQ L f RC RS (cells + 17) (slots + 307) 1899 i (.int 1) (.int 0) [] h2
    refine p_aL2 dL_law_1899 ?_
    refine pe_v0i (n_thrown j2.1.1.1) lm_L_223 dL_law_1900 j2.1.1.1.i50 j2.1.1.1.k50 rfl rfl hc hs ?_
    rw [z2]
    refine p_iload dL_law_1903 rfl ?_
    refine p_iceq dL_law_1905 (fun _ => ?_) (fun z => absurd rfl z)
    refine p_iload dL_law_1910 rfl ?_
    refine p_ifne dL_law_1912 (fun _ => ?_) (fun z => absurd z (by decide))
    exact p_goto dL_law_1927 (x h2 _ _ j2)
theorem and63 (x : Int32) : ∃ n : Nat, n < 64 ∧ (x &&& 63).toInt = (n : Int) := by
  have h1 : (x &&& 63).toBitVec.toNat ≤ 63 := by
    rw [Int32.toBitVec_and, BitVec.toNat_and]
    exact Nat.and_le_right
  refine ⟨(x &&& 63).toBitVec.toNat, by omega, ?_⟩
  show (x &&& 63).toBitVec.toInt = _
  exact BitVec.toInt_eq_toNat_of_lt (by omega)
theorem w_turn (j : J h) (hi : i + 7 ≤ L) (hL : L ≤ 3584) (hc : Nat.ble (cells + 17) RC = true) (hs : Nat.ble (slots + 307) RS = true) (x : ∀ h2 u5 u6, J h2 → lwF PQ L f RC RS (cells + 17) (slots + 307) 1968 i u5 u6 [] h2) : lwF PQ L f RC RS cells slots 33 i v5 v6 [] h := by
  refine p_sL0 dL_law_33 (p_iL4 dL_law_34 (p_sld (fun G c z => z) (by omega) (by omega) dL_law_36 (p_bipush dL_law_37 (p_iand dL_law_39 ?_))))
  obtain ⟨n, hn, hz⟩ := and63 (f i)
  by_cases h50 : 50 ≤ n
  · exact p_swOut dL_law_40 (Or.inr (by rw [hz]; show (0 : Int) + 50 ≤ _; omega)) (p_wide (cells + 17) (slots + 307) (by omega) (by omega) (x h v5 v6 j))
  · have hn : n = 0 ∨ n = 1 ∨ n = 2 ∨ n = 3 ∨ n = 4 ∨ n = 5 ∨ n = 6 ∨ n = 7 ∨ n = 8 ∨ n = 9 ∨ n = 10 ∨ n = 11 ∨ n = 12 ∨ n = 13 ∨ n = 14 ∨ n = 15 ∨ n = 16 ∨ n = 17 ∨ n = 18 ∨ n = 19 ∨ n = 20 ∨ n = 21 ∨ n = 22 ∨ n = 23 ∨ n = 24 ∨ n = 25 ∨ n = 26 ∨ n = 27 ∨ n = 28 ∨ n = 29 ∨ n = 30 ∨ n = 31 ∨ n = 32 ∨ n = 33 ∨ n = 34 ∨ n = 35 ∨ n = 36 ∨ n = 37 ∨ n = 38 ∨ n = 39 ∨ n = 40 ∨ n = 41 ∨ n = 42 ∨ n = 43 ∨ n = 44 ∨ n = 45 ∨ n = 46 ∨ n = 47 ∨ n = 48 ∨ n = 49 := by omega
    rcases hn with rfl | rfl | rfl | rfl | rfl | rfl | rfl | rfl | rfl | rfl | rfl | rfl | rfl | rfl | rfl | rfl | rfl | rfl | rfl | rfl | rfl | rfl | rfl | rfl | rfl | rfl | rfl | rfl | rfl | rfl | rfl | rfl | rfl | rfl | rfl | rfl | rfl | rfl | rfl | rfl | rfl | rfl | rfl | rfl | rfl | rfl | rfl | rfl | rfl | rfl
    · exact p_swIn 0 dL_law_40 (hz.trans (Int.zero_add _).symm) rfl (w_feed j hi hL hc hs (fun h2 j2 => x h2 v5 v6 j2))
    · exact p_swIn 1 dL_law_40 (hz.trans (Int.zero_add _).symm) rfl (w_city j hi hL hc hs (fun h2 j2 => x h2 v5 v6 j2))
    · exact p_swIn 2 dL_law_40 (hz.trans (Int.zero_add _).symm) rfl (w_fault j hi hL hc hs (fun h2 j2 => x h2 v5 v6 j2))
    · exact p_swIn 3 dL_law_40 (hz.trans (Int.zero_add _).symm) rfl (w_where j hi hL hc hs (fun h2 j2 => x h2 v5 v6 j2))
    · exact p_swIn 4 dL_law_40 (hz.trans (Int.zero_add _).symm) rfl (w_pane j hi hL hc hs (fun h2 j2 => x h2 v5 v6 j2))
    · exact p_swIn 5 dL_law_40 (hz.trans (Int.zero_add _).symm) rfl (w_word j hi hL hc hs (fun h2 j2 => x h2 v5 v6 j2))
    · exact p_swIn 6 dL_law_40 (hz.trans (Int.zero_add _).symm) rfl (w_view j hi hL hc hs (fun h2 j2 => x h2 v5 v6 j2))
    · exact p_swIn 7 dL_law_40 (hz.trans (Int.zero_add _).symm) rfl (w_seen j hi hL hc hs (fun h2 j2 => x h2 v5 v6 j2))
    · exact p_swIn 8 dL_law_40 (hz.trans (Int.zero_add _).symm) rfl (w_read j hi hL hc hs (fun h2 j2 => x h2 v5 v6 j2))
    · exact p_swIn 9 dL_law_40 (hz.trans (Int.zero_add _).symm) rfl (w_together j hi hL hc hs (fun h2 j2 => x h2 v5 v6 j2))
    · exact p_swIn 10 dL_law_40 (hz.trans (Int.zero_add _).symm) rfl (w_readTogether j hi hL hc hs (fun h2 j2 => x h2 v5 v6 j2))
    · exact p_swIn 11 dL_law_40 (hz.trans (Int.zero_add _).symm) rfl (w_viewsFor j hi hL hc hs (fun h2 j2 => x h2 v5 v6 j2))
    · exact p_swIn 12 dL_law_40 (hz.trans (Int.zero_add _).symm) rfl (w_pairFor j hi hL hc hs (fun h2 j2 => x h2 v5 v6 j2))
    · exact p_swIn 13 dL_law_40 (hz.trans (Int.zero_add _).symm) rfl (w_soonest j hi hL hc hs (fun h2 j2 => x h2 v5 v6 j2))
    · exact p_swIn 14 dL_law_40 (hz.trans (Int.zero_add _).symm) rfl (w_soonestAt j hi hL hc hs (fun h2 j2 => x h2 v5 v6 j2))
    · exact p_swIn 15 dL_law_40 (hz.trans (Int.zero_add _).symm) rfl (w_secret j hi hL hc hs (fun h2 j2 => x h2 v5 v6 j2))
    · exact p_swIn 16 dL_law_40 (hz.trans (Int.zero_add _).symm) rfl (w_secretAt j hi hL hc hs (fun h2 j2 => x h2 v5 v6 j2))
    · exact p_swIn 17 dL_law_40 (hz.trans (Int.zero_add _).symm) rfl (w_safest j hi hL hc hs (fun h2 j2 => x h2 v5 v6 j2))
    · exact p_swIn 18 dL_law_40 (hz.trans (Int.zero_add _).symm) rfl (w_safestAt j hi hL hc hs (fun h2 j2 => x h2 v5 v6 j2))
    · exact p_swIn 19 dL_law_40 (hz.trans (Int.zero_add _).symm) rfl (w_sent j hi hL hc hs (fun h2 j2 => x h2 v5 v6 j2))
    · exact p_swIn 20 dL_law_40 (hz.trans (Int.zero_add _).symm) rfl (w_readers j hi hL hc hs (fun h2 j2 => x h2 v5 v6 j2))
    · exact p_swIn 21 dL_law_40 (hz.trans (Int.zero_add _).symm) rfl (w_overheard j hi hL hc hs (fun h2 j2 => x h2 v5 v6 j2))
    · exact p_swIn 22 dL_law_40 (hz.trans (Int.zero_add _).symm) rfl (w_unread j hi hL hc hs (fun h2 j2 => x h2 v5 v6 j2))
    · exact p_swIn 23 dL_law_40 (hz.trans (Int.zero_add _).symm) rfl (w_made j hi hL hc hs (fun h2 j2 => x h2 v5 v6 j2))
    · exact p_swIn 24 dL_law_40 (hz.trans (Int.zero_add _).symm) rfl (w_madeOf j hi hL hc hs (fun h2 j2 => x h2 v5 v6 j2))
    · exact p_swIn 25 dL_law_40 (hz.trans (Int.zero_add _).symm) rfl (w_putty j hi hL hc hs (fun h2 j2 => x h2 v5 v6 j2))
    · exact p_swIn 26 dL_law_40 (hz.trans (Int.zero_add _).symm) rfl (w_puttyOf j hi hL hc hs (fun h2 j2 => x h2 v5 v6 j2))
    · exact p_swIn 27 dL_law_40 (hz.trans (Int.zero_add _).symm) rfl (w_scratches j hi hL hc hs (fun h2 j2 => x h2 v5 v6 j2))
    · exact p_swIn 28 dL_law_40 (hz.trans (Int.zero_add _).symm) rfl (w_could j hi hL hc hs (fun h2 j2 => x h2 v5 v6 j2))
    · exact p_swIn 29 dL_law_40 (hz.trans (Int.zero_add _).symm) rfl (w_wholes j hi hL hc hs (fun h2 j2 => x h2 v5 v6 j2))
    · exact p_swIn 30 dL_law_40 (hz.trans (Int.zero_add _).symm) rfl (w_whole j hi hL hc hs (fun h2 j2 => x h2 v5 v6 j2))
    · exact p_swIn 31 dL_law_40 (hz.trans (Int.zero_add _).symm) rfl (w_written j hi hL hc hs (fun h2 j2 => x h2 v5 v6 j2))
    · exact p_swIn 32 dL_law_40 (hz.trans (Int.zero_add _).symm) rfl (w_wordOf j hi hL hc hs (fun h2 j2 => x h2 v5 v6 j2))
    · exact p_swIn 33 dL_law_40 (hz.trans (Int.zero_add _).symm) rfl (w_owner j hi hL hc hs (fun h2 j2 => x h2 v5 v6 j2))
    · exact p_swIn 34 dL_law_40 (hz.trans (Int.zero_add _).symm) rfl (w_missing j hi hL hc hs (fun h2 j2 => x h2 v5 v6 j2))
    · exact p_swIn 35 dL_law_40 (hz.trans (Int.zero_add _).symm) rfl (w_shelf j hi hL hc hs (fun h2 j2 => x h2 v5 v6 j2))
    · exact p_swIn 36 dL_law_40 (hz.trans (Int.zero_add _).symm) rfl (w_gain j hi hL hc hs (fun h2 j2 => x h2 v5 v6 j2))
    · exact p_swIn 37 dL_law_40 (hz.trans (Int.zero_add _).symm) rfl (w_rests j hi hL hc hs (fun h2 j2 => x h2 v5 v6 j2))
    · exact p_swIn 38 dL_law_40 (hz.trans (Int.zero_add _).symm) rfl (w_rest j hi hL hc hs (fun h2 j2 => x h2 v5 v6 j2))
    · exact p_swIn 39 dL_law_40 (hz.trans (Int.zero_add _).symm) rfl (w_left j hi hL hc hs (fun h2 j2 => x h2 v5 v6 j2))
    · exact p_swIn 40 dL_law_40 (hz.trans (Int.zero_add _).symm) rfl (w_hails j hi hL hc hs (fun h2 j2 => x h2 v5 v6 j2))
    · exact p_swIn 41 dL_law_40 (hz.trans (Int.zero_add _).symm) rfl (w_scratch j hi hL hc hs (fun h2 j2 => x h2 v5 v6 j2))
    · exact p_swIn 42 dL_law_40 (hz.trans (Int.zero_add _).symm) rfl (w_cover j hi hL hc hs (fun h2 j2 => x h2 v5 v6 j2))
    · exact p_swIn 43 dL_law_40 (hz.trans (Int.zero_add _).symm) rfl (w_breaks j hi hL hc hs (fun h2 j2 => x h2 v5 v6 j2))
    · exact p_swIn 44 dL_law_40 (hz.trans (Int.zero_add _).symm) rfl (w_undo j hi hL hc hs (fun h2 j2 => x h2 v5 v6 j2))
    · exact p_swIn 45 dL_law_40 (hz.trans (Int.zero_add _).symm) rfl (w_mark j hi hL hc hs (fun h2 j2 => x h2 v5 v6 j2))
    · exact p_swIn 46 dL_law_40 (hz.trans (Int.zero_add _).symm) rfl (w_back j hi hL hc hs (fun h2 j2 => x h2 v5 v6 j2))
    · exact p_swIn 47 dL_law_40 (hz.trans (Int.zero_add _).symm) rfl (w_led j hi hL hc hs x)
    · exact p_swIn 48 dL_law_40 (hz.trans (Int.zero_add _).symm) rfl (w_size j hi hL hc hs (fun h2 j2 => x h2 v5 v6 j2))
    · exact p_swIn 49 dL_law_40 (hz.trans (Int.zero_add _).symm) rfl (w_trouble j hi hL hc hs (fun h2 j2 => x h2 v5 v6 j2))
theorem lw_lt {L i : Nat} (hL : L ≤ 3584) (hi : i ≤ 7000) : nI L - 7 < nI i ↔ L < i + 7 := by
  have e1 : (nI L).toInt = (L : Int) := Int32.toInt_ofNat_of_lt (show L < 2 ^ 31 by omega)
  have e2 : (nI i).toInt = (i : Int) := Int32.toInt_ofNat_of_lt (show i < 2 ^ 31 by omega)
  have e3 : (nI L - 7).toInt = (L : Int) - 7 := by
    rw [Int32.toInt_sub, e1, show (7 : Int32).toInt = 7 from rfl]
    exact Int.bmod_eq_of_le (by omega) (by omega)
  rw [Int32.lt_iff_toInt_lt, e2, e3]
  omega
theorem w_loop (hL : L ≤ 3584) (hE : ∀ cells slots i v5 v6 h, Nat.ble cells RC = true → Nat.ble slots RS = true → lwF PQ L f RC RS cells slots 1975 i v5 v6 [.int 1] h) : ∀ (n cells slots i : Nat) (v5 v6 : Value) (h : Hp), J h → L < i + 7 + 7 * n → i ≤ L → cells + 17 * n ≤ RC → slots + 307 * n ≤ RS → lwF PQ L f RC RS cells slots 23 i v5 v6 [] h := by
  intro n
  induction n with
  | zero =>
    intro cells slots i v5 v6 h j hi hiL hc hs
    refine p_iL4 dL_law_23 (p_sL0 dL_law_25 (p_slen (fun G c z => z) dL_law_26 (p_bipush dL_law_27 (p_isub dL_law_29 ?_))))
    refine p_icgt dL_law_30 (fun _ => ?_) (fun z => absurd ((lw_lt hL (by omega)).mpr (by omega)) z)
    exact p_iconst dL_law_1974 (hE _ _ _ _ _ _ (ble_of (Nat.le_trans (Nat.le_add_right _ _) hc)) (ble_of (Nat.le_trans (Nat.le_add_right _ _) hs)))
  | succ n ih =>
    intro cells slots i v5 v6 h j hi hiL hc hs
    refine p_iL4 dL_law_23 (p_sL0 dL_law_25 (p_slen (fun G c z => z) dL_law_26 (p_bipush dL_law_27 (p_isub dL_law_29 ?_))))
    refine p_icgt dL_law_30 (fun _ => ?_) (fun z => ?_)
    · exact p_iconst dL_law_1974 (hE _ _ _ _ _ _ (ble_of (Nat.le_trans (Nat.le_add_right _ _) hc)) (ble_of (Nat.le_trans (Nat.le_add_right _ _) hs)))
    · have hi7 : i + 7 ≤ L := Nat.le_of_not_lt (fun y => z ((lw_lt hL (by omega)).mpr y))
      have b1 : cells + 17 ≤ RC := by omega
      have hs' : slots + 307 + 307 * n ≤ RS := by rw [Nat.add_assoc, Nat.add_comm 307]; exact hs
      have b2 : slots + 307 ≤ RS := Nat.le_trans (Nat.le_add_right _ _) hs'
      refine w_turn j hi7 hL (ble_of b1) (ble_of b2) (fun h2 u5 u6 j2 => ?_)
      refine p_ii4 dL_law_1968 rfl rfl (p_goto dL_law_1971 ?_)
      rw [show nI i + 7 = nI (i + 7) from nI_add i 7]
      exact ih (cells + 17) (slots + 307) (i + 7) u5 u6 h2 j2 (by omega) (by omega) (by omega) hs'
theorem w_start (hL : L ≤ 3584) (hE : ∀ cells slots i v5 v6 h, Nat.ble cells 601024 = true → Nat.ble slots 7293034 = true → lwF PQ L f 601024 7293034 cells slots 1975 i v5 v6 [.int 1] h) : gP (PGL L f) PQ 20 601024 7293034 yL_law cL_law 7 (some .boolean) 0 0 0 [.float 0, .retAddr 0, .retAddr 0, .retAddr 0, .retAddr 0, .retAddr 0, .retAddr 0] [] hp0 := by
  refine p_new cls_X8 (by decide) lk_L_8 ins_X8 in_X8 (by decide) (by decide) dL_law_0 ?_
  show gP _ _ _ _ _ _ _ _ _ _ _ _ _ [.ref 0] hp1
  refine p_dup dL_law_3 rfl ?_
  refine pe_n0 k_X8 lm_L_15 dL_law_4 rfl rfl rfl rfl ?_
  refine p_aS1 dL_law_7 rfl rfl ?_
  refine p_new cls_X10 (by decide) lk_L_16 ins_X10 in_X10 (by decide) (by decide) dL_law_8 ?_
  show gP _ _ _ _ _ _ _ _ _ _ _ _ _ [.ref 50] hp118
  refine p_dup dL_law_11 rfl ?_
  refine pe_n0 k_X10 lm_L_18 dL_law_12 rfl rfl rfl rfl ?_
  refine p_aS2 dL_law_15 rfl rfl ?_
  refine p_iconst dL_law_16 ?_
  refine p_newarr (at0 := .long) (ty := .long) (kd := 13) (N' := 1) rfl (Or.inr (Or.inr ⟨rfl, rfl⟩)) ar_long (by decide) rfl (by decide) (by decide) (by decide) dL_law_17 ?_
  show gP _ _ _ _ _ _ _ _ _ _ _ _ _ [.ref 59] hpC
  refine p_aS3 dL_law_19 rfl rfl ?_
  refine p_iconst dL_law_20 (p_iS4 dL_law_21 rfl rfl ?_)
  refine p_wide 60 3311 (by decide) (by decide) ?_
  exact w_loop hL hE 512 60 3311 0 _ _ hpC J_hpC (by omega) (by omega) (by decide) (by decide)
end LWL

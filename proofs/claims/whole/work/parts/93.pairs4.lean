/-! CALLS ON BOTH SIDES: acts -/
/-- the class's half of an act -/
def CA (h f : Hp) (d B : Nat) (s : Int32) (P : Nat) (c : Int32) : Prop := (∀ j, j ≤ 16 → cst f j = tgF s P c (cst h) j) ∧ gI f 38 7 = nI (B + 1) ∧ (∀ k, k < B → gI f 41 k = gI h 41 (k + d) ∧ gI f 42 k = gI h 42 (k + d) ∧ gI f 43 k = gI h 43 (k + d)) ∧ (gI f 41 B = s ∧ gI f 42 B = nI P ∧ gI f 43 B = c) ∧ gI f 38 9 = gI h 38 9 ∧ (∀ j, gI f 44 j = gI h 44 j) ∧ FA f h ∧ gI f 0 8 = 0 ∧ ∀ b j, 50 ≤ b → gI f b j = gI h b j
theorem chH_fa (h : Hp) (s : Int32) (P : Nat) (c : Int32) : FA (chH h s P c) h := by
  unfold chH
  by_cases z0 : s = 0
  · rw [if_pos z0]; exact FA_I h _ (by unfold fax; omega)
  · rw [if_neg z0]
    by_cases z1 : s = 1
    · rw [if_pos z1]; exact FA_I h _ (by unfold fax; omega)
    · rw [if_neg z1]; exact FA_I h _ (by unfold fax; omega)
theorem pfH_fa (h : Hp) (a : Nat) (s : Int32) (P : Nat) (c : Int32) : FA (pfH h a s P c) h := (((FA_I _ _ (by unfold fax; omega)).trans (FA_I _ _ (by unfold fax; omega))).trans (FA_I _ _ (by unfold fax; omega))).trans (FA_I h _ (by unfold fax; omega))
theorem fgH_fa (h : Hp) : FA (fgH h) h := by
  unfold fgH
  generalize (15 : Nat) = n
  obtain ⟨a, b, c, d⟩ := fgL_o n 0 (pI h 38 7 15)
  exact ⟨a, b, c, d, fun x j hx => (fgL_I n 0 _ x j (fun z => hx (by unfold fax; omega)) (fun z => hx (by unfold fax; omega)) (fun z => hx (by unfold fax; omega))).trans (u2_n _ _ (fun z => hx (by unfold fax; omega)))⟩
theorem pfH_cst (h : Hp) (a : Nat) (s : Int32) (P : Nat) (c : Int32) (j : Nat) : cst (pfH h a s P c) j = cst h j := cst_eq (fun j => by unfold pfH; rw [gIq (by decide), gIq (by decide), gIq (by decide), gIq (by decide)]) (fun j => by unfold pfH; rw [gIq (by decide), gIq (by decide), gIq (by decide), gIq (by decide)]) (by unfold pfH; rw [gIk (by decide), gIq (by decide), gIq (by decide), gIq (by decide)]) j
theorem pfH_v (h : Hp) (a : Nat) (s : Int32) (P : Nat) (c : Int32) : gI (pfH h a s P c) 38 7 = nI (a + 1) ∧ (∀ k, ¬ k = a → gI (pfH h a s P c) 41 k = gI h 41 k ∧ gI (pfH h a s P c) 42 k = gI h 42 k ∧ gI (pfH h a s P c) 43 k = gI h 43 k) ∧ (gI (pfH h a s P c) 41 a = s ∧ gI (pfH h a s P c) 42 a = nI P ∧ gI (pfH h a s P c) 43 a = c) ∧ (∀ b j, ¬ b = 41 → ¬ b = 42 → ¬ b = 43 → ¬ (b = 38 ∧ j = 7) → gI (pfH h a s P c) b j = gI h b j) := by
  unfold pfH
  refine ⟨by rw [gIs, nI_1], fun k hk => ⟨?_, ?_, ?_⟩, ⟨?_, ?_, ?_⟩, fun b j h1 h2 h3 h4 => ?_⟩
  · rw [gIq (by decide), gIq (by decide), gIq (by decide), gIk hk]
  · rw [gIq (by decide), gIq (by decide), gIk hk, gIq (by decide)]
  · rw [gIq (by decide), gIk hk, gIq (by decide), gIq (by decide)]
  · rw [gIq (by decide), gIq (by decide), gIq (by decide), gIs]
  · rw [gIq (by decide), gIq (by decide), gIs]
  · rw [gIq (by decide), gIs]
  · rw [show gI (pI (pI (pI (pI h 41 a s) 42 a (nI P)) 43 a c) 38 7 (nI a + 1)) b j = gI (pI (pI (pI h 41 a s) 42 a (nI P)) 43 a c) b j from u2_n _ _ h4, gIq h3, gIq h2, gIq h1]
theorem CA_1 (h : Hp) {A : Nat} (s : Int32) {P : Nat} (hP : P < 8) (c : Int32) : CA h (pfH (chH (pI h 0 8 0) s P c) A s P c) 0 A s P c := by
  obtain ⟨v1, v2, v3, v4⟩ := pfH_v (chH (pI h 0 8 0) s P c) A s P c
  have ci : ∀ b j, b ≠ 39 → b ≠ 40 → ¬ (b = 38 ∧ j = 3) → gI (chH (pI h 0 8 0) s P c) b j = gI (pI h 0 8 0) b j := fun b j => chH_I s P c b j
  refine ⟨fun j hj => ?_, v1, fun k hk => ?_, v3, ?_, fun j => ?_, ((pfH_fa _ _ _ _ _).trans (chH_fa _ _ _ _)).trans (FA_I h 0 (by unfold fax frx; omega)), ?_, fun b j hb => ?_⟩
  · rw [pfH_cst, cst_ch _ s hP c hj]
    exact tg_c (cst_eq (fun _ => gIq (by decide)) (fun _ => gIq (by decide)) (gIq (by decide)) j)
  · obtain ⟨w1, w2, w3⟩ := v2 k (by omega)
    rw [w1, w2, w3, ci _ _ (by decide) (by decide) (by omega), ci _ _ (by decide) (by decide) (by omega), ci _ _ (by decide) (by decide) (by omega)]
    exact ⟨rfl, rfl, rfl⟩
  · rw [v4 _ _ (by decide) (by decide) (by decide) (by omega), ci _ _ (by decide) (by decide) (by omega)]; rfl
  · rw [v4 _ _ (by decide) (by decide) (by decide) (by omega), ci _ _ (by decide) (by decide) (by omega)]; rfl
  · rw [v4 _ _ (by decide) (by decide) (by decide) (by omega), ci _ _ (by decide) (by decide) (by omega), gIs]
  · rw [v4 _ _ (by omega) (by omega) (by omega) (by omega), ci _ _ (by omega) (by omega) (by omega), gIq (by omega)]
theorem fgH_v (h : Hp) : (∀ b k, b = 41 ∨ b = 42 ∨ b = 43 → k < 15 → gI (fgH h) b k = gI h b (k + 1)) ∧ ∀ b j, ¬ b = 41 → ¬ b = 42 → ¬ b = 43 → ¬ (b = 38 ∧ j = 7) → gI (fgH h) b j = gI h b j := by
  unfold fgH
  have key : ∀ n, (∀ b k, b = 41 ∨ b = 42 ∨ b = 43 → k < n → gI (fgL n 0 (pI h 38 7 15)) b k = gI h b (k + 1)) ∧ ∀ b j, ¬ b = 41 → ¬ b = 42 → ¬ b = 43 → ¬ (b = 38 ∧ j = 7) → gI (fgL n 0 (pI h 38 7 15)) b j = gI h b j := by
    intro n
    refine ⟨fun b k hb hk => ?_, fun b j h1 h2 h3 h4 => ?_⟩
    · rw [fgL_v hb n 0 _ k, if_pos (by omega), gIq (by omega)]
    · rw [fgL_I n 0 _ b j h1 h2 h3]; exact u2_n _ _ h4
  exact key 15
theorem CA_2 (h : Hp) (s : Int32) {P : Nat} (hP : P < 8) (c : Int32) : CA h (pfH (fgH (chH (pI h 0 8 0) s P c)) 15 s P c) 1 15 s P c := by
  obtain ⟨v1, v2, v3, v4⟩ := pfH_v (fgH (chH (pI h 0 8 0) s P c)) 15 s P c
  obtain ⟨u1, u2'⟩ := fgH_v (chH (pI h 0 8 0) s P c)
  have ci : ∀ b j, b ≠ 39 → b ≠ 40 → ¬ (b = 38 ∧ j = 3) → gI (chH (pI h 0 8 0) s P c) b j = gI (pI h 0 8 0) b j := fun b j => chH_I s P c b j
  refine ⟨fun j hj => ?_, v1, fun k hk => ?_, v3, ?_, fun j => ?_, (((pfH_fa _ _ _ _ _).trans (fgH_fa _)).trans (chH_fa _ _ _ _)).trans (FA_I h 0 (by unfold fax frx; omega)), ?_, fun b j hb => ?_⟩
  · rw [pfH_cst, cst_eq (h := chH (pI h 0 8 0) s P c) (fun _ => u2' _ _ (by decide) (by decide) (by decide) (by omega)) (fun _ => u2' _ _ (by decide) (by decide) (by decide) (by omega)) (u2' _ _ (by decide) (by decide) (by decide) (by omega)), cst_ch _ s hP c hj]
    exact tg_c (cst_eq (fun _ => gIq (by decide)) (fun _ => gIq (by decide)) (gIq (by decide)) j)
  · obtain ⟨w1, w2, w3⟩ := v2 k (by omega)
    rw [w1, w2, w3, u1 41 k (by omega) hk, u1 42 k (by omega) hk, u1 43 k (by omega) hk, ci _ _ (by decide) (by decide) (by omega), ci _ _ (by decide) (by decide) (by omega), ci _ _ (by decide) (by decide) (by omega)]
    exact ⟨rfl, rfl, rfl⟩
  · rw [v4 _ _ (by decide) (by decide) (by decide) (by omega), u2' _ _ (by decide) (by decide) (by decide) (by omega), ci _ _ (by decide) (by decide) (by omega)]; rfl
  · rw [v4 _ _ (by decide) (by decide) (by decide) (by omega), u2' _ _ (by decide) (by decide) (by decide) (by omega), ci _ _ (by decide) (by decide) (by omega)]; rfl
  · rw [v4 _ _ (by decide) (by decide) (by decide) (by omega), u2' _ _ (by decide) (by decide) (by decide) (by omega), ci _ _ (by decide) (by decide) (by omega), gIs]
  · rw [v4 _ _ (by omega) (by omega) (by omega) (by omega), u2' _ _ (by omega) (by omega) (by omega) (by omega), ci _ _ (by omega) (by omega) (by omega), gIq (by omega)]
/-- the reference's half: what it remembers -/
def MA (g r : Hp) (d B : Nat) : Prop := (∀ k, k < B → ∀ j, j ≤ 16 → gI r 53 (17 * k + j) = gI g 53 (17 * (k + d) + j)) ∧ (∀ j, j ≤ 16 → gI r 53 (17 * B + j) = gI g 52 j) ∧ gI r 50 23 = nI (B + 1) ∧ FA r g ∧ ∀ b j, ¬ b = 53 → ¬ (b = 50 ∧ j = 23) → gI r b j = gI g b j
theorem MA_1 (g : Hp) {A n : Nat} (hn : n = 17) : MA g (reH n g A) 0 A := by
  unfold reH
  obtain ⟨o1, o2, o3, o4, o5⟩ := rmL_o A n 0 g
  refine ⟨fun k hk j hj => ?_, fun j hj => ?_, gIs _ _ _ _, ⟨o1, o2, o3, o4, fun b j hb => ?_⟩, fun b j h1 h2 => ?_⟩
  · rw [gIq (by decide), rmL_v, if_neg (by omega)]; rfl
  · rw [gIq (by decide), rmL_v, if_pos (by omega), Nat.add_sub_cancel_left]
  · have h2 : ¬ (b = 50 ∧ j = 23) := fun z => hb (by unfold fax; omega)
    rw [show gI (pI (rmL A n 0 g) 50 23 (nI (A + 1))) b j = gI (rmL A n 0 g) b j from u2_n _ _ h2]
    exact o5 b j (fun z => hb (by unfold fax; omega))
  · rw [show gI (pI (rmL A n 0 g) 50 23 (nI (A + 1))) b j = gI (rmL A n 0 g) b j from u2_n _ _ h2]
    exact o5 b j h1
theorem MA_2 (g : Hp) {n m : Nat} (hn : n = 17) (hm : m = 255) : MA g (reH n (pI (shL m 0 g) 50 23 (nI 15)) 15) 1 15 := by
  obtain ⟨a1, a2, a3, a4, a5⟩ := MA_1 (pI (shL m 0 g) 50 23 (nI 15)) (A := 15) hn
  obtain ⟨o1, o2, o3, o4, o5⟩ := shL_o m 0 g
  refine ⟨fun k hk j hj => ?_, fun j hj => ?_, a3, a4.trans ⟨o1, o2, o3, o4, fun b j hb => ?_⟩, fun b j h1 h2 => ?_⟩
  · rw [a1 k hk j hj, gIq (by decide), shL_v, if_pos (by omega), show 17 * (k + 0) + j + 17 = 17 * (k + 1) + j by omega]
  · rw [a2 j hj, gIq (by decide), o5 52 j (by decide)]
  · have h2 : ¬ (b = 50 ∧ j = 23) := fun z => hb (by unfold fax; omega)
    rw [show gI (pI (shL m 0 g) 50 23 (nI 15)) b j = gI (shL m 0 g) b j from u2_n _ _ h2]
    exact o5 b j (fun z => hb (by unfold fax; omega))
  · rw [a5 b j h1 h2, show gI (pI (shL m 0 g) 50 23 (nI 15)) b j = gI (shL m 0 g) b j from u2_n _ _ h2]
    exact o5 b j h1
/-- both halves -/
theorem ACT_mk {h h1 r f : Hp} {N D d B P : Nat} {s c : Int32} (ca : CA h h1 d B s P c) (ma : MA (mT h1) r d B) (hf : ∀ j, lj N j → gI f 52 j = tgF s P c (gI r 52) j) (hs : SBv N D (gI f 52)) (ho : ∀ b j, ¬ b = 52 → ¬ (b = 50 ∧ (j = 1 ∨ j = 2)) → gI f b j = gI r b j) : ACT h f N D d B s P c := by
  obtain ⟨c1, c2, c3, c4, c5, c6, c7, c8, c9⟩ := ca
  obtain ⟨m1, m2, m3, m4, m5⟩ := ma
  have lo : ∀ b j, b < 50 → gI f b j = gI h1 b j := fun b j hb => by rw [ho b j (by omega) (by omega), m5 b j (by omega) (by omega)]; exact gIq (by omega)
  have e52 : ∀ j, gI r 52 j = gI h 52 j := fun j => by rw [m5 52 j (by omega) (by omega), show gI (mT h1) 52 j = gI h1 52 j from gIq (by decide), c9 52 j (by decide)]
  refine ⟨fun j hj => ?_, fun j hj => ?_, hs, ?_, ?_, fun k hk => ?_, ⟨?_, ?_, ?_, fun j hj => ?_⟩, ?_, ?_, ?_, ?_⟩
  · rw [cst_eq (h := h1) (fun j => lo 39 j (by decide)) (fun j => lo 40 j (by decide)) (lo 38 3 (by decide))]; exact c1 j hj
  · rw [hf j hj]; exact tg_c (e52 j)
  · rw [lo 38 7 (by decide)]; exact c2
  · rw [ho 50 23 (by decide) (by decide)]; exact m3
  · obtain ⟨x1, x2, x3⟩ := c3 k hk
    refine ⟨(lo 41 k (by decide)).trans x1, (lo 42 k (by decide)).trans x2, (lo 43 k (by decide)).trans x3, fun j hj => ?_⟩
    rw [ho 53 _ (by omega) (by omega), m1 k hk j hj, show gI (mT h1) 53 (17 * (k + d) + j) = gI h1 53 (17 * (k + d) + j) from gIq (by decide), c9 53 _ (by decide)]
  · rw [lo 41 B (by decide)]; exact c4.1
  · rw [lo 42 B (by decide)]; exact c4.2.1
  · rw [lo 43 B (by decide)]; exact c4.2.2
  · rw [ho 53 _ (by omega) (by omega), m2 j hj, show gI (mT h1) 52 j = gI h1 52 j from gIq (by decide), c9 52 j (by decide)]
  · rw [lo 38 9 (by decide)]; exact c5
  · rw [ho 50 24 (by decide) (by decide), m5 50 24 (by decide) (by decide), show gI (mT h1) 50 24 = gI h1 50 24 from rfl, c9 50 24 (by decide)]
  · exact funext (fun j => (lo 44 j (by decide)).trans (c6 j))
  · exact funext (fun j => by rw [ho 54 j (by omega) (by omega), m5 54 j (by omega) (by omega), show gI (mT h1) 54 j = gI h1 54 j from gIq (by decide), c9 54 j (by decide)])
/-- an act that is done: the reference goes on from what it remembered, with one bit more -/
theorem J_act {h h1 r : Hp} {t s c : Nat} {C : CT} {K : List Nm} {d B P i : Nat} {so x m : Int32} (j : J h) (jr : JR h t s) (jc : JC h t c C K) (hP : P < nnC C 1) (hB : B < 16) (pa : PSa h (nnC C 1) (dmF C) (B + d)) (ca : CA h h1 d B so P x) (ma : MA (mT h1) r d B) (hi : ∀ j, lj (nnC C 1) j → (if j = i then gI h 52 j ||| m else gI h 52 j) = tgF so P x (gI h 52) j) (hs : ∀ p, p < nnC C 1 → ∀ y, dmF C ≤ y → y < 32 → p = i → bt m y = false) : J (mR (pI r 52 i (gI r 52 i ||| m)) 0) := by
  have b := jc.2.2.2.1.2.1
  have ps := jc.2.2.2.2.2.2
  have e52 : ∀ j, gI r 52 j = gI h 52 j := fun j => by rw [ma.2.2.2.2 52 j (by omega) (by omega), show gI (mT h1) 52 j = gI h1 52 j from gIq (by decide), ca.2.2.2.2.2.2.2.2 52 j (by decide)]
  have f52 : ∀ j, gI (mR (pI r 52 i (gI r 52 i ||| m)) 0) 52 j = if j = i then gI h 52 j ||| m else gI h 52 j := fun j => by
    show gI (pI r 52 i (gI r 52 i ||| m)) 52 j = _
    by_cases z : j = i
    · subst z; rw [gIs, if_pos rfl, e52]
    · rw [gIk z, if_neg z, e52]
  have ho : ∀ b j, ¬ b = 52 → ¬ (b = 50 ∧ (j = 1 ∨ j = 2)) → gI (mR (pI r 52 i (gI r 52 i ||| m)) 0) b j = gI r b j := fun b j h1 h2 => by
    show gI (pI (pI (pI r 52 i (gI r 52 i ||| m)) 50 1 0) 50 2 (-1)) b j = _
    rw [show gI (pI (pI (pI r 52 i (gI r 52 i ||| m)) 50 1 0) 50 2 (-1)) b j = gI (pI (pI r 52 i (gI r 52 i ||| m)) 50 1 0) b j from u2_n _ _ (by omega), show gI (pI (pI r 52 i (gI r 52 i ||| m)) 50 1 0) b j = gI (pI r 52 i (gI r 52 i ||| m)) b j from u2_n _ _ (by omega), gIq h1]
  have act : ACT h (mR (pI r 52 i (gI r 52 i ||| m)) 0) (nnC C 1) (dmF C) d B so P x := ACT_mk ca ma (fun j hj => by rw [f52, hi j hj]; exact (tg_c (e52 j)).symm) (fun p hp y h1 h2 => by
    rw [f52]
    by_cases z : p = i
    · rw [if_pos z, bt_or, ps.1.2 p hp y h1 h2, hs p hp y h1 h2 z]; rfl
    · rw [if_neg z]; exact ps.1.2 p hp y h1 h2) ho
  have fa : FA (mR (pI r 52 i (gI r 52 i ||| m)) 0) h := ((((FA_I _ _ (by unfold fax frx; omega)).trans (FA_I _ _ (by unfold fax frx; omega))).trans (FA_I r _ (by unfold fax; omega))).trans ma.2.2.2.1).trans ((FA_I h1 0 (by unfold fax frx; omega)).trans ca.2.2.2.2.2.2.1)
  have e0 : gI (mR (pI r 52 i (gI r 52 i ||| m)) 0) 0 8 = 0 := by
    rw [ho 0 8 (by decide) (by decide), ma.2.2.2.2 0 8 (by decide) (by decide)]
    exact ca.2.2.2.2.2.2.2.1
  exact J_fa j jr jc fa (PS_act (by omega) hP hB ps.1 pa ps.2.2 act) (e0 ▸ rfl) rfl (by rw [e0]; decide)
theorem PRi.a {h h1 f : Hp} {yx ym : MethodName} {cx cm : ByteArray} {nx nm dx dm : Nat} {rt : Option FieldType} {as : List Value} {r : Int32} (hx : gCi dx 0 0 yx cx nx rt (.ref 0 :: as) h (some (.int r)) h1) (dx12 : dx ≤ 12) (S1 : SX h1) (hm : gCi dm 0 0 ym cm nm rt (.ref 50 :: as) h1 (some (.int r)) f) (dm12 : dm ≤ 12) (jf : J f) : PRi h yx cx nx ym cm nm rt as :=
  ⟨r, h1, gCi_deep dx12 hx, S1, gC_deep dm12 (gC_imp (fun v h' z => ⟨z.1, by rw [z.2]; exact jf⟩) hm)⟩
theorem prH_1 {h : Hp} {A : Nat} {s : Int32} {p : Nat} {c : Int32} (hA : ¬ A = 16) : prH h A s p c = pfH (chH h s p c) A s p c := if_neg hA
theorem prH_2 {h : Hp} {s : Int32} {p : Nat} {c : Int32} : prH h 16 s p c = pfH (fgH (chH h s p c)) 15 s p c := if_pos rfl
theorem ca_S {h f : Hp} {d B P : Nat} {s c : Int32} (ca : CA h f d B s P c) (S : SX h) : SX f := ca.2.2.2.2.2.2.1.S S
theorem ca_v {h f : Hp} {t s c : Nat} {C : CT} {K : List Nm} {d B P : Nat} {so x : Int32} (ca : CA h f d B so P x) (j : J h) (jr : JR h t s) (jc : JC h t c C K) : MX (mT f) c (nnC C) ∧ (∀ j, gI (mT f) 52 j = gI h 52 j) ∧ gI (mT f) c 0 * gI (mT f) c 1 = gI h t 1 * gI h t 2 ∧ (∀ j, j < nnC C 1 → gI (mT f) (c + 1) j = gI h (t + 2) j) ∧ gI (mT f) 50 23 = gI h 50 23 := by
  have c6 := jc.2.1.1
  have b := jc.2.2.2.1.2.1
  have fa := ca.2.2.2.2.2.2.1
  have S1 := ca_S ca j.1.1.1
  have c9 := ca.2.2.2.2.2.2.2.2
  have V := jc.vw (FR.refl h)
  refine ⟨?_, fun j => ?_, ?_, fun j hj => ?_, ?_⟩
  · exact (jc.mx j.1.1.1).eqv fa.1 fa.2.1 fa.2.2.1 fa.2.2.2.1 (fun j => by rw [show gI (mT f) c j = gI f c j from gIq (by omega), c9 c j (by omega)])
  · rw [show gI (mT f) 52 j = gI f 52 j from gIq (by omega), c9 52 j (by omega)]
  · rw [show gI (mT f) c 0 = gI f c 0 from gIq (by omega), show gI (mT f) c 1 = gI f c 1 from gIq (by omega), c9 c 0 (by omega), c9 c 1 (by omega), V.w, V.hg]
  · rw [show gI (mT f) (c + 1) j = gI f (c + 1) j from gIq (by omega), c9 (c + 1) j (by omega)]
    exact V.a (a := 1) (by decide) (by decide) (by decide) hj
  · rw [show gI (mT f) 50 23 = gI f 50 23 from rfl, c9 50 23 (by decide)]
theorem q_scratch {h : Hp} (j : J h) (p x : Int32) : PRi h yX8_scratch cX8_scratch 4 yX10_scratch cX10_scratch 3 (some .boolean) [.int p, .int x] := by
  obtain ⟨⟨jh, jt, jl, t, s, jr, jz | ⟨c, C, K, jc⟩⟩, tr⟩ := id j
  · have hx := m_scratch (jz.cx jh.1 jr) (A := 0) (jz.2.2.2.1) (by decide) p x
    have ey : scY (wnF (ipF p (nI 0)) (ipF x (gI h t 1 * gI h t 2)) (thF (gI h 38 3) p)) (bz (gI h 39 (pn p)) x) = 1 := by
      unfold scY; rw [wz, if_neg (by decide)]
    rw [ey, if_neg (by decide), if_neg (by decide)] at hx
    exact PRi.z j jr jz hx (by decide) (FR_8 _ _) (gIs _ _ _ _) (fun S hz => q2_r (n_scratch S p x (Or.inl rfl) (z_marksCell S hz _ p x))) (by decide) rfl rfl (by decide)
  · have b := jc.2.2.2.1.2.1
    obtain ⟨A, pa⟩ := jc.2.2.2.2.2.2.2.1
    have X := jc.cx jh.1 jr
    have D := (jc.vw (FR.refl h)).dm jc.2.2.2.1
    have hx := m_scratch X pa.2.1 pa.1 p x
    by_cases z1 : ipF p (nI (nnC C 1)) = 0
    · have ey : (scY (wnF (ipF p (nI (nnC C 1))) (ipF x (gI h t 1 * gI h t 2)) (thF (gI h 38 3) p)) (bz (gI h 39 (pn p)) x)) = 1 := by
        unfold scY wnF; rw [if_pos z1, if_neg (by decide)]
      rw [ey, if_neg (by decide), if_neg (by decide)] at hx
      exact PRi.c j jr jc hx (by decide) (FR_8 _ _) (gIs _ _ _ _) (fun M _ => q2_r (n_scratch M.S p x (Or.inl rfl) (d_mc_no M 0 p x (if_pos z1)))) (by decide) (fun V => rfl) (fun V => rfl) (by decide)
    · by_cases z2 : ipF x (gI h t 1 * gI h t 2) = 0
      · have ey : (scY (wnF (ipF p (nI (nnC C 1))) (ipF x (gI h t 1 * gI h t 2)) (thF (gI h 38 3) p)) (bz (gI h 39 (pn p)) x)) = 1 := by
          unfold scY wnF; rw [if_neg z1, if_pos z2, if_neg (by decide)]
        rw [ey, if_neg (by decide), if_neg (by decide)] at hx
        have V := jc.vw ((FR_mT (pI h 0 8 1)).trans (FR_8 h 1))
        exact PRi.c j jr jc hx (by decide) (FR_8 _ _) (gIs _ _ _ _) (fun M _ => q2_r (n_scratch M.S p x (Or.inl rfl) (d_mc_no M 0 p x ((if_neg z1).trans (by rw [V.w, V.hg]; exact z2))))) (by decide) (fun V => rfl) (fun V => rfl) (by decide)
      · obtain ⟨P, hP, rfl⟩ := ip1 (by omega) z1
        have z2' := z2
        rw [D.1] at z2'
        obtain ⟨Y, hY, rfl⟩ := ip1 (by omega) z2'
        have epn := pn_nI (n := P) (by omega)
        have hic : ∀ (g : Hp), VW h g t c C → ¬ icF (ipF (nI P) (nI (nnC C 1))) (nI Y) (gI g c 0 * gI g c 1) = 0 := fun g V q => z2 ((show _ = _ by rw [V.w, V.hg]; exact (if_neg z1).symm).trans q)
        by_cases z3 : thF (gI h 38 3) (nI P) = 0 ∧ bz (gI h 39 P) (nI Y) = 0
        · have ey : (scY (wnF (ipF (nI P) (nI (nnC C 1))) (ipF (nI Y) (gI h t 1 * gI h t 2)) (thF (gI h 38 3) (nI P))) (bz (gI h 39 (pn (nI P))) (nI Y))) = 0 := by
            unfold scY wnF; rw [epn, if_neg z1, if_neg z2, if_pos z3.1, if_pos rfl, if_pos z3.2]
          rw [ey, if_pos rfl, if_pos rfl, epn] at hx
          have V0 := jc.vw (FR.refl h)
          have bf : bt (gI h 52 (0 + P)) Y = false := by
            rw [show 0 + P = P from Nat.zero_add P, (V0.2.2.1 P hP).1]
            exact (bz0 _ (by omega)).mp z3.2
          have hi : ∀ j, lj (nnC C 1) j → (if j = 0 + P then gI h 52 j ||| ((1 : Int32) <<< (nI Y &&& 31)) else gI h 52 j) = tgF 0 P (nI Y) (gI h 52) j := fun j hj => by
            unfold tgF
            rw [if_pos rfl, show 0 + P = P from Nat.zero_add P]
            by_cases e : j = P
            · rw [if_pos e, if_pos e]; subst e; rw [show 0 + j = j from Nat.zero_add j] at bf; exact or_xor (by omega) bf
            · rw [if_neg e, if_neg e]
          have hs : ∀ p, p < nnC C 1 → ∀ y, dmF C ≤ y → y < 32 → p = 0 + P → bt ((1 : Int32) <<< (nI Y &&& 31)) y = false := fun p hp y h1 h2 _ => by
            rw [bt_1 (by omega) h2]; exact decide_eq_false (by omega)
          have fin : ∀ (f r : Hp) (d B : Nat), B < 16 → B + d = A → CA h f d B 0 P (nI Y) → MA (mT f) r d B → SX r → gCi 0 0 0 yX10_remembers cX10_remembers 2 none [.ref 50] (mT f) none r → gCi 3 0 0 yX8_scratch cX8_scratch 4 (some .boolean) [.ref 0, .int (nI P), .int (nI Y)] h (some (.int 1)) f → PRi h yX8_scratch cX8_scratch 4 yX10_scratch cX10_scratch 3 (some .boolean) [.int (nI P), .int (nI Y)] := by
            intro f r d B hB hA ca ma Sr W hy
            obtain ⟨M, w1, w2, w3, w4⟩ := ca_v ca j jr jc
            subst hA
            exact PRi.a hy (by decide) (ca_S ca jh.1) (n_scratch M.S (nI P) (nI Y) (Or.inr rfl) (d_mc_ok M (a := 0) (by decide) (by omega) (nI Y) (fun q => z2 ((show _ = _ by rw [w2]; exact (if_neg z1).symm).trans q)) (by rw [w1, V0.th]; exact z3.1) ((th_iff _ _).mpr (by rw [w1]; exact (bz0 _ (by omega)).mpr bf)) Sr W)) (by decide) (J_act j jr jc hP hB pa ca ma hi hs)
          by_cases hA : A = 16
          · subst hA
            rw [prH_2] at hx
            have ca := CA_2 h 0 (P := P) (by omega) (nI Y)
            have ma := MA_2 (mT (pfH (fgH (chH (pI h 0 8 0) 0 P (nI Y))) 15 0 P (nI Y))) (n := 17) (m := 255) rfl rfl
            have Sm : SX (mT (pfH (fgH (chH (pI h 0 8 0) 0 P (nI Y))) 15 0 P (nI Y))) := (FR_mT _).2.2.2.2.1 (ca_S ca jh.1)
            exact fin _ _ 1 15 (by decide) rfl ca ma (ma.2.2.2.1.S Sm) (d_remembers2 Sm ((ca_v ca j jr jc).2.2.2.2.trans pa.2.2.1) rfl) hx
          · rw [prH_1 hA] at hx
            have ca := CA_1 h (A := A) 0 (P := P) (by omega) (nI Y)
            have ma := MA_1 (mT (pfH (chH (pI h 0 8 0) 0 P (nI Y)) A 0 P (nI Y))) (A := A) (n := 17) rfl
            have Sm : SX (mT (pfH (chH (pI h 0 8 0) 0 P (nI Y)) A 0 P (nI Y))) := (FR_mT _).2.2.2.2.1 (ca_S ca jh.1)
            exact fin _ _ 0 A (by have := pa.1; omega) rfl ca ma (ma.2.2.2.1.S Sm) (d_remembers1 Sm ((ca_v ca j jr jc).2.2.2.2.trans pa.2.2.1) (by have := pa.1; omega)) hx
        · have ey : (scY (wnF (ipF (nI P) (nI (nnC C 1))) (ipF (nI Y) (gI h t 1 * gI h t 2)) (thF (gI h 38 3) (nI P))) (bz (gI h 39 (pn (nI P))) (nI Y))) = 5 := by
            unfold scY wnF; rw [epn, if_neg z1, if_neg z2]
            by_cases z4 : thF (gI h 38 3) (nI P) = 0
            · rw [if_pos z4, if_pos rfl, if_neg (fun q => z3 ⟨z4, q⟩)]
            · rw [if_neg z4, if_neg (by decide)]
          rw [ey, if_neg (by decide), if_neg (by decide)] at hx
          have V := jc.vw ((FR_mT (pI h 0 8 5)).trans (FR_8 h 5))
          exact PRi.c j jr jc hx (by decide) (FR_8 _ _) (gIs _ _ _ _) (fun M _ => q2_r (n_scratch M.S (nI P) (nI Y) (Or.inl rfl) (d_mc_5 M (a := 0) (by decide) (by omega) (nI Y) (hic _ V) (by
            rw [V.th, show 0 + P = P from Nat.zero_add P, (V.2.2.1 P hP).1]
            by_cases z4 : thF (gI h 38 3) (nI P) = 0
            · exact Or.inr (fun q => z3 ⟨z4, (th_iff _ _).mp q⟩)
            · exact Or.inl z4)))) (by decide) (fun V => rfl) (fun V => rfl) (by decide)
theorem q_cover {h : Hp} (j : J h) (p x : Int32) : PRi h yX8_cover cX8_cover 4 yX10_cover cX10_cover 3 (some .boolean) [.int p, .int x] := by
  obtain ⟨⟨jh, jt, jl, t, s, jr, jz | ⟨c, C, K, jc⟩⟩, tr⟩ := id j
  · have hx := m_cover (jz.cx jh.1 jr) (A := 0) (jz.2.2.2.1) (by decide) p x
    have ey : scY (wnF (ipF p (nI 0)) (ipF x (gI h t 1 * gI h t 2)) (thF (gI h 38 3) p)) (bz (gI h 40 (pn p)) x) = 1 := by
      unfold scY; rw [wz, if_neg (by decide)]
    rw [ey, if_neg (by decide), if_neg (by decide)] at hx
    exact PRi.z j jr jz hx (by decide) (FR_8 _ _) (gIs _ _ _ _) (fun S hz => q2_r (n_cover S p x (Or.inl rfl) (z_marksCell S hz _ p x))) (by decide) rfl rfl (by decide)
  · have b := jc.2.2.2.1.2.1
    obtain ⟨A, pa⟩ := jc.2.2.2.2.2.2.2.1
    have X := jc.cx jh.1 jr
    have D := (jc.vw (FR.refl h)).dm jc.2.2.2.1
    have hx := m_cover X pa.2.1 pa.1 p x
    by_cases z1 : ipF p (nI (nnC C 1)) = 0
    · have ey : (scY (wnF (ipF p (nI (nnC C 1))) (ipF x (gI h t 1 * gI h t 2)) (thF (gI h 38 3) p)) (bz (gI h 40 (pn p)) x)) = 1 := by
        unfold scY wnF; rw [if_pos z1, if_neg (by decide)]
      rw [ey, if_neg (by decide), if_neg (by decide)] at hx
      exact PRi.c j jr jc hx (by decide) (FR_8 _ _) (gIs _ _ _ _) (fun M _ => q2_r (n_cover M.S p x (Or.inl rfl) (d_mc_no M 8 p x (if_pos z1)))) (by decide) (fun V => rfl) (fun V => rfl) (by decide)
    · by_cases z2 : ipF x (gI h t 1 * gI h t 2) = 0
      · have ey : (scY (wnF (ipF p (nI (nnC C 1))) (ipF x (gI h t 1 * gI h t 2)) (thF (gI h 38 3) p)) (bz (gI h 40 (pn p)) x)) = 1 := by
          unfold scY wnF; rw [if_neg z1, if_pos z2, if_neg (by decide)]
        rw [ey, if_neg (by decide), if_neg (by decide)] at hx
        have V := jc.vw ((FR_mT (pI h 0 8 1)).trans (FR_8 h 1))
        exact PRi.c j jr jc hx (by decide) (FR_8 _ _) (gIs _ _ _ _) (fun M _ => q2_r (n_cover M.S p x (Or.inl rfl) (d_mc_no M 8 p x ((if_neg z1).trans (by rw [V.w, V.hg]; exact z2))))) (by decide) (fun V => rfl) (fun V => rfl) (by decide)
      · obtain ⟨P, hP, rfl⟩ := ip1 (by omega) z1
        have z2' := z2
        rw [D.1] at z2'
        obtain ⟨Y, hY, rfl⟩ := ip1 (by omega) z2'
        have epn := pn_nI (n := P) (by omega)
        have hic : ∀ (g : Hp), VW h g t c C → ¬ icF (ipF (nI P) (nI (nnC C 1))) (nI Y) (gI g c 0 * gI g c 1) = 0 := fun g V q => z2 ((show _ = _ by rw [V.w, V.hg]; exact (if_neg z1).symm).trans q)
        by_cases z3 : thF (gI h 38 3) (nI P) = 0 ∧ bz (gI h 40 P) (nI Y) = 0
        · have ey : (scY (wnF (ipF (nI P) (nI (nnC C 1))) (ipF (nI Y) (gI h t 1 * gI h t 2)) (thF (gI h 38 3) (nI P))) (bz (gI h 40 (pn (nI P))) (nI Y))) = 0 := by
            unfold scY wnF; rw [epn, if_neg z1, if_neg z2, if_pos z3.1, if_pos rfl, if_pos z3.2]
          rw [ey, if_pos rfl, if_pos rfl, epn] at hx
          have V0 := jc.vw (FR.refl h)
          have bf : bt (gI h 52 (8 + P)) Y = false := by
            rw [(V0.2.2.1 P hP).2]
            exact (bz0 _ (by omega)).mp z3.2
          have hi : ∀ j, lj (nnC C 1) j → (if j = 8 + P then gI h 52 j ||| ((1 : Int32) <<< (nI Y &&& 31)) else gI h 52 j) = tgF 1 P (nI Y) (gI h 52) j := fun j hj => by
            unfold tgF
            rw [if_neg (show ¬ (1 : Int32) = 0 by decide), if_pos (show (1 : Int32) = 1 from rfl)]
            by_cases e : j = 8 + P
            · rw [if_pos e, if_pos e]; subst e; exact or_xor (by omega) bf
            · rw [if_neg e, if_neg e]
          have hs : ∀ p, p < nnC C 1 → ∀ y, dmF C ≤ y → y < 32 → p = 8 + P → bt ((1 : Int32) <<< (nI Y &&& 31)) y = false := fun p hp y h1 h2 _ => by
            rw [bt_1 (by omega) h2]; exact decide_eq_false (by omega)
          have fin : ∀ (f r : Hp) (d B : Nat), B < 16 → B + d = A → CA h f d B 1 P (nI Y) → MA (mT f) r d B → SX r → gCi 0 0 0 yX10_remembers cX10_remembers 2 none [.ref 50] (mT f) none r → gCi 3 0 0 yX8_cover cX8_cover 4 (some .boolean) [.ref 0, .int (nI P), .int (nI Y)] h (some (.int 1)) f → PRi h yX8_cover cX8_cover 4 yX10_cover cX10_cover 3 (some .boolean) [.int (nI P), .int (nI Y)] := by
            intro f r d B hB hA ca ma Sr W hy
            obtain ⟨M, w1, w2, w3, w4⟩ := ca_v ca j jr jc
            subst hA
            exact PRi.a hy (by decide) (ca_S ca jh.1) (n_cover M.S (nI P) (nI Y) (Or.inr rfl) (d_mc_ok M (a := 8) (by decide) (by omega) (nI Y) (fun q => z2 ((show _ = _ by rw [w2]; exact (if_neg z1).symm).trans q)) (by rw [w1, V0.th]; exact z3.1) ((th_iff _ _).mpr (by rw [w1]; exact (bz0 _ (by omega)).mpr bf)) Sr W)) (by decide) (J_act j jr jc hP hB pa ca ma hi hs)
          by_cases hA : A = 16
          · subst hA
            rw [prH_2] at hx
            have ca := CA_2 h 1 (P := P) (by omega) (nI Y)
            have ma := MA_2 (mT (pfH (fgH (chH (pI h 0 8 0) 1 P (nI Y))) 15 1 P (nI Y))) (n := 17) (m := 255) rfl rfl
            have Sm : SX (mT (pfH (fgH (chH (pI h 0 8 0) 1 P (nI Y))) 15 1 P (nI Y))) := (FR_mT _).2.2.2.2.1 (ca_S ca jh.1)
            exact fin _ _ 1 15 (by decide) rfl ca ma (ma.2.2.2.1.S Sm) (d_remembers2 Sm ((ca_v ca j jr jc).2.2.2.2.trans pa.2.2.1) rfl) hx
          · rw [prH_1 hA] at hx
            have ca := CA_1 h (A := A) 1 (P := P) (by omega) (nI Y)
            have ma := MA_1 (mT (pfH (chH (pI h 0 8 0) 1 P (nI Y)) A 1 P (nI Y))) (A := A) (n := 17) rfl
            have Sm : SX (mT (pfH (chH (pI h 0 8 0) 1 P (nI Y)) A 1 P (nI Y))) := (FR_mT _).2.2.2.2.1 (ca_S ca jh.1)
            exact fin _ _ 0 A (by have := pa.1; omega) rfl ca ma (ma.2.2.2.1.S Sm) (d_remembers1 Sm ((ca_v ca j jr jc).2.2.2.2.trans pa.2.2.1) (by have := pa.1; omega)) hx
        · have ey : (scY (wnF (ipF (nI P) (nI (nnC C 1))) (ipF (nI Y) (gI h t 1 * gI h t 2)) (thF (gI h 38 3) (nI P))) (bz (gI h 40 (pn (nI P))) (nI Y))) = 5 := by
            unfold scY wnF; rw [epn, if_neg z1, if_neg z2]
            by_cases z4 : thF (gI h 38 3) (nI P) = 0
            · rw [if_pos z4, if_pos rfl, if_neg (fun q => z3 ⟨z4, q⟩)]
            · rw [if_neg z4, if_neg (by decide)]
          rw [ey, if_neg (by decide), if_neg (by decide)] at hx
          have V := jc.vw ((FR_mT (pI h 0 8 5)).trans (FR_8 h 5))
          exact PRi.c j jr jc hx (by decide) (FR_8 _ _) (gIs _ _ _ _) (fun M _ => q2_r (n_cover M.S (nI P) (nI Y) (Or.inl rfl) (d_mc_5 M (a := 8) (by decide) (by omega) (nI Y) (hic _ V) (by
            rw [V.th, (V.2.2.1 P hP).2]
            by_cases z4 : thF (gI h 38 3) (nI P) = 0
            · exact Or.inr (fun q => z3 ⟨z4, (th_iff _ _).mp q⟩)
            · exact Or.inl z4)))) (by decide) (fun V => rfl) (fun V => rfl) (by decide)

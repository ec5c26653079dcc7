/-! CALLS ON BOTH SIDES: city -/
theorem bgS_e (t : Nat) (h : Hp) (i : Nat) : bgS t h i = pI (pI h 39 i (gI h (t + 3) i)) 40 i 0 := rfl
theorem bgL_v {t : Nat} (ht : t = 3 ∨ t = 18) : ∀ (n i : Nat) (h : Hp), (∀ x, x < i → gI (bgL t n i h) 39 x = gI h 39 x ∧ gI (bgL t n i h) 40 x = gI h 40 x) ∧ (∀ x, i ≤ x → x < i + n → gI (bgL t n i h) 39 x = gI h (t + 3) x ∧ gI (bgL t n i h) 40 x = 0)
  | 0, i, h => ⟨fun _ _ => ⟨rfl, rfl⟩, fun x h1 h2 => by omega⟩
  | n + 1, i, h => by
    obtain ⟨p, q⟩ := bgL_v ht n (i + 1) (bgS t h i)
    rw [bgS_e] at p q
    refine ⟨fun x hx => ?_, fun x h1 h2 => ?_⟩
    · obtain ⟨p1, p2⟩ := p x (by omega)
      refine ⟨p1.trans ?_, p2.trans ?_⟩
      · rw [gIq (by decide), gIk (by omega)]
      · rw [gIk (by omega), gIq (by decide)]
    · by_cases z : x = i
      · subst z
        obtain ⟨p1, p2⟩ := p x (by omega)
        refine ⟨p1.trans ?_, p2.trans (gIs _ _ _ _)⟩
        rw [gIq (by decide), gIs]
      · obtain ⟨q1, q2⟩ := q x (by omega) (by omega)
        refine ⟨q1.trans ?_, q2⟩
        rw [gIq (by omega), gIq (by omega)]
theorem bgL_o (t : Nat) : ∀ (n i : Nat) (h : Hp), (bgL t n i h).1 = h.1 ∧ (bgL t n i h).2.1 = h.2.1 ∧ (bgL t n i h).2.2.1 = h.2.2.1 ∧ (bgL t n i h).2.2.2.1 = h.2.2.2.1
  | 0, _, _ => ⟨rfl, rfl, rfl, rfl⟩
  | n + 1, i, h => bgL_o t n (i + 1) (bgS t h i)
theorem bg_v {t : Nat} (ht : t = 3 ∨ t = 18) (h : Hp) : (bgH h t).1 = h.1 ∧ (bgH h t).2.1 = h.2.1 ∧ (bgH h t).2.2.1 = h.2.2.1 ∧ (∀ b k, ¬ (b = 38 ∧ k = 0) → gR (bgH h t) b k = gR h b k) ∧ gR (bgH h t) 38 0 = some t ∧ (∀ x, x < 8 → gI (bgH h t) 39 x = gI h (t + 3) x ∧ gI (bgH h t) 40 x = 0) ∧ gI (bgH h t) 38 3 = 0 ∧ gI (bgH h t) 38 7 = 0 ∧ gI (bgH h t) 38 9 = 0 := by
  unfold bgH
  have key : ∀ n, n = 8 → (bgE (bgL t n 0 (pR h 38 0 (some t)))).1 = h.1 ∧ (bgE (bgL t n 0 (pR h 38 0 (some t)))).2.1 = h.2.1 ∧ (bgE (bgL t n 0 (pR h 38 0 (some t)))).2.2.1 = h.2.2.1 ∧ (∀ b k, ¬ (b = 38 ∧ k = 0) → gR (bgE (bgL t n 0 (pR h 38 0 (some t)))) b k = gR h b k) ∧ gR (bgE (bgL t n 0 (pR h 38 0 (some t)))) 38 0 = some t ∧ (∀ x, x < 8 → gI (bgE (bgL t n 0 (pR h 38 0 (some t)))) 39 x = gI h (t + 3) x ∧ gI (bgE (bgL t n 0 (pR h 38 0 (some t)))) 40 x = 0) ∧ gI (bgE (bgL t n 0 (pR h 38 0 (some t)))) 38 3 = 0 ∧ gI (bgE (bgL t n 0 (pR h 38 0 (some t)))) 38 7 = 0 ∧ gI (bgE (bgL t n 0 (pR h 38 0 (some t)))) 38 9 = 0 := by
    intro n hn
    obtain ⟨a, b, c, d⟩ := bgL_o t n 0 (pR h 38 0 (some t))
    obtain ⟨-, q⟩ := bgL_v ht n 0 (pR h 38 0 (some t))
    refine ⟨a, b, c, fun b' k hb => (congrFun (congrFun d b') k).trans (u2_n _ _ hb), (congrFun (congrFun d 38) 0).trans rfl, fun x hx => ?_, rfl, rfl, rfl⟩
    obtain ⟨q1, q2⟩ := q x (Nat.zero_le x) (by omega)
    unfold bgE
    rw [gIq (by decide), gIq (by decide), gIq (by decide), gIq (by decide), gIq (by decide), gIq (by decide)]
    exact ⟨q1, q2⟩
  exact key 8 rfl
/-- a city that was told is well told -/
theorem pa_ok {tx : Nat → Int32} {en : Nat} : ∀ (f : Nat) (C : CT) (q : Nat) (K : List Nm) (x : Nat × CT × List Nm), PI C K → paL tx en f C q K = .ok x → PI x.2.1 x.2.2 ∧ 0 < x.2.1 1 1
  | 0, _, _, _, _, _, h => by cases h
  | f + 1, C, q, K, x, p, h => by
    have e : paL tx en (f + 1) C q K = if tkS tx en q = 0 then (if 0 < C 1 1 then .ok (q, C, K) else er tx en 6 q) else if tkS tx en q = 3 then (lnP tx en C (nx tx en q) K).bind fun x => paL tx en f x.2.1 x.1 x.2.2 else er tx en 1 q := rfl
    rw [e] at h
    by_cases z0 : tkS tx en q = 0
    · rw [if_pos z0] at h
      by_cases z1 : 0 < C 1 1
      · rw [if_pos z1] at h
        cases h
        exact ⟨p, z1⟩
      · rw [if_neg z1] at h; cases h
    · rw [if_neg z0] at h
      by_cases z3 : tkS tx en q = 3
      · rw [if_pos z3] at h
        obtain ⟨y, h1, h2⟩ := eb_inv h
        exact pa_ok f _ _ _ x (ln_ok p h1).1 h2
      · rw [if_neg z3] at h; cases h
theorem par_ok {tx : Nat → Int32} {en : Nat} {C : CT} (z : ZC C) {x : Nat × CT × List Nm} (h : parP tx en C = .ok x) : PI x.2.1 x.2.2 ∧ 0 < nnC x.2.1 1 := by
  unfold parP at h
  obtain ⟨y, h1, h2⟩ := eb_inv h
  have := pa_ok 1100 _ _ _ x (fir_ok z h1).1 h2
  refine ⟨this.1, ?_⟩
  rcases Nat.eq_zero_or_pos (nnC x.2.1 1) with e | e
  · have h3 := this.2
    rw [this.1.1 1 (by decide), e] at h3
    exact absurd h3 (by decide)
  · exact e
/-- the class's heap behind its city, against the one before: what both ends share -/
def XF (s : Nat) (f h : Hp) : Prop := f.1 = h.1 ∧ f.2.1 = h.2.1 ∧ f.2.2.1 = h.2.2.1 ∧ SX f ∧ (∀ b k, ¬ (b = 33 ∧ k = 5) → ¬ (b = 0 ∧ (k = 6 ∨ k = 7)) → ¬ (b = 38 ∧ k = 0) → gR f b k = gR h b k) ∧ (∀ b j, ¬ (b = 0 ∧ (j = 8 ∨ j = 9 ∨ j = 10)) → ¬ (b = 1 ∧ j = 1) → b ≠ 33 → b ≠ 34 → b ≠ 36 → b ≠ 37 → ¬ (s ≤ b ∧ b < s + 15) → b ≠ 38 → b ≠ 39 → b ≠ 40 → gI f b j = gI h b j) ∧ gI f 1 1 = 0
/-- both sides' heaps behind city -/
theorem J_city {h f1 f : Hp} {s : Nat} {N : Nat} {C : CT} (j : J h) (hs : s = 3 ∨ s = 18) (k : XF s f1 h) (cf : CF (gn f1) f f1) : JH f ∧ JT f ∧ LB f ∧ (∀ b k, b < 60 → ¬ (b = 33 ∧ k = 5) → ¬ (b = 0 ∧ (k = 6 ∨ k = 7)) → ¬ (b = 38 ∧ k = 0) → ¬ (b = 50 ∧ (k = 3 ∨ k = 4)) → gR f b k = gR h b k) ∧ (∀ b j, b < gn h → ¬ (b = 0 ∧ (j = 8 ∨ j = 9 ∨ j = 10)) → ¬ (b = 1 ∧ j = 1) → b ≠ 33 → b ≠ 34 → b ≠ 36 → b ≠ 37 → ¬ (s ≤ b ∧ b < s + 15) → b ≠ 38 → b ≠ 39 → b ≠ 40 → b ≠ 50 → b ≠ 52 → gI f b j = gI h b j) ∧ (∀ b k, b < 60 → ¬ (b = 50 ∧ (k = 3 ∨ k = 4)) → gR f b k = gR f1 b k) ∧ (∀ b j, b < 60 → b ≠ 50 → b ≠ 52 → gI f b j = gI f1 b j) ∧ ∀ c, MC h c → MC f c := by
  obtain ⟨⟨jh, ⟨n, t1, t2, t3, t4, t5⟩, -, -⟩, -⟩ := j
  obtain ⟨x1, x2, x3, x4, x5, x6, x7⟩ := k
  obtain ⟨a1, a2, a3, a4, a5, a6, a7, a8, a9⟩ := cf
  have eg : gn f1 = gn h := congrArg Prod.snd x1
  have h60 : 60 ≤ gn f1 := by rw [eg]; exact jh.2.1
  refine ⟨⟨a1, by omega, a5⟩, ⟨0, by decide, ?_, a9, ?_, ?_⟩, a2, fun b k hb h1 h2 h3 h4 => ?_, fun b j hb h1 h2 h3 h4 h5 h6 h7 h8 h9 h10 h11 h12 => ?_, fun b k hb hk => a7 b k (by omega) hk, fun b j hb h1 h2 => a8 b j (by omega) h1 h2, fun c M => ?_⟩
  · rw [a8 1 1 (by omega) (by decide) (by decide)]; exact x7
  · have e1 : gI f 51 = gI h 51 := funext (fun j => (a8 51 j (by omega) (by decide) (by decide)).trans (x6 51 j (by omega) (by omega) (by decide) (by decide) (by decide) (by decide) (by omega) (by decide) (by decide) (by decide)))
    have e2 : gI f 2 = gI h 2 := funext (fun j => (a8 2 j (by omega) (by decide) (by decide)).trans (x6 2 j (by omega) (by omega) (by decide) (by decide) (by decide) (by decide) (by omega) (by decide) (by decide) (by decide)))
    rw [e1, e2]; exact t4
  · have e2 : gI f 2 = gI h 2 := funext (fun j => (a8 2 j (by omega) (by decide) (by decide)).trans (x6 2 j (by omega) (by omega) (by decide) (by decide) (by decide) (by decide) (by omega) (by decide) (by decide) (by decide)))
    rw [e2]; exact t5
  · rw [a7 b k (by omega) h4]; exact x5 b k h1 h2 h3
  · rw [a8 b j (by omega) h11 h12]; exact x6 b j h1 h2 h3 h4 h5 h6 h7 h8 h9 h10
  · have hc : ∀ j, j < 17 → c + j < gn f1 := fun j hj => by rw [eg]; exact jh.2.2 _ (M.2.1 j hj)
    have hc0 := hc 0 (by decide)
    have h6 := M.1
    refine ⟨M.1, fun j hj => a4 _ ?_, fun j hj => ?_, fun j hj => ?_, fun k j hj => ?_⟩
    · show c + j ∈ f1.1.1
      rw [x1]; exact M.2.1 j hj
    · rw [(a6 _ (hc j hj)).1]
      show f1.2.1 (c + j) = _
      rw [x2]; exact M.2.2.1 j hj
    · rw [(a6 _ (hc j hj)).2]
      show f1.2.2.1 (c + j) = _
      rw [x3]; exact M.2.2.2.1 j hj
    · rw [a7 c k (by omega) (by omega), x5 c k (by omega) (by omega) (by omega)]
      exact M.2.2.2.2 k j hj
theorem PQ_x {h h1 : Hp} {s : Nat} (S : SX h) (p : PQ s h1 (pR h 33 5 (some s))) (a b y : Int32) : XF s (pI (cyF h1 a b) 0 8 y) h := by
  obtain ⟨p1, p2, p3, p4, p5, p6⟩ := p
  refine ⟨p1, p2, p3, ?_, fun b k h1 h2 h3 => (congrFun (congrFun p4 b) k).trans (u2_n _ _ h1), fun b j h1 h2 h3 h4 h5 h6 h7 h8 h9 h10 => ?_, rfl⟩
  · exact SX.eq (S.pR (a := 33) (k := 5) (some s) rfl) p1 p2 p3 p4
  · unfold cyF
    rw [show ∀ g : Hp, gI (pI g 0 8 y) b j = gI g b j from fun g => u2_n _ _ (by omega), show ∀ (g : Hp) v, gI (pI g 0 10 v) b j = gI g b j from fun g v => u2_n _ _ (by omega), show ∀ (g : Hp) v, gI (pI g 0 9 v) b j = gI g b j from fun g v => u2_n _ _ (by omega), show ∀ (g : Hp) v, gI (pI g 1 1 v) b j = gI g b j from fun g v => u2_n _ _ (by omega), p5 b j h3 h4 h5 h6 h7]
    rfl
theorem q_city {h : Hp} (j : J h) (n : Int32) : gC 12 0 0 yX8_city cX8_city 4 (some .int) [.ref 0, .int n] h (fun v h1 => ∃ r, v = some (.int r) ∧ SX h1 ∧ gC 13 17 307 yX10_city cX10_city 3 (some .int) [.ref 50, .int n] h1 (fun v' h' => v' = some (.int r) ∧ J h')) := by
  obtain ⟨L, l1, l2, l3, l4, l5⟩ := j.1.2.1
  have S := j.1.1.1
  by_cases hn : n < 0 ∨ nI L < n
  · refine gC_deep (d := 1) (by decide) (gC_imp ?_ (m_city0 S l2 n hn))
    rintro v h1 ⟨rfl, rfl⟩
    refine ⟨-1, rfl, S, gC_imp ?_ (d_city0 (h := pI h 0 8 2) S (show gI (pI h 0 8 2) 50 6 = nI L from l3) n hn)⟩
    rintro v h' ⟨rfl, rfl⟩
    exact ⟨rfl, J_mR j (FR_8 h 2) (mF.refl _) (gIs _ _ _ _).symm (by rw [gIs]; decide)⟩
  · have n0 : ¬ n < 0 := fun z => hn (Or.inl z)
    obtain ⟨N, hN, rfl⟩ := pk_leq (by omega) n0 (fun z => hn (Or.inr z))
    obtain ⟨⟨jh, jt, jl, t, s, jr, jd⟩, tr⟩ := id j
    have hs := jr.s
    have ht := jr.t
    obtain ⟨hc, eh⟩ : ∃ hc, clH (pR h 33 5 (some s)) s = hc := ⟨_, rfl⟩
    have zc : ZC (CC hc s) := by rw [← eh]; exact clH_Z _ s
    have hcl := m_city1 S rfl l2 l1 hs ht jr.2.1 jr.2.2.1 eh hN PI (fun C x z e => (fir_ok z e).1) (fun C q K x p e => (ln_ok p e).1) (fun C K p => p.cb)
    refine gC_deep (d := 10) (by decide) (gC_imp ?_ hcl)
    rintro v f1 ⟨h1, P1, o1⟩
    rcases o1 with ⟨e, oe, rfl, rfl⟩ | ⟨x, ox, rfl, D1, rfl⟩
    · have k := PQ_x S P1 e.1 (nI e.2) 4
      have e10 : gI (pI (cyF h1 e.1 (nI e.2)) 0 8 4) 0 10 = nI e.2 := rfl
      have e9 : gI (pI (cyF h1 e.1 (nI e.2)) 0 8 4) 0 9 = e.1 := rfl
      have e8 : gI (pI (cyF h1 e.1 (nI e.2)) 0 8 4) 0 8 = 4 := rfl
      have r6 : ∀ b k, ¬ (b = 33 ∧ k = 5) → gR (pI (cyF h1 e.1 (nI e.2)) 0 8 4) b k = gR h b k := fun b k hb => (congrFun (congrFun P1.2.2.2.1 b) k).trans (u2_n _ _ hb)
      have p38 : ∀ b j, b = 38 ∨ b = 39 ∨ b = 40 → gI (pI (cyF h1 e.1 (nI e.2)) 0 8 4) b j = gI h b j := fun b j hb => by
        unfold cyF
        rw [gIq (by omega), gIq (by omega), gIq (by omega), gIq (by omega), P1.2.2.2.2.1 b j (by omega) (by omega) (by omega) (by omega) (by omega)]
        rfl
      generalize pI (cyF h1 e.1 (nI e.2)) 0 8 4 = f1 at k e10 e9 e8 r6 p38 ⊢
      have x6 := k.2.2.2.2.2.1
      have eg : gn f1 = gn h := congrArg Prod.snd k.1
      have eL : gL f1 = gL h := congrArg Prod.fst k.1
      refine ⟨-1, rfl, k.2.2.2.1, gC_imp ?_ (d_city1 (tx := gI h 2) k.2.2.2.1 (by rw [eg]; exact jh.2.1) (by rw [eL, eg]; exact jh.2.2) ((funext (fun i => x6 51 i (by omega) (by omega) (by decide) (by decide) (by decide) (by decide) (by omega) (by decide) (by decide) (by decide))).trans l4) l5 (by
        obtain ⟨⟨a1, a2, a3⟩, ⟨a4, a5, a6⟩⟩ := jl
        exact ⟨⟨a1, a2, (x6 50 15 (by omega) (by omega) (by decide) (by decide) (by decide) (by decide) (by omega) (by decide) (by decide) (by decide)).trans a3⟩, ⟨a4, a5, (x6 50 16 (by omega) (by omega) (by decide) (by decide) (by decide) (by decide) (by omega) (by decide) (by decide) (by decide)).trans a6⟩⟩) ((x6 50 6 (by omega) (by omega) (by decide) (by decide) (by decide) (by decide) (by omega) (by decide) (by decide) (by decide)).trans l3) l1 hN zc)⟩
      rintro v f ⟨cf, o2⟩
      rcases o2 with ⟨e', oe', rfl, q1, q2, q3, q4, q5, q6, q7⟩ | ⟨x, ox, -⟩
      · obtain rfl : e' = e := by rw [oe] at oe'; exact (Except.error.inj oe').symm
        refine ⟨rfl, ?_⟩
        obtain ⟨g1, g2, g3, g4, g5, g6, g7, g8⟩ := J_city (N := N) (C := CC hc s) j hs k cf
        have R3 : gR f 50 3 = gR h 50 3 := q1.trans (r6 50 3 (by omega))
        have i38 : ∀ b j, b = 38 ∨ b = 39 ∨ b = 40 → gI f b j = gI h b j := fun b j hb => (g7 b j (by omega) (by omega) (by omega)).trans (p38 b j hb)
        have o50 : ∀ j, gI f1 50 j = gI h 50 j := fun j => x6 50 j (by omega) (by omega) (by decide) (by decide) (by decide) (by decide) (by omega) (by decide) (by decide) (by decide)
        have o52 : ∀ j, gI f1 52 j = gI h 52 j := fun j => x6 52 j (by omega) (by omega) (by decide) (by decide) (by decide) (by decide) (by omega) (by decide) (by decide) (by decide)
        have og : ∀ b, b < gn h → 40 < b → b ≠ 50 → b ≠ 52 → gI f b = gI h b := fun b hb h1 h2 h3 => funext (fun i => g5 b i hb (by omega) (by omega) (by omega) (by omega) (by omega) (by omega) (by omega) (by omega) (by omega) (by omega) h2 h3)
        have jr1 := jr.1
        have g60 := jh.2.1
        have ot : ∀ a i, a < 15 → gI f (t + a) i = gI h (t + a) i := fun a i ha => g5 (t + a) i (by omega) (by omega) (by omega) (by omega) (by omega) (by omega) (by omega) (by omega) (by omega) (by omega) (by omega) (by omega) (by omega)
        refine ⟨⟨g1, g2, g3, t, s, ⟨jr.1, ?_, ?_, ?_⟩, ?_⟩, ?_, ?_, ?_⟩
        · rw [g6 0 6 (by decide) (by decide), r6 0 6 (by decide)]; exact jr.2.1
        · rw [g6 0 7 (by decide) (by decide), r6 0 7 (by decide)]; exact jr.2.2.1
        · rw [g6 38 0 (by decide) (by decide), r6 38 0 (by decide)]; exact jr.2.2.2
        · rcases jd with jz | ⟨c, C, K, w1, w2, w3, w4, w5, w6, w7⟩
          · obtain ⟨y1, ⟨z1, z2, z3, z4, z5, z6, z7, z8, z9⟩, y2, y3, y4⟩ := jz
            exact Or.inl ⟨R3.trans y1, ⟨fun k hk => (ot 1 k (by omega)).trans (z1 k hk), fun j hj => (ot 7 j (by omega)).trans (z2 j hj), fun j hj => (ot 8 j (by omega)).trans (z3 j hj), (ot 0 1 (by omega)).trans z4, (ot 0 2 (by omega)).trans z5, (ot 0 3 (by omega)).trans z6, (ot 0 4 (by omega)).trans z7, (ot 0 5 (by omega)).trans z8, (ot 0 13 (by omega)).trans z9⟩, (i38 38 3 (by omega)).trans y2, (i38 38 7 (by omega)).trans y3, (i38 38 9 (by omega)).trans y4⟩
          · have c6 := w2.1
            have oc : ∀ a, a < 17 → gI f (c + a) = gI h (c + a) := fun a ha => og (c + a) (jh.2.2 _ (w2.2.1 a ha)) (by omega) (by omega) (by omega)
            refine Or.inr ⟨c, C, K, R3.trans w1, g8 c w2, fun a j ha => (ot a j ha).trans (w3 a j ha), w4, w5, ⟨fun x hx => ?_, fun a x h1 h2 h3 => ?_, ?_⟩, w7.eq (fun j => i38 38 j (by omega)) (funext (fun j => i38 39 j (by omega))) (funext (fun j => i38 40 j (by omega))) (og 41 (by omega) (by omega) (by omega) (by omega)) (og 42 (by omega) (by omega) (by omega) (by omega)) (og 43 (by omega) (by omega) (by omega) (by omega)) (og 44 (by omega) (by omega) (by omega) (by omega)) (q3.trans (o50 23)) (q4.trans (o50 24)) (funext (fun j => (q2 j).trans (o52 j))) (og 53 (by omega) (by omega) (by omega) (by omega)) (og 54 (by omega) (by omega) (by omega) (by omega))⟩
            · rw [show gI f c = gI h c from oc 0 (by decide)]; exact w6.1 x hx
            · rw [oc a (by omega)]; exact w6.2.1 a x h1 h2 h3
            · show gI f c 13 = _
              rw [show gI f c = gI h c from oc 0 (by decide)]; exact w6.2.2
        · rw [g7 0 8 (by decide) (by decide) (by decide), e8]; exact q5
        · rw [g7 0 8 (by decide) (by decide) (by decide), e8, if_pos rfl, g7 0 10 (by decide) (by decide) (by decide), e10]; exact q6
        · rw [g7 0 9 (by decide) (by decide) (by decide), e9]; exact q7
      · rw [oe] at ox; cases ox
    · have k0 := PQ_x S P1 0 (-1) 8
      obtain ⟨b1, b2, b3, b4, b5, b6, b7, b8, b9⟩ := bg_v hs (pR (pR (cyF h1 0 (-1)) 0 6 (some s)) 0 7 (some t))
      have bI : ∀ b j, b ≠ 38 → b ≠ 39 → b ≠ 40 → gI (bgH (pR (pR (cyF h1 0 (-1)) 0 6 (some s)) 0 7 (some t)) s) b j = gI (cyF h1 0 (-1)) b j := fun b j h1 h2 h3 => bgH_I _ s h1 h2 h3
      have SB := bgH_S (SX.pR (SX.pR (h := cyF h1 0 (-1)) k0.2.2.2.1 (a := 0) (k := 6) (some s) rfl) (a := 0) (k := 7) (some t) rfl) s
      have ecy : cyT h1 s t = pI (bgH (pR (pR (cyF h1 0 (-1)) 0 6 (some s)) 0 7 (some t)) s) 0 8 0 := rfl
      rw [ecy]
      generalize bgH (pR (pR (cyF h1 0 (-1)) 0 6 (some s)) 0 7 (some t)) s = bg at b1 b2 b3 b4 b5 b6 b7 b8 b9 bI SB ⊢
      have k : XF s (pI bg 0 8 0) h := by
        refine ⟨b1.trans k0.1, b2.trans k0.2.1, b3.trans k0.2.2.1, SB, fun b k h1' h2 h3 => ?_, fun b i h1' h2 h3 h4 h5 h6 h7 h8 h9 h10 => ?_, ?_⟩
        · refine (b4 b k h3).trans ?_
          rw [← k0.2.2.2.2.1 b k h1' h2 h3, show gR (pR (pR (cyF h1 0 (-1)) 0 6 (some s)) 0 7 (some t)) b k = gR (pR (cyF h1 0 (-1)) 0 6 (some s)) b k from u2_n _ _ (by omega), show gR (pR (cyF h1 0 (-1)) 0 6 (some s)) b k = gR (cyF h1 0 (-1)) b k from u2_n _ _ (by omega)]
          rfl
        · rw [show ∀ g : Hp, gI (pI g 0 8 0) b i = gI g b i from fun g => u2_n _ _ (by omega), bI b i h8 h9 h10, ← k0.2.2.2.2.2.1 b i h1' h2 h3 h4 h5 h6 h7 h8 h9 h10]
          exact (u2_n _ _ (by omega)).symm
        · rw [gIq (by decide), bI 1 1 (by decide) (by decide) (by decide)]; rfl
      have r06 : gR (pI bg 0 8 0) 0 6 = some s := (b4 0 6 (by decide)).trans rfl
      have r07 : gR (pI bg 0 8 0) 0 7 = some t := (b4 0 7 (by decide)).trans rfl
      have r38 : gR (pI bg 0 8 0) 38 0 = some s := b5
      have ce : ∀ a i, a < 15 → gI (pI bg 0 8 0) (s + a) i = x.2.1 a i := fun a i ha => by
        rw [gIq (by omega), bI _ i (by omega) (by omega) (by omega), ← D1 a i ha]
        unfold cyF
        rw [gIq (by omega), gIq (by omega), gIq (by omega)]
      have v39 : ∀ p, p < 8 → gI (pI bg 0 8 0) 39 p = x.2.1 3 p ∧ gI (pI bg 0 8 0) 40 p = 0 := fun p hp => by
        obtain ⟨u1', u2'⟩ := b6 p hp
        refine ⟨?_, (show gI (pI bg 0 8 0) 40 p = _ from gIq (by decide)).trans u2'⟩
        refine (show gI (pI bg 0 8 0) 39 p = _ from gIq (by decide)).trans (u1'.trans ?_)
        rw [← D1 3 p (by decide)]
        show gI (cyF h1 0 (-1)) (s + 3) p = _
        unfold cyF
        rw [gIq (by omega), gIq (by omega), gIq (by omega)]
      have v3 : gI (pI bg 0 8 0) 38 3 = 0 := (show gI (pI bg 0 8 0) 38 3 = _ from gIq (by decide)).trans b7
      have v7 : gI (pI bg 0 8 0) 38 7 = 0 := (show gI (pI bg 0 8 0) 38 7 = _ from gIq (by decide)).trans b8
      have v9 : gI (pI bg 0 8 0) 38 9 = 0 := (show gI (pI bg 0 8 0) 38 9 = _ from gIq (by decide)).trans b9
      have e8 : gI (pI bg 0 8 0) 0 8 = 0 := gIs _ _ _ _
      have e9 : gI (pI bg 0 8 0) 0 9 = 0 := (show gI (pI bg 0 8 0) 0 9 = _ from gIk (by decide)).trans ((bI 0 9 (by decide) (by decide) (by decide)).trans rfl)
      have e10 : gI (pI bg 0 8 0) 0 10 = -1 := (show gI (pI bg 0 8 0) 0 10 = _ from gIk (by decide)).trans ((bI 0 10 (by decide) (by decide) (by decide)).trans rfl)
      generalize pI bg 0 8 0 = f1 at k r06 r07 r38 ce v39 v3 v7 v9 e8 e9 e10 ⊢
      obtain ⟨px, pos⟩ := par_ok zc ox
      have x6 := k.2.2.2.2.2.1
      have eg : gn f1 = gn h := congrArg Prod.snd k.1
      have eL : gL f1 = gL h := congrArg Prod.fst k.1
      refine ⟨x.2.1 1 1, rfl, k.2.2.2.1, gC_imp ?_ (d_city1 (tx := gI h 2) k.2.2.2.1 (by rw [eg]; exact jh.2.1) (by rw [eL, eg]; exact jh.2.2) ((funext (fun i => x6 51 i (by omega) (by omega) (by decide) (by decide) (by decide) (by decide) (by omega) (by decide) (by decide) (by decide))).trans l4) l5 (by
        obtain ⟨⟨a1, a2, a3⟩, ⟨a4, a5, a6⟩⟩ := jl
        exact ⟨⟨a1, a2, (x6 50 15 (by omega) (by omega) (by decide) (by decide) (by decide) (by decide) (by omega) (by decide) (by decide) (by decide)).trans a3⟩, ⟨a4, a5, (x6 50 16 (by omega) (by omega) (by decide) (by decide) (by decide) (by decide) (by omega) (by decide) (by decide) (by decide)).trans a6⟩⟩) ((x6 50 6 (by omega) (by omega) (by decide) (by decide) (by decide) (by decide) (by omega) (by decide) (by decide) (by decide)).trans l3) l1 hN zc)⟩
      rintro v f ⟨cf, o2⟩
      rcases o2 with ⟨e', oe', -⟩ | ⟨x', ox', rfl, q1, q2, q3, q4, q5, q6, q7, q8, q9, q10⟩
      · rw [ox] at oe'; cases oe'
      · obtain rfl : x' = x := by rw [ox] at ox'; exact (Except.ok.inj ox').symm
        refine ⟨rfl, ?_⟩
        obtain ⟨g1, g2, g3, g4, g5, g6, g7, g8⟩ := J_city (N := N) (C := CC hc s) j hs k cf
        have jr1 := jr.1
        have bx := px.2.1
        have g60 : 60 ≤ gn f1 := by rw [eg]; exact jh.2.1
        have strk : ∀ p, p < nnC x'.2.1 1 → gI f 52 p = x'.2.1 3 p := fun p hp => by
          rw [(q4 p (by omega)).1]; exact RD.a q3 (a := 2) (by decide) (by decide) (by decide) hp
        obtain ⟨W, H, d1, d2, d3, d4, d5, d6, d7⟩ := px.2.2.1
        have edm : dmF x'.2.1 = W * H := by unfold dmF; rw [d5, d6, pn_nI (by omega), pn_nI (by omega)]
        refine ⟨⟨g1, g2, g3, s, t, ⟨by omega, ?_, ?_, ?_⟩, Or.inr ⟨gn f1, x'.2.1, x'.2.2, q1, q2, fun a i ha => ?_, px, pos, q3, ⟨⟨fun i hi => ?_, fun p hp y h1 h2 => ?_⟩, ⟨0, by decide, ?_, q6, fun k hk => absurd hk (Nat.not_lt_zero k)⟩, ⟨0, by decide, ?_, q7, fun k hk => absurd hk (Nat.not_lt_zero k)⟩⟩⟩⟩, ?_, ?_, ?_⟩
        · rw [g6 0 6 (by decide) (by decide)]; exact r06
        · rw [g6 0 7 (by decide) (by decide)]; exact r07
        · rw [g6 38 0 (by decide) (by decide)]; exact r38
        · rw [g7 (s + a) i (by omega) (by omega) (by omega)]; exact ce a i ha
        · unfold cst
          rcases hi with z | z | z
          · rw [if_pos (by omega), g7 39 i (by decide) (by decide) (by decide), (v39 i (by omega)).1, strk i z]
          · rw [if_neg (by omega), if_pos (by omega), g7 40 _ (by decide) (by decide) (by decide), (v39 (i - 8) (by omega)).2]
            have := (q4 (i - 8) (by omega)).2
            rw [show 8 + (i - 8) = i by omega] at this
            exact this.symm
          · subst z
            rw [if_neg (by omega), if_neg (by omega), g7 38 3 (by decide) (by decide) (by decide), v3, q5]
        · rw [strk p hp]
          rw [edm] at h1
          exact d7 p hp y h1 h2
        · rw [g7 38 7 (by decide) (by decide) (by decide)]; exact v7
        · rw [g7 38 9 (by decide) (by decide) (by decide)]; exact v9
        · rw [g7 0 8 (by decide) (by decide) (by decide), e8]; exact q8
        · rw [g7 0 8 (by decide) (by decide) (by decide), e8, if_neg (by decide)]; exact q9
        · rw [g7 0 9 (by decide) (by decide) (by decide), e9]; exact q10

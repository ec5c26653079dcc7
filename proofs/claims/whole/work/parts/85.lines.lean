/-! LINES OF THE REFERENCE ARE LINES OF THE CLASS -/
section LN
variable {tx : Nat → Int32} {en : Nat} {C : CT} {K : List Nm}
theorem lnB_inv {q k : Nat} {rm : Int32} {b : LR} {x : Nat × CT × List Nm} (h : lnB tx en C q k rm b = .ok x) : C 1 k < rm ∧ ∃ y, b = .ok y ∧ x = (y.1, u2 y.2.1 1 k (y.2.1 1 k + 1), y.2.2) := by
  unfold lnB at h
  by_cases z : C 1 k < rm
  · rw [if_pos z] at h
    obtain ⟨y, h1, h2⟩ := eb_inv h
    exact ⟨z, y, h1, (Except.ok.inj h2).symm⟩
  · rw [if_neg z] at h; cases h
theorem ln_ok (p : PI C K) {q : Nat} {x : Nat × CT × List Nm} (h : lnP tx en C q K = .ok x) : PI x.2.1 x.2.2 ∧ q ≤ x.1 := by
  have hg := nx_ge (tx := tx) (en := en) q
  unfold lnP at h
  by_cases zm : lsF tx en q = -1
  · rw [if_pos zm] at h; cases h
  rw [if_neg zm] at h
  by_cases zz : lsF tx en q = 0
  · rw [if_pos zz] at h; cases h
  rw [if_neg zz] at h
  by_cases z1 : lsF tx en q = nI 1
  · rw [if_pos z1] at h
    obtain ⟨hlt, y, h1, rfl⟩ := lnB_inv h
    have := pi_pan p hlt h1
    exact ⟨this.1, by have h2 : nx tx en q ≤ y.1 := this.2; show q ≤ y.1; omega⟩
  rw [if_neg z1] at h
  by_cases z2 : lsF tx en q = nI 2
  · rw [if_pos z2] at h
    obtain ⟨hlt, y, h1, rfl⟩ := lnB_inv h
    have := pi_wor p hlt h1
    exact ⟨this.1, by have h2 : nx tx en q ≤ y.1 := this.2; show q ≤ y.1; omega⟩
  rw [if_neg z2] at h
  by_cases z3 : lsF tx en q = nI 3
  · rw [if_pos z3] at h
    obtain ⟨hlt, y, h1, rfl⟩ := lnB_inv h
    have := pi_vie p hlt h1
    exact ⟨this.1, by have h2 : nx tx en q ≤ y.1 := this.2; show q ≤ y.1; omega⟩
  rw [if_neg z3] at h
  by_cases z4 : lsF tx en q = nI 4
  · rw [if_pos z4] at h
    obtain ⟨hlt, y, h1, rfl⟩ := lnB_inv h
    have := pi_cor p hlt h1
    exact ⟨this.1, by have h2 : nx tx en q ≤ y.1 := this.2; show q ≤ y.1; omega⟩
  rw [if_neg z4] at h
  by_cases z5 : lsF tx en q = nI 5
  · rw [if_pos z5] at h
    obtain ⟨hlt, y, h1, rfl⟩ := lnB_inv h
    have := pi_str p hlt h1
    exact ⟨this.1, by have h2 : nx tx en q ≤ y.1 := this.2; show q ≤ y.1; omega⟩
  rw [if_neg z5] at h
  by_cases z6 : lsF tx en q = nI 6
  · rw [if_pos z6] at h
    obtain ⟨hlt, y, h1, rfl⟩ := lnB_inv h
    have := pi_thi p hlt h1
    exact ⟨this.1, by have h2 : nx tx en q ≤ y.1 := this.2; show q ≤ y.1; omega⟩
  rw [if_neg z6] at h
  by_cases z7 : lsF tx en q = nI 7
  · rw [if_pos z7] at h
    obtain ⟨hlt, y, h1, rfl⟩ := lnB_inv h
    have := pi_sen p hlt h1
    exact ⟨this.1, by have h2 : nx tx en q ≤ y.1 := this.2; show q ≤ y.1; omega⟩
  rw [if_neg z7] at h
  by_cases z8 : lsF tx en q = nI 8
  · rw [if_pos z8] at h
    obtain ⟨hlt, y, h1, rfl⟩ := lnB_inv h
    have := pi_per p hlt h1
    exact ⟨this.1, by have h2 : nx tx en q ≤ y.1 := this.2; show q ≤ y.1; omega⟩
  rw [if_neg z8] at h
  by_cases z9 : lsF tx en q = nI 9
  · rw [if_pos z9] at h
    obtain ⟨hlt, y, h1, rfl⟩ := lnB_inv h
    have := pi_sha p hlt h1
    exact ⟨this.1, by have h2 : nx tx en q ≤ y.1 := this.2; show q ≤ y.1; omega⟩
  rw [if_neg z9] at h
  by_cases zs : C 1 10 ≤ 0
  · rw [if_pos zs] at h
    obtain ⟨-, y, h1, rfl⟩ := lnB_inv h
    have hlt : C 1 10 < 1 := by
      rw [Int32.lt_iff_toInt_lt]
      have := Int32.le_iff_toInt_le.mp zs
      rw [show (1 : Int32).toInt = 1 from rfl]
      rw [show (0 : Int32).toInt = 0 from rfl] at this
      omega
    have := pi_she p hlt h1
    exact ⟨this.1, by have h2 : nx tx en q ≤ y.1 := this.2; show q ≤ y.1; omega⟩
  · rw [if_neg zs] at h; cases h
theorem lx_b (p : PI C K) {q k m : Nat} (hk : k < 11) (hm : m < 2147483648) (hn : nnC C k ≤ m) (F : Nat → LR) : lxB tx en C q k (nI m) F = lnB tx en C q k (nI m) (F (nx tx en q)) := by
  unfold lxB lnB o1P
  have hb : nnC C k < 2147483648 := by omega
  rw [p.1 k hk]
  by_cases z : nnC C k = m
  · rw [if_pos (by rw [z]), if_neg (nI_nlt (by omega) hb)]; rfl
  · rw [if_neg (fun y => z ((nI_eqN hb hm).mp y)), if_neg p.w0, if_pos (nI_lt (by omega) hm)]; rfl
theorem ls_v (q : Nat) : lsF tx en q = -1 ∨ lsF tx en q = 0 ∨ lsF tx en q = 1 ∨ lsF tx en q = 2 ∨ lsF tx en q = 3 ∨ lsF tx en q = 4 ∨ lsF tx en q = 5 ∨ lsF tx en q = 6 ∨ lsF tx en q = 7 ∨ lsF tx en q = 8 ∨ lsF tx en q = 9 ∨ lsF tx en q = 10 := by
  unfold lsF
  repeat' split
  all_goals decide
theorem lx_ln (p : PI C K) (q : Nat) : lxP tx en C q K = lnP tx en C q K := by
  have hb := p.2.1
  have n6 := p.n6
  rcases ls_v (tx := tx) (en := en) q with z | z | z | z | z | z | z | z | z | z | z | z
  · rw [lx_n z]; unfold lnP; rw [if_pos z]
  · rw [lx_0 z]
    obtain ⟨W, H, h1, h2, h3, h4, h5, h6, h7⟩ := p.2.2.1
    rw [if_neg (by rw [h5]; exact nI_nle (by omega) (by omega))]
    unfold lnP; rw [z, if_neg (by decide), if_pos rfl]
  · rw [lx_1 z]
    unfold lnP; rw [z, if_neg (by decide), if_neg (by decide), if_pos (show (1 : Int32) = nI 1 from rfl)]
    exact lx_b (m := 8) p (by decide) (by decide) (by omega) _
  · rw [lx_2 z]
    unfold lnP; rw [z, if_neg (by decide), if_neg (by decide), if_neg (by decide), if_pos (show (2 : Int32) = nI 2 from rfl)]
    exact lx_b (m := 8) p (by decide) (by decide) (by omega) _
  · rw [lx_3 z]
    unfold lnP; rw [z, if_neg (by decide), if_neg (by decide), if_neg (by decide), if_neg (by decide), if_pos (show (3 : Int32) = nI 3 from rfl)]
    exact lx_b (m := 6) p (by decide) (by decide) (by omega) _
  · rw [lx_4 z]
    unfold lnP; rw [z, if_neg (by decide), if_neg (by decide), if_neg (by decide), if_neg (by decide), if_neg (by decide), if_pos (show (4 : Int32) = nI 4 from rfl)]
    exact lx_b (m := 7) p (by decide) (by decide) (by omega) _
  · rw [lx_5 z]
    unfold lnP; rw [z, if_neg (by decide), if_neg (by decide), if_neg (by decide), if_neg (by decide), if_neg (by decide), if_neg (by decide), if_pos (show (5 : Int32) = nI 5 from rfl)]
    exact lx_b (m := 12) p (by decide) (by decide) (by omega) _
  · rw [lx_6 z]
    unfold lnP; rw [z, if_neg (by decide), if_neg (by decide), if_neg (by decide), if_neg (by decide), if_neg (by decide), if_neg (by decide), if_neg (by decide), if_pos (show (6 : Int32) = nI 6 from rfl)]
    unfold osP lnB
    rw [if_neg (by decide), if_neg p.w0, if_pos (show C 1 6 < 1100 by rw [p.1 6 (by decide)]; exact nI_lt (b := 1100) (by omega) (by decide))]
    rfl
  · rw [lx_7 z]
    unfold lnP; rw [z, if_neg (by decide), if_neg (by decide), if_neg (by decide), if_neg (by decide), if_neg (by decide), if_neg (by decide), if_neg (by decide), if_neg (by decide), if_pos (show (7 : Int32) = nI 7 from rfl)]
    exact lx_b (m := 6) p (by decide) (by decide) (by omega) _
  · rw [lx_8 z]
    unfold lnP; rw [z, if_neg (by decide), if_neg (by decide), if_neg (by decide), if_neg (by decide), if_neg (by decide), if_neg (by decide), if_neg (by decide), if_neg (by decide), if_neg (by decide), if_pos (show (8 : Int32) = nI 8 from rfl)]
    exact lx_b (m := 4) p (by decide) (by decide) (by omega) _
  · rw [lx_9 z]
    unfold lnP; rw [z, if_neg (by decide), if_neg (by decide), if_neg (by decide), if_neg (by decide), if_neg (by decide), if_neg (by decide), if_neg (by decide), if_neg (by decide), if_neg (by decide), if_neg (by decide), if_pos (show (9 : Int32) = nI 9 from rfl)]
    exact lx_b (m := 8) p (by decide) (by decide) (by omega) _
  · rw [lx_10 z, show lnP tx en C q K = (if C 1 10 ≤ 0 then lnB tx en C q 10 1100 (sheP tx en C (nx tx en q) K) else er tx en 3 q) from by
      unfold lnP; rw [z, if_neg (by decide), if_neg (by decide), if_neg (by decide), if_neg (by decide), if_neg (by decide), if_neg (by decide), if_neg (by decide), if_neg (by decide), if_neg (by decide), if_neg (by decide), if_neg (by decide)]]
    have c10 := p.1 10 (by decide)
    by_cases u : C 1 10 = 0
    · rw [if_pos u, if_pos (by rw [u]; decide)]
      unfold osP lnB
      rw [if_neg (by decide), if_neg p.w0, if_pos (by rw [u]; decide)]
      rfl
    · have hle : ¬ C 1 10 ≤ 0 := fun y => by
        have hz : nnC C 10 = 0 := by
          rcases Nat.eq_zero_or_pos (nnC C 10) with v | v
          · exact v
          · rw [c10] at y; exact absurd y (nI_nle v (by omega))
        exact u (by rw [c10, hz]; rfl)
      rw [if_neg u, if_neg hle]
theorem zc_n (z : ZC C) {k : Nat} (hk : k < 11) : nnC C k = 0 := by
  show pn (C 1 k) = 0
  rw [z.1 k hk]; rfl
theorem fir_ok (z : ZC C) {x : Nat × CT × List Nm} (h : firP tx en C 0 [] = .ok x) : PI x.2.1 x.2.2 ∧ 1 ≤ x.1 := by
  unfold firP at h
  by_cases zm : lsF tx en 0 = -1
  · rw [if_pos zm] at h; cases h
  rw [if_neg zm] at h
  by_cases z0 : lsF tx en 0 = 0
  · rw [if_pos z0] at h
    unfold cityP at h
    obtain ⟨q1, a1, h⟩ := eb_inv h
    obtain ⟨m1, a2, h⟩ := eb_inv h
    obtain ⟨q2, a3, h⟩ := eb_inv h
    obtain ⟨m2, a4, h⟩ := eb_inv h
    obtain ⟨q3, a5, h⟩ := eb_inv h
    obtain ⟨m3, a6, h⟩ := eb_inv h
    obtain ⟨q4, a7, h⟩ := eb_inv h
    obtain ⟨m4, a8, h⟩ := eb_inv h
    cases h
    have f1 := fx_ok a1
    have f3 := fx_ok a3
    have f5 := fx_ok a5
    have f7 := fx_ok a7
    obtain ⟨g1, g2, g3⟩ := nwP_ok a2
    obtain ⟨g4, g5, g6⟩ := nwP_ok a4
    obtain ⟨g7, g8, g9⟩ := nwP_ok a6
    obtain ⟨g10, g11, g12⟩ := nwP_ok a8
    obtain ⟨W, w1, w2, w3⟩ := nwN (lo := 2) (hi := 5) (by decide) g2 g3 (by decide)
    obtain ⟨H, u1', u2', u3⟩ := nwN (lo := 2) (hi := 4) (by decide) g5 g6 (by decide)
    have hc : ¬ isP tx en 0 0 = 0 := fun y => by
      rw [show lsF tx en 0 = _ from if_pos y] at z0
      revert z0
      repeat' split
      all_goals first | (intro q; exact absurd q (by decide))
    have ht1 := isP_1 hc
    have hl : 1 ≤ nx tx en 0 := by
      have h0 := (tkS_1 ht1).1
      have := (rnF_le tx en (tkP tx en 0) 1 (en - (tkP tx en 0 + 1)) 1).1
      unfold nx tkL
      rw [if_pos (Or.inl h0), h0]
      omega
    have k1 := nx_ge (tx := tx) (en := en) (nx tx en 0)
    have k2 := nx_ge (tx := tx) (en := en) q1
    have k3 := nx_ge (tx := tx) (en := en) m1.2
    have k4 := nx_ge (tx := tx) (en := en) q2
    have k5 := nx_ge (tx := tx) (en := en) m2.2
    have k6 := nx_ge (tx := tx) (en := en) q3
    have k7 := nx_ge (tx := tx) (en := en) m3.2
    have k8 := nx_ge (tx := tx) (en := en) q4
    refine ⟨?_, by show 1 ≤ m4.2; omega⟩
    have e1 : ∀ j, u2 (u2 (u2 (u2 C 0 1 m1.1) 0 2 m2.1) 0 3 m3.1) 0 4 m4.1 1 j = C 1 j := fun j => rfl
    have en' : ∀ k, k < 11 → nnC (u2 (u2 (u2 (u2 C 0 1 m1.1) 0 2 m2.1) 0 3 m3.1) 0 4 m4.1) k = 0 := fun k hk => zc_n z hk
    show PI (u2 (u2 (u2 (u2 C 0 1 m1.1) 0 2 m2.1) 0 3 m3.1) 0 4 m4.1) []
    refine ⟨fun k hk => ?_, ?_, ⟨W, H, w1, w2, u1', u2', w3, u3, fun p hp => ?_⟩, ?_, fun x hx => (by cases hx), fun j hj => ⟨⟨0, by decide, z.2.1 j hj⟩, ⟨0, by decide, z.2.2.1 j hj⟩⟩, fun x hx => ?_, fun L hL => ?_, ⟨fun j _ _ => ?_, ?_⟩, fun y => absurd (z.1 10 (by decide)) y⟩
    · rw [en' k hk]; exact z.1 k hk
    · rw [en' 1 (by decide), en' 2 (by decide), en' 3 (by decide), en' 4 (by decide), en' 5 (by decide), en' 7 (by decide), en' 8 (by decide), en' 9 (by decide), en' 10 (by decide), en' 0 (by decide)]; decide
    · rw [en' 1 (by decide)] at hp; omega
    · rw [en' 1 (by decide), en' 2 (by decide), en' 3 (by decide), en' 4 (by decide), en' 8 (by decide)]; rfl
    · rw [en' 4 (by decide)] at hx; omega
    · rw [en' 7 (by decide)] at hL; omega
    · have e13 : u2 (u2 (u2 (u2 C 0 1 m1.1) 0 2 m2.1) 0 3 m3.1) 0 4 m4.1 0 13 = 0 := z.2.2.2.2.2.2.2.2
      rw [e13]; exact bt_0 j
    · have e13 : u2 (u2 (u2 (u2 C 0 1 m1.1) 0 2 m2.1) 0 3 m3.1) 0 4 m4.1 0 13 = 0 := z.2.2.2.2.2.2.2.2
      rw [e13, en' 6 (by decide)]
      have : ∀ n, pcB (bt 0) n = 0 := by
        intro n
        induction n with
        | zero => rfl
        | succ n ih => show pcB (bt 0) n + _ = 0; rw [ih, bt_0]; rfl
      exact (this 32).symm
  · rw [if_neg z0] at h; cases h
theorem zc_w (z : ZC C) : WI C [] (nnC C) := by
  refine ⟨fun k hk => by rw [zc_n z hk]; exact z.1 k hk, ?_, ?_, fun x hx => (by cases hx), ⟨0, by decide, z.2.2.2.2.1⟩⟩
  · rw [zc_n z (k := 1) (by decide), zc_n z (k := 2) (by decide), zc_n z (k := 3) (by decide), zc_n z (k := 4) (by decide), zc_n z (k := 5) (by decide), zc_n z (k := 6) (by decide), zc_n z (k := 7) (by decide), zc_n z (k := 8) (by decide), zc_n z (k := 9) (by decide), zc_n z (k := 10) (by decide)]; decide
  · rw [zc_n z (k := 1) (by decide), zc_n z (k := 2) (by decide), zc_n z (k := 3) (by decide), zc_n z (k := 4) (by decide), zc_n z (k := 8) (by decide)]; rfl
theorem zc_o (z : ZC C) {q k : Nat} {rm : Int32} (hk : k < 11) (hr : ¬ (0 : Int32) = rm) (F : Nat → LR) : lxB tx en C q k rm F = er tx en 6 q := by
  unfold lxB o1P
  rw [z.1 k hk, if_neg hr, if_pos z.2.2.2.1]; rfl
theorem lx_fi (z : ZC C) (q : Nat) : lxP tx en C q [] = firP tx en C q [] := by
  unfold firP
  rcases ls_v (tx := tx) (en := en) q with y | y | y | y | y | y | y | y | y | y | y | y
  · rw [lx_n y, if_pos y]
  · rw [lx_0 y, if_pos (by rw [z.2.2.2.1]; decide), if_neg (by rw [y]; decide), if_pos y]
  · rw [lx_1 y, if_neg (by rw [y]; decide), if_neg (by rw [y]; decide)]; exact zc_o z (by decide) (by decide) _
  · rw [lx_2 y, if_neg (by rw [y]; decide), if_neg (by rw [y]; decide)]; exact zc_o z (by decide) (by decide) _
  · rw [lx_3 y, if_neg (by rw [y]; decide), if_neg (by rw [y]; decide)]; exact zc_o z (by decide) (by decide) _
  · rw [lx_4 y, if_neg (by rw [y]; decide), if_neg (by rw [y]; decide)]; exact zc_o z (by decide) (by decide) _
  · rw [lx_5 y, if_neg (by rw [y]; decide), if_neg (by rw [y]; decide)]; exact zc_o z (by decide) (by decide) _
  · rw [lx_6 y, if_neg (by rw [y]; decide), if_neg (by rw [y]; decide)]
    unfold osP
    rw [if_neg (by decide), if_pos z.2.2.2.1]; rfl
  · rw [lx_7 y, if_neg (by rw [y]; decide), if_neg (by rw [y]; decide)]; exact zc_o z (by decide) (by decide) _
  · rw [lx_8 y, if_neg (by rw [y]; decide), if_neg (by rw [y]; decide)]; exact zc_o z (by decide) (by decide) _
  · rw [lx_9 y, if_neg (by rw [y]; decide), if_neg (by rw [y]; decide)]; exact zc_o z (by decide) (by decide) _
  · rw [lx_10 y, if_pos (z.1 10 (by decide)), if_neg (by rw [y]; decide), if_neg (by rw [y]; decide)]
    unfold osP
    rw [if_neg (by decide), if_pos z.2.2.2.1]; rfl
end LN

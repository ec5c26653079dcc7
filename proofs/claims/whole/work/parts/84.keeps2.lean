/-! STREETS KEEP THE INVARIANT -/
section PL
variable {tx : Nat → Int32} {en : Nat} {C : CT} {K : List Nm}
def s4F (C : CT) (i1 i2 : Nat) (m r : Int32) : CT := u2 (u2 (u2 (u2 C 7 i1 m) 7 i2 m) 8 i1 r) 8 i2 r
theorem s4_o {i1 i2 : Nat} {m r : Int32} {a : Nat} (h7 : ¬ a = 7) (h8 : ¬ a = 8) : s4F C i1 i2 m r a = C a := by
  unfold s4F
  rw [u2_na _ _ _ h8, u2_na _ _ _ h8, u2_na _ _ _ h7, u2_na _ _ _ h7]
theorem s4_7 {i1 i2 : Nat} {m r : Int32} {j : Nat} : s4F C i1 i2 m r 7 j = m ∨ s4F C i1 i2 m r 7 j = C 7 j := by
  unfold s4F
  rw [u2_na _ _ _ (show ¬ (7 : Nat) = 8 by decide), u2_na _ _ _ (show ¬ (7 : Nat) = 8 by decide)]
  by_cases z1 : j = i2
  · rw [z1, u2_s]; exact Or.inl rfl
  · rw [u2_n _ _ (fun v => z1 v.2)]
    by_cases z2 : j = i1
    · rw [z2, u2_s]; exact Or.inl rfl
    · rw [u2_n _ _ (fun v => z2 v.2)]; exact Or.inr rfl
theorem s4_8 {i1 i2 : Nat} {m r : Int32} {j : Nat} : s4F C i1 i2 m r 8 j = r ∨ s4F C i1 i2 m r 8 j = C 8 j := by
  unfold s4F
  by_cases z1 : j = i2
  · rw [z1, u2_s]; exact Or.inl rfl
  · rw [u2_n _ _ (fun v => z1 v.2)]
    by_cases z2 : j = i1
    · rw [z2, u2_s]; exact Or.inl rfl
    · rw [u2_n _ _ (fun v => z2 v.2), u2_na _ _ _ (show ¬ (8 : Nat) = 7 by decide), u2_na _ _ _ (show ¬ (8 : Nat) = 7 by decide)]; exact Or.inr rfl
theorem pi_s4 (p : PI C K) (hlt : nnC C 5 < 12) {i1 i2 mn rn : Nat} (hm : mn ≤ 99) (hr : rn ≤ 50) : PI (u2 (s4F C i1 i2 (nI mn) (nI rn)) 1 5 (s4F C i1 i2 (nI mn) (nI rn) 1 5 + 1)) K := by
  have r := p.r
  have hb := p.2.1
  have e0 : s4F C i1 i2 (nI mn) (nI rn) 0 = C 0 := s4_o (by decide) (by decide)
  have e3 : s4F C i1 i2 (nI mn) (nI rn) 3 = C 3 := s4_o (by decide) (by decide)
  have e6 : s4F C i1 i2 (nI mn) (nI rn) 6 = C 6 := s4_o (by decide) (by decide)
  have e9 : s4F C i1 i2 (nI mn) (nI rn) 9 = C 9 := s4_o (by decide) (by decide)
  have e10 : s4F C i1 i2 (nI mn) (nI rn) 10 = C 10 := s4_o (by decide) (by decide)
  have e11 : s4F C i1 i2 (nI mn) (nI rn) 11 = C 11 := s4_o (by decide) (by decide)
  refine PI_up (k := 5) p (by decide) (fun j => congrFun (s4_o (by decide) (by decide)) j) ?_
  unfold PIr
  rw [e0, e3, e6, e9, e10, e11]
  refine ⟨by show nnC C 1 ≤ 8 ∧ nnC C 2 ≤ 8 ∧ nnC C 3 ≤ 6 ∧ nnC C 4 ≤ 7 ∧ nnC C 5 + 1 ≤ 12 ∧ nnC C 7 ≤ 6 ∧ nnC C 8 ≤ 4 ∧ nnC C 9 ≤ 8 ∧ nnC C 10 ≤ 1 ∧ nnC C 0 = 0; omega, r.2.1, r.2.2.1, (fun x hx => nb_w (r.2.2.2.1 x hx)), fun j hj => ?_, r.2.2.2.2.2.1, r.2.2.2.2.2.2.1, r.2.2.2.2.2.2.2.1, r.2.2.2.2.2.2.2.2⟩
  obtain ⟨⟨m0, g1, g2⟩, ⟨r0, g3, g4⟩⟩ := r.2.2.2.2.1 j hj
  constructor
  · rcases s4_7 (C := C) (i1 := i1) (i2 := i2) (m := nI mn) (r := nI rn) (j := j) with z | z
    · exact ⟨mn, hm, z⟩
    · exact ⟨m0, g1, z.trans g2⟩
  · rcases s4_8 (C := C) (i1 := i1) (i2 := i2) (m := nI mn) (r := nI rn) (j := j) with z | z
    · exact ⟨rn, hr, z⟩
    · exact ⟨r0, g3, z.trans g4⟩
theorem pi_str (p : PI C K) {q : Nat} {y : Nat × CT × List Nm} (hlt : C 1 5 < 12) (h : strP tx en C q K = .ok y) : PI (u2 y.2.1 1 5 (y.2.1 1 5 + 1)) y.2.2 ∧ q ≤ y.1 := by
  have hlt := p.lt (m := 12) (by decide) (by decide) hlt
  obtain ⟨a, h1, h2⟩ := eb_inv h
  obtain ⟨b, h3, h4⟩ := eb_inv h2
  have hg := nx_ge (tx := tx) (en := en) q
  have hg2 := nx_ge (tx := tx) (en := en) (nx tx en q)
  have hg3 := nx_ge (tx := tx) (en := en) (nx tx en (nx tx en q))
  by_cases u1 : b = a
  · rw [if_pos u1] at h4; cases h4
  rw [if_neg u1] at h4
  by_cases v : C 7 (pn a * 7 + pn b) ≤ 0
  · rw [if_pos v] at h4
    obtain ⟨m, m1, h5⟩ := eb_inv h4
    obtain ⟨q4, m2, h6⟩ := eb_inv h5
    obtain ⟨rr, m3, h7⟩ := eb_inv h6
    obtain ⟨e1, e2, e3⟩ := nwP_ok m1
    have e4 := fx_ok m2
    obtain ⟨e5, e6, e7⟩ := nwP_ok m3
    obtain ⟨mn, v1, v2, v3⟩ := nwN (lo := 1) (hi := 99) (by decide) e2 e3 (by decide)
    obtain ⟨rn, x1, x2, x3⟩ := nwN (lo := 0) (hi := 50) (by decide) e6 e7 (by decide)
    have hg4 := nx_ge (tx := tx) (en := en) m.2
    have hg5 := nx_ge (tx := tx) (en := en) q4
    have h8 : (rr.2, s4F C (pn a * 7 + pn b) (pn b * 7 + pn a) m.1 rr.1, K) = y := Except.ok.inj h7
    rw [v3, x3] at h8
    rw [← h8]
    exact ⟨pi_s4 p hlt v2 x2, by show q ≤ rr.2; omega⟩
  · rw [if_neg v] at h4; cases h4
end PL

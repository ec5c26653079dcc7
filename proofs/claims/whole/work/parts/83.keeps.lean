/-! EACH LINE KEEPS THE INVARIANT -/
section PL
variable {tx : Nat → Int32} {en : Nat} {C : CT} {K : List Nm}
theorem nb_w {nn : Nat → Nat} {k : Nat} {x : Nm} (h : NBp nn x) : NBp (u1 nn k (nn k + 1)) x := by
  obtain ⟨k', n, h1, h2, h3, h4⟩ := h
  refine ⟨k', n, h1, h2, h3, ?_⟩
  by_cases z : k' = k
  · subst z; rw [u1_s]; omega
  · rw [u1_n _ _ z]; exact h4
theorem nb_add {nn : Nat → Nat} {k : Nat} (hk : k = 1 ∨ k = 2 ∨ k = 3 ∨ k = 4 ∨ k = 8) (hK : ∀ x ∈ K, NBp nn x) (key : Int64) : ∀ x ∈ K ++ [(key, nI k, nI (nn k))], NBp (u1 nn k (nn k + 1)) x := by
  intro x hx
  rcases List.mem_append.mp hx with z | z
  · exact nb_w (hK x z)
  · rw [List.mem_singleton.mp z]
    exact ⟨k, nn k, hk, rfl, rfl, by rw [u1_s]; omega⟩
theorem PI.lt (p : PI C K) {k m : Nat} (hk : k < 11) (hm : m < 2147483648) (h : C 1 k < nI m) : nnC C k < m := by
  rw [p.1 k hk] at h
  obtain ⟨n, hn, e⟩ := p.cb.1 k hk
  have : nnC C k = n := by show pn (C 1 k) = n; rw [e, pn_nI (by omega)]
  exact (nI_ltI (by omega) hm).mp h
theorem kn_nb (p : PI C K) {q so : Nat} {v : Int32} (hso : so < 11) (h : knP tx en q K (nI so) = .ok v) : ∃ n, n < nnC C so ∧ v = nI n := by
  obtain ⟨_, x, hx, e1, e2⟩ := kn_mem h
  obtain ⟨k, n, hk, e3, e4, hn⟩ := p.2.2.2.2.1 x hx
  have : k = so := (nI_eqN (by omega) (by omega)).mp (e3.symm.trans e1)
  subst this
  exact ⟨n, hn, e2.symm.trans e4⟩
theorem p33 (p : PI C K) {k : Nat} (h : nnC C 1 + nnC C 2 + nnC C 3 + nnC C 4 + nnC C 8 < 33) : K.length < 33 := by
  have := p.2.2.2.1
  omega
theorem pi_wor (p : PI C K) {q : Nat} {y : Nat × CT × List Nm} (hlt : C 1 2 < 8) (h : worP tx en C q K = .ok y) : PI (u2 y.2.1 1 2 (y.2.1 1 2 + 1)) y.2.2 ∧ q ≤ y.1 := by
  have r := p.r
  have hb := p.2.1
  have hlt := p.lt (m := 8) (by decide) (by decide) hlt
  have ck := p.1 2 (by decide)
  have hkl : K.length < 33 := p33 p (k := 0) (by omega)
  obtain ⟨x, h1, h2⟩ := eb_inv h
  obtain ⟨z, h3, h4⟩ := eb_inv h2
  obtain ⟨e1, key, e2⟩ := nm_ok h1
  cases h4
  obtain ⟨W, H, w1, w2, w3, w4, w5, w6, w7⟩ := r.2.1
  unfold roP at h3
  rw [w5, w6, pn_nI (by omega)] at h3
  have hro := rs_ok (tx := tx) (en := en) w2 w4 0 H 0 x.1 0 0 z (by omega) h3 (fun b _ _ => bt_0 b)
  have hg := nx_ge (tx := tx) (en := en) q
  rw [ad_lt hkl] at e2
  rw [e2]
  refine ⟨PI_up (k := 2) p (by decide) (fun j => rfl) ⟨by show nnC C 1 ≤ 8 ∧ nnC C 2 + 1 ≤ 8 ∧ nnC C 3 ≤ 6 ∧ nnC C 4 ≤ 7 ∧ nnC C 5 ≤ 12 ∧ nnC C 7 ≤ 6 ∧ nnC C 8 ≤ 4 ∧ nnC C 9 ≤ 8 ∧ nnC C 10 ≤ 1 ∧ nnC C 0 = 0; omega, r.2.1, (by show _ = nnC C 1 + nnC C 2 + 1 + nnC C 3 + nnC C 4 + nnC C 8; rw [List.length_append, show ∀ x : Nm, [x].length = 1 from fun _ => rfl]; have := r.2.2.1; omega), (by rw [ck]; exact nb_add (by decide) r.2.2.2.1 key), r.2.2.2.2.1, r.2.2.2.2.2.1, r.2.2.2.2.2.2.1, r.2.2.2.2.2.2.2.1, r.2.2.2.2.2.2.2.2⟩, by show q ≤ z.1; omega⟩
theorem pi_vie (p : PI C K) {q : Nat} {y : Nat × CT × List Nm} (hlt : C 1 3 < 6) (h : vieP tx en C q K = .ok y) : PI (u2 y.2.1 1 3 (y.2.1 1 3 + 1)) y.2.2 ∧ q ≤ y.1 := by
  have r := p.r
  have hb := p.2.1
  have hlt := p.lt (m := 6) (by decide) (by decide) hlt
  have ck := p.1 3 (by decide)
  have hkl : K.length < 33 := p33 p (k := 0) (by omega)
  obtain ⟨x, h1, h2⟩ := eb_inv h
  obtain ⟨z, h3, h4⟩ := eb_inv h2
  obtain ⟨e1, key, e2⟩ := nm_ok h1
  cases h4
  obtain ⟨W, H, w1, w2, w3, w4, w5, w6, w7⟩ := r.2.1
  unfold roP at h3
  rw [w5, w6, pn_nI (by omega)] at h3
  have hro := rs_ok (tx := tx) (en := en) w2 w4 0 H 0 x.1 0 0 z (by omega) h3 (fun b _ _ => bt_0 b)
  have hg := nx_ge (tx := tx) (en := en) q
  rw [ad_lt hkl] at e2
  rw [e2]
  refine ⟨PI_up (k := 3) p (by decide) (fun j => rfl) ⟨by show nnC C 1 ≤ 8 ∧ nnC C 2 ≤ 8 ∧ nnC C 3 + 1 ≤ 6 ∧ nnC C 4 ≤ 7 ∧ nnC C 5 ≤ 12 ∧ nnC C 7 ≤ 6 ∧ nnC C 8 ≤ 4 ∧ nnC C 9 ≤ 8 ∧ nnC C 10 ≤ 1 ∧ nnC C 0 = 0; omega, r.2.1, (by show _ = nnC C 1 + nnC C 2 + nnC C 3 + 1 + nnC C 4 + nnC C 8; rw [List.length_append, show ∀ x : Nm, [x].length = 1 from fun _ => rfl]; have := r.2.2.1; omega), (by rw [ck]; exact nb_add (by decide) r.2.2.2.1 key), r.2.2.2.2.1, (fun x hx => by obtain ⟨v, h1, h2⟩ := r.2.2.2.2.2.1 x hx; exact ⟨v, Nat.lt_succ_of_lt h1, h2⟩), r.2.2.2.2.2.2.1, r.2.2.2.2.2.2.2.1, r.2.2.2.2.2.2.2.2⟩, by show q ≤ z.1; omega⟩
theorem pi_pan (p : PI C K) {q : Nat} {y : Nat × CT × List Nm} (hlt : C 1 1 < 8) (h : panP tx en C q K = .ok y) : PI (u2 y.2.1 1 1 (y.2.1 1 1 + 1)) y.2.2 ∧ q ≤ y.1 := by
  have r := p.r
  have hb := p.2.1
  have hlt := p.lt (m := 8) (by decide) (by decide) hlt
  have ck := p.1 1 (by decide)
  have hkl : K.length < 33 := p33 p (k := 0) (by omega)
  obtain ⟨x, h1, h2⟩ := eb_inv h
  obtain ⟨y, h3, h4⟩ := eb_inv h2
  obtain ⟨z, h5, h6⟩ := eb_inv h4
  obtain ⟨e1, key, e2⟩ := nm_ok h1
  have e3 := kd_ok h3
  cases h6
  obtain ⟨W, H, w1, w2, w3, w4, w5, w6, w7⟩ := r.2.1
  unfold roP at h5
  rw [w5, w6, pn_nI (by omega)] at h5
  have hro := rs_ok (tx := tx) (en := en) w2 w4 0 H 0 y.2 0 0 z (by omega) h5 (fun b _ _ => bt_0 b)
  have hg := nx_ge (tx := tx) (en := en) q
  have hg2 := nx_ge (tx := tx) (en := en) x.1
  rw [ad_lt hkl] at e2
  rw [e2]
  refine ⟨PI_up (k := 1) p (by decide) (fun j => rfl) ⟨by show nnC C 1 + 1 ≤ 8 ∧ nnC C 2 ≤ 8 ∧ nnC C 3 ≤ 6 ∧ nnC C 4 ≤ 7 ∧ nnC C 5 ≤ 12 ∧ nnC C 7 ≤ 6 ∧ nnC C 8 ≤ 4 ∧ nnC C 9 ≤ 8 ∧ nnC C 10 ≤ 1 ∧ nnC C 0 = 0; omega, ⟨W, H, w1, w2, w3, w4, w5, w6, ?_⟩, (by show _ = nnC C 1 + 1 + nnC C 2 + nnC C 3 + nnC C 4 + nnC C 8; rw [List.length_append, show ∀ x : Nm, [x].length = 1 from fun _ => rfl]; have := r.2.2.1; omega), (by rw [ck]; exact nb_add (by decide) r.2.2.2.1 key), r.2.2.2.2.1, r.2.2.2.2.2.1, (fun L hL => by obtain ⟨a, b, c', h1, h2, h3, h4⟩ := r.2.2.2.2.2.2.1 L hL; exact ⟨a, b, c', Nat.lt_succ_of_lt h1, h2, h3, h4⟩), r.2.2.2.2.2.2.2.1, r.2.2.2.2.2.2.2.2⟩, by show q ≤ z.1; omega⟩
  intro p2 hp2 j h1 h2
  show bt (u2 (u2 C 2 (pn (C 1 1)) y.1) 3 (pn (C 1 1)) z.2.1 3 p2) j = false
  by_cases u : p2 = pn (C 1 1)
  · rw [u, u2_s]; exact hro.2 j h1 h2
  · rw [u2_n _ _ (fun v => u v.2), u2_n _ _ (fun v => absurd v.1 (by decide))]
    have hp3 : p2 < nnC C 1 + 1 := hp2
    exact w7 p2 (by show p2 < pn (C 1 1); have hp4 : p2 < pn (C 1 1) + 1 := hp3; omega) j h1 h2
theorem pi_per (p : PI C K) {q : Nat} {y : Nat × CT × List Nm} (hlt : C 1 8 < 4) (h : perP tx en C q K = .ok y) : PI (u2 y.2.1 1 8 (y.2.1 1 8 + 1)) y.2.2 ∧ q ≤ y.1 := by
  have r := p.r
  have hb := p.2.1
  have hlt := p.lt (m := 4) (by decide) (by decide) hlt
  have ck := p.1 8 (by decide)
  have hkl : K.length < 33 := p33 p (k := 0) (by omega)
  obtain ⟨x, h1, h2⟩ := eb_inv h
  obtain ⟨e1, key, e2⟩ := nm_ok h1
  cases h2
  have hg := nx_ge (tx := tx) (en := en) q
  rw [ad_lt hkl] at e2
  rw [e2]
  refine ⟨PI_up (k := 8) p (by decide) (fun j => rfl) ⟨by show nnC C 1 ≤ 8 ∧ nnC C 2 ≤ 8 ∧ nnC C 3 ≤ 6 ∧ nnC C 4 ≤ 7 ∧ nnC C 5 ≤ 12 ∧ nnC C 7 ≤ 6 ∧ nnC C 8 + 1 ≤ 4 ∧ nnC C 9 ≤ 8 ∧ nnC C 10 ≤ 1 ∧ nnC C 0 = 0; omega, r.2.1, (by show _ = nnC C 1 + nnC C 2 + nnC C 3 + nnC C 4 + nnC C 8 + 1; rw [List.length_append, show ∀ x : Nm, [x].length = 1 from fun _ => rfl]; have := r.2.2.1; omega), (by rw [ck]; exact nb_add (by decide) r.2.2.2.1 key), r.2.2.2.2.1, r.2.2.2.2.2.1, r.2.2.2.2.2.2.1, r.2.2.2.2.2.2.2.1, r.2.2.2.2.2.2.2.2⟩, by show q ≤ x.1; omega⟩
theorem pi_cor (p : PI C K) {q : Nat} {y : Nat × CT × List Nm} (hlt : C 1 4 < 7) (h : corP tx en C q K = .ok y) : PI (u2 y.2.1 1 4 (y.2.1 1 4 + 1)) y.2.2 ∧ q ≤ y.1 := by
  have r := p.r
  have hb := p.2.1
  have hlt := p.lt (m := 7) (by decide) (by decide) hlt
  have ck := p.1 4 (by decide)
  have hkl : K.length < 33 := p33 p (k := 0) (by omega)
  obtain ⟨x, h1, h2⟩ := eb_inv h
  obtain ⟨v, h3, h4⟩ := eb_inv h2
  obtain ⟨e1, key, e2⟩ := nm_ok h1
  cases h4
  have hg := nx_ge (tx := tx) (en := en) q
  have hg2 := nx_ge (tx := tx) (en := en) x.1
  rw [ad_lt hkl] at e2
  rw [e2] at h3
  rw [kn_ad (x := (key, nI 4, C 1 4)) (by show ¬ nI 4 = 3; decide)] at h3
  obtain ⟨vn, hv, rfl⟩ := kn_nb p (so := 3) (by decide) h3
  rw [e2]
  refine ⟨PI_up (k := 4) p (by decide) (fun j => rfl) ⟨by show nnC C 1 ≤ 8 ∧ nnC C 2 ≤ 8 ∧ nnC C 3 ≤ 6 ∧ nnC C 4 + 1 ≤ 7 ∧ nnC C 5 ≤ 12 ∧ nnC C 7 ≤ 6 ∧ nnC C 8 ≤ 4 ∧ nnC C 9 ≤ 8 ∧ nnC C 10 ≤ 1 ∧ nnC C 0 = 0; omega, r.2.1, (by show _ = nnC C 1 + nnC C 2 + nnC C 3 + nnC C 4 + 1 + nnC C 8; rw [List.length_append, show ∀ x : Nm, [x].length = 1 from fun _ => rfl]; have := r.2.2.1; omega), (by rw [ck]; exact nb_add (by decide) r.2.2.2.1 key), r.2.2.2.2.1, (fun x5 hx => by
    show ∃ v5, v5 < nnC C 3 ∧ u2 C 6 (pn (C 1 4)) (nI vn) 6 x5 = nI v5
    by_cases u : x5 = pn (C 1 4)
    · rw [u, u2_s]; exact ⟨vn, hv, rfl⟩
    · rw [u2_n _ _ (fun v => u v.2)]
      have hx3 : x5 < pn (C 1 4) + 1 := hx
      exact r.2.2.2.2.2.1 x5 (by show x5 < pn (C 1 4); omega)), (fun L hL => by obtain ⟨a, b, c', h1, h2, h3, h4⟩ := r.2.2.2.2.2.2.1 L hL; exact ⟨a, b, c', h1, Nat.lt_succ_of_lt h2, Nat.lt_succ_of_lt h3, h4⟩), ⟨fun j h1 h2 => r.2.2.2.2.2.2.2.1.1 j (Nat.le_of_succ_le h1) h2, r.2.2.2.2.2.2.2.1.2⟩, r.2.2.2.2.2.2.2.2⟩, by show q ≤ nx tx en x.1; omega⟩
theorem pi_sen (p : PI C K) {q : Nat} {y : Nat × CT × List Nm} (hlt : C 1 7 < 6) (h : senP tx en C q K = .ok y) : PI (u2 y.2.1 1 7 (y.2.1 1 7 + 1)) y.2.2 ∧ q ≤ y.1 := by
  have r := p.r
  have hb := p.2.1
  have hlt := p.lt (m := 6) (by decide) (by decide) hlt
  have ck := p.1 7 (by decide)
  obtain ⟨a, h1, h2⟩ := eb_inv h
  obtain ⟨b, h3, h4⟩ := eb_inv h2
  obtain ⟨t, h5, h6⟩ := eb_inv h4
  cases h6
  obtain ⟨an, ha, rfl⟩ := kn_nb p (so := 1) (by decide) h1
  obtain ⟨bn, hbn, rfl⟩ := kn_nb p (so := 4) (by decide) h3
  obtain ⟨tn, htn, rfl⟩ := kn_nb p (so := 4) (by decide) h5
  have hg := nx_ge (tx := tx) (en := en) q
  have hg2 := nx_ge (tx := tx) (en := en) (nx tx en q)
  have hg3 := nx_ge (tx := tx) (en := en) (nx tx en (nx tx en q))
  refine ⟨PI_up (k := 7) p (by decide) (fun j => rfl) ⟨by show nnC C 1 ≤ 8 ∧ nnC C 2 ≤ 8 ∧ nnC C 3 ≤ 6 ∧ nnC C 4 ≤ 7 ∧ nnC C 5 ≤ 12 ∧ nnC C 7 + 1 ≤ 6 ∧ nnC C 8 ≤ 4 ∧ nnC C 9 ≤ 8 ∧ nnC C 10 ≤ 1 ∧ nnC C 0 = 0; omega, r.2.1, (by show _ = nnC C 1 + nnC C 2 + nnC C 3 + nnC C 4 + nnC C 8; have := r.2.2.1; omega), (fun x hx => nb_w (r.2.2.2.1 x hx)), r.2.2.2.2.1, r.2.2.2.2.2.1, (fun L hL => by
    by_cases u : L = pn (C 1 7)
    · refine ⟨an, bn, tn, ha, hbn, htn, ?_, ?_, ?_⟩
      · show u2 (u2 (u2 C 9 (pn (C 1 7)) (nI an)) 10 (pn (C 1 7)) (nI bn)) 11 (pn (C 1 7)) (nI tn) 9 L = nI an
        rw [u2_n _ _ (fun v => absurd v.1 (by decide)), u2_n _ _ (fun v => absurd v.1 (by decide)), u, u2_s]
      · show u2 (u2 (u2 C 9 (pn (C 1 7)) (nI an)) 10 (pn (C 1 7)) (nI bn)) 11 (pn (C 1 7)) (nI tn) 10 L = nI bn
        rw [u2_n _ _ (fun v => absurd v.1 (by decide)), u, u2_s]
      · show u2 (u2 (u2 C 9 (pn (C 1 7)) (nI an)) 10 (pn (C 1 7)) (nI bn)) 11 (pn (C 1 7)) (nI tn) 11 L = nI tn
        rw [u, u2_s]
    · have hx3 : L < pn (C 1 7) + 1 := hL
      obtain ⟨a5, b5, c5, q1, q2, q3, q4, q5, q6⟩ := r.2.2.2.2.2.2.1 L (by show L < pn (C 1 7); omega)
      refine ⟨a5, b5, c5, q1, q2, q3, ?_, ?_, ?_⟩
      · exact (u2_n _ _ (fun v => u v.2)).trans q4
      · exact (u2_n _ _ (fun v => u v.2)).trans q5
      · exact (u2_n _ _ (fun v => u v.2)).trans q6), r.2.2.2.2.2.2.2.1, r.2.2.2.2.2.2.2.2⟩, by show q ≤ nx tx en (nx tx en (nx tx en q)); omega⟩
theorem pi_sha (p : PI C K) {q ls : Nat} {y : Nat × CT × List Nm} (hlt : C 1 9 < 8) (h : shaP tx en C ls q K = .ok y) : PI (u2 y.2.1 1 9 (y.2.1 1 9 + 1)) y.2.2 ∧ q ≤ y.1 := by
  have r := p.r
  have hb := p.2.1
  have hlt := p.lt (m := 8) (by decide) (by decide) hlt
  have ck := p.1 9 (by decide)
  obtain ⟨a, h1, h2⟩ := eb_inv h
  obtain ⟨z, h3, h4⟩ := eb_inv h2
  obtain ⟨W, H, w1, w2, w3, w4, w5, w6, w7⟩ := r.2.1
  unfold roP at h3
  rw [w5, w6, pn_nI (by omega)] at h3
  have hro := rs_ok (tx := tx) (en := en) w2 w4 1 H 0 (nx tx en q) 0 0 z (by omega) h3 (fun b _ _ => bt_0 b)
  have hg := nx_ge (tx := tx) (en := en) q
  have h4 : (if z.2.2 = 0 then Except.error (7, ls) else Except.ok (z.1, u2 (u2 (u2 C 12 (pn (C 1 9)) a) 13 (pn (C 1 9)) z.2.2) 14 (pn (C 1 9)) z.2.1, K)) = (Except.ok y : LR) := h4
  split at h4
  · cases h4
  cases h4
  refine ⟨PI_up (k := 9) p (by decide) (fun j => rfl) ⟨by show nnC C 1 ≤ 8 ∧ nnC C 2 ≤ 8 ∧ nnC C 3 ≤ 6 ∧ nnC C 4 ≤ 7 ∧ nnC C 5 ≤ 12 ∧ nnC C 7 ≤ 6 ∧ nnC C 8 ≤ 4 ∧ nnC C 9 + 1 ≤ 8 ∧ nnC C 10 ≤ 1 ∧ nnC C 0 = 0; omega, r.2.1, (by show _ = nnC C 1 + nnC C 2 + nnC C 3 + nnC C 4 + nnC C 8; have := r.2.2.1; omega), (fun x hx => nb_w (r.2.2.2.1 x hx)), r.2.2.2.2.1, r.2.2.2.2.2.1, r.2.2.2.2.2.2.1, r.2.2.2.2.2.2.2.1, r.2.2.2.2.2.2.2.2⟩, by show q ≤ z.1; omega⟩
theorem pi_she (p : PI C K) {q : Nat} {y : Nat × CT × List Nm} (hlt : C 1 10 < 1) (h : sheP tx en C q K = .ok y) : PI (u2 y.2.1 1 10 (y.2.1 1 10 + 1)) y.2.2 ∧ q ≤ y.1 := by
  have r := p.r
  have hb := p.2.1
  have hlt := p.lt (m := 1) (by decide) (by decide) hlt
  have ck := p.1 10 (by decide)
  obtain ⟨v, h1, h2⟩ := eb_inv h
  cases h2
  obtain ⟨e1, e2, e3⟩ := nwP_ok h1
  obtain ⟨vn, v1, v2, v3⟩ := nwN (lo := 0) (hi := 99) (by decide) e2 e3 (by decide)
  have hg := nx_ge (tx := tx) (en := en) q
  refine ⟨PI_up (k := 10) p (by decide) (fun j => rfl) ⟨by show nnC C 1 ≤ 8 ∧ nnC C 2 ≤ 8 ∧ nnC C 3 ≤ 6 ∧ nnC C 4 ≤ 7 ∧ nnC C 5 ≤ 12 ∧ nnC C 7 ≤ 6 ∧ nnC C 8 ≤ 4 ∧ nnC C 9 ≤ 8 ∧ nnC C 10 + 1 ≤ 1 ∧ nnC C 0 = 0; omega, r.2.1, (by show _ = nnC C 1 + nnC C 2 + nnC C 3 + nnC C 4 + nnC C 8; have := r.2.2.1; omega), (fun x hx => nb_w (r.2.2.2.1 x hx)), r.2.2.2.2.1, r.2.2.2.2.2.1, r.2.2.2.2.2.2.1, r.2.2.2.2.2.2.2.1, (fun _ => ⟨vn, v2, (u2_s C 0 5 v.1).trans v3⟩)⟩, by show q ≤ v.2; omega⟩
theorem pi_thi (p : PI C K) {q : Nat} {y : Nat × CT × List Nm} (hlt : C 1 6 < 1100) (h : thiP tx en C q K = .ok y) : PI (u2 y.2.1 1 6 (y.2.1 1 6 + 1)) y.2.2 ∧ q ≤ y.1 := by
  have r := p.r
  have hb := p.2.1
  have hlt := p.lt (m := 1100) (by decide) (by decide) hlt
  have ck := p.1 6 (by decide)
  obtain ⟨a, h1, h2⟩ := eb_inv h
  obtain ⟨an, ha, rfl⟩ := kn_nb p (so := 4) (by decide) h1
  have hg := nx_ge (tx := tx) (en := en) q
  have h2 : (if thF (C 0 13) (nI an) = 0 then Except.ok (nx tx en q, u2 C 0 13 (C 0 13 ||| ((1 : Int32) <<< (nI an &&& 31))), K) else er tx en 3 q) = (Except.ok y : LR) := h2
  have u : thF (C 0 13) (nI an) = 0 := by
    by_cases u : thF (C 0 13) (nI an) = 0
    · exact u
    · rw [if_neg u] at h2; cases h2
  rw [if_pos u] at h2
  cases h2
  have ubt : bt (C 0 13) an = false := (bz0 _ (by omega)).mp ((th_iff _ _).mp u)
  refine ⟨PI_up (k := 6) p (by decide) (fun j => rfl) ⟨by show nnC C 1 ≤ 8 ∧ nnC C 2 ≤ 8 ∧ nnC C 3 ≤ 6 ∧ nnC C 4 ≤ 7 ∧ nnC C 5 ≤ 12 ∧ nnC C 7 ≤ 6 ∧ nnC C 8 ≤ 4 ∧ nnC C 9 ≤ 8 ∧ nnC C 10 ≤ 1 ∧ nnC C 0 = 0; omega, r.2.1, (by show _ = nnC C 1 + nnC C 2 + nnC C 3 + nnC C 4 + nnC C 8; have := r.2.2.1; omega), (fun x hx => nb_w (r.2.2.2.1 x hx)), r.2.2.2.2.1, r.2.2.2.2.2.1, r.2.2.2.2.2.2.1, ⟨fun j h1 h2 => by
    show bt (u2 C 0 13 (C 0 13 ||| ((1 : Int32) <<< (nI an &&& 31))) 0 13) j = false
    have h1 : nnC C 4 ≤ j := h1
    rw [u2_s, bt_or, bt_1 (by omega) h2, r.2.2.2.2.2.2.2.1.1 j h1 h2, decide_eq_false (by omega)]; rfl, by
    show nnC C 6 + 1 = pcB (bt (u2 C 0 13 (C 0 13 ||| ((1 : Int32) <<< (nI an &&& 31))) 0 13)) 32
    rw [u2_s, pcB_set (f := bt (C 0 13)) (i := an) ubt (fun j => by
      rcases Nat.lt_or_ge j 32 with z | z
      · rw [bt_or, bt_1 (by omega) z]
      · rw [bt_hi _ z, bt_hi _ z, decide_eq_false (by omega)]; rfl) 32, if_pos (by omega), r.2.2.2.2.2.2.2.1.2]⟩, r.2.2.2.2.2.2.2.2⟩, by show q ≤ nx tx en q; omega⟩
end PL

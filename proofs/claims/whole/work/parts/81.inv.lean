/-! THE PARSER'S OWN INVARIANT -/
/-- how many of the first n are set -/
def pcB (f : Nat → Bool) : Nat → Nat
  | 0 => 0
  | n + 1 => pcB f n + (if f n = true then 1 else 0)
theorem pcB_le (f : Nat → Bool) (m : Nat) (h : ∀ j, m ≤ j → f j = false) : ∀ n, pcB f n ≤ m
  | 0 => Nat.zero_le m
  | n + 1 => by
    have ih := pcB_le f m h n
    show pcB f n + _ ≤ m
    by_cases z : m ≤ n
    · rw [h n z]; exact ih
    · have h2 : ∀ k, pcB f k ≤ k := by
        intro k
        induction k with
        | zero => exact Nat.le_refl 0
        | succ k ih2 =>
          show pcB f k + _ ≤ k + 1
          split <;> omega
      have := h2 n
      split <;> omega
theorem pcB_set {f g : Nat → Bool} {i : Nat} (hi : f i = false) (hg : ∀ j, g j = (f j || decide (j = i))) : ∀ n, pcB g n = pcB f n + (if i < n then 1 else 0)
  | 0 => rfl
  | n + 1 => by
    have ih := pcB_set hi hg n
    show pcB g n + (if g n = true then 1 else 0) = pcB f n + (if f n = true then 1 else 0) + _
    rw [ih, hg n]
    by_cases z : n = i
    · subst z
      rw [hi, decide_eq_true rfl, if_neg (Nat.lt_irrefl n), if_pos (Nat.lt_succ_self n)]
      rfl
    · rw [decide_eq_false z, Bool.or_false]
      by_cases y : i < n
      · rw [if_pos (show i < n from y), if_pos (show i < n + 1 by omega)]; omega
      · rw [if_neg (show ¬ i < n from y), if_neg (show ¬ i < n + 1 by omega)]; omega
abbrev NBp (nn : Nat → Nat) (x : Nm) : Prop := ∃ k n, (k = 1 ∨ k = 2 ∨ k = 3 ∨ k = 4 ∨ k = 8) ∧ x.2.1 = nI k ∧ x.2.2 = nI n ∧ n < nn k
def PIx (C : CT) (K : List Nm) (nn : Nat → Nat) : Prop := (∀ k, k < 11 → C 1 k = nI (nn k)) ∧ (nn 1 ≤ 8 ∧ nn 2 ≤ 8 ∧ nn 3 ≤ 6 ∧ nn 4 ≤ 7 ∧ nn 5 ≤ 12 ∧ nn 7 ≤ 6 ∧ nn 8 ≤ 4 ∧ nn 9 ≤ 8 ∧ nn 10 ≤ 1 ∧ nn 0 = 0) ∧ (∃ W H, 2 ≤ W ∧ W ≤ 5 ∧ 2 ≤ H ∧ H ≤ 4 ∧ C 0 1 = nI W ∧ C 0 2 = nI H ∧ ∀ p, p < nn 1 → ∀ j, W * H ≤ j → j < 32 → bt (C 3 p) j = false) ∧ K.length = nn 1 + nn 2 + nn 3 + nn 4 + nn 8 ∧ (∀ x ∈ K, NBp nn x) ∧ (∀ j, j < 49 → (∃ m, m ≤ 99 ∧ C 7 j = nI m) ∧ ∃ r, r ≤ 50 ∧ C 8 j = nI r) ∧ (∀ x, x < nn 4 → ∃ v, v < nn 3 ∧ C 6 x = nI v) ∧ (∀ L, L < nn 7 → ∃ p f t, p < nn 1 ∧ f < nn 4 ∧ t < nn 4 ∧ C 9 L = nI p ∧ C 10 L = nI f ∧ C 11 L = nI t) ∧ ((∀ j, nn 4 ≤ j → j < 32 → bt (C 0 13) j = false) ∧ nn 6 = pcB (bt (C 0 13)) 32) ∧ (¬ C 1 10 = 0 → ∃ v, v ≤ 99 ∧ C 0 5 = nI v)
def PI (C : CT) (K : List Nm) : Prop := PIx C K (nnC C)
theorem bt_hi (x : Int32) {j : Nat} (h : 32 ≤ j) : bt x j = false := by
  unfold bt
  exact BitVec.getLsbD_of_ge _ _ h
section PIs
variable {C : CT} {K : List Nm}
theorem PI.n6 (p : PI C K) : nnC C 6 ≤ nnC C 4 := by
  rw [p.2.2.2.2.2.2.2.2.1.2]
  exact pcB_le _ _ (fun j hj => by
    rcases Nat.lt_or_ge j 32 with z | z
    · exact p.2.2.2.2.2.2.2.2.1.1 j hj z
    · exact bt_hi _ z) 32
theorem PI.kb (p : PI C K) : KB K := by
  intro x hx h4
  obtain ⟨k, n, hk, e1, e2, hn⟩ := p.2.2.2.2.1 x hx
  have h9 := p.2.1
  have : k = 4 := by
    have e3 : nI k = nI 4 := e1.symm.trans h4
    exact (nI_eqN (by omega) (by omega)).mp e3
  subst this
  exact ⟨n, by omega, e2⟩
theorem PI.ks (p : PI C K) : KS K := by
  intro x hx
  obtain ⟨k, n, hk, e1, e2, hn⟩ := p.2.2.2.2.1 x hx
  rw [e1]
  rcases hk with rfl | rfl | rfl | rfl | rfl <;> decide
theorem PI.wi (p : PI C K) : WI C K (nnC C) := by
  obtain ⟨W, H, h1, h2, h3, h4, h5, h6, h7⟩ := p.2.2.1
  have h9 := p.2.1
  have n6 := p.n6
  exact ⟨p.1, ⟨h9.1, h9.2.1, h9.2.2.1, h9.2.2.2.1, h9.2.2.2.2.1, by omega, h9.2.2.2.2.2.1, h9.2.2.2.2.2.2.1, h9.2.2.2.2.2.2.2.1, h9.2.2.2.2.2.2.2.2.1⟩, p.2.2.2.1, p.kb, ⟨H, h4, h6⟩⟩
theorem PI.w0 (p : PI C K) : ¬ C 0 1 = 0 := by
  obtain ⟨W, H, h1, h2, h3, h4, h5, h6, h7⟩ := p.2.2.1
  rw [h5]
  exact nI_ne0 (by omega) (by omega)
theorem PI.sh (p : PI C K) : ¬ C 1 10 = 0 → ¬ C 0 5 = -1 := by
  intro h
  obtain ⟨v, hv, e⟩ := p.2.2.2.2.2.2.2.2.2 h
  rw [e]
  exact nI_n1 (by omega)
theorem PI.cb (p : PI C K) : CB C K := by
  obtain ⟨W, H, h1, h2, h3, h4, h5, h6, h7⟩ := p.2.2.1
  have h9 := p.2.1
  have n6 := p.n6
  refine ⟨fun k hk => ⟨nnC C k, ?_, p.1 k hk⟩, ⟨H, h4, h6⟩, p.kb⟩
  have hc : k = 0 ∨ k = 1 ∨ k = 2 ∨ k = 3 ∨ k = 4 ∨ k = 5 ∨ k = 6 ∨ k = 7 ∨ k = 8 ∨ k = 9 ∨ k = 10 := by omega
  rcases hc with rfl | rfl | rfl | rfl | rfl | rfl | rfl | rfl | rfl | rfl | rfl
  all_goals omega
end PIs

/-! WHEN THE LAW BEGINS -/
set_option maxRecDepth 100000 in
theorem hpC_51 : gI hpC 51 = gI hpC 2 := by
  funext j
  exact rfl
set_option maxRecDepth 100000 in
theorem hpC_2 (j : Nat) : gI hpC 2 j = 0 := rfl
theorem hpC_z : ∀ a : Fin 2, ∀ j : Fin 49, gI hpC (10 + a.1) j.1 = 0 := by decide +kernel
theorem J_hpC : J hpC := by
  have c1 : 60 ≤ gn hpC ∧ (∀ a ∈ gL hpC, a < gn hpC) := by decide +kernel
  have c2 : gI hpC 1 1 = nI 0 ∧ gI hpC 50 6 = nI 0 ∧ gI hpC 50 15 = nI 0 ∧ gI hpC 50 16 = nI 0 := by decide +kernel
  have c3 : gR hpC 0 6 = some 3 ∧ gR hpC 0 7 = some 18 ∧ gR hpC 38 0 = some 3 ∧ gR hpC 50 3 = none := by decide +kernel
  have c4 : gI hpC 38 3 = 0 ∧ gI hpC 38 7 = 0 ∧ gI hpC 38 9 = 0 ∧ gI hpC 3 1 = 0 ∧ gI hpC 3 2 = 0 ∧ gI hpC 3 3 = 0 ∧ gI hpC 3 4 = 0 ∧ gI hpC 3 5 = 0 ∧ gI hpC 3 13 = 0 := by decide +kernel
  have c5 : ∀ k : Fin 11, gI hpC 4 k.1 = 0 := by decide +kernel
  have c6 : gI hpC 50 1 = gI hpC 0 8 ∧ gI hpC 50 2 = (if gI hpC 0 8 = 4 then gI hpC 0 10 else -1) ∧ gI hpC 50 13 = gI hpC 0 9 := by decide +kernel
  refine ⟨⟨⟨hpC_S, c1.1, c1.2⟩, ⟨0, by decide, c2.1, c2.2.1, hpC_51, fun j => by rw [hpC_2]; decide⟩, ⟨⟨0, by decide, c2.2.2.1⟩, ⟨0, by decide, c2.2.2.2⟩⟩, 3, 18, ⟨Or.inl ⟨rfl, rfl⟩, c3.1, c3.2.1, c3.2.2.1⟩, Or.inl ⟨c3.2.2.2, ⟨fun k hk => c5 ⟨k, hk⟩, fun j hj => hpC_z 0 ⟨j, hj⟩, fun j hj => hpC_z 1 ⟨j, hj⟩, c4.2.2.2.1, c4.2.2.2.2.1, c4.2.2.2.2.2.1, c4.2.2.2.2.2.2.1, c4.2.2.2.2.2.2.2.1, c4.2.2.2.2.2.2.2.2⟩, c4.1, c4.2.1, c4.2.2.1⟩⟩, c6⟩

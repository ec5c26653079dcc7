/-! TWINS: the fields of a byte -/
def y1 (a : Nat) : Nat := a - (a / 2 &&& 85)
def y2 (a : Nat) : Nat := (a &&& 51) + (a / 4 &&& 51)
def y3 (a : Nat) : Nat := a % 16 + a / 16
theorem y1_a : ∀ a : Fin 256, ∀ b : Fin 2, (a.1 / 2 + 128 * b.1) &&& 85 = a.1 / 2 &&& 85 := by decide +kernel
theorem y2_a : ∀ a : Fin 256, ∀ b : Fin 4, (a.1 / 4 + 64 * b.1) &&& 51 = a.1 / 4 &&& 51 := by decide +kernel
theorem y_pc : ∀ a : Fin 256, y3 (y2 (y1 a.1)) = pcn 8 a.1 ∧ a.1 / 2 &&& 85 ≤ a.1 ∧ y1 a.1 < 256 ∧ y2 (y1 a.1) < 256 ∧ y2 (y1 a.1) % 16 ≤ 4 ∧ y2 (y1 a.1) / 16 ≤ 4 := by decide +kernel
theorem y3_a : ∀ a : Fin 5, ∀ b : Fin 5, ∀ k : Fin 5, (a.1 + 16 * b.1 + b.1 + 16 * k.1) &&& 15 = a.1 + b.1 := by decide +kernel

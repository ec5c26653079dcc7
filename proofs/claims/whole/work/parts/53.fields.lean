/-! TWINS: one byte after the other -/
theorem st1 {a : Nat} (ha : a < 256) (n M : Nat) : (a + 256 * n) / 2 &&& (85 + 256 * M) = (a / 2 &&& 85) + 256 * (n / 2 &&& M) := by
  have e : (a + 256 * n) / 2 = (a / 2 + 128 * (n % 2)) + 2 ^ 8 * (n / 2) := by rw [show (2 : Nat) ^ 8 = 256 from rfl]; omega
  have c := and_cat 8 (a / 2 + 128 * (n % 2)) (n / 2) 85 M (by rw [show (2 : Nat) ^ 8 = 256 from rfl]; omega) (by decide)
  rw [e, show (85 + 256 * M) = 85 + 2 ^ 8 * M from rfl, c, y1_a ⟨a, ha⟩ ⟨n % 2, by omega⟩]
theorem st2 {a : Nat} (ha : a < 256) (n M : Nat) : (a + 256 * n) / 4 &&& (51 + 256 * M) = (a / 4 &&& 51) + 256 * (n / 4 &&& M) := by
  have e : (a + 256 * n) / 4 = (a / 4 + 64 * (n % 4)) + 2 ^ 8 * (n / 4) := by rw [show (2 : Nat) ^ 8 = 256 from rfl]; omega
  have c := and_cat 8 (a / 4 + 64 * (n % 4)) (n / 4) 51 M (by rw [show (2 : Nat) ^ 8 = 256 from rfl]; omega) (by decide)
  rw [e, show (51 + 256 * M) = 51 + 2 ^ 8 * M from rfl, c, y2_a ⟨a, ha⟩ ⟨n % 4, by omega⟩]
theorem st3 {a : Nat} (ha : a < 256) (n p M : Nat) (hp : p < 256) : (a + 256 * n) &&& (p + 256 * M) = (a &&& p) + 256 * (n &&& M) := and_cat 8 a n p M ha hp

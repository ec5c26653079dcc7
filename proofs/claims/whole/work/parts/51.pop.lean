/-! TWINS: bits counted by fields are bits counted one by one (numbers) -/
/-- two numbers laid side by side, at 2^k -/
theorem and_cat : ∀ (k u v p q : Nat), u < 2 ^ k → p < 2 ^ k → (u + 2 ^ k * v) &&& (p + 2 ^ k * q) = (u &&& p) + 2 ^ k * (v &&& q)
  | 0, u, v, p, q, hu, hp => by
    rw [Nat.pow_zero] at *
    have hu0 : u = 0 := by omega
    have hp0 : p = 0 := by omega
    subst hu0; subst hp0
    simp
  | k + 1, u, v, p, q, hu, hp => by
    have e : ∀ (a b : Nat), a + 2 ^ (k + 1) * b = 2 * (a / 2 + 2 ^ k * b) + a % 2 := by
      intro a b
      rw [Nat.pow_succ, Nat.mul_assoc, Nat.mul_comm 2 b, ← Nat.mul_assoc]
      omega
    have h2 : 2 ^ (k + 1) = 2 ^ k * 2 := Nat.pow_succ 2 k
    have l := and_cat k (u / 2) v (p / 2) q (by omega) (by omega)
    have m1 := and_m2 (u + 2 ^ (k + 1) * v) (p + 2 ^ (k + 1) * q)
    have d1 := and_d2 (u + 2 ^ (k + 1) * v) (p + 2 ^ (k + 1) * q)
    have m2 := and_m2 u p
    have d2 := and_d2 u p
    have xu : (u + 2 ^ (k + 1) * v) / 2 = u / 2 + 2 ^ k * v := by have := e u v; omega
    have xp : (p + 2 ^ (k + 1) * q) / 2 = p / 2 + 2 ^ k * q := by have := e p q; omega
    have yu : (u + 2 ^ (k + 1) * v) % 2 = u % 2 := by have := e u v; omega
    have yp : (p + 2 ^ (k + 1) * q) % 2 = p % 2 := by have := e p q; omega
    rw [xu, xp, l] at d1
    rw [yu, yp, ← m2] at m1
    have f1 := Nat.div_add_mod ((u + 2 ^ (k + 1) * v) &&& (p + 2 ^ (k + 1) * q)) 2
    have f2 := Nat.div_add_mod (u &&& p) 2
    have f3 := e (u &&& p) (v &&& q)
    rw [← d2] at d1
    omega
theorem pcn_cat : ∀ (k m u v : Nat), u < 2 ^ k → pcn (k + m) (u + 2 ^ k * v) = pcn k u + pcn m v
  | 0, m, u, v, hu => by
    rw [Nat.pow_zero] at *
    have hu0 : u = 0 := by omega
    subst hu0
    rw [Nat.zero_add, Nat.zero_add, Nat.one_mul]
    show pcn m v = 0 + pcn m v
    omega
  | k + 1, m, u, v, hu => by
    have h2 : 2 ^ (k + 1) = 2 ^ k * 2 := Nat.pow_succ 2 k
    have e : u + 2 ^ (k + 1) * v = 2 * (u / 2 + 2 ^ k * v) + u % 2 := by
      rw [Nat.pow_succ, Nat.mul_assoc, Nat.mul_comm 2 v, ← Nat.mul_assoc]
      omega
    have l := pcn_cat k m (u / 2) v (by omega)
    rw [show k + 1 + m = (k + m) + 1 from by omega]
    show (u + 2 ^ (k + 1) * v) % 2 + pcn (k + m) ((u + 2 ^ (k + 1) * v) / 2) = u % 2 + pcn k (u / 2) + pcn m v
    rw [show (u + 2 ^ (k + 1) * v) / 2 = u / 2 + 2 ^ k * v from by omega, show (u + 2 ^ (k + 1) * v) % 2 = u % 2 from by omega, l]
    omega

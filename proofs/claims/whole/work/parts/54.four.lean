/-! TWINS: four bytes -/
abbrev q4 (a b c d : Nat) : Nat := a + 256 * (b + 256 * (c + 256 * d))
theorem sw1 {a b c d : Nat} (ha : a < 256) (hb : b < 256) (hc : c < 256) (hd : d < 256) : q4 a b c d - (q4 a b c d / 2 &&& 1431655765) = q4 (y1 a) (y1 b) (y1 c) (y1 d) := by
  have e : q4 a b c d / 2 &&& 1431655765 = (a / 2 &&& 85) + 256 * ((b / 2 &&& 85) + 256 * ((c / 2 &&& 85) + 256 * (d / 2 &&& 85))) := by
    rw [show (1431655765 : Nat) = 85 + 256 * (85 + 256 * (85 + 256 * 85)) from rfl, st1 ha, st1 hb, st1 hc]
  have pa := (y_pc ⟨a, ha⟩).2.1
  have pb := (y_pc ⟨b, hb⟩).2.1
  have pc := (y_pc ⟨c, hc⟩).2.1
  have pd := (y_pc ⟨d, hd⟩).2.1
  rw [e]
  unfold q4 y1
  dsimp only at pa pb pc pd
  omega
theorem sw2 {a b c d : Nat} (ha : a < 256) (hb : b < 256) (hc : c < 256) : (q4 a b c d &&& 858993459) + (q4 a b c d / 4 &&& 858993459) = q4 (y2 a) (y2 b) (y2 c) (y2 d) := by
  have e : q4 a b c d / 4 &&& 858993459 = (a / 4 &&& 51) + 256 * ((b / 4 &&& 51) + 256 * ((c / 4 &&& 51) + 256 * (d / 4 &&& 51))) := by
    rw [show (858993459 : Nat) = 51 + 256 * (51 + 256 * (51 + 256 * 51)) from rfl, st2 ha, st2 hb, st2 hc]
  have f : q4 a b c d &&& 858993459 = (a &&& 51) + 256 * ((b &&& 51) + 256 * ((c &&& 51) + 256 * (d &&& 51))) := by
    rw [show (858993459 : Nat) = 51 + 256 * (51 + 256 * (51 + 256 * 51)) from rfl, st3 ha _ _ _ (by decide), st3 hb _ _ _ (by decide), st3 hc _ _ _ (by decide)]
  rw [e, f]
  unfold q4 y2
  omega
theorem y3_b {l m k : Nat} (hl : l ≤ 4) (hm : m ≤ 4) (hk : k ≤ 4) : (l + 16 * m + m + 16 * k) &&& 15 = l + m := y3_a ⟨l, by omega⟩ ⟨m, by omega⟩ ⟨k, by omega⟩
theorem sw3 {a b c d : Nat} (a0 : a % 16 ≤ 4) (a1 : a / 16 ≤ 4) (b0 : b % 16 ≤ 4) (b1 : b / 16 ≤ 4) (c0 : c % 16 ≤ 4) (c1 : c / 16 ≤ 4) (d0 : d % 16 ≤ 4) (d1 : d / 16 ≤ 4) : (q4 a b c d + q4 a b c d / 16) &&& 252645135 = q4 (y3 a) (y3 b) (y3 c) (y3 d) := by
  have e : q4 a b c d + q4 a b c d / 16 = (a % 16 + 16 * (a / 16) + a / 16 + 16 * (b % 16)) + 256 * ((b % 16 + 16 * (b / 16) + b / 16 + 16 * (c % 16)) + 256 * ((c % 16 + 16 * (c / 16) + c / 16 + 16 * (d % 16)) + 256 * (d % 16 + 16 * (d / 16) + d / 16 + 16 * 0))) := by unfold q4; omega
  rw [e, show (252645135 : Nat) = 15 + 256 * (15 + 256 * (15 + 256 * 15)) from rfl, st3 (by omega) _ _ _ (by decide), st3 (by omega) _ _ _ (by decide), st3 (by omega) _ _ _ (by decide), y3_b a0 a1 b0, y3_b b0 b1 c0, y3_b c0 c1 d0, y3_b d0 d1 (by decide)]
  rfl
theorem sw4 {a b c d : Nat} (ha : a ≤ 8) (hb : b ≤ 8) (hc : c ≤ 8) (hd : d ≤ 8) : ((q4 a b c d + q4 a b c d / 256) + (q4 a b c d + q4 a b c d / 256) / 65536) &&& 63 = a + b + c + d := by
  rw [show (63 : Nat) = 2 ^ 6 - 1 from rfl, Nat.and_two_pow_sub_one_eq_mod]
  have e1 : q4 a b c d / 256 = b + 256 * (c + 256 * d) := by unfold q4; omega
  have e2 : (q4 a b c d + (b + 256 * (c + 256 * d))) / 65536 = (c + d) + 256 * d := by unfold q4; omega
  rw [e1, e2]
  unfold q4
  rw [show (2 : Nat) ^ 6 = 64 from rfl]
  omega

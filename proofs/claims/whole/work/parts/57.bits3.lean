/-! TWINS: bitCount is the number of bits: the end -/
theorem nN_nI {k : Nat} (h : k < 2147483648) : nN (nI k) = k := by
  show (BitVec.ofInt 32 (k : Int)).toNat = k
  rw [BitVec.ofInt_natCast, BitVec.toNat_ofNat, Nat.mod_eq_of_lt (by omega)]
theorem bc_pc (x : Int32) : bcF x = nI (pc32 x) := by
  have hl : nN x < 2 ^ 32 := x.toBitVec.isLt
  rw [show (2 : Nat) ^ 32 = 4294967296 from rfl] at hl
  have hx : nN x = q4 (nN x % 256) (nN x / 256 % 256) (nN x / 65536 % 256) (nN x / 16777216) := by unfold q4; omega
  have e := bc_q4 (by omega) (by omega) (by omega) (by omega) hx
  have f : pc32 x = pcn 8 (nN x % 256) + pcn 8 (nN x / 256 % 256) + pcn 8 (nN x / 65536 % 256) + pcn 8 (nN x / 16777216) := by
    show pcn 32 (nN x) = _
    exact (congrArg (pcn 32) hx).trans (pc_q4 (by omega) (by omega) (by omega))
  rw [← f] at e
  have g : pc32 x < 2147483648 := by
    rw [← e]
    have h2 : nN (bcF x) = pc32 x := e
    have b : ∀ (k n : Nat), pcn k n ≤ k := by
      intro k
      induction k with
      | zero => intro n; exact Nat.le_refl _
      | succ k ih => intro n; have := ih (n / 2); show n % 2 + pcn k (n / 2) ≤ k + 1; omega
    have := b 32 (nN x)
    have h3 : pc32 x ≤ 32 := this
    omega
  apply Int32.toBitVec_inj.mp
  apply BitVec.eq_of_toNat_eq
  exact e.trans (nN_nI g).symm

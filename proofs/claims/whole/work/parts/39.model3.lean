/-! THE REFERENCE: counting bits; calls about panes, views, pairs -/
/-- how many bits of n are set -/
def pcn : Nat → Nat → Nat
  | 0, _ => 0
  | k + 1, n => n % 2 + pcn k (n / 2)
theorem and_m2 (a b : Nat) : (a &&& b) % 2 = (a % 2) * (b % 2) := by
  have e : decide ((a &&& b) % 2 = 1) = (decide (a % 2 = 1) && decide (b % 2 = 1)) := by
    rw [← Nat.testBit_zero, ← Nat.testBit_zero, ← Nat.testBit_zero, Nat.testBit_and]
  rcases Nat.mod_two_eq_zero_or_one a with ha | ha <;> rcases Nat.mod_two_eq_zero_or_one b with hb | hb <;> rcases Nat.mod_two_eq_zero_or_one (a &&& b) with hc | hc <;> rw [ha, hb, hc] at e <;> rw [ha, hb, hc] <;> first | rfl | exact absurd e (by decide)
theorem and_d2 (a b : Nat) : (a &&& b) / 2 = a / 2 &&& b / 2 := by
  apply Nat.eq_of_testBit_eq
  intro i
  rw [Nat.testBit_and, ← Nat.testBit_succ, ← Nat.testBit_succ, ← Nat.testBit_succ, Nat.testBit_and]
theorem pcn_low : ∀ (k n : Nat), 0 < n → n < 2 ^ k → pcn k (n &&& (n - 1)) + 1 = pcn k n
  | 0, n, h0, h1 => by rw [Nat.pow_zero] at h1; omega
  | k + 1, n, h0, h1 => by
    show (n &&& (n - 1)) % 2 + pcn k ((n &&& (n - 1)) / 2) + 1 = n % 2 + pcn k (n / 2)
    rw [and_m2, and_d2]
    rcases Nat.mod_two_eq_zero_or_one n with e | e
    · have e1 : (n - 1) / 2 = n / 2 - 1 := by omega
      rw [e, e1, Nat.zero_mul, Nat.zero_add, Nat.zero_add]
      exact pcn_low k (n / 2) (by omega) (by rw [Nat.pow_succ] at h1; omega)
    · have e1 : (n - 1) / 2 = n / 2 := by omega
      have e2 : (n - 1) % 2 = 0 := by omega
      rw [e, e1, e2, Nat.mul_zero, Nat.and_self, Nat.zero_add, Nat.add_comm]
theorem pcn_0 : ∀ k, pcn k 0 = 0
  | 0 => rfl
  | k + 1 => by show 0 % 2 + pcn k (0 / 2) = 0; rw [Nat.zero_div, pcn_0 k]
def pc32 (x : Int32) : Nat := pcn 32 x.toBitVec.toNat
theorem pc_0 : pc32 0 = 0 := pcn_0 32
theorem pc_low {x : Int32} (h : ¬ x = 0) : pc32 (x &&& (x - 1)) + 1 = pc32 x := by
  have hx : 0 < x.toBitVec.toNat := by
    rcases Nat.eq_zero_or_pos x.toBitVec.toNat with z | z
    · exact absurd (Int32.toBitVec_inj.mp (BitVec.eq_of_toNat_eq (z.trans rfl))) h
    · exact z
  have hl := x.toBitVec.isLt
  have e : (x &&& (x - 1)).toBitVec.toNat = x.toBitVec.toNat &&& (x.toBitVec.toNat - 1) := by
    rw [Int32.toBitVec_and, BitVec.toNat_and, Int32.toBitVec_sub, BitVec.toNat_sub, show (1 : Int32).toBitVec.toNat = 1 from rfl]
    congr 1
    omega
  unfold pc32
  rw [e]
  exact pcn_low 32 _ hx hl
theorem d_bits {h : Hp} (x0 : Int32) : gCi 0 0 0 yX10_bits cX10_bits 3 (some .int) [.int x0] h (some (.int (nI (pc32 x0)))) h := by
  refine g_entry (lv := [.int x0, .retAddr 0, .retAddr 0]) 2 pn_X10 rfl rfl rfl ?_
  have loop : ∀ (k m : Nat) (x : Int32), pc32 x = k → pc32 x0 = m + k → gY 0 0 0 yX10_bits cX10_bits 3 (some .int) 0 0 (fun v' h' => v' = (some (.int (nI (pc32 x0)))) ∧ h' = h) 4 [.int x0, .int (nI m), .int x] [] h := by
    intro k
    induction k with
    | zero =>
      intro m x hk he
      have hx : x = 0 := by
        by_cases z : x = 0
        · exact z
        · have := pc_low z; omega
      refine g_iL2 dX10_bits_4 ?_
      refine g_ifeq dX10_bits_5 (fun c5 => ?_) (fun c5 => absurd hx c5)
      refine g_iL1 dX10_bits_20 ?_
      exact e_iret rfl dX10_bits_21 rfl rfl (by rw [he]; rfl) rfl
    | succ k ih =>
      intro m x hk he
      have hx : ¬ x = 0 := fun z => by rw [z, pc_0] at hk; omega
      have hq := pc_low hx
      refine g_iL2 dX10_bits_4 ?_
      refine g_ifeq dX10_bits_5 (fun c5 => absurd c5 hx) (fun c5 => ?_)
      refine g_ii1 dX10_bits_8 rfl rfl ?_
      refine g_iL2 dX10_bits_11 ?_
      refine g_iL2 dX10_bits_12 ?_
      refine g_iconst dX10_bits_13 ?_
      refine g_isub dX10_bits_14 ?_
      refine g_iand dX10_bits_15 ?_
      refine g_iS2 dX10_bits_16 rfl rfl ?_
      refine g_goto dX10_bits_17 ?_
      rw [nI_1]
      exact ih (m + 1) _ (by omega) (by omega)
  refine g_iconst dX10_bits_0 ?_
  refine g_iS1 dX10_bits_1 rfl rfl ?_
  refine g_iL0 dX10_bits_2 ?_
  refine g_iS2 dX10_bits_3 rfl rfl ?_
  exact loop _ 0 x0 rfl (by omega)
theorem d_cells {h : Hp} {c : Nat} {cn : Nat → Nat} (X : MX h c cn) : gCi 0 0 0 yX9_cells cX9_cells 1 (some .int) [.ref c] h (some (.int (gI h c 0 * gI h c 1))) h := by
  refine g_entry (lv := [.ref c]) 0 pn_X9 rfl rfl rfl ?_
  refine g_aL0 dX9_cells_0 ?_
  refine g_gI lf_X9_68 (X.M.l 0 rfl) (X.M.k 0 rfl rfl) dX9_cells_1 ?_
  refine g_aL0 dX9_cells_4 ?_
  refine g_gI lf_X9_71 (X.M.l 0 rfl) (X.M.k 0 rfl rfl) dX9_cells_5 ?_
  refine g_imul dX9_cells_8 ?_
  exact e_iret rfl dX9_cells_9 rfl rfl rfl rfl
theorem d_lightOf {h : Hp} {c : Nat} {cn : Nat → Nat} (X : MX h c cn) {p : Nat} (hp : p < 8) : gCi 1 0 0 yX10_lightOf cX10_lightOf 2 (some .int) [.ref 50, .int (nI p)] h (some (.int (gI h c 0 * gI h c 1 - nI (pc32 (gI h 52 p))))) h := by
  refine g_entry (lv := [.ref 50, .int (nI p)]) 0 pn_X10 rfl rfl rfl ?_
  refine g_aL0 dX10_lightOf_0 ?_
  refine g_getR lf_X10_359 (X.S.l 50 rfl) (X.S.k 50 rfl rfl) X.C dX10_lightOf_1 ?_
  refine e_v0i (d_cells X) lm_X10_389 dX10_lightOf_4 (X.M.l 0 rfl) (X.M.k 0 rfl rfl) rfl rfl rfl rfl ?_
  refine g_aL0 dX10_lightOf_7 ?_
  refine g_getR lf_X10_17 (X.S.l 50 rfl) (X.S.k 50 rfl rfl) (X.S.r 50 20 (b := 52) rfl rfl) dX10_lightOf_8 ?_
  refine g_iconst dX10_lightOf_11 ?_
  refine g_iL1 dX10_lightOf_12 ?_
  refine g_iadd dX10_lightOf_13 ?_
  rw [show (0 : Int32) = nI 0 from rfl, nI_add, Nat.zero_add]
  refine g_ialoadN (X.S.l 52 rfl) (X.S.k 52 rfl rfl) (X.S.n 52 (n := 17) rfl rfl) (show p < 17 from by omega) (by decide) dX10_lightOf_14 ?_
  refine e_s1i (d_bits _) lm_X10_392 dX10_lightOf_15 rfl rfl rfl rfl ?_
  refine g_isub dX10_lightOf_18 ?_
  exact e_iret rfl dX10_lightOf_19 rfl rfl rfl rfl
theorem in_t {x a b : Int32} (h : ¬ inF x a b = 0) : a.toInt ≤ x.toInt ∧ x.toInt ≤ b.toInt := by
  unfold inF at h
  split at h
  · exact absurd rfl h
  · split at h
    · exact absurd rfl h
    · rename_i z y
      exact ⟨Int32.le_iff_toInt_le.mp (Int32.not_lt.mp z), Int32.le_iff_toInt_le.mp (Int32.not_lt.mp y)⟩
theorem in_f {x a b : Int32} (h : inF x a b = 0) : x.toInt < a.toInt ∨ b.toInt < x.toInt := by
  unfold inF at h
  split at h
  · rename_i z; exact Or.inl (Int32.lt_iff_toInt_lt.mp z)
  · split at h
    · rename_i z; exact Or.inr (Int32.lt_iff_toInt_lt.mp z)
    · exact absurd h (by decide)
theorem n_pane0 {h : Hp} {c : Nat} {cn : Nat → Nat} (X : MX (mT h) c cn) {P : Nat} (hP : P < cn 1) (f : Int32) (hf : f.toInt = 0) : gCi 2 0 0 yX10_pane cX10_pane 3 (some .int) [.ref 50, .int (nI P), .int f] h (some (.int (gI (mT h) (c + 1) P))) (mR (mT h) 0) := by
  have hP8 : P < 8 := by have := X.b1; omega
  refine g_entry (lv := [.ref 50, .int (nI P), .int f]) 0 pn_X10 rfl rfl rfl ?_
  refine g_aL0 dX10_pane_0 ?_
  refine g_iconst dX10_pane_1 ?_
  refine g_pI0 lf_X10_39 (X.S.l 50 rfl) (X.S.k 50 rfl rfl) dX10_pane_2 ?_
  show gY _ _ _ _ _ _ _ _ _ _ _ _ _ (mT h)
  generalize mT h = h at X ⊢
  refine g_aL0 dX10_pane_5 ?_
  refine g_iL1 dX10_pane_6 ?_
  refine e_v1i (d_isPane X _) lm_X10_377 dX10_pane_7 (X.S.l 50 rfl) (X.S.k 50 rfl rfl) rfl rfl rfl rfl ?_
  rw [ip_in hP (by have := X.b1; omega)]
  refine g_ifeq dX10_pane_10 (fun c10 => absurd c10 (by decide)) (fun c10 => ?_)
  refine g_iL2 dX10_pane_13 ?_
  refine g_iconst dX10_pane_14 ?_
  refine g_iconst dX10_pane_15 ?_
  refine e_s3i (d_in _ _ _) lm_X10_134 dX10_pane_16 rfl rfl rfl rfl ?_
  refine g_ifne dX10_pane_19 (fun c19 => ?_) (fun c19 => absurd (in_f c19) (by rw [show (0 : Int32).toInt = 0 from by decide, show (4 : Int32).toInt = 4 from by decide]; omega))
  refine g_iL2 dX10_pane_28 ?_
  refine g_swIn 0 dX10_pane_29 hf rfl ?_
  refine g_aL0 dX10_pane_60 ?_
  refine g_aL0 dX10_pane_61 ?_
  refine g_getR lf_X10_359 (X.S.l 50 rfl) (X.S.k 50 rfl rfl) X.C dX10_pane_62 ?_
  refine g_getRn lf_X10_283 (X.M.l 0 rfl) (X.M.k 0 rfl rfl) (X.M.r 15 (j := 1) rfl) dX10_pane_65 ?_
  refine g_iL1 dX10_pane_68 ?_
  refine g_ialoadN (X.M.l 1 rfl) (X.M.k 1 rfl rfl) (X.M.n 1 (n := 8) rfl rfl) hP8 (by decide) dX10_pane_69 ?_
  refine e_v1i (d_good X.S _) lm_X10_49 dX10_pane_70 (X.S.l 50 rfl) (X.S.k 50 rfl rfl) rfl rfl rfl rfl ?_
  exact e_iret rfl dX10_pane_73 rfl rfl rfl rfl
theorem n_pane1 {h : Hp} {c : Nat} {cn : Nat → Nat} (X : MX (mT h) c cn) {P : Nat} (hP : P < cn 1) (f : Int32) (hf : f.toInt = 1) : gCi 2 0 0 yX10_pane cX10_pane 3 (some .int) [.ref 50, .int (nI P), .int f] h (some (.int (gI (mT h) 52 P))) (mR (mT h) 0) := by
  have hP8 : P < 8 := by have := X.b1; omega
  refine g_entry (lv := [.ref 50, .int (nI P), .int f]) 0 pn_X10 rfl rfl rfl ?_
  refine g_aL0 dX10_pane_0 ?_
  refine g_iconst dX10_pane_1 ?_
  refine g_pI0 lf_X10_39 (X.S.l 50 rfl) (X.S.k 50 rfl rfl) dX10_pane_2 ?_
  show gY _ _ _ _ _ _ _ _ _ _ _ _ _ (mT h)
  generalize mT h = h at X ⊢
  refine g_aL0 dX10_pane_5 ?_
  refine g_iL1 dX10_pane_6 ?_
  refine e_v1i (d_isPane X _) lm_X10_377 dX10_pane_7 (X.S.l 50 rfl) (X.S.k 50 rfl rfl) rfl rfl rfl rfl ?_
  rw [ip_in hP (by have := X.b1; omega)]
  refine g_ifeq dX10_pane_10 (fun c10 => absurd c10 (by decide)) (fun c10 => ?_)
  refine g_iL2 dX10_pane_13 ?_
  refine g_iconst dX10_pane_14 ?_
  refine g_iconst dX10_pane_15 ?_
  refine e_s3i (d_in _ _ _) lm_X10_134 dX10_pane_16 rfl rfl rfl rfl ?_
  refine g_ifne dX10_pane_19 (fun c19 => ?_) (fun c19 => absurd (in_f c19) (by rw [show (0 : Int32).toInt = 0 from by decide, show (4 : Int32).toInt = 4 from by decide]; omega))
  refine g_iL2 dX10_pane_28 ?_
  refine g_swIn 1 dX10_pane_29 hf rfl ?_
  refine g_aL0 dX10_pane_74 ?_
  refine g_aL0 dX10_pane_75 ?_
  refine g_getR lf_X10_17 (X.S.l 50 rfl) (X.S.k 50 rfl rfl) (X.S.r 50 20 (b := 52) rfl rfl) dX10_pane_76 ?_
  refine g_iconst dX10_pane_79 ?_
  refine g_iL1 dX10_pane_80 ?_
  refine g_iadd dX10_pane_81 ?_
  rw [show (0 : Int32) = nI 0 from rfl, nI_add, Nat.zero_add]
  refine g_ialoadN (X.S.l 52 rfl) (X.S.k 52 rfl rfl) (X.S.n 52 (n := 17) rfl rfl) (show P < 17 from by omega) (by decide) dX10_pane_82 ?_
  refine e_v1i (d_good X.S _) lm_X10_49 dX10_pane_83 (X.S.l 50 rfl) (X.S.k 50 rfl rfl) rfl rfl rfl rfl ?_
  exact e_iret rfl dX10_pane_86 rfl rfl rfl rfl
theorem n_pane2 {h : Hp} {c : Nat} {cn : Nat → Nat} (X : MX (mT h) c cn) {P : Nat} (hP : P < cn 1) (f : Int32) (hf : f.toInt = 2) : gCi 2 0 0 yX10_pane cX10_pane 3 (some .int) [.ref 50, .int (nI P), .int f] h (some (.int (gI (mT h) 52 (8 + P)))) (mR (mT h) 0) := by
  have hP8 : P < 8 := by have := X.b1; omega
  refine g_entry (lv := [.ref 50, .int (nI P), .int f]) 0 pn_X10 rfl rfl rfl ?_
  refine g_aL0 dX10_pane_0 ?_
  refine g_iconst dX10_pane_1 ?_
  refine g_pI0 lf_X10_39 (X.S.l 50 rfl) (X.S.k 50 rfl rfl) dX10_pane_2 ?_
  show gY _ _ _ _ _ _ _ _ _ _ _ _ _ (mT h)
  generalize mT h = h at X ⊢
  refine g_aL0 dX10_pane_5 ?_
  refine g_iL1 dX10_pane_6 ?_
  refine e_v1i (d_isPane X _) lm_X10_377 dX10_pane_7 (X.S.l 50 rfl) (X.S.k 50 rfl rfl) rfl rfl rfl rfl ?_
  rw [ip_in hP (by have := X.b1; omega)]
  refine g_ifeq dX10_pane_10 (fun c10 => absurd c10 (by decide)) (fun c10 => ?_)
  refine g_iL2 dX10_pane_13 ?_
  refine g_iconst dX10_pane_14 ?_
  refine g_iconst dX10_pane_15 ?_
  refine e_s3i (d_in _ _ _) lm_X10_134 dX10_pane_16 rfl rfl rfl rfl ?_
  refine g_ifne dX10_pane_19 (fun c19 => ?_) (fun c19 => absurd (in_f c19) (by rw [show (0 : Int32).toInt = 0 from by decide, show (4 : Int32).toInt = 4 from by decide]; omega))
  refine g_iL2 dX10_pane_28 ?_
  refine g_swIn 2 dX10_pane_29 hf rfl ?_
  refine g_aL0 dX10_pane_87 ?_
  refine g_aL0 dX10_pane_88 ?_
  refine g_getR lf_X10_17 (X.S.l 50 rfl) (X.S.k 50 rfl rfl) (X.S.r 50 20 (b := 52) rfl rfl) dX10_pane_89 ?_
  refine g_bipush dX10_pane_92 ?_
  refine g_iL1 dX10_pane_94 ?_
  refine g_iadd dX10_pane_95 ?_
  rw [show (8 : Int32) = nI 8 from rfl, nI_add]
  refine g_ialoadN (X.S.l 52 rfl) (X.S.k 52 rfl rfl) (X.S.n 52 (n := 17) rfl rfl) (show 8 + P < 17 from by omega) (by decide) dX10_pane_96 ?_
  refine e_v1i (d_good X.S _) lm_X10_49 dX10_pane_97 (X.S.l 50 rfl) (X.S.k 50 rfl rfl) rfl rfl rfl rfl ?_
  exact e_iret rfl dX10_pane_100 rfl rfl rfl rfl
theorem n_pane3 {h : Hp} {c : Nat} {cn : Nat → Nat} (X : MX (mT h) c cn) {P : Nat} (hP : P < cn 1) (f : Int32) (hf : f.toInt = 3) : gCi 2 0 0 yX10_pane cX10_pane 3 (some .int) [.ref 50, .int (nI P), .int f] h (some (.int (if (thF (gI (mT h) 52 16) (nI P)) = 0 then 0 else 1))) (mR (mT h) 0) := by
  have hP8 : P < 8 := by have := X.b1; omega
  refine g_entry (lv := [.ref 50, .int (nI P), .int f]) 0 pn_X10 rfl rfl rfl ?_
  refine g_aL0 dX10_pane_0 ?_
  refine g_iconst dX10_pane_1 ?_
  refine g_pI0 lf_X10_39 (X.S.l 50 rfl) (X.S.k 50 rfl rfl) dX10_pane_2 ?_
  show gY _ _ _ _ _ _ _ _ _ _ _ _ _ (mT h)
  generalize mT h = h at X ⊢
  refine g_aL0 dX10_pane_5 ?_
  refine g_iL1 dX10_pane_6 ?_
  refine e_v1i (d_isPane X _) lm_X10_377 dX10_pane_7 (X.S.l 50 rfl) (X.S.k 50 rfl rfl) rfl rfl rfl rfl ?_
  rw [ip_in hP (by have := X.b1; omega)]
  refine g_ifeq dX10_pane_10 (fun c10 => absurd c10 (by decide)) (fun c10 => ?_)
  refine g_iL2 dX10_pane_13 ?_
  refine g_iconst dX10_pane_14 ?_
  refine g_iconst dX10_pane_15 ?_
  refine e_s3i (d_in _ _ _) lm_X10_134 dX10_pane_16 rfl rfl rfl rfl ?_
  refine g_ifne dX10_pane_19 (fun c19 => ?_) (fun c19 => absurd (in_f c19) (by rw [show (0 : Int32).toInt = 0 from by decide, show (4 : Int32).toInt = 4 from by decide]; omega))
  refine g_iL2 dX10_pane_28 ?_
  refine g_swIn 3 dX10_pane_29 hf rfl ?_
  refine g_aL0 dX10_pane_101 ?_
  refine g_aL0 dX10_pane_102 ?_
  refine g_iL1 dX10_pane_103 ?_
  refine e_v1i (d_isBroken X.S _) lm_X10_383 dX10_pane_104 (X.S.l 50 rfl) (X.S.k 50 rfl rfl) rfl rfl rfl rfl ?_
  refine g_ifeq dX10_pane_107 (fun c107 => ?_) (fun c107 => ?_)
  · refine g_iconst dX10_pane_114 ?_
    refine e_v1i (d_good X.S _) lm_X10_49 dX10_pane_115 (X.S.l 50 rfl) (X.S.k 50 rfl rfl) rfl rfl rfl rfl ?_
    exact e_iret rfl dX10_pane_118 rfl rfl (if_pos c107).symm rfl
  · refine g_iconst dX10_pane_110 ?_
    refine g_goto dX10_pane_111 ?_
    refine e_v1i (d_good X.S _) lm_X10_49 dX10_pane_115 (X.S.l 50 rfl) (X.S.k 50 rfl rfl) rfl rfl rfl rfl ?_
    exact e_iret rfl dX10_pane_118 rfl rfl (if_neg c107).symm rfl
theorem n_pane4 {h : Hp} {c : Nat} {cn : Nat → Nat} (X : MX (mT h) c cn) {P : Nat} (hP : P < cn 1) (f : Int32) (hf : f.toInt = 4) : gCi 2 0 0 yX10_pane cX10_pane 3 (some .int) [.ref 50, .int (nI P), .int f] h (some (.int (gI (mT h) c 0 * gI (mT h) c 1 - nI (pc32 (gI (mT h) 52 P))))) (mR (mT h) 0) := by
  have hP8 : P < 8 := by have := X.b1; omega
  refine g_entry (lv := [.ref 50, .int (nI P), .int f]) 0 pn_X10 rfl rfl rfl ?_
  refine g_aL0 dX10_pane_0 ?_
  refine g_iconst dX10_pane_1 ?_
  refine g_pI0 lf_X10_39 (X.S.l 50 rfl) (X.S.k 50 rfl rfl) dX10_pane_2 ?_
  show gY _ _ _ _ _ _ _ _ _ _ _ _ _ (mT h)
  generalize mT h = h at X ⊢
  refine g_aL0 dX10_pane_5 ?_
  refine g_iL1 dX10_pane_6 ?_
  refine e_v1i (d_isPane X _) lm_X10_377 dX10_pane_7 (X.S.l 50 rfl) (X.S.k 50 rfl rfl) rfl rfl rfl rfl ?_
  rw [ip_in hP (by have := X.b1; omega)]
  refine g_ifeq dX10_pane_10 (fun c10 => absurd c10 (by decide)) (fun c10 => ?_)
  refine g_iL2 dX10_pane_13 ?_
  refine g_iconst dX10_pane_14 ?_
  refine g_iconst dX10_pane_15 ?_
  refine e_s3i (d_in _ _ _) lm_X10_134 dX10_pane_16 rfl rfl rfl rfl ?_
  refine g_ifne dX10_pane_19 (fun c19 => ?_) (fun c19 => absurd (in_f c19) (by rw [show (0 : Int32).toInt = 0 from by decide, show (4 : Int32).toInt = 4 from by decide]; omega))
  refine g_iL2 dX10_pane_28 ?_
  refine g_swOut dX10_pane_29 (Or.inr (show (0 : Int) + 4 ≤ f.toInt from by omega)) ?_
  refine g_aL0 dX10_pane_119 ?_
  refine g_aL0 dX10_pane_120 ?_
  refine g_iL1 dX10_pane_121 ?_
  refine e_v1i (d_lightOf X hP8) lm_X10_386 dX10_pane_122 (X.S.l 50 rfl) (X.S.k 50 rfl rfl) rfl rfl rfl rfl ?_
  refine e_v1i (d_good X.S _) lm_X10_49 dX10_pane_125 (X.S.l 50 rfl) (X.S.k 50 rfl rfl) rfl rfl rfl rfl ?_
  exact e_iret rfl dX10_pane_128 rfl rfl rfl rfl
theorem n_paneO {h : Hp} {c : Nat} {cn : Nat → Nat} (X : MX (mT h) c cn) {P : Nat} (hP : P < cn 1) (f : Int32) (hf : f.toInt < 0 ∨ 5 ≤ f.toInt) : gCi 2 0 0 yX10_pane cX10_pane 3 (some .int) [.ref 50, .int (nI P), .int f] h (some (.int (-1))) (mR (mT h) 1) := by
  refine g_entry (lv := [.ref 50, .int (nI P), .int f]) 0 pn_X10 rfl rfl rfl ?_
  refine g_aL0 dX10_pane_0 ?_
  refine g_iconst dX10_pane_1 ?_
  refine g_pI0 lf_X10_39 (X.S.l 50 rfl) (X.S.k 50 rfl rfl) dX10_pane_2 ?_
  show gY _ _ _ _ _ _ _ _ _ _ _ _ _ (mT h)
  generalize mT h = h at X ⊢
  refine g_aL0 dX10_pane_5 ?_
  refine g_iL1 dX10_pane_6 ?_
  refine e_v1i (d_isPane X _) lm_X10_377 dX10_pane_7 (X.S.l 50 rfl) (X.S.k 50 rfl rfl) rfl rfl rfl rfl ?_
  rw [ip_in hP (by have := X.b1; omega)]
  refine g_ifeq dX10_pane_10 (fun c10 => absurd c10 (by decide)) (fun c10 => ?_)
  refine g_iL2 dX10_pane_13 ?_
  refine g_iconst dX10_pane_14 ?_
  refine g_iconst dX10_pane_15 ?_
  refine e_s3i (d_in _ _ _) lm_X10_134 dX10_pane_16 rfl rfl rfl rfl ?_
  refine g_ifne dX10_pane_19 (fun c19 => absurd (in_t c19) (by rw [show (0 : Int32).toInt = 0 from by decide, show (4 : Int32).toInt = 4 from by decide]; omega)) (fun c19 => ?_)
  refine g_aL0 dX10_pane_22 ?_
  refine g_iconst dX10_pane_23 ?_
  refine e_v1i (d_refused X.S _) lm_X10_45 dX10_pane_24 (X.S.l 50 rfl) (X.S.k 50 rfl rfl) rfl rfl rfl rfl ?_
  exact e_iret rfl dX10_pane_27 rfl rfl rfl rfl
theorem n_pane_no {h : Hp} {c : Nat} {cn : Nat → Nat} (X : MX (mT h) c cn) (p f : Int32) (hp : ipF p (nI (cn 1)) = 0) : gCi 2 0 0 yX10_pane cX10_pane 3 (some .int) [.ref 50, .int p, .int f] h (some (.int (-1))) (mR (mT h) 1) := by
  refine g_entry (lv := [.ref 50, .int p, .int f]) 0 pn_X10 rfl rfl rfl ?_
  refine g_aL0 dX10_pane_0 ?_
  refine g_iconst dX10_pane_1 ?_
  refine g_pI0 lf_X10_39 (X.S.l 50 rfl) (X.S.k 50 rfl rfl) dX10_pane_2 ?_
  show gY _ _ _ _ _ _ _ _ _ _ _ _ _ (mT h)
  generalize mT h = h at X ⊢
  refine g_aL0 dX10_pane_5 ?_
  refine g_iL1 dX10_pane_6 ?_
  refine e_v1i (d_isPane X _) lm_X10_377 dX10_pane_7 (X.S.l 50 rfl) (X.S.k 50 rfl rfl) rfl rfl rfl rfl ?_
  refine g_ifeq dX10_pane_10 (fun c10 => ?_) (fun c10 => absurd hp c10)
  refine g_aL0 dX10_pane_22 ?_
  refine g_iconst dX10_pane_23 ?_
  refine e_v1i (d_refused X.S _) lm_X10_45 dX10_pane_24 (X.S.l 50 rfl) (X.S.k 50 rfl rfl) rfl rfl rfl rfl ?_
  exact e_iret rfl dX10_pane_27 rfl rfl rfl rfl
theorem z_pane {h : Hp} (S : SX (mT h)) (hz : gR (mT h) 50 3 = none) (p f : Int32) : gCi 2 0 0 yX10_pane cX10_pane 3 (some .int) [.ref 50, .int p, .int f] h (some (.int (-1))) (mR (mT h) 1) := by
  refine g_entry (lv := [.ref 50, .int p, .int f]) 0 pn_X10 rfl rfl rfl ?_
  refine g_aL0 dX10_pane_0 ?_
  refine g_iconst dX10_pane_1 ?_
  refine g_pI0 lf_X10_39 (S.l 50 rfl) (S.k 50 rfl rfl) dX10_pane_2 ?_
  show gY _ _ _ _ _ _ _ _ _ _ _ _ _ (mT h)
  generalize mT h = h at S hz ⊢
  refine g_aL0 dX10_pane_5 ?_
  refine g_iL1 dX10_pane_6 ?_
  refine e_v1i (z_isPane S hz _) lm_X10_377 dX10_pane_7 (S.l 50 rfl) (S.k 50 rfl rfl) rfl rfl rfl rfl ?_
  refine g_ifeq dX10_pane_10 (fun c10 => ?_) (fun c10 => absurd rfl c10)
  refine g_aL0 dX10_pane_22 ?_
  refine g_iconst dX10_pane_23 ?_
  refine e_v1i (d_refused S _) lm_X10_45 dX10_pane_24 (S.l 50 rfl) (S.k 50 rfl rfl) rfl rfl rfl rfl ?_
  exact e_iret rfl dX10_pane_27 rfl rfl rfl rfl

/-! THE REFERENCE'S PARSER: bytes and tokens -/
/-- bytes -/
def BY (tx : Nat → Int32) : Prop := ∀ j, -128 ≤ (tx j).toInt ∧ (tx j).toInt ≤ 127
def baF (tx : Nat → Int32) (en p : Nat) : Int32 := if nI en ≤ nI p then -1 else tx p &&& 255
theorem by_all : ∀ v : Fin 256, (inF (Int32.ofInt ((v.1 : Int) - 128) &&& 255) 97 122 = if ck (Int32.ofInt ((v.1 : Int) - 128)) = 1 then 1 else 0) ∧ (inF (Int32.ofInt ((v.1 : Int) - 128) &&& 255) 48 57 = if ck (Int32.ofInt ((v.1 : Int) - 128)) = 2 then 1 else 0) ∧ (Int32.ofInt ((v.1 : Int) - 128) &&& 255 = 59 ↔ ck (Int32.ofInt ((v.1 : Int) - 128)) = 3) ∧ (Int32.ofInt ((v.1 : Int) - 128) &&& 255 = 44 ↔ ck (Int32.ofInt ((v.1 : Int) - 128)) = 4) ∧ ¬ (Int32.ofInt ((v.1 : Int) - 128) &&& 255 = -1) ∧ ¬ ck (Int32.ofInt ((v.1 : Int) - 128)) = 0 ∧ (Int32.ofInt ((v.1 : Int) - 128) &&& 255 = 32 ↔ Int32.ofInt ((v.1 : Int) - 128) = 32) ∧ (ck (Int32.ofInt ((v.1 : Int) - 128)) = 1 ∨ ck (Int32.ofInt ((v.1 : Int) - 128)) = 2 → Int32.ofInt ((v.1 : Int) - 128) &&& 255 = Int32.ofInt ((v.1 : Int) - 128)) := by decide +kernel
theorem by_f {x : Int32} (h : -128 ≤ x.toInt ∧ x.toInt ≤ 127) : (inF (x &&& 255) 97 122 = if ck x = 1 then 1 else 0) ∧ (inF (x &&& 255) 48 57 = if ck x = 2 then 1 else 0) ∧ (x &&& 255 = 59 ↔ ck x = 3) ∧ (x &&& 255 = 44 ↔ ck x = 4) ∧ ¬ (x &&& 255 = -1) ∧ ¬ ck x = 0 ∧ (x &&& 255 = 32 ↔ x = 32) ∧ (ck x = 1 ∨ ck x = 2 → x &&& 255 = x) := by
  have hv : (x.toInt + 128).toNat < 256 := by omega
  have e : x = Int32.ofInt ((((x.toInt + 128).toNat : Nat) : Int) - 128) := by
    rw [show (((x.toInt + 128).toNat : Nat) : Int) - 128 = x.toInt by omega, Int32.ofInt_toInt]
  have := by_all ⟨(x.toInt + 128).toNat, hv⟩
  rw [← e] at this
  exact this
section BS
variable {tx : Nat → Int32} {en p : Nat}
theorem ba_out (h : en ≤ p) (hp : p < 2147483648) : baF tx en p = -1 := if_pos (nI_le h hp)
theorem ba_in (h : p < en) (he : en ≤ 1100) : baF tx en p = tx p &&& 255 := if_neg (nI_ge h (by omega))
theorem sA_in (h : p < en) (he : en ≤ 1100) : sAt tx en p = ck (tx p) := if_pos (nI_lt h (by omega))
/-- what the reference asks of the byte at p, in the class's words -/
theorem ba_s (B : BY tx) (he : en ≤ 1100) (hp : p ≤ 2200) : (inF (baF tx en p) 97 122 = if sAt tx en p = 1 then 1 else 0) ∧ (inF (baF tx en p) 48 57 = if sAt tx en p = 2 then 1 else 0) ∧ (baF tx en p = 59 ↔ sAt tx en p = 3) ∧ (baF tx en p = 44 ↔ sAt tx en p = 4) ∧ (baF tx en p = -1 ↔ sAt tx en p = 0) ∧ (baF tx en p = 32 ↔ p < en ∧ tx p = 32) ∧ (sAt tx en p = 1 ∨ sAt tx en p = 2 → baF tx en p = tx p) := by
  rcases Nat.lt_or_ge p en with z | z
  · rw [ba_in z he, sA_in z he]
    have b := by_f (B p)
    exact ⟨b.1, b.2.1, b.2.2.1, b.2.2.2.1, ⟨fun q => absurd q b.2.2.2.2.1, fun q => absurd q b.2.2.2.2.2.1⟩, ⟨fun q => ⟨z, b.2.2.2.2.2.2.1.mp q⟩, fun q => b.2.2.2.2.2.2.1.mpr q.2⟩, b.2.2.2.2.2.2.2⟩
  · rw [ba_out z (by omega), sAt_out z (by omega)]
    exact ⟨by decide, by decide, by decide, by decide, by decide, ⟨fun q => absurd q (by decide), fun q => by omega⟩, fun q => absurd q (by decide)⟩
end BS
theorem d_byteAt {h : Hp} (S : SX h) {tx : Nat → Int32} (hx : gI h 51 = tx) {en : Nat} (hen : gI h 50 7 = nI en) (he : en ≤ 1100) {p : Nat} (hp : p < 2147483648) : gCi 0 0 0 yX10_byteAt cX10_byteAt 2 (some .int) [.ref 50, .int (nI p)] h (some (.int (baF tx en p))) h := by
  refine g_entry (lv := [.ref 50, .int (nI p)]) 0 pn_X10 rfl rfl rfl ?_
  refine g_iL1 dX10_byteAt_0 ?_
  refine g_aL0 dX10_byteAt_1 ?_
  refine g_gI lf_X10_56 (S.l 50 rfl) (S.k 50 rfl rfl) dX10_byteAt_2 ?_
  rw [hen]
  refine g_icge dX10_byteAt_5 (fun c5 => ?_) (fun c5 => ?_)
  · refine g_iconst dX10_byteAt_21 ?_
    exact e_iret rfl dX10_byteAt_22 rfl rfl (if_pos c5).symm rfl
  · have hpe : p < en := by
      rcases Nat.lt_or_ge p en with z | z
      · exact z
      · exact absurd (nI_le z hp) c5
    refine g_aL0 dX10_byteAt_8 ?_
    refine g_getR lf_X10_13 (S.l 50 rfl) (S.k 50 rfl rfl) (S.r 50 5 (b := 51) rfl rfl) dX10_byteAt_9 ?_
    refine g_iL1 dX10_byteAt_12 ?_
    refine g_baloadN (S.l 51 rfl) (S.k 51 rfl rfl) (S.n 51 (n := 1100) rfl rfl) (by omega) (by decide) dX10_byteAt_13 ?_
    rw [show gI h 51 p = tx p from congrFun hx p]
    refine g_sipush dX10_byteAt_14 ?_
    refine g_iand dX10_byteAt_17 ?_
    refine g_goto dX10_byteAt_18 ?_
    exact e_iret rfl dX10_byteAt_22 rfl rfl (if_neg c5).symm rfl
theorem d_isLetter {h : Hp} (x : Int32) : gCi 0 0 0 yX10_isLetter cX10_isLetter 1 (some .boolean) [.int x] h (some (.int (inF x 97 122))) h := by
  refine g_entry (lv := [.int x]) 0 pn_X10 rfl rfl rfl ?_
  refine g_iL0 dX10_isLetter_0 ?_
  refine g_bipush dX10_isLetter_1 ?_
  refine g_iclt dX10_isLetter_3 (fun c3 => ?_) (fun c3 => ?_)
  · refine g_iconst dX10_isLetter_16 ?_
    exact e_zret rfl (by decide) dX10_isLetter_17 rfl rfl (if_pos c3).symm rfl
  · refine g_iL0 dX10_isLetter_6 ?_
    refine g_bipush dX10_isLetter_7 ?_
    refine g_icgt dX10_isLetter_9 (fun c9 => ?_) (fun c9 => ?_)
    · refine g_iconst dX10_isLetter_16 ?_
      exact e_zret rfl (by decide) dX10_isLetter_17 rfl rfl ((if_neg c3).trans (if_pos c9)).symm rfl
    · refine g_iconst dX10_isLetter_12 ?_
      refine g_goto dX10_isLetter_13 ?_
      exact e_zret rfl (by decide) dX10_isLetter_17 rfl rfl ((if_neg c3).trans (if_neg c9)).symm rfl
theorem d_isDigit {h : Hp} (x : Int32) : gCi 0 0 0 yX10_isDigit cX10_isDigit 1 (some .boolean) [.int x] h (some (.int (inF x 48 57))) h := by
  refine g_entry (lv := [.int x]) 0 pn_X10 rfl rfl rfl ?_
  refine g_iL0 dX10_isDigit_0 ?_
  refine g_bipush dX10_isDigit_1 ?_
  refine g_iclt dX10_isDigit_3 (fun c3 => ?_) (fun c3 => ?_)
  · refine g_iconst dX10_isDigit_16 ?_
    exact e_zret rfl (by decide) dX10_isDigit_17 rfl rfl (if_pos c3).symm rfl
  · refine g_iL0 dX10_isDigit_6 ?_
    refine g_bipush dX10_isDigit_7 ?_
    refine g_icgt dX10_isDigit_9 (fun c9 => ?_) (fun c9 => ?_)
    · refine g_iconst dX10_isDigit_16 ?_
      exact e_zret rfl (by decide) dX10_isDigit_17 rfl rfl ((if_neg c3).trans (if_pos c9)).symm rfl
    · refine g_iconst dX10_isDigit_12 ?_
      refine g_goto dX10_isDigit_13 ?_
      exact e_zret rfl (by decide) dX10_isDigit_17 rfl rfl ((if_neg c3).trans (if_neg c9)).symm rfl
def pkF (k : Nat) : Nat → Nat → Int64 → Int64
  | 0, _, a => a
  | n + 1, i, a => pkF k n (i + 1) (32 * a + (gch k i - 97 + 1).toInt64)
theorem d_packed {h : Hp} {k : Nat} (hk : k < 36) {x : UInt32} (hx : ¬ x = 0 ∧ x.toNat - 1 = k) : gCi 4 0 0 yX10_packed cX10_packed 4 (some .long) [.float x] h (some (.long (pkF k (gbl k) 0 0))) h := by
  have hgl := gbl_lt k hk
  refine g_entry (lv := [.float x, .retAddr 0, .retAddr 0, .retAddr 0]) 3 pn_X10 rfl rfl rfl ?_
  have loop : ∀ (n i : Nat) (v : Int64), i + n = gbl k → pkF k (gbl k) 0 0 = pkF k n i v → gY 4 0 0 yX10_packed cX10_packed 4 (some .long) 0 0 (fun v' h' => v' = (some (.long (pkF k (gbl k) 0 0))) ∧ h' = h) 4 [.float x, .long v, .retAddr 0, .int (nI i)] [] h := by
    intro n
    induction n with
    | zero =>
      intro i v hi he 
      refine g_iL3 dX10_packed_4 ?_
      refine g_sL0 dX10_packed_5 ?_
      refine g_slen hk hx ll_X10_59 rfl rfl rfl rfl dX10_packed_6 ?_
      refine g_icge dX10_packed_9 (fun c9 => ?_) (fun c9 => absurd (nI_le (by omega) (by omega)) c9)
      refine g_lL1 dX10_packed_36 ?_
      exact e_lret rfl dX10_packed_37 rfl rfl he.symm rfl
    | succ n ih =>
      intro i v hi he 
      refine g_iL3 dX10_packed_4 ?_
      refine g_sL0 dX10_packed_5 ?_
      refine g_slen hk hx ll_X10_59 rfl rfl rfl rfl dX10_packed_6 ?_
      refine g_icge dX10_packed_9 (fun c9 => absurd c9 (nI_ge (by omega) (by omega))) (fun c9 => ?_)
      refine g_ldc2 dX10_packed_12 lc_X10_65 ?_
      refine g_lL1 dX10_packed_15 ?_
      refine g_lmul dX10_packed_16 ?_
      refine g_sL0 dX10_packed_17 ?_
      refine g_iL3 dX10_packed_18 ?_
      refine g_schar hk hx (by omega) ll_X10_67 rfl rfl rfl rfl dX10_packed_19 ?_
      refine g_bipush dX10_packed_22 ?_
      refine g_isub dX10_packed_24 ?_
      refine g_iconst dX10_packed_25 ?_
      refine g_iadd dX10_packed_26 ?_
      refine g_i2l dX10_packed_27 ?_
      refine g_ladd dX10_packed_28 ?_
      refine g_lS1 dX10_packed_29 rfl rfl ?_
      refine g_ii3 dX10_packed_30 rfl rfl ?_
      refine g_goto dX10_packed_33 ?_
      rw [nI_1]
      exact ih (i + 1) _ (by omega) he 
  refine g_lconst dX10_packed_0 ?_
  refine g_lS1 dX10_packed_1 rfl rfl ?_
  refine g_iconst dX10_packed_2 ?_
  refine g_iS3 dX10_packed_3 rfl rfl ?_
  exact loop (gbl k) 0 _ (by omega) rfl
/-- a fault is told -/
def fwH (h : Hp) (f p : Int32) : Hp := pI (pI (pI h 50 13 f) 50 14 p) 50 9 5
theorem d_flawAt0 {h : Hp} (S : SX h) (hs : ¬ gI h 50 9 = 5) (f p : Int32) : gCi 0 0 0 yX10_flawAt cX10_flawAt 3 none [.ref 50, .int f, .int p] h none (fwH h f p) := by
  refine g_entry (lv := [.ref 50, .int f, .int p]) 0 pn_X10 rfl rfl rfl ?_
  refine g_aL0 dX10_flawAt_0 ?_
  refine g_gI lf_X10_71 (S.l 50 rfl) (S.k 50 rfl rfl) dX10_flawAt_1 ?_
  refine g_iconst dX10_flawAt_4 ?_
  refine g_icne dX10_flawAt_5 (fun c5 => ?_) (fun c5 => absurd c5 hs)
  refine g_aL0 dX10_flawAt_9 ?_
  refine g_iL1 dX10_flawAt_10 ?_
  refine g_pI0 lf_X10_110 (S.l 50 rfl) (S.k 50 rfl rfl) dX10_flawAt_11 ?_
  refine g_aL0 dX10_flawAt_14 ?_
  refine g_iL2 dX10_flawAt_15 ?_
  refine g_pI0 lf_X10_113 (S.l 50 rfl) (S.k 50 rfl rfl) dX10_flawAt_16 ?_
  refine g_aL0 dX10_flawAt_19 ?_
  refine g_iconst dX10_flawAt_20 ?_
  refine g_pI0 lf_X10_71 (S.l 50 rfl) (S.k 50 rfl rfl) dX10_flawAt_21 ?_
  exact e_vret rfl dX10_flawAt_24 rfl rfl rfl
theorem d_flawAt5 {h : Hp} (S : SX h) (hs : gI h 50 9 = 5) (f p : Int32) : gCi 0 0 0 yX10_flawAt cX10_flawAt 3 none [.ref 50, .int f, .int p] h none h := by
  refine g_entry (lv := [.ref 50, .int f, .int p]) 0 pn_X10 rfl rfl rfl ?_
  refine g_aL0 dX10_flawAt_0 ?_
  refine g_gI lf_X10_71 (S.l 50 rfl) (S.k 50 rfl rfl) dX10_flawAt_1 ?_
  refine g_iconst dX10_flawAt_4 ?_
  refine g_icne dX10_flawAt_5 (fun c5 => absurd hs c5) (fun c5 => ?_)
  exact e_vret rfl dX10_flawAt_8 rfl rfl rfl
theorem d_flaw0 {h : Hp} (S : SX h) (hs : ¬ gI h 50 9 = 5) (f : Int32) : gCi 1 0 0 yX10_flaw cX10_flaw 2 none [.ref 50, .int f] h none (fwH h f (gI h 50 10)) := by
  refine g_entry (lv := [.ref 50, .int f]) 0 pn_X10 rfl rfl rfl ?_
  refine g_aL0 dX10_flaw_0 ?_
  refine g_iL1 dX10_flaw_1 ?_
  refine g_aL0 dX10_flaw_2 ?_
  refine g_gI lf_X10_80 (S.l 50 rfl) (S.k 50 rfl rfl) dX10_flaw_3 ?_
  refine e_v2u (d_flawAt0 S hs _ _) lm_X10_106 dX10_flaw_6 (S.l 50 rfl) (S.k 50 rfl rfl) rfl rfl rfl rfl ?_
  exact e_vret rfl dX10_flaw_9 rfl rfl rfl
theorem d_flaw5 {h : Hp} (S : SX h) (hs : gI h 50 9 = 5) (f : Int32) : gCi 1 0 0 yX10_flaw cX10_flaw 2 none [.ref 50, .int f] h none h := by
  refine g_entry (lv := [.ref 50, .int f]) 0 pn_X10 rfl rfl rfl ?_
  refine g_aL0 dX10_flaw_0 ?_
  refine g_iL1 dX10_flaw_1 ?_
  refine g_aL0 dX10_flaw_2 ?_
  refine g_gI lf_X10_80 (S.l 50 rfl) (S.k 50 rfl rfl) dX10_flaw_3 ?_
  refine e_v2u (d_flawAt5 S hs _ _) lm_X10_106 dX10_flaw_6 (S.l 50 rfl) (S.k 50 rfl rfl) rfl rfl rfl rfl ?_
  exact e_vret rfl dX10_flaw_9 rfl rfl rfl
theorem d_goesOn5 {h : Hp} (S : SX h) (hs : gI h 50 9 = 5) : gCi 1 0 0 yX10_goesOn cX10_goesOn 3 none [.ref 50] h none h := by
  refine g_entry (lv := [.ref 50, .retAddr 0, .retAddr 0]) 2 pn_X10 rfl rfl rfl ?_
  refine g_aL0 dX10_goesOn_0 ?_
  refine g_gI lf_X10_71 (S.l 50 rfl) (S.k 50 rfl rfl) dX10_goesOn_1 ?_
  refine g_iconst dX10_goesOn_4 ?_
  refine g_icne dX10_goesOn_5 (fun c5 => absurd hs c5) (fun c5 => ?_)
  exact e_vret rfl dX10_goesOn_8 rfl rfl rfl
theorem sh_5 (a : Int64) : a <<< ((5 : Int32).toInt64 &&& 63) = 32 * a := by
  obtain ⟨n, _, rfl⟩ : ∃ n, n < 2 ^ 64 ∧ a = lN n := ⟨a.toBitVec.toNat, a.toBitVec.isLt, by
    apply Int64.toBitVec_inj.mp
    show a.toBitVec = BitVec.ofNat 64 a.toBitVec.toNat
    rw [BitVec.ofNat_toNat, BitVec.setWidth_eq]⟩
  rw [show (32 : Int64) = lN 32 from rfl, lN_mul]
  apply Int64.toBitVec_inj.mp
  rw [Int64.toBitVec_shiftLeft]
  apply BitVec.eq_of_toNat_eq
  show (BitVec.ofNat 64 n <<< (((5 : Int32).toInt64 &&& 63).toBitVec.smod 64)).toNat = (BitVec.ofNat 64 (32 * n)).toNat
  rw [show ((5 : Int32).toInt64 &&& 63).toBitVec.smod 64 = 5#64 from by decide, BitVec.shiftLeft_eq', BitVec.toNat_shiftLeft, BitVec.toNat_ofNat, BitVec.toNat_ofNat, BitVec.toNat_ofNat, Nat.shiftLeft_eq, Nat.mul_comm 32 n, show 2 ^ (5 % 2 ^ 64) = 32 from by decide]
  omega
/-- the reference's sorts of tokens, and its signs -/
def rsM' (s : Int32) : Int32 := if s = 0 then 1 else if s = 1 then 2 else if s = 2 then 3 else if s = 3 then 4 else if s = 4 then 4 else 0
def sgM (s : Int32) : Int32 := if s = 3 then 59 else if s = 4 then 44 else 0
/-- the token at q is the current one; nothing has failed -/
def RK (tx : Nat → Int32) (en : Nat) (h : Hp) (q : Nat) : Prop := q ≤ en ∧ gI h 50 9 = rsM' (tkS tx en q) ∧ gI h 50 10 = nI (tkP tx en q) ∧ (¬ tkS tx en q = 5 → gI h 50 8 = nI (nx tx en q)) ∧ gI h 50 11 = sgM (tkS tx en q) ∧ (tkS tx en q = 1 → gJ h 50 17 = kyP tx en q ∧ gI h 50 15 = nI (tkL tx en q) ∧ gI h 50 16 = nI (tkP tx en q)) ∧ (tkS tx en q = 2 → gI h 50 12 = vlP tx en q) ∧ gI h 50 13 = 0
def LB (h : Hp) : Prop := (∃ a, a ≤ 1100 ∧ gI h 50 15 = nI a) ∧ ∃ b, b ≤ 1100 ∧ gI h 50 16 = nI b
/-- what reading on leaves as it was; what the parser's words leave as it was -/
def GO (h' h : Hp) : Prop := h'.1 = h.1 ∧ h'.2.1 = h.2.1 ∧ h'.2.2.1 = h.2.2.1 ∧ h'.2.2.2.1 = h.2.2.2.1 ∧ (∀ b j, ¬ (b = 50 ∧ (j = 8 ∨ j = 9 ∨ j = 10 ∨ j = 11 ∨ j = 12 ∨ j = 15 ∨ j = 16)) → gI h' b j = gI h b j) ∧ ∀ b j, ¬ (b = 50 ∧ j = 17) → gJ h' b j = gJ h b j
theorem GO.refl (h : Hp) : GO h h := ⟨rfl, rfl, rfl, rfl, fun _ _ _ => rfl, fun _ _ _ => rfl⟩
theorem GO.trans {a b c : Hp} (x : GO a b) (y : GO b c) : GO a c := ⟨x.1.trans y.1, x.2.1.trans y.2.1, x.2.2.1.trans y.2.2.1, x.2.2.2.1.trans y.2.2.2.1, fun p q r => (x.2.2.2.2.1 p q r).trans (y.2.2.2.2.1 p q r), fun p q r => (x.2.2.2.2.2 p q r).trans (y.2.2.2.2.2 p q r)⟩
theorem GO_I (h : Hp) {k : Nat} (v : Int32) (hk : k = 8 ∨ k = 9 ∨ k = 10 ∨ k = 11 ∨ k = 12 ∨ k = 15 ∨ k = 16) : GO (pI h 50 k v) h := ⟨rfl, rfl, rfl, rfl, fun b j z => u2_n _ _ (fun y => z ⟨y.1, by rw [y.2]; exact hk⟩), fun _ _ _ => rfl⟩
theorem GO_J (h : Hp) (v : Int64) : GO (pJ h 50 17 v) h := ⟨rfl, rfl, rfl, rfl, fun _ _ _ => rfl, fun b j z => u2_n _ _ z⟩
theorem GO.S {h' h : Hp} (x : GO h' h) (S : SX h) : SX h' := S.eq x.1 x.2.1 x.2.2.1 x.2.2.2.1
theorem pI_eta (h : Hp) {a k : Nat} {v : Int32} (e : gI h a k = v) : pI h a k v = h := by
  subst e
  have : u2 h.2.2.2.2.1 a k (gI h a k) = h.2.2.2.2.1 := by
    funext b j
    by_cases z : b = a ∧ j = k
    · rw [z.1, z.2]; exact u2_s _ _ _ _
    · exact u2_n _ _ z
  show ((h.1, h.2.1, h.2.2.1, h.2.2.2.1, u2 h.2.2.2.2.1 a k (gI h a k), h.2.2.2.2.2) : Hp) = h
  rw [this]
theorem ky_sn (tx : Nat → Int32) (p : Nat) : ∀ (n i : Nat) (a : Int64), kyF tx p (n + 1) i a = 32 * kyF tx p n i a + (tx (p + (i + n)) - 97 + 1).toInt64
  | 0, i, a => by
    show (a <<< ((5 : Int32).toInt64 &&& 63)) + _ = 32 * a + _
    rw [sh_5]; rfl
  | n + 1, i, a => by
    have := ky_sn tx p n (i + 1) ((a <<< ((5 : Int32).toInt64 &&& 63)) + (tx (p + i) - 97 + 1).toInt64)
    rw [show i + 1 + n = i + (n + 1) by omega] at this
    exact this
theorem vl_sn (tx : Nat → Int32) (p : Nat) : ∀ (n i : Nat) (a : Int32), vlF tx p (n + 1) i a = 10 * vlF tx p n i a + tx (p + (i + n)) - 48
  | 0, i, a => by
    show 10 * a + (tx (p + i) - 48) = 10 * a + tx (p + (i + 0)) - 48
    rw [Int32.sub_eq_add_neg, Int32.sub_eq_add_neg, Int32.add_assoc]; rfl
  | n + 1, i, a => by
    have := vl_sn tx p n (i + 1) (10 * a + (tx (p + i) - 48))
    rw [show i + 1 + n = i + (n + 1) by omega] at this
    exact this

/-! more rows: null; literal and natural indices -/
section GY2
variable {d RC RS nL cells slots pc q t : Nat} {y : MethodName} {cc : ByteArray} {ret : Option FieldType} {Q : Option Value → Hp → Prop} {lv st : List Value} {h : Hp}
theorem g_getN0 {a idx ci fi mo : Nat} (hf : gF y.cls idx ci fi 2 mo) (ha : a ∈ gL h) (hk : gK h a = ci) (hr : gR h a fi = none) (hd : gd cc pc (.getfield idx) 3 q) (k : gY d RC RS y cc nL ret cells slots Q q lv (.null :: st) h) : gY d RC RS y cc nL ret cells slots Q pc lv (.ref a :: st) h := by
  refine g_getO hf ha hk hd ?_
  rw [hr]
  exact k
theorem g_ifnullS {a : Nat} {off : Int} (hd : gb cc pc (.ifnull off) off q t) (k : gY d RC RS y cc nL ret cells slots Q q lv st h) : gY d RC RS y cc nL ret cells slots Q pc lv (.ref a :: st) h := g_ifnull (r := some a) hd (fun z => by cases z) (fun _ _ => k)
theorem g_ifnonnullS {a : Nat} {off : Int} (hd : gb cc pc (.ifnonnull off) off q t) (k : gY d RC RS y cc nL ret cells slots Q t lv st h) : gY d RC RS y cc nL ret cells slots Q pc lv (.ref a :: st) h := g_ifnonnull (r := some a) hd (fun z => by cases z) (fun _ _ => k)
theorem g_ifnullZ {off : Int} (hd : gb cc pc (.ifnull off) off q t) (k : gY d RC RS y cc nL ret cells slots Q t lv st h) : gY d RC RS y cc nL ret cells slots Q pc lv (.null :: st) h := g_ifnull (r := none) hd (fun _ => k) (fun _ z => by cases z)
theorem g_ifnonnullZ {off : Int} (hd : gb cc pc (.ifnonnull off) off q t) (k : gY d RC RS y cc nL ret cells slots Q q lv st h) : gY d RC RS y cc nL ret cells slots Q pc lv (.null :: st) h := g_ifnonnull (r := none) hd (fun _ => k) (fun _ z => by cases z)
theorem g_ialoadK {a n j : Nat} {i : Int32} (ha : a ∈ gL h) (hk : gK h a = 12) (hn : gN h a = n) (hb : gib i n = true) (hj : i.toNatClampNeg = j) (hd : gd cc pc .iaload 1 q) (k : gY d RC RS y cc nL ret cells slots Q q lv (.int (gI h a j) :: st) h) : gY d RC RS y cc nL ret cells slots Q pc lv (.int i :: .ref a :: st) h := by
  subst hj
  exact g_iaload ha hk (vI hn hb) hd k
theorem g_ialoadN {a n j : Nat} (ha : a ∈ gL h) (hk : gK h a = 12) (hn : gN h a = n) (hj : j < n) (h2 : n < 2 ^ 31) (hd : gd cc pc .iaload 1 q) (k : gY d RC RS y cc nL ret cells slots Q q lv (.int (gI h a j) :: st) h) : gY d RC RS y cc nL ret cells slots Q pc lv (.int (nI j) :: .ref a :: st) h := by
  refine g_iaload ha hk (vJ hn hj h2) hd ?_
  rw [nI_clamp (by omega)]
  exact k
theorem g_baloadK {a n j : Nat} {i : Int32} (ha : a ∈ gL h) (hk : gK h a = 11) (hn : gN h a = n) (hb : gib i n = true) (hj : i.toNatClampNeg = j) (hd : gd cc pc .baload 1 q) (k : gY d RC RS y cc nL ret cells slots Q q lv (.int (gI h a j) :: st) h) : gY d RC RS y cc nL ret cells slots Q pc lv (.int i :: .ref a :: st) h := by
  subst hj
  exact g_baload ha hk (vI hn hb) hd k
theorem g_baloadN {a n j : Nat} (ha : a ∈ gL h) (hk : gK h a = 11) (hn : gN h a = n) (hj : j < n) (h2 : n < 2 ^ 31) (hd : gd cc pc .baload 1 q) (k : gY d RC RS y cc nL ret cells slots Q q lv (.int (gI h a j) :: st) h) : gY d RC RS y cc nL ret cells slots Q pc lv (.int (nI j) :: .ref a :: st) h := by
  refine g_baload ha hk (vJ hn hj h2) hd ?_
  rw [nI_clamp (by omega)]
  exact k
theorem g_laloadK {a n j : Nat} {i : Int32} (ha : a ∈ gL h) (hk : gK h a = 13) (hn : gN h a = n) (hb : gib i n = true) (hj : i.toNatClampNeg = j) (hd : gd cc pc .laload 1 q) (k : gY d RC RS y cc nL ret cells slots Q q lv (.long (gJ h a j) :: st) h) : gY d RC RS y cc nL ret cells slots Q pc lv (.int i :: .ref a :: st) h := by
  subst hj
  exact g_laload ha hk (vI hn hb) hd k
theorem g_laloadN {a n j : Nat} (ha : a ∈ gL h) (hk : gK h a = 13) (hn : gN h a = n) (hj : j < n) (h2 : n < 2 ^ 31) (hd : gd cc pc .laload 1 q) (k : gY d RC RS y cc nL ret cells slots Q q lv (.long (gJ h a j) :: st) h) : gY d RC RS y cc nL ret cells slots Q pc lv (.int (nI j) :: .ref a :: st) h := by
  refine g_laload ha hk (vJ hn hj h2) hd ?_
  rw [nI_clamp (by omega)]
  exact k
theorem g_iastoreK {a n j : Nat} {i : Int32} {x : Int32} (ha : a ∈ gL h) (hk : gK h a = 12) (hn : gN h a = n) (hb : gib i n = true) (hj : i.toNatClampNeg = j) (hd : gd cc pc .iastore 1 q) (k : gY d RC RS y cc nL ret cells slots Q q lv st (pI h a j x)) : gY d RC RS y cc nL ret cells slots Q pc lv (.int x :: .int i :: .ref a :: st) h := by
  subst hj
  exact g_iastore ha hk (vI hn hb) hd k
theorem g_iastoreN {a n j : Nat} {x : Int32} (ha : a ∈ gL h) (hk : gK h a = 12) (hn : gN h a = n) (hj : j < n) (h2 : n < 2 ^ 31) (hd : gd cc pc .iastore 1 q) (k : gY d RC RS y cc nL ret cells slots Q q lv st (pI h a j x)) : gY d RC RS y cc nL ret cells slots Q pc lv (.int x :: .int (nI j) :: .ref a :: st) h := by
  refine g_iastore ha hk (vJ hn hj h2) hd ?_
  rw [nI_clamp (by omega)]
  exact k
theorem g_bastoreK {a n j : Nat} {i : Int32} {x : Int32} (ha : a ∈ gL h) (hk : gK h a = 11) (hn : gN h a = n) (hb : gib i n = true) (hj : i.toNatClampNeg = j) (hd : gd cc pc .bastore 1 q) (k : gY d RC RS y cc nL ret cells slots Q q lv st (pI h a j x.toInt8.toInt32)) : gY d RC RS y cc nL ret cells slots Q pc lv (.int x :: .int i :: .ref a :: st) h := by
  subst hj
  exact g_bastore ha hk (vI hn hb) hd k
theorem g_bastoreN {a n j : Nat} {x : Int32} (ha : a ∈ gL h) (hk : gK h a = 11) (hn : gN h a = n) (hj : j < n) (h2 : n < 2 ^ 31) (hd : gd cc pc .bastore 1 q) (k : gY d RC RS y cc nL ret cells slots Q q lv st (pI h a j x.toInt8.toInt32)) : gY d RC RS y cc nL ret cells slots Q pc lv (.int x :: .int (nI j) :: .ref a :: st) h := by
  refine g_bastore ha hk (vJ hn hj h2) hd ?_
  rw [nI_clamp (by omega)]
  exact k
theorem g_lastoreK {a n j : Nat} {i : Int32} {x : Int64} (ha : a ∈ gL h) (hk : gK h a = 13) (hn : gN h a = n) (hb : gib i n = true) (hj : i.toNatClampNeg = j) (hd : gd cc pc .lastore 1 q) (k : gY d RC RS y cc nL ret cells slots Q q lv st (pJ h a j x)) : gY d RC RS y cc nL ret cells slots Q pc lv (.long x :: .int i :: .ref a :: st) h := by
  subst hj
  exact g_lastore ha hk (vI hn hb) hd k
theorem g_lastoreN {a n j : Nat} {x : Int64} (ha : a ∈ gL h) (hk : gK h a = 13) (hn : gN h a = n) (hj : j < n) (h2 : n < 2 ^ 31) (hd : gd cc pc .lastore 1 q) (k : gY d RC RS y cc nL ret cells slots Q q lv st (pJ h a j x)) : gY d RC RS y cc nL ret cells slots Q pc lv (.long x :: .int (nI j) :: .ref a :: st) h := by
  refine g_lastore ha hk (vJ hn hj h2) hd ?_
  rw [nI_clamp (by omega)]
  exact k
end GY2
/-- a truth as an int -/
def b2 (p : Prop) [Decidable p] : Int32 := if p then 1 else 0
theorem b2_t {p : Prop} [Decidable p] (h : p) : b2 p = 1 := if_pos h
theorem b2_f {p : Prop} [Decidable p] (h : ¬ p) : b2 p = 0 := if_neg h
theorem b2_0 {p : Prop} [Decidable p] (h : b2 p = 0) : ¬ p := fun z => by rw [b2_t z] at h; exact absurd h (by decide)
theorem b2_1 {p : Prop} [Decidable p] (h : ¬ b2 p = 0) : p := by by_cases z : p; exact z; exact absurd (b2_f z) h
theorem vK {h : Hp} {a n : Nat} {x M : Int32} (hM : M.toInt = n) (h0 : ¬ x < 0) (h1 : ¬ M ≤ x) (hn : gN h a = n) : vp_in x (gN h a) := by
  rw [hn, vp_in_iff]
  rw [Int32.lt_iff_toInt_lt] at h0
  rw [Int32.le_iff_toInt_le] at h1
  have e : (0 : Int32).toInt = 0 := rfl
  omega
theorem c_cells {h : Hp} {t : Nat} (S : SX h) (hc : t = 3 ∨ t = 18) : gCi 0 0 0 yX0_cells cX0_cells 1 (some .int) [.ref t] h (some (.int (gI h t 1 * gI h t 2))) h := by
  refine g_entry (lv := [.ref t]) 0 pn_X0 rfl rfl rfl ?_
  refine g_aL0 dX0_cells_0 ?_
  refine g_gI lf_X0_54 (S.cl hc 0 rfl) (S.ck hc) dX0_cells_1 ?_
  refine g_aL0 dX0_cells_4 ?_
  refine g_gI lf_X0_58 (S.cl hc 0 rfl) (S.ck hc) dX0_cells_5 ?_
  refine g_imul dX0_cells_8 ?_
  exact e_iret rfl dX0_cells_9 rfl rfl rfl rfl
abbrev allF (w g : Int32) : Int32 := ((1 : Int32) <<< (w * g &&& 31)) - 1
theorem c_allCells {h : Hp} {t : Nat} (S : SX h) (hc : t = 3 ∨ t = 18) : gCi 1 0 0 yX0_allCells cX0_allCells 1 (some .int) [.ref t] h (some (.int (allF (gI h t 1) (gI h t 2)))) h := by
  refine g_entry (lv := [.ref t]) 0 pn_X0 rfl rfl rfl ?_
  refine g_iconst dX0_allCells_0 ?_
  refine g_aL0 dX0_allCells_1 ?_
  refine e_v0i (c_cells S hc) lm_X0_73 dX0_allCells_2 (S.cl hc 0 rfl) (S.ck hc) rfl rfl rfl rfl ?_
  refine g_ishl dX0_allCells_5 ?_
  refine g_iconst dX0_allCells_6 ?_
  refine g_isub dX0_allCells_7 ?_
  exact e_iret rfl dX0_allCells_8 rfl rfl rfl rfl
theorem c_street {h : Hp} (a b : Int32) : gCi 0 0 0 yX0_street cX0_street 2 (some .int) [.int a, .int b] h (some (.int (a * 7 + b))) h := by
  refine g_entry (lv := [.int a, .int b]) 0 pn_X0 rfl rfl rfl ?_
  refine g_iL0 dX0_street_0 ?_
  refine g_bipush dX0_street_1 ?_
  refine g_imul dX0_street_3 ?_
  refine g_iL1 dX0_street_4 ?_
  refine g_iadd dX0_street_5 ?_
  exact e_iret rfl dX0_street_6 rfl rfl rfl rfl
/-- bit s of a set, as the class asks for it -/
def bz (set s : Int32) : Int32 := (set >>> (s &&& 31)) &&& 1
def thF (th c : Int32) : Int32 := if bz th c = 0 then 0 else 1
theorem c_hasThief {h : Hp} {t : Nat} (S : SX h) (hc : t = 3 ∨ t = 18) (c : Int32) : gCi 0 0 0 yX0_hasThief cX0_hasThief 2 (some .boolean) [.ref t, .int c] h (some (.int (thF (gI h t 13) c))) h := by
  refine g_entry (lv := [.ref t, .int c]) 0 pn_X0 rfl rfl rfl ?_
  refine g_aL0 dX0_hasThief_0 ?_
  refine g_gI lf_X0_70 (S.cl hc 0 rfl) (S.ck hc) dX0_hasThief_1 ?_
  refine g_iL1 dX0_hasThief_4 ?_
  refine g_ishr dX0_hasThief_5 ?_
  refine g_iconst dX0_hasThief_6 ?_
  refine g_iand dX0_hasThief_7 ?_
  refine g_ifeq dX0_hasThief_8 (fun c8 => ?_) (fun c8 => ?_)
  · refine g_iconst dX0_hasThief_15 ?_
    exact e_zret rfl (by decide) dX0_hasThief_16 rfl rfl (if_pos c8).symm rfl
  · refine g_iconst dX0_hasThief_11 ?_
    refine g_goto dX0_hasThief_12 ?_
    exact e_zret rfl (by decide) dX0_hasThief_16 rfl rfl (if_neg c8).symm rfl
def dkF (dk : Nat → Int32) (v : Int32) : Int32 := if v < 0 then 0 else if 6 ≤ v then 0 else dk v.toNatClampNeg
theorem c_darkOf {h : Hp} {t : Nat} (S : SX h) (hc : t = 3 ∨ t = 18) (v : Int32) : gCi 0 0 0 yX0_darkOf cX0_darkOf 2 (some .int) [.ref t, .int v] h (some (.int (dkF (gI h (t + 5)) v))) h := by
  refine g_entry (lv := [.ref t, .int v]) 0 pn_X0 rfl rfl rfl ?_
  refine g_iL1 dX0_darkOf_0 ?_
  refine g_iflt dX0_darkOf_1 (fun c1 => ?_) (fun c1 => ?_)
  · refine g_iconst dX0_darkOf_19 ?_
    exact e_iret rfl dX0_darkOf_20 rfl rfl (if_pos c1).symm rfl
  · refine g_iL1 dX0_darkOf_4 ?_
    refine g_bipush dX0_darkOf_5 ?_
    refine g_icge dX0_darkOf_7 (fun c7 => ?_) (fun c7 => ?_)
    · refine g_iconst dX0_darkOf_19 ?_
      exact e_iret rfl dX0_darkOf_20 rfl rfl ((if_neg c1).trans (if_pos c7)).symm rfl
    · refine g_aL0 dX0_darkOf_10 ?_
      refine g_getR lf_X0_24 (S.cl hc 0 rfl) (S.ck hc) (S.cr hc 9 rfl rfl) dX0_darkOf_11 ?_
      refine g_iL1 dX0_darkOf_14 ?_
      refine g_iaload (S.cl hc 5 rfl) (S.cka hc 5 rfl rfl) (vK (M := 6) (by decide) c1 c7 (S.cn hc 5 (n := 6) rfl rfl rfl)) dX0_darkOf_15 ?_
      refine g_goto dX0_darkOf_16 ?_
      exact e_iret rfl dX0_darkOf_20 rfl rfl ((if_neg c1).trans (if_neg c7)).symm rfl
def fwF (wd : Nat → Int32) (b : Int32) : Nat → Nat → Int32
  | 0, _ => -2
  | n + 1, i => if wd i = b then nI i else fwF wd b n (i + 1)
theorem c_firstWord {h : Hp} {t : Nat} (S : SX h) (hc : t = 3 ∨ t = 18) {N : Nat} (hN : gI h (t + 1) 2 = nI N) (hN8 : N ≤ 8) (b : Int32) : gCi 0 0 0 yX0_firstWord cX0_firstWord 3 (some .int) [.ref t, .int b] h (some (.int (fwF (gI h (t + 4)) b N 0))) h := by
  refine g_entry (lv := [.ref t, .int b, .retAddr 0]) 1 pn_X0 rfl rfl rfl ?_
  have loop : ∀ (n i : Nat) , i + n = N → fwF (gI h (t + 4)) b N 0 = fwF (gI h (t + 4)) b n i → gY 0 0 0 yX0_firstWord cX0_firstWord 3 (some .int) 0 0 (fun v' h' => v' = (some (.int (fwF (gI h (t + 4)) b N 0))) ∧ h' = h) 2 [.ref t, .int b, .int (nI i)] [] h := by
    intro n
    induction n with
    | zero =>
      intro i  hi he
      refine g_iL2 dX0_firstWord_2 ?_
      refine g_aL0 dX0_firstWord_3 ?_
      refine g_getR lf_X0_11 (S.cl hc 0 rfl) (S.ck hc) (S.cr hc 0 rfl rfl) dX0_firstWord_4 ?_
      refine g_iconst dX0_firstWord_7 ?_
      refine g_ialoadK (S.cl hc 1 rfl) (S.cka hc 1 rfl rfl) (S.cn hc 1 (n := 11) rfl rfl rfl) rfl (j := 2) rfl dX0_firstWord_8 ?_
      rw [hN]
      refine g_icge dX0_firstWord_9 (fun c9 => ?_) (fun c9 => absurd (nI_le (by omega) (by omega)) c9)
      refine g_bipush dX0_firstWord_30 ?_
      exact e_iret rfl dX0_firstWord_32 rfl rfl he.symm rfl
    | succ n ih =>
      intro i  hi he
      refine g_iL2 dX0_firstWord_2 ?_
      refine g_aL0 dX0_firstWord_3 ?_
      refine g_getR lf_X0_11 (S.cl hc 0 rfl) (S.ck hc) (S.cr hc 0 rfl rfl) dX0_firstWord_4 ?_
      refine g_iconst dX0_firstWord_7 ?_
      refine g_ialoadK (S.cl hc 1 rfl) (S.cka hc 1 rfl rfl) (S.cn hc 1 (n := 11) rfl rfl rfl) rfl (j := 2) rfl dX0_firstWord_8 ?_
      rw [hN]
      refine g_icge dX0_firstWord_9 (fun c9 => absurd c9 (nI_ge (by omega) (by omega))) (fun c9 => ?_)
      refine g_aL0 dX0_firstWord_12 ?_
      refine g_getR lf_X0_21 (S.cl hc 0 rfl) (S.ck hc) (S.cr hc 8 rfl rfl) dX0_firstWord_13 ?_
      refine g_iL2 dX0_firstWord_16 ?_
      refine g_ialoadN (S.cl hc 4 rfl) (S.cka hc 4 rfl rfl) (S.cn hc 4 (n := 8) rfl rfl rfl) (by omega) (by decide) dX0_firstWord_17 ?_
      refine g_iL1 dX0_firstWord_18 ?_
      refine g_icne dX0_firstWord_19 (fun c19 => ?_) (fun c19 => ?_)
      · refine g_ii2 dX0_firstWord_24 rfl rfl ?_
        refine g_goto dX0_firstWord_27 ?_
        rw [nI_1]
        exact ih (i + 1)  (by omega) (he.trans (if_neg c19))
      · refine g_iL2 dX0_firstWord_22 ?_
        exact e_iret rfl dX0_firstWord_23 rfl rfl (he.trans (if_pos c19)).symm rfl
  refine g_iconst dX0_firstWord_0 ?_
  refine g_iS2 dX0_firstWord_1 rfl rfl ?_
  exact loop N 0 (by omega) rfl
def iwF (sc : Nat → Int32) (set al : Int32) : Nat → Nat → Int32 → Int32
  | 0, _, hv => if hv = al then 1 else 0
  | n + 1, i, hv => if bz set (nI i) = 0 then iwF sc set al n (i + 1) hv else if hv &&& sc i = 0 then iwF sc set al n (i + 1) (hv ||| sc i) else 0
theorem c_isWhole {h : Hp} {t : Nat} (S : SX h) (hc : t = 3 ∨ t = 18) {N : Nat} (hN : gI h (t + 1) 9 = nI N) (hN8 : N ≤ 8) (set : Int32) : gCi 2 0 0 yX0_isWhole cX0_isWhole 4 (some .boolean) [.ref t, .int set] h (some (.int (iwF (gI h (t + 13)) set (allF (gI h t 1) (gI h t 2)) N 0 0))) h := by
  refine g_entry (lv := [.ref t, .int set, .retAddr 0, .retAddr 0]) 2 pn_X0 rfl rfl rfl ?_
  have loop : ∀ (n i : Nat) (hv : Int32), i + n = N → iwF (gI h (t + 13)) set (allF (gI h t 1) (gI h t 2)) N 0 0 = iwF (gI h (t + 13)) set (allF (gI h t 1) (gI h t 2)) n i hv → gY 2 0 0 yX0_isWhole cX0_isWhole 4 (some .boolean) 0 0 (fun v' h' => v' = (some (.int (iwF (gI h (t + 13)) set (allF (gI h t 1) (gI h t 2)) N 0 0))) ∧ h' = h) 4 [.ref t, .int set, .int hv, .int (nI i)] [] h := by
    intro n
    induction n with
    | zero =>
      intro i hv hi he
      refine g_iL3 dX0_isWhole_4 ?_
      refine g_aL0 dX0_isWhole_5 ?_
      refine g_getR lf_X0_11 (S.cl hc 0 rfl) (S.ck hc) (S.cr hc 0 rfl rfl) dX0_isWhole_6 ?_
      refine g_bipush dX0_isWhole_9 ?_
      refine g_ialoadK (S.cl hc 1 rfl) (S.cka hc 1 rfl rfl) (S.cn hc 1 (n := 11) rfl rfl rfl) rfl (j := 9) rfl dX0_isWhole_11 ?_
      rw [hN]
      refine g_icge dX0_isWhole_12 (fun c12 => ?_) (fun c12 => absurd (nI_le (by omega) (by omega)) c12)
      refine g_iL2 dX0_isWhole_51 ?_
      refine g_aL0 dX0_isWhole_52 ?_
      refine e_v0i (c_allCells S hc) lm_X0_77 dX0_isWhole_53 (S.cl hc 0 rfl) (S.ck hc) rfl rfl rfl rfl ?_
      refine g_icne dX0_isWhole_56 (fun c56 => ?_) (fun c56 => ?_)
      · refine g_iconst dX0_isWhole_63 ?_
        exact e_zret rfl (by decide) dX0_isWhole_64 rfl rfl (he.trans (if_neg c56)).symm rfl
      · refine g_iconst dX0_isWhole_59 ?_
        refine g_goto dX0_isWhole_60 ?_
        exact e_zret rfl (by decide) dX0_isWhole_64 rfl rfl (he.trans (if_pos c56)).symm rfl
    | succ n ih =>
      intro i hv hi he
      refine g_iL3 dX0_isWhole_4 ?_
      refine g_aL0 dX0_isWhole_5 ?_
      refine g_getR lf_X0_11 (S.cl hc 0 rfl) (S.ck hc) (S.cr hc 0 rfl rfl) dX0_isWhole_6 ?_
      refine g_bipush dX0_isWhole_9 ?_
      refine g_ialoadK (S.cl hc 1 rfl) (S.cka hc 1 rfl rfl) (S.cn hc 1 (n := 11) rfl rfl rfl) rfl (j := 9) rfl dX0_isWhole_11 ?_
      rw [hN]
      refine g_icge dX0_isWhole_12 (fun c12 => absurd c12 (nI_ge (by omega) (by omega))) (fun c12 => ?_)
      refine g_iL1 dX0_isWhole_15 ?_
      refine g_iL3 dX0_isWhole_16 ?_
      refine g_ishr dX0_isWhole_17 ?_
      refine g_iconst dX0_isWhole_18 ?_
      refine g_iand dX0_isWhole_19 ?_
      refine g_ifeq dX0_isWhole_20 (fun c20 => ?_) (fun c20 => ?_)
      · refine g_ii3 dX0_isWhole_45 rfl rfl ?_
        refine g_goto dX0_isWhole_48 ?_
        rw [nI_1]
        exact ih (i + 1) _ (by omega) (he.trans (if_pos c20))
      · refine g_iL2 dX0_isWhole_23 ?_
        refine g_aL0 dX0_isWhole_24 ?_
        refine g_getR lf_X0_48 (S.cl hc 0 rfl) (S.ck hc) (S.cr hc 18 rfl rfl) dX0_isWhole_25 ?_
        refine g_iL3 dX0_isWhole_28 ?_
        refine g_ialoadN (S.cl hc 13 rfl) (S.cka hc 13 rfl rfl) (S.cn hc 13 (n := 8) rfl rfl rfl) (by omega) (by decide) dX0_isWhole_29 ?_
        refine g_iand dX0_isWhole_30 ?_
        refine g_ifeq dX0_isWhole_31 (fun c31 => ?_) (fun c31 => ?_)
        · refine g_iL2 dX0_isWhole_36 ?_
          refine g_aL0 dX0_isWhole_37 ?_
          refine g_getR lf_X0_48 (S.cl hc 0 rfl) (S.ck hc) (S.cr hc 18 rfl rfl) dX0_isWhole_38 ?_
          refine g_iL3 dX0_isWhole_41 ?_
          refine g_ialoadN (S.cl hc 13 rfl) (S.cka hc 13 rfl rfl) (S.cn hc 13 (n := 8) rfl rfl rfl) (by omega) (by decide) dX0_isWhole_42 ?_
          refine g_ior dX0_isWhole_43 ?_
          refine g_iS2 dX0_isWhole_44 rfl rfl ?_
          refine g_ii3 dX0_isWhole_45 rfl rfl ?_
          refine g_goto dX0_isWhole_48 ?_
          rw [nI_1]
          exact ih (i + 1) _ (by omega) (he.trans ((if_neg c20).trans (if_pos c31)))
        · refine g_iconst dX0_isWhole_34 ?_
          exact e_zret rfl (by decide) dX0_isWhole_35 rfl rfl (he.trans ((if_neg c20).trans (if_neg c31))).symm rfl
  refine g_iconst dX0_isWhole_0 ?_
  refine g_iS2 dX0_isWhole_1 rfl rfl ?_
  refine g_iconst dX0_isWhole_2 ?_
  refine g_iS3 dX0_isWhole_3 rfl rfl ?_
  exact loop N 0 _ (by omega) rfl
theorem sh1 : ∀ n, n ≤ 8 → (1 : Int32) <<< (nI n &&& 31) = nI (2 ^ n) := by
  have h : ∀ n : Fin 9, (1 : Int32) <<< (nI n.val &&& 31) = nI (2 ^ n.val) := by decide
  exact fun n hn => h ⟨n, by omega⟩
theorem p2le {n : Nat} (h : n ≤ 8) : 1 ≤ 2 ^ n ∧ 2 ^ n ≤ 256 := ⟨Nat.one_le_two_pow, Nat.pow_le_pow_right (by decide) h⟩
/-- how many sets from i on are whole -/
def cwF (iw : Int32 → Int32) : Nat → Nat → Int32 → Int32
  | 0, _, m => m
  | n + 1, i, m => if iw (nI i) = 0 then cwF iw n (i + 1) m else cwF iw n (i + 1) (m + 1)
def waF (iw : Int32 → Int32) (k : Int32) : Nat → Nat → Int32 → Int32
  | 0, _, _ => 0
  | n + 1, i, m => if iw (nI i) = 0 then waF iw k n (i + 1) m else if m = k then nI i else waF iw k n (i + 1) (m + 1)
theorem c_countWholes {h : Hp} {t : Nat} (S : SX h) (hc : t = 3 ∨ t = 18) {N : Nat} (hN : gI h (t + 1) 9 = nI N) (hN8 : N ≤ 8) : gCi 3 0 0 yX0_countWholes cX0_countWholes 3 (some .int) [.ref t] h (some (.int (cwF (fun set => iwF (gI h (t + 13)) set (allF (gI h t 1) (gI h t 2)) N 0 0) (2 ^ N - 1) 1 0))) h := by
  have hp := p2le hN8
  refine g_entry (lv := [.ref t, .retAddr 0, .retAddr 0]) 2 pn_X0 rfl rfl rfl ?_
  have loop : ∀ (n i : Nat) (m : Int32), i + n = 2 ^ N → cwF (fun set => iwF (gI h (t + 13)) set (allF (gI h t 1) (gI h t 2)) N 0 0) (2 ^ N - 1) 1 0 = cwF (fun set => iwF (gI h (t + 13)) set (allF (gI h t 1) (gI h t 2)) N 0 0) n i m → gY 3 0 0 yX0_countWholes cX0_countWholes 3 (some .int) 0 0 (fun v' h' => v' = (some (.int (cwF (fun set => iwF (gI h (t + 13)) set (allF (gI h t 1) (gI h t 2)) N 0 0) (2 ^ N - 1) 1 0))) ∧ h' = h) 4 [.ref t, .int m, .int (nI i)] [] h := by
    intro n
    induction n with
    | zero =>
      intro i m hi he
      refine g_iL2 dX0_countWholes_4 ?_
      refine g_iconst dX0_countWholes_5 ?_
      refine g_aL0 dX0_countWholes_6 ?_
      refine g_getR lf_X0_11 (S.cl hc 0 rfl) (S.ck hc) (S.cr hc 0 rfl rfl) dX0_countWholes_7 ?_
      refine g_bipush dX0_countWholes_10 ?_
      refine g_ialoadK (S.cl hc 1 rfl) (S.cka hc 1 rfl rfl) (S.cn hc 1 (n := 11) rfl rfl rfl) rfl (j := 9) rfl dX0_countWholes_12 ?_
      refine g_ishl dX0_countWholes_13 ?_
      rw [hN, sh1 N hN8]
      refine g_icge dX0_countWholes_14 (fun c14 => ?_) (fun c14 => absurd (nI_le (by omega) (by omega)) c14)
      refine g_iL1 dX0_countWholes_34 ?_
      exact e_iret rfl dX0_countWholes_35 rfl rfl he.symm rfl
    | succ n ih =>
      intro i m hi he
      refine g_iL2 dX0_countWholes_4 ?_
      refine g_iconst dX0_countWholes_5 ?_
      refine g_aL0 dX0_countWholes_6 ?_
      refine g_getR lf_X0_11 (S.cl hc 0 rfl) (S.ck hc) (S.cr hc 0 rfl rfl) dX0_countWholes_7 ?_
      refine g_bipush dX0_countWholes_10 ?_
      refine g_ialoadK (S.cl hc 1 rfl) (S.cka hc 1 rfl rfl) (S.cn hc 1 (n := 11) rfl rfl rfl) rfl (j := 9) rfl dX0_countWholes_12 ?_
      refine g_ishl dX0_countWholes_13 ?_
      rw [hN, sh1 N hN8]
      refine g_icge dX0_countWholes_14 (fun c14 => absurd c14 (nI_ge (by omega) (by omega))) (fun c14 => ?_)
      refine g_aL0 dX0_countWholes_17 ?_
      refine g_iL2 dX0_countWholes_18 ?_
      refine e_v1i (c_isWhole S hc hN hN8 _) lm_X0_80 dX0_countWholes_19 (S.cl hc 0 rfl) (S.ck hc) rfl rfl rfl rfl ?_
      refine g_ifeq dX0_countWholes_22 (fun c22 => ?_) (fun c22 => ?_)
      · refine g_ii2 dX0_countWholes_28 rfl rfl ?_
        refine g_goto dX0_countWholes_31 ?_
        rw [nI_1]
        exact ih (i + 1) _ (by omega) (he.trans (if_pos c22))
      · refine g_ii1 dX0_countWholes_25 rfl rfl ?_
        refine g_ii2 dX0_countWholes_28 rfl rfl ?_
        refine g_goto dX0_countWholes_31 ?_
        rw [nI_1]
        exact ih (i + 1) _ (by omega) (he.trans (if_neg c22))
  refine g_iconst dX0_countWholes_0 ?_
  refine g_iS1 dX0_countWholes_1 rfl rfl ?_
  refine g_iconst dX0_countWholes_2 ?_
  refine g_iS2 dX0_countWholes_3 rfl rfl ?_
  exact loop (2 ^ N - 1) 1 _ (by omega) rfl
theorem c_wholeAt {h : Hp} {t : Nat} (S : SX h) (hc : t = 3 ∨ t = 18) {N : Nat} (hN : gI h (t + 1) 9 = nI N) (hN8 : N ≤ 8) (k : Int32) : gCi 3 0 0 yX0_wholeAt cX0_wholeAt 4 (some .int) [.ref t, .int k] h (some (.int (waF (fun set => iwF (gI h (t + 13)) set (allF (gI h t 1) (gI h t 2)) N 0 0) k (2 ^ N - 1) 1 0))) h := by
  have hp := p2le hN8
  refine g_entry (lv := [.ref t, .int k, .retAddr 0, .retAddr 0]) 2 pn_X0 rfl rfl rfl ?_
  have loop : ∀ (n i : Nat) (m : Int32), i + n = 2 ^ N → waF (fun set => iwF (gI h (t + 13)) set (allF (gI h t 1) (gI h t 2)) N 0 0) k (2 ^ N - 1) 1 0 = waF (fun set => iwF (gI h (t + 13)) set (allF (gI h t 1) (gI h t 2)) N 0 0) k n i m → gY 3 0 0 yX0_wholeAt cX0_wholeAt 4 (some .int) 0 0 (fun v' h' => v' = (some (.int (waF (fun set => iwF (gI h (t + 13)) set (allF (gI h t 1) (gI h t 2)) N 0 0) k (2 ^ N - 1) 1 0))) ∧ h' = h) 4 [.ref t, .int k, .int m, .int (nI i)] [] h := by
    intro n
    induction n with
    | zero =>
      intro i m hi he
      refine g_iL3 dX0_wholeAt_4 ?_
      refine g_iconst dX0_wholeAt_5 ?_
      refine g_aL0 dX0_wholeAt_6 ?_
      refine g_getR lf_X0_11 (S.cl hc 0 rfl) (S.ck hc) (S.cr hc 0 rfl rfl) dX0_wholeAt_7 ?_
      refine g_bipush dX0_wholeAt_10 ?_
      refine g_ialoadK (S.cl hc 1 rfl) (S.cka hc 1 rfl rfl) (S.cn hc 1 (n := 11) rfl rfl rfl) rfl (j := 9) rfl dX0_wholeAt_12 ?_
      refine g_ishl dX0_wholeAt_13 ?_
      rw [hN, sh1 N hN8]
      refine g_icge dX0_wholeAt_14 (fun c14 => ?_) (fun c14 => absurd (nI_le (by omega) (by omega)) c14)
      refine g_iconst dX0_wholeAt_41 ?_
      exact e_iret rfl dX0_wholeAt_42 rfl rfl he.symm rfl
    | succ n ih =>
      intro i m hi he
      refine g_iL3 dX0_wholeAt_4 ?_
      refine g_iconst dX0_wholeAt_5 ?_
      refine g_aL0 dX0_wholeAt_6 ?_
      refine g_getR lf_X0_11 (S.cl hc 0 rfl) (S.ck hc) (S.cr hc 0 rfl rfl) dX0_wholeAt_7 ?_
      refine g_bipush dX0_wholeAt_10 ?_
      refine g_ialoadK (S.cl hc 1 rfl) (S.cka hc 1 rfl rfl) (S.cn hc 1 (n := 11) rfl rfl rfl) rfl (j := 9) rfl dX0_wholeAt_12 ?_
      refine g_ishl dX0_wholeAt_13 ?_
      rw [hN, sh1 N hN8]
      refine g_icge dX0_wholeAt_14 (fun c14 => absurd c14 (nI_ge (by omega) (by omega))) (fun c14 => ?_)
      refine g_aL0 dX0_wholeAt_17 ?_
      refine g_iL3 dX0_wholeAt_18 ?_
      refine e_v1i (c_isWhole S hc hN hN8 _) lm_X0_80 dX0_wholeAt_19 (S.cl hc 0 rfl) (S.ck hc) rfl rfl rfl rfl ?_
      refine g_ifeq dX0_wholeAt_22 (fun c22 => ?_) (fun c22 => ?_)
      · refine g_ii3 dX0_wholeAt_35 rfl rfl ?_
        refine g_goto dX0_wholeAt_38 ?_
        rw [nI_1]
        exact ih (i + 1) _ (by omega) (he.trans (if_pos c22))
      · refine g_iL2 dX0_wholeAt_25 ?_
        refine g_iL1 dX0_wholeAt_26 ?_
        refine g_icne dX0_wholeAt_27 (fun c27 => ?_) (fun c27 => ?_)
        · refine g_ii2 dX0_wholeAt_32 rfl rfl ?_
          refine g_ii3 dX0_wholeAt_35 rfl rfl ?_
          refine g_goto dX0_wholeAt_38 ?_
          rw [nI_1]
          exact ih (i + 1) _ (by omega) (he.trans ((if_neg c22).trans (if_neg c27)))
        · refine g_iL3 dX0_wholeAt_30 ?_
          exact e_iret rfl dX0_wholeAt_31 rfl rfl (he.trans ((if_neg c22).trans (if_pos c27))).symm rfl
  refine g_iconst dX0_wholeAt_0 ?_
  refine g_iS2 dX0_wholeAt_1 rfl rfl ?_
  refine g_iconst dX0_wholeAt_2 ?_
  refine g_iS3 dX0_wholeAt_3 rfl rfl ?_
  exact loop (2 ^ N - 1) 1 _ (by omega) rfl
def orF (sc : Nat → Int32) (set : Int32) : Nat → Nat → Int32 → Int32
  | 0, _, b => b
  | n + 1, i, b => if bz set (nI i) = 0 then orF sc set n (i + 1) b else orF sc set n (i + 1) (b ||| sc i)
def oaF (sc : Nat → Int32) : Nat → Nat → Int32 → Int32
  | 0, _, b => b
  | n + 1, i, b => oaF sc n (i + 1) (b ||| sc i)
theorem c_strokesOfShards {h : Hp} {t : Nat} (S : SX h) (hc : t = 3 ∨ t = 18) {N : Nat} (hN : gI h (t + 1) 9 = nI N) (hN8 : N ≤ 8) (set : Int32) : gCi 0 0 0 yX0_strokesOfShards cX0_strokesOfShards 4 (some .int) [.ref t, .int set] h (some (.int (orF (gI h (t + 14)) set N 0 0))) h := by
  refine g_entry (lv := [.ref t, .int set, .retAddr 0, .retAddr 0]) 2 pn_X0 rfl rfl rfl ?_
  have loop : ∀ (n i : Nat) (b : Int32), i + n = N → orF (gI h (t + 14)) set N 0 0 = orF (gI h (t + 14)) set n i b → gY 0 0 0 yX0_strokesOfShards cX0_strokesOfShards 4 (some .int) 0 0 (fun v' h' => v' = (some (.int (orF (gI h (t + 14)) set N 0 0))) ∧ h' = h) 4 [.ref t, .int set, .int b, .int (nI i)] [] h := by
    intro n
    induction n with
    | zero =>
      intro i b hi he
      refine g_iL3 dX0_strokesOfShards_4 ?_
      refine g_aL0 dX0_strokesOfShards_5 ?_
      refine g_getR lf_X0_11 (S.cl hc 0 rfl) (S.ck hc) (S.cr hc 0 rfl rfl) dX0_strokesOfShards_6 ?_
      refine g_bipush dX0_strokesOfShards_9 ?_
      refine g_ialoadK (S.cl hc 1 rfl) (S.cka hc 1 rfl rfl) (S.cn hc 1 (n := 11) rfl rfl rfl) rfl (j := 9) rfl dX0_strokesOfShards_11 ?_
      rw [hN]
      refine g_icge dX0_strokesOfShards_12 (fun c12 => ?_) (fun c12 => absurd (nI_le (by omega) (by omega)) c12)
      refine g_iL2 dX0_strokesOfShards_38 ?_
      exact e_iret rfl dX0_strokesOfShards_39 rfl rfl he.symm rfl
    | succ n ih =>
      intro i b hi he
      refine g_iL3 dX0_strokesOfShards_4 ?_
      refine g_aL0 dX0_strokesOfShards_5 ?_
      refine g_getR lf_X0_11 (S.cl hc 0 rfl) (S.ck hc) (S.cr hc 0 rfl rfl) dX0_strokesOfShards_6 ?_
      refine g_bipush dX0_strokesOfShards_9 ?_
      refine g_ialoadK (S.cl hc 1 rfl) (S.cka hc 1 rfl rfl) (S.cn hc 1 (n := 11) rfl rfl rfl) rfl (j := 9) rfl dX0_strokesOfShards_11 ?_
      rw [hN]
      refine g_icge dX0_strokesOfShards_12 (fun c12 => absurd c12 (nI_ge (by omega) (by omega))) (fun c12 => ?_)
      refine g_iL1 dX0_strokesOfShards_15 ?_
      refine g_iL3 dX0_strokesOfShards_16 ?_
      refine g_ishr dX0_strokesOfShards_17 ?_
      refine g_iconst dX0_strokesOfShards_18 ?_
      refine g_iand dX0_strokesOfShards_19 ?_
      refine g_ifeq dX0_strokesOfShards_20 (fun c20 => ?_) (fun c20 => ?_)
      · refine g_ii3 dX0_strokesOfShards_32 rfl rfl ?_
        refine g_goto dX0_strokesOfShards_35 ?_
        rw [nI_1]
        exact ih (i + 1) _ (by omega) (he.trans (if_pos c20))
      · refine g_iL2 dX0_strokesOfShards_23 ?_
        refine g_aL0 dX0_strokesOfShards_24 ?_
        refine g_getR lf_X0_51 (S.cl hc 0 rfl) (S.ck hc) (S.cr hc 19 rfl rfl) dX0_strokesOfShards_25 ?_
        refine g_iL3 dX0_strokesOfShards_28 ?_
        refine g_ialoadN (S.cl hc 14 rfl) (S.cka hc 14 rfl rfl) (S.cn hc 14 (n := 8) rfl rfl rfl) (by omega) (by decide) dX0_strokesOfShards_29 ?_
        refine g_ior dX0_strokesOfShards_30 ?_
        refine g_iS2 dX0_strokesOfShards_31 rfl rfl ?_
        refine g_ii3 dX0_strokesOfShards_32 rfl rfl ?_
        refine g_goto dX0_strokesOfShards_35 ?_
        rw [nI_1]
        exact ih (i + 1) _ (by omega) (he.trans (if_neg c20))
  refine g_iconst dX0_strokesOfShards_0 ?_
  refine g_iS2 dX0_strokesOfShards_1 rfl rfl ?_
  refine g_iconst dX0_strokesOfShards_2 ?_
  refine g_iS3 dX0_strokesOfShards_3 rfl rfl ?_
  exact loop N 0 _ (by omega) rfl
theorem c_cellsWithoutShard {h : Hp} {t : Nat} (S : SX h) (hc : t = 3 ∨ t = 18) {N : Nat} (hN : gI h (t + 1) 9 = nI N) (hN8 : N ≤ 8) : gCi 2 0 0 yX0_cellsWithoutShard cX0_cellsWithoutShard 3 (some .int) [.ref t] h (some (.int ((allF (gI h t 1) (gI h t 2)) &&& (oaF (gI h (t + 13)) N 0 0 ^^^ (-1))))) h := by
  refine g_entry (lv := [.ref t, .retAddr 0, .retAddr 0]) 2 pn_X0 rfl rfl rfl ?_
  have loop : ∀ (n i : Nat) (b : Int32), i + n = N → oaF (gI h (t + 13)) N 0 0 = oaF (gI h (t + 13)) n i b → gY 2 0 0 yX0_cellsWithoutShard cX0_cellsWithoutShard 3 (some .int) 0 0 (fun v' h' => v' = (some (.int ((allF (gI h t 1) (gI h t 2)) &&& (oaF (gI h (t + 13)) N 0 0 ^^^ (-1))))) ∧ h' = h) 4 [.ref t, .int b, .int (nI i)] [] h := by
    intro n
    induction n with
    | zero =>
      intro i b hi he
      refine g_iL2 dX0_cellsWithoutShard_4 ?_
      refine g_aL0 dX0_cellsWithoutShard_5 ?_
      refine g_getR lf_X0_11 (S.cl hc 0 rfl) (S.ck hc) (S.cr hc 0 rfl rfl) dX0_cellsWithoutShard_6 ?_
      refine g_bipush dX0_cellsWithoutShard_9 ?_
      refine g_ialoadK (S.cl hc 1 rfl) (S.cka hc 1 rfl rfl) (S.cn hc 1 (n := 11) rfl rfl rfl) rfl (j := 9) rfl dX0_cellsWithoutShard_11 ?_
      rw [hN]
      refine g_icge dX0_cellsWithoutShard_12 (fun c12 => ?_) (fun c12 => absurd (nI_le (by omega) (by omega)) c12)
      refine g_aL0 dX0_cellsWithoutShard_30 ?_
      refine e_v0i (c_allCells S hc) lm_X0_77 dX0_cellsWithoutShard_31 (S.cl hc 0 rfl) (S.ck hc) rfl rfl rfl rfl ?_
      refine g_iL1 dX0_cellsWithoutShard_34 ?_
      refine g_iconst dX0_cellsWithoutShard_35 ?_
      refine g_ixor dX0_cellsWithoutShard_36 ?_
      refine g_iand dX0_cellsWithoutShard_37 ?_
      exact e_iret rfl dX0_cellsWithoutShard_38 rfl rfl (by rw [he]; rfl) rfl
    | succ n ih =>
      intro i b hi he
      refine g_iL2 dX0_cellsWithoutShard_4 ?_
      refine g_aL0 dX0_cellsWithoutShard_5 ?_
      refine g_getR lf_X0_11 (S.cl hc 0 rfl) (S.ck hc) (S.cr hc 0 rfl rfl) dX0_cellsWithoutShard_6 ?_
      refine g_bipush dX0_cellsWithoutShard_9 ?_
      refine g_ialoadK (S.cl hc 1 rfl) (S.cka hc 1 rfl rfl) (S.cn hc 1 (n := 11) rfl rfl rfl) rfl (j := 9) rfl dX0_cellsWithoutShard_11 ?_
      rw [hN]
      refine g_icge dX0_cellsWithoutShard_12 (fun c12 => absurd c12 (nI_ge (by omega) (by omega))) (fun c12 => ?_)
      refine g_iL1 dX0_cellsWithoutShard_15 ?_
      refine g_aL0 dX0_cellsWithoutShard_16 ?_
      refine g_getR lf_X0_48 (S.cl hc 0 rfl) (S.ck hc) (S.cr hc 18 rfl rfl) dX0_cellsWithoutShard_17 ?_
      refine g_iL2 dX0_cellsWithoutShard_20 ?_
      refine g_ialoadN (S.cl hc 13 rfl) (S.cka hc 13 rfl rfl) (S.cn hc 13 (n := 8) rfl rfl rfl) (by omega) (by decide) dX0_cellsWithoutShard_21 ?_
      refine g_ior dX0_cellsWithoutShard_22 ?_
      refine g_iS1 dX0_cellsWithoutShard_23 rfl rfl ?_
      refine g_ii2 dX0_cellsWithoutShard_24 rfl rfl ?_
      refine g_goto dX0_cellsWithoutShard_27 ?_
      rw [nI_1]
      exact ih (i + 1) _ (by omega) he
  refine g_iconst dX0_cellsWithoutShard_0 ?_
  refine g_iS1 dX0_cellsWithoutShard_1 rfl rfl ?_
  refine g_iconst dX0_cellsWithoutShard_2 ?_
  refine g_iS2 dX0_cellsWithoutShard_3 rfl rfl ?_
  exact loop N 0 _ (by omega) rfl
def us (x k : Int32) : Int32 := (x.toUInt32 >>> (k.toUInt32 &&& Int32.toUInt32 31)).toInt32
def bcF (x : Int32) : Int32 :=
  let a := x - (us x 1 &&& 1431655765)
  let b := (a &&& 858993459) + (us a 2 &&& 858993459)
  let c := (b + us b 4) &&& 252645135
  let d := c + us c 8
  let e := d + us d 16
  e &&& 63
theorem c_bitCount {h : Hp} (x : Int32) : gCi 0 0 0 yJ6_bitCount_0f7a4 cJ6_bitCount_0f7a4 1 (some .int) [.int x] h (some (.int (bcF x))) h := by
  refine g_entry (lv := [.int x]) 0 pn_J6 rfl rfl rfl ?_
  refine g_iL0 dJ6_bitCount_0f7a4_0 ?_
  refine g_iL0 dJ6_bitCount_0f7a4_1 ?_
  refine g_iconst dJ6_bitCount_0f7a4_2 ?_
  refine g_iushr dJ6_bitCount_0f7a4_3 ?_
  refine g_ldc_w dJ6_bitCount_0f7a4_4 lc_J6_265 ?_
  refine g_iand dJ6_bitCount_0f7a4_7 ?_
  refine g_isub dJ6_bitCount_0f7a4_8 ?_
  refine g_iS0 dJ6_bitCount_0f7a4_9 rfl ?_
  refine g_iL0 dJ6_bitCount_0f7a4_10 ?_
  refine g_ldc_w dJ6_bitCount_0f7a4_11 lc_J6_266 ?_
  refine g_iand dJ6_bitCount_0f7a4_14 ?_
  refine g_iL0 dJ6_bitCount_0f7a4_15 ?_
  refine g_iconst dJ6_bitCount_0f7a4_16 ?_
  refine g_iushr dJ6_bitCount_0f7a4_17 ?_
  refine g_ldc_w dJ6_bitCount_0f7a4_18 lc_J6_266 ?_
  refine g_iand dJ6_bitCount_0f7a4_21 ?_
  refine g_iadd dJ6_bitCount_0f7a4_22 ?_
  refine g_iS0 dJ6_bitCount_0f7a4_23 rfl ?_
  refine g_iL0 dJ6_bitCount_0f7a4_24 ?_
  refine g_iL0 dJ6_bitCount_0f7a4_25 ?_
  refine g_iconst dJ6_bitCount_0f7a4_26 ?_
  refine g_iushr dJ6_bitCount_0f7a4_27 ?_
  refine g_iadd dJ6_bitCount_0f7a4_28 ?_
  refine g_ldc_w dJ6_bitCount_0f7a4_29 lc_J6_267 ?_
  refine g_iand dJ6_bitCount_0f7a4_32 ?_
  refine g_iS0 dJ6_bitCount_0f7a4_33 rfl ?_
  refine g_iL0 dJ6_bitCount_0f7a4_34 ?_
  refine g_iL0 dJ6_bitCount_0f7a4_35 ?_
  refine g_bipush dJ6_bitCount_0f7a4_36 ?_
  refine g_iushr dJ6_bitCount_0f7a4_38 ?_
  refine g_iadd dJ6_bitCount_0f7a4_39 ?_
  refine g_iS0 dJ6_bitCount_0f7a4_40 rfl ?_
  refine g_iL0 dJ6_bitCount_0f7a4_41 ?_
  refine g_iL0 dJ6_bitCount_0f7a4_42 ?_
  refine g_bipush dJ6_bitCount_0f7a4_43 ?_
  refine g_iushr dJ6_bitCount_0f7a4_45 ?_
  refine g_iadd dJ6_bitCount_0f7a4_46 ?_
  refine g_iS0 dJ6_bitCount_0f7a4_47 rfl ?_
  refine g_iL0 dJ6_bitCount_0f7a4_48 ?_
  refine g_bipush dJ6_bitCount_0f7a4_49 ?_
  refine g_iand dJ6_bitCount_0f7a4_51 ?_
  exact e_iret rfl dJ6_bitCount_0f7a4_52 rfl rfl rfl rfl
def cpF (sp sc : Nat → Int32) (set p : Int32) : Nat → Nat → Int32 → Int32
  | 0, _, m => m
  | n + 1, i, m => if bz set (nI i) = 0 then cpF sp sc set p n (i + 1) m else if sp i = p then cpF sp sc set p n (i + 1) (m + bcF (sc i)) else cpF sp sc set p n (i + 1) m
def owF (cp : Int32 → Int32) : Nat → Nat → Int32 → Int32 → Int32
  | 0, _, o, _ => o
  | n + 1, i, o, m => if cp (nI i) ≤ m then owF cp n (i + 1) o m else owF cp n (i + 1) (nI i) (cp (nI i))
theorem c_cellsOfPerson {h : Hp} {t : Nat} (S : SX h) (hc : t = 3 ∨ t = 18) {N : Nat} (hN : gI h (t + 1) 9 = nI N) (hN8 : N ≤ 8) (set p : Int32) : gCi 1 0 0 yX0_cellsOfPerson cX0_cellsOfPerson 5 (some .int) [.ref t, .int set, .int p] h (some (.int (cpF (gI h (t + 12)) (gI h (t + 13)) set p N 0 0))) h := by
  refine g_entry (lv := [.ref t, .int set, .int p, .retAddr 0, .retAddr 0]) 2 pn_X0 rfl rfl rfl ?_
  have loop : ∀ (n i : Nat) (m : Int32), i + n = N → cpF (gI h (t + 12)) (gI h (t + 13)) set p N 0 0 = cpF (gI h (t + 12)) (gI h (t + 13)) set p n i m → gY 1 0 0 yX0_cellsOfPerson cX0_cellsOfPerson 5 (some .int) 0 0 (fun v' h' => v' = (some (.int (cpF (gI h (t + 12)) (gI h (t + 13)) set p N 0 0))) ∧ h' = h) 5 [.ref t, .int set, .int p, .int m, .int (nI i)] [] h := by
    intro n
    induction n with
    | zero =>
      intro i m hi he
      refine g_iL4 dX0_cellsOfPerson_5 ?_
      refine g_aL0 dX0_cellsOfPerson_7 ?_
      refine g_getR lf_X0_11 (S.cl hc 0 rfl) (S.ck hc) (S.cr hc 0 rfl rfl) dX0_cellsOfPerson_8 ?_
      refine g_bipush dX0_cellsOfPerson_11 ?_
      refine g_ialoadK (S.cl hc 1 rfl) (S.cka hc 1 rfl rfl) (S.cn hc 1 (n := 11) rfl rfl rfl) rfl (j := 9) rfl dX0_cellsOfPerson_13 ?_
      rw [hN]
      refine g_icge dX0_cellsOfPerson_14 (fun c14 => ?_) (fun c14 => absurd (nI_le (by omega) (by omega)) c14)
      refine g_iL3 dX0_cellsOfPerson_56 ?_
      exact e_iret rfl dX0_cellsOfPerson_57 rfl rfl he.symm rfl
    | succ n ih =>
      intro i m hi he
      refine g_iL4 dX0_cellsOfPerson_5 ?_
      refine g_aL0 dX0_cellsOfPerson_7 ?_
      refine g_getR lf_X0_11 (S.cl hc 0 rfl) (S.ck hc) (S.cr hc 0 rfl rfl) dX0_cellsOfPerson_8 ?_
      refine g_bipush dX0_cellsOfPerson_11 ?_
      refine g_ialoadK (S.cl hc 1 rfl) (S.cka hc 1 rfl rfl) (S.cn hc 1 (n := 11) rfl rfl rfl) rfl (j := 9) rfl dX0_cellsOfPerson_13 ?_
      rw [hN]
      refine g_icge dX0_cellsOfPerson_14 (fun c14 => absurd c14 (nI_ge (by omega) (by omega))) (fun c14 => ?_)
      refine g_iL1 dX0_cellsOfPerson_17 ?_
      refine g_iL4 dX0_cellsOfPerson_18 ?_
      refine g_ishr dX0_cellsOfPerson_20 ?_
      refine g_iconst dX0_cellsOfPerson_21 ?_
      refine g_iand dX0_cellsOfPerson_22 ?_
      refine g_ifeq dX0_cellsOfPerson_23 (fun c23 => ?_) (fun c23 => ?_)
      · refine g_ii4 dX0_cellsOfPerson_50 rfl rfl ?_
        refine g_goto dX0_cellsOfPerson_53 ?_
        rw [nI_1]
        exact ih (i + 1) _ (by omega) (he.trans (if_pos c23))
      · refine g_aL0 dX0_cellsOfPerson_26 ?_
        refine g_getR lf_X0_45 (S.cl hc 0 rfl) (S.ck hc) (S.cr hc 17 rfl rfl) dX0_cellsOfPerson_27 ?_
        refine g_iL4 dX0_cellsOfPerson_30 ?_
        refine g_ialoadN (S.cl hc 12 rfl) (S.cka hc 12 rfl rfl) (S.cn hc 12 (n := 8) rfl rfl rfl) (by omega) (by decide) dX0_cellsOfPerson_32 ?_
        refine g_iL2 dX0_cellsOfPerson_33 ?_
        refine g_icne dX0_cellsOfPerson_34 (fun c34 => ?_) (fun c34 => ?_)
        · refine g_ii4 dX0_cellsOfPerson_50 rfl rfl ?_
          refine g_goto dX0_cellsOfPerson_53 ?_
          rw [nI_1]
          exact ih (i + 1) _ (by omega) (he.trans ((if_neg c23).trans (if_neg c34)))
        · refine g_iL3 dX0_cellsOfPerson_37 ?_
          refine g_aL0 dX0_cellsOfPerson_38 ?_
          refine g_getR lf_X0_48 (S.cl hc 0 rfl) (S.ck hc) (S.cr hc 18 rfl rfl) dX0_cellsOfPerson_39 ?_
          refine g_iL4 dX0_cellsOfPerson_42 ?_
          refine g_ialoadN (S.cl hc 13 rfl) (S.cka hc 13 rfl rfl) (S.cn hc 13 (n := 8) rfl rfl rfl) (by omega) (by decide) dX0_cellsOfPerson_44 ?_
          refine e_s1i (c_bitCount _) lm_X0_88 dX0_cellsOfPerson_45 rfl rfl rfl rfl ?_
          refine g_iadd dX0_cellsOfPerson_48 ?_
          refine g_iS3 dX0_cellsOfPerson_49 rfl rfl ?_
          refine g_ii4 dX0_cellsOfPerson_50 rfl rfl ?_
          refine g_goto dX0_cellsOfPerson_53 ?_
          rw [nI_1]
          exact ih (i + 1) _ (by omega) (he.trans ((if_neg c23).trans (if_pos c34)))
  refine g_iconst dX0_cellsOfPerson_0 ?_
  refine g_iS3 dX0_cellsOfPerson_1 rfl rfl ?_
  refine g_iconst dX0_cellsOfPerson_2 ?_
  refine g_iS4 dX0_cellsOfPerson_3 rfl rfl ?_
  exact loop N 0 _ (by omega) rfl
theorem c_ownerOfMost {h : Hp} {t : Nat} (S : SX h) (hc : t = 3 ∨ t = 18) {N : Nat} (hN : gI h (t + 1) 9 = nI N) (hN8 : N ≤ 8) {P : Nat} (hP : gI h (t + 1) 8 = nI P) (hP4 : P ≤ 4) (set : Int32) : gCi 2 0 0 yX0_ownerOfMost cX0_ownerOfMost 6 (some .int) [.ref t, .int set] h (some (.int (owF (fun p => cpF (gI h (t + 12)) (gI h (t + 13)) set p N 0 0) P 0 0 (-1)))) h := by
  refine g_entry (lv := [.ref t, .int set, .retAddr 0, .retAddr 0, .retAddr 0, .retAddr 0]) 4 pn_X0 rfl rfl rfl ?_
  have loop : ∀ (n i : Nat) (o : Int32) (m : Int32) (v5 : Value), i + n = P → owF (fun p => cpF (gI h (t + 12)) (gI h (t + 13)) set p N 0 0) P 0 0 (-1) = owF (fun p => cpF (gI h (t + 12)) (gI h (t + 13)) set p N 0 0) n i o m → gY 2 0 0 yX0_ownerOfMost cX0_ownerOfMost 6 (some .int) 0 0 (fun v' h' => v' = (some (.int (owF (fun p => cpF (gI h (t + 12)) (gI h (t + 13)) set p N 0 0) P 0 0 (-1)))) ∧ h' = h) 7 [.ref t, .int set, .int o, .int m, .int (nI i), v5] [] h := by
    intro n
    induction n with
    | zero =>
      intro i o m v5 hi he
      refine g_iL4 dX0_ownerOfMost_7 ?_
      refine g_aL0 dX0_ownerOfMost_9 ?_
      refine g_getR lf_X0_11 (S.cl hc 0 rfl) (S.ck hc) (S.cr hc 0 rfl rfl) dX0_ownerOfMost_10 ?_
      refine g_bipush dX0_ownerOfMost_13 ?_
      refine g_ialoadK (S.cl hc 1 rfl) (S.cka hc 1 rfl rfl) (S.cn hc 1 (n := 11) rfl rfl rfl) rfl (j := 8) rfl dX0_ownerOfMost_15 ?_
      rw [hP]
      refine g_icge dX0_ownerOfMost_16 (fun c16 => ?_) (fun c16 => absurd (nI_le (by omega) (by omega)) c16)
      refine g_iL2 dX0_ownerOfMost_46 ?_
      exact e_iret rfl dX0_ownerOfMost_47 rfl rfl he.symm rfl
    | succ n ih =>
      intro i o m v5 hi he
      refine g_iL4 dX0_ownerOfMost_7 ?_
      refine g_aL0 dX0_ownerOfMost_9 ?_
      refine g_getR lf_X0_11 (S.cl hc 0 rfl) (S.ck hc) (S.cr hc 0 rfl rfl) dX0_ownerOfMost_10 ?_
      refine g_bipush dX0_ownerOfMost_13 ?_
      refine g_ialoadK (S.cl hc 1 rfl) (S.cka hc 1 rfl rfl) (S.cn hc 1 (n := 11) rfl rfl rfl) rfl (j := 8) rfl dX0_ownerOfMost_15 ?_
      rw [hP]
      refine g_icge dX0_ownerOfMost_16 (fun c16 => absurd c16 (nI_ge (by omega) (by omega))) (fun c16 => ?_)
      refine g_aL0 dX0_ownerOfMost_19 ?_
      refine g_iL1 dX0_ownerOfMost_20 ?_
      refine g_iL4 dX0_ownerOfMost_21 ?_
      refine e_v2i (c_cellsOfPerson S hc hN hN8 _ _) lm_X0_84 dX0_ownerOfMost_23 (S.cl hc 0 rfl) (S.ck hc) rfl rfl rfl rfl ?_
      refine g_iS5 dX0_ownerOfMost_26 rfl rfl ?_
      refine g_iL5 dX0_ownerOfMost_28 ?_
      refine g_iL3 dX0_ownerOfMost_30 ?_
      refine g_icle dX0_ownerOfMost_31 (fun c31 => ?_) (fun c31 => ?_)
      · refine g_ii4 dX0_ownerOfMost_40 rfl rfl ?_
        refine g_goto dX0_ownerOfMost_43 ?_
        rw [nI_1]
        exact ih (i + 1) _ _ _ (by omega) (he.trans (if_pos c31))
      · refine g_iL5 dX0_ownerOfMost_34 ?_
        refine g_iS3 dX0_ownerOfMost_36 rfl rfl ?_
        refine g_iL4 dX0_ownerOfMost_37 ?_
        refine g_iS2 dX0_ownerOfMost_39 rfl rfl ?_
        refine g_ii4 dX0_ownerOfMost_40 rfl rfl ?_
        refine g_goto dX0_ownerOfMost_43 ?_
        rw [nI_1]
        exact ih (i + 1) _ _ _ (by omega) (he.trans (if_neg c31))
  refine g_iconst dX0_ownerOfMost_0 ?_
  refine g_iS2 dX0_ownerOfMost_1 rfl rfl ?_
  refine g_iconst dX0_ownerOfMost_2 ?_
  refine g_iS3 dX0_ownerOfMost_3 rfl rfl ?_
  refine g_iconst dX0_ownerOfMost_4 ?_
  refine g_iS4 dX0_ownerOfMost_5 rfl rfl ?_
  exact loop P 0 _ _ _ (by omega) rfl

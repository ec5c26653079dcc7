/-! THE REFERENCE: what a way is worth; ends -/
def seA (mi ri : Nat → Int32) : Nat → Nat → List Nat → Int64 × Int64 → Int64 × Int64
  | 0, _, _, q => q
  | n + 1, x, [], q => seA mi ri n x [] (q.1 + 0, q.2 * 100)
  | n + 1, x, y :: l, q => seA mi ri n y l (q.1 + (mi (7 * x + y)).toInt64, q.2 * (100 - (ri (7 * x + y)).toInt64))
def woR (so kd : Int32) (q : Int64 × Int64) : Int64 := if so = 2 then (if kd = 1 then 1000000000000 else q.2) else -q.1
theorem d_worthOf {h : Hp} {c : Nat} {cn : Nat → Nat} (X : MX h c cn) (so : Int32) {P : Nat} (hP : P < 8) {M x0 : Nat} {l0 : List Nat} (hM : M = 1 + l0.length) (hx : ∀ j y, (x0 :: l0)[j]? = some y → gI h 55 j = nI y ∧ y < 7) (hM7 : M ≤ 7) : gCi 0 0 0 yX10_worthOf cX10_worthOf 10 (some .long) [.ref 50, .int so, .int (nI P), .int (nI M)] h (some (.long (woR so (gI h (c + 1) P) (seA (gI h (c + 6)) (gI h (c + 7)) 6 x0 l0 (0, 1))))) h := by
  refine g_entry (lv := [.ref 50, .int so, .int (nI P), .int (nI M), .retAddr 0, .retAddr 0, .retAddr 0, .retAddr 0, .retAddr 0, .retAddr 0]) 6 pn_X10 rfl rfl rfl ?_
  have loop : ∀ (n i : Nat) (x : Nat) (l : List Nat) (q1 : Int64) (q2 : Int64) (v9 : Value), i + n = 7 → seA (gI h (c + 6)) (gI h (c + 7)) 6 x0 l0 (0, 1) = seA (gI h (c + 6)) (gI h (c + 7)) n x l (q1, q2) → (M = i + l.length ∨ (l = [] ∧ M ≤ i)) → (l ≠ [] → gI h 55 (i - 1) = nI x ∧ x < 7) → (∀ j y, l[j]? = some y → gI h 55 (i + j) = nI y ∧ y < 7) → 1 ≤ i → gY 0 0 0 yX10_worthOf cX10_worthOf 10 (some .long) 0 0 (fun v' h' => v' = (some (.long (woR so (gI h (c + 1) P) (seA (gI h (c + 6)) (gI h (c + 7)) 6 x0 l0 (0, 1))))) ∧ h' = h) 9 [.ref 50, .int so, .int (nI P), .int (nI M), .long q1, .retAddr 0, .long q2, .retAddr 0, .int (nI i), v9] [] h := by
    intro n
    induction n with
    | zero =>
      intro i x l q1 q2 v9 hi he hl hx0 hx1 h1
      refine g_iL8 dX10_worthOf_9 ?_
      refine g_bipush dX10_worthOf_11 ?_
      rw [show (7 : Int32) = nI 7 from rfl]
      refine g_icge dX10_worthOf_13 (fun c13 => ?_) (fun c13 => absurd (nI_le (by omega) (by omega)) c13)
      refine g_iL1 dX10_worthOf_112 ?_
      refine g_iconst dX10_worthOf_113 ?_
      refine g_iceq dX10_worthOf_114 (fun c114 => ?_) (fun c114 => ?_)
      · refine g_aL0 dX10_worthOf_121 ?_
        refine g_getR lf_X10_359 (X.S.l 50 rfl) (X.S.k 50 rfl rfl) X.C dX10_worthOf_122 ?_
        refine g_getRn lf_X10_283 (X.M.l 0 rfl) (X.M.k 0 rfl rfl) (X.M.r 15 (j := 1) rfl) dX10_worthOf_125 ?_
        refine g_iL2 dX10_worthOf_128 ?_
        refine g_ialoadN (X.M.l 1 rfl) (X.M.k 1 rfl rfl) (X.M.n 1 (n := 8) rfl rfl) hP (by decide) dX10_worthOf_129 ?_
        refine g_iconst dX10_worthOf_130 ?_
        refine g_icne dX10_worthOf_131 (fun c131 => ?_) (fun c131 => ?_)
        · refine g_lL6 dX10_worthOf_140 ?_
          exact e_lret rfl dX10_worthOf_142 rfl rfl (show _ = woR _ _ _ from by rw [he]; exact ((if_pos c114).trans (if_neg c131)).symm) rfl
        · refine g_ldc2 dX10_worthOf_134 lc_X10_412 ?_
          refine g_goto dX10_worthOf_137 ?_
          exact e_lret rfl dX10_worthOf_142 rfl rfl (show _ = woR _ _ _ from by rw [he]; exact ((if_pos c114).trans (if_pos c131)).symm) rfl
      · refine g_lL4 dX10_worthOf_117 ?_
        refine g_lneg dX10_worthOf_119 ?_
        exact e_lret rfl dX10_worthOf_120 rfl rfl (show _ = woR _ _ _ from by rw [he]; exact (if_neg c114).symm) rfl
    | succ n ih =>
      intro i x l q1 q2 v9 hi he hl hx0 hx1 h1
      refine g_iL8 dX10_worthOf_9 ?_
      refine g_bipush dX10_worthOf_11 ?_
      rw [show (7 : Int32) = nI 7 from rfl]
      refine g_icge dX10_worthOf_13 (fun c13 => absurd c13 (nI_ge (by omega) (by omega))) (fun c13 => ?_)
      refine g_iL8 dX10_worthOf_16 ?_
      refine g_iL3 dX10_worthOf_18 ?_
      refine g_icge dX10_worthOf_19 (fun c19 => ?_) (fun c19 => ?_)
      · obtain rfl : l = [] := by
          rcases hl with z | z
          · have hlt := (nI_leI (by omega) (by omega)).mp c19
            exact List.length_eq_zero_iff.mp (by omega)
          · exact z.1
        refine g_iconst dX10_worthOf_45 ?_
        refine g_iS9 dX10_worthOf_46 rfl rfl ?_
        refine g_lL4 dX10_worthOf_48 ?_
        refine g_iL9 dX10_worthOf_50 ?_
        refine g_iconst dX10_worthOf_52 ?_
        refine g_icne dX10_worthOf_53 (fun c53 => absurd rfl c53) (fun c53 => ?_)
        refine g_lconst dX10_worthOf_56 ?_
        refine g_goto dX10_worthOf_57 ?_
        refine g_ladd dX10_worthOf_71 ?_
        refine g_lS4 dX10_worthOf_72 rfl rfl ?_
        refine g_lL6 dX10_worthOf_74 ?_
        refine g_iL9 dX10_worthOf_76 ?_
        refine g_iconst dX10_worthOf_78 ?_
        refine g_icne dX10_worthOf_79 (fun c79 => absurd rfl c79) (fun c79 => ?_)
        refine g_ldc2 dX10_worthOf_82 lc_X10_410 ?_
        refine g_goto dX10_worthOf_85 ?_
        refine g_lmul dX10_worthOf_103 ?_
        refine g_lS6 dX10_worthOf_104 rfl rfl ?_
        refine g_ii8 dX10_worthOf_106 rfl rfl ?_
        refine g_goto dX10_worthOf_109 ?_
        rw [nI_1]
        exact ih (i + 1) _ _ _ _ _ (by omega) he (Or.inr ⟨rfl, by have h9 := (nI_leI (by omega) (by omega)).mp c19; omega⟩) (fun z => absurd rfl z) (fun j y e => by cases e) (by omega)
      · have him : i < M := by
          rcases Nat.lt_or_ge i M with z | z
          · exact z
          · exact absurd (nI_le z (by omega)) c19
        obtain ⟨y, l, rfl⟩ : ∃ y l', l = y :: l' := by
          cases l with
          | nil =>
            rcases hl with z | z
            · have : ([] : List Nat).length = 0 := rfl
              omega
            · omega
          | cons y l' => exact ⟨y, l', rfl⟩
        have hlen : (y :: l).length = l.length + 1 := rfl
        have ha := hx0 (by intro z; cases z)
        have hb := hx1 0 y rfl
        have ha2 := ha.2
        have hb2 := hb.2
        refine g_bipush dX10_worthOf_22 ?_
        refine g_aL0 dX10_worthOf_24 ?_
        refine g_getR lf_X10_27 (X.S.l 50 rfl) (X.S.k 50 rfl rfl) (X.S.r 50 25 (b := 55) rfl rfl) dX10_worthOf_25 ?_
        refine g_iL8 dX10_worthOf_28 ?_
        refine g_iconst dX10_worthOf_30 ?_
        refine g_isub dX10_worthOf_31 ?_
        rw [show nI i - 1 = nI (i - 1) from pk_sub (b := 1) h1]
        refine g_ialoadN (X.S.l 55 rfl) (X.S.k 55 rfl rfl) (X.S.n 55 (n := 7) rfl rfl) (by omega) (by decide) dX10_worthOf_32 ?_
        rw [ha.1]
        refine g_imul dX10_worthOf_33 ?_
        rw [show (7 : Int32) * nI x = nI (7 * x) from pk_mul 7 x]
        refine g_aL0 dX10_worthOf_34 ?_
        refine g_getR lf_X10_27 (X.S.l 50 rfl) (X.S.k 50 rfl rfl) (X.S.r 50 25 (b := 55) rfl rfl) dX10_worthOf_35 ?_
        refine g_iL8 dX10_worthOf_38 ?_
        refine g_ialoadN (X.S.l 55 rfl) (X.S.k 55 rfl rfl) (X.S.n 55 (n := 7) rfl rfl) (by omega) (by decide) dX10_worthOf_40 ?_
        rw [show gI h 55 i = nI y from hb.1]
        refine g_iadd dX10_worthOf_41 ?_
        rw [nI_add]
        refine g_goto dX10_worthOf_42 ?_
        refine g_iS9 dX10_worthOf_46 rfl rfl ?_
        refine g_lL4 dX10_worthOf_48 ?_
        refine g_iL9 dX10_worthOf_50 ?_
        refine g_iconst dX10_worthOf_52 ?_
        refine g_icne dX10_worthOf_53 (fun c53 => ?_) (fun c53 => absurd c53 (nI_n1 (by omega)))
        refine g_aL0 dX10_worthOf_60 ?_
        refine g_getR lf_X10_359 (X.S.l 50 rfl) (X.S.k 50 rfl rfl) X.C dX10_worthOf_61 ?_
        refine g_getRn lf_X10_312 (X.M.l 0 rfl) (X.M.k 0 rfl rfl) (X.M.r 20 (j := 6) rfl) dX10_worthOf_64 ?_
        refine g_iL9 dX10_worthOf_67 ?_
        refine g_ialoadN (X.M.l 6 rfl) (X.M.k 6 rfl rfl) (X.M.n 6 (n := 49) rfl rfl) (by omega) (by decide) dX10_worthOf_69 ?_
        refine g_i2l dX10_worthOf_70 ?_
        refine g_ladd dX10_worthOf_71 ?_
        refine g_lS4 dX10_worthOf_72 rfl rfl ?_
        refine g_lL6 dX10_worthOf_74 ?_
        refine g_iL9 dX10_worthOf_76 ?_
        refine g_iconst dX10_worthOf_78 ?_
        refine g_icne dX10_worthOf_79 (fun c79 => ?_) (fun c79 => absurd c79 (nI_n1 (by omega)))
        refine g_ldc2 dX10_worthOf_88 lc_X10_410 ?_
        refine g_aL0 dX10_worthOf_91 ?_
        refine g_getR lf_X10_359 (X.S.l 50 rfl) (X.S.k 50 rfl rfl) X.C dX10_worthOf_92 ?_
        refine g_getRn lf_X10_317 (X.M.l 0 rfl) (X.M.k 0 rfl rfl) (X.M.r 21 (j := 7) rfl) dX10_worthOf_95 ?_
        refine g_iL9 dX10_worthOf_98 ?_
        refine g_ialoadN (X.M.l 7 rfl) (X.M.k 7 rfl rfl) (X.M.n 7 (n := 49) rfl rfl) (by omega) (by decide) dX10_worthOf_100 ?_
        refine g_i2l dX10_worthOf_101 ?_
        refine g_lsub dX10_worthOf_102 ?_
        refine g_lmul dX10_worthOf_103 ?_
        refine g_lS6 dX10_worthOf_104 rfl rfl ?_
        refine g_ii8 dX10_worthOf_106 rfl rfl ?_
        refine g_goto dX10_worthOf_109 ?_
        rw [nI_1]
        exact ih (i + 1) _ _ _ _ _ (by omega) he (Or.inl (by omega)) (fun z => hb) (fun j y e => by have := hx1 (j + 1) y e; rwa [show i + (j + 1) = i + 1 + j by omega] at this) (by omega)
  refine g_lconst dX10_worthOf_0 ?_
  refine g_lS4 dX10_worthOf_1 rfl rfl ?_
  refine g_lconst dX10_worthOf_3 ?_
  refine g_lS6 dX10_worthOf_4 rfl rfl ?_
  refine g_iconst dX10_worthOf_6 ?_
  refine g_iS8 dX10_worthOf_7 rfl rfl ?_
  exact loop 6 1 x0 l0 _ _ _ (by omega) rfl (Or.inl hM) (fun _ => hx 0 x0 rfl) (fun j y e => by rw [Nat.add_comm]; exact hx (j + 1) y e) (Nat.le_refl 1)
def ceL : Nat → Nat → Hp → Hp
  | 0, _, h => h
  | n + 1, i, h => ceL n (i + 1) (pI h 56 i (gI h 55 i))
def enS (h : Hp) (k : Nat) (w : Int64) : Hp := ceL k 0 (pI (pJ h 50 28 w) 50 27 (nI k))
def enH (h : Hp) (k : Nat) (w : Int64) : Hp := if gI h 50 27 ≤ 0 then enS h k w else if 0 < lg_cmp w (gJ h 50 28) then enS h k w else h
def wmK (h' h : Hp) : Prop := h'.1 = h.1 ∧ h'.2.1 = h.2.1 ∧ h'.2.2.1 = h.2.2.1 ∧ h'.2.2.2.1 = h.2.2.2.1 ∧ (∀ b j, b ≠ 55 → b ≠ 56 → ¬ (b = 50 ∧ j = 27) → gI h' b j = gI h b j) ∧ ∀ b j, ¬ (b = 50 ∧ j = 28) → gJ h' b j = gJ h b j
theorem wmK.refl (h : Hp) : wmK h h := ⟨rfl, rfl, rfl, rfl, fun _ _ _ _ _ => rfl, fun _ _ _ => rfl⟩
theorem wmK.trans {a b c : Hp} (h1 : wmK a b) (h2 : wmK b c) : wmK a c := ⟨h1.1.trans h2.1, h1.2.1.trans h2.2.1, h1.2.2.1.trans h2.2.2.1, h1.2.2.2.1.trans h2.2.2.2.1, fun x j p q r => (h1.2.2.2.2.1 x j p q r).trans (h2.2.2.2.2.1 x j p q r), fun x j p => (h1.2.2.2.2.2 x j p).trans (h2.2.2.2.2.2 x j p)⟩
theorem wmK_55 (h : Hp) (k : Nat) (v : Int32) : wmK (pI h 55 k v) h := ⟨rfl, rfl, rfl, rfl, fun _ _ p _ _ => gIq p, fun _ _ _ => rfl⟩
theorem wmK_56 (h : Hp) (k : Nat) (v : Int32) : wmK (pI h 56 k v) h := ⟨rfl, rfl, rfl, rfl, fun _ _ _ p _ => gIq p, fun _ _ _ => rfl⟩
theorem wmK_27 (h : Hp) (v : Int32) : wmK (pI h 50 27 v) h := ⟨rfl, rfl, rfl, rfl, fun _ _ _ _ p => u2_n _ _ p, fun _ _ _ => rfl⟩
theorem wmK_28 (h : Hp) (v : Int64) : wmK (pJ h 50 28 v) h := ⟨rfl, rfl, rfl, rfl, fun _ _ _ _ _ => rfl, fun _ _ p => u2_n _ _ p⟩
theorem wmK_ce : ∀ (n i : Nat) (h : Hp), wmK (ceL n i h) h
  | 0, _, h => wmK.refl h
  | n + 1, i, h => (wmK_ce n (i + 1) _).trans (wmK_56 h i _)
theorem wmK_enS (h : Hp) (k : Nat) (w : Int64) : wmK (enS h k w) h := (wmK_ce _ _ _).trans ((wmK_27 _ _).trans (wmK_28 _ _))
theorem wmK_en (h : Hp) (k : Nat) (w : Int64) : wmK (enH h k w) h := by
  unfold enH
  split
  · exact wmK_enS h k w
  · split
    · exact wmK_enS h k w
    · exact wmK.refl h
theorem wmK.S {h' h : Hp} (k : wmK h' h) (S : SX h) : SX h' := S.eq k.1 k.2.1 k.2.2.1 k.2.2.2.1
theorem MC.eq {h h' : Hp} {c : Nat} (S : MC h c) (h1 : h'.1 = h.1) (h2 : h'.2.1 = h.2.1) (h3 : h'.2.2.1 = h.2.2.1) (h4 : h'.2.2.2.1 = h.2.2.2.1) : MC h' c := by
  unfold MC at S ⊢
  rw [show gL h' = gL h from congrArg Prod.fst h1, show gK h' = gK h from h2, show gN h' = gN h from h3, show gR h' = gR h from h4]
  exact S
theorem MX.eqv {h h' : Hp} {c : Nat} {cn : Nat → Nat} (X : MX h c cn) (h1 : h'.1 = h.1) (h2 : h'.2.1 = h.2.1) (h3 : h'.2.2.1 = h.2.2.1) (h4 : h'.2.2.2.1 = h.2.2.2.1) (h5 : ∀ j, gI h' c j = gI h c j) : MX h' c cn :=
  ⟨X.S.eq h1 h2 h3 h4, X.M.eq h1 h2 h3 h4, (congrFun (congrFun h4 50) 3).trans X.C, ⟨(h5 _).trans X.c1, (h5 _).trans X.c2, (h5 _).trans X.c3, (h5 _).trans X.c4, (h5 _).trans X.c7, (h5 _).trans X.c8, (h5 _).trans X.c9⟩, X.2.2.2.2⟩
theorem MX.wm {h h' : Hp} {c : Nat} {cn : Nat → Nat} (X : MX h c cn) (k : wmK h' h) : MX h' c cn := by
  have hc := X.M.1
  exact X.eqv k.1 k.2.1 k.2.2.1 k.2.2.2.1 (fun j => k.2.2.2.2.1 c j (by omega) (by omega) (by omega))
theorem wmK.f {g h : Hp} (k : wmK g h) {b : Nat} (h1 : b ≠ 55) (h2 : b ≠ 56) (h3 : b ≠ 50) : gI g b = gI h b := funext fun j => k.2.2.2.2.1 b j h1 h2 (fun z => h3 z.1)
theorem d_ends {h : Hp} (S : SX h) (so pa : Int32) {k : Nat} (hk : k ≤ 7) {w : Int64} (W : gCi 0 0 0 yX10_worthOf cX10_worthOf 10 (some .long) [.ref 50, .int so, .int pa, .int (nI k)] h (some (.long w)) h) : gCi 1 0 0 yX10_ends cX10_ends 7 none [.ref 50, .int so, .int pa, .int (nI k)] h none (enH h k w) := by
  refine g_entry (lv := [.ref 50, .int so, .int pa, .int (nI k), .retAddr 0, .retAddr 0, .retAddr 0]) 3 pn_X10 rfl rfl rfl ?_
  have both : enH h k w = enS h k w → gY 1 0 0 yX10_ends cX10_ends 7 none 0 0 (fun v' h' => v' = none ∧ h' = (enH h k w)) 27 [.ref 50, .int so, .int pa, .int (nI k), .long w, .retAddr 0, .retAddr 0] [] h := by
    intro hb
    have loop : ∀ (n i : Nat) (hh : Hp), i + n = k → enH h k w = ceL n i hh → SX hh → gY 1 0 0 yX10_ends cX10_ends 7 none 0 0 (fun v' h' => v' = none ∧ h' = (enH h k w)) 41 [.ref 50, .int so, .int pa, .int (nI k), .long w, .retAddr 0, .int (nI i)] [] hh := by
      intro n
      induction n with
      | zero =>
        intro i hh hi he S
        refine g_iL6 dX10_ends_41 ?_
        refine g_iL3 dX10_ends_43 ?_
        refine g_icge dX10_ends_44 (fun c44 => ?_) (fun c44 => absurd (nI_le (by omega) (by omega)) c44)
        exact e_vret rfl dX10_ends_67 rfl rfl he.symm
      | succ n ih =>
        intro i hh hi he S
        refine g_iL6 dX10_ends_41 ?_
        refine g_iL3 dX10_ends_43 ?_
        refine g_icge dX10_ends_44 (fun c44 => absurd c44 (nI_ge (by omega) (by omega))) (fun c44 => ?_)
        refine g_aL0 dX10_ends_47 ?_
        refine g_getR lf_X10_30 (S.l 50 rfl) (S.k 50 rfl rfl) (S.r 50 26 (b := 56) rfl rfl) dX10_ends_48 ?_
        refine g_iL6 dX10_ends_51 ?_
        refine g_aL0 dX10_ends_53 ?_
        refine g_getR lf_X10_27 (S.l 50 rfl) (S.k 50 rfl rfl) (S.r 50 25 (b := 55) rfl rfl) dX10_ends_54 ?_
        refine g_iL6 dX10_ends_57 ?_
        refine g_ialoadN (S.l 55 rfl) (S.k 55 rfl rfl) (S.n 55 (n := 7) rfl rfl) (by omega) (by decide) dX10_ends_59 ?_
        refine g_iastoreN (S.l 56 rfl) (S.k 56 rfl rfl) (S.n 56 (n := 7) rfl rfl) (by omega) (by decide) dX10_ends_60 ?_
        refine g_ii6 dX10_ends_61 rfl rfl ?_
        refine g_goto dX10_ends_64 ?_
        rw [nI_1]
        exact ih (i + 1) _ (by omega) he S
    refine g_aL0 dX10_ends_27 ?_
    refine g_lL4 dX10_ends_28 ?_
    refine g_pJ0 lf_X10_428 (S.l 50 rfl) (S.k 50 rfl rfl) dX10_ends_30 ?_
    refine g_aL0 dX10_ends_33 ?_
    refine g_iL3 dX10_ends_34 ?_
    refine g_pI0 lf_X10_414 (S.l 50 rfl) (S.k 50 rfl rfl) dX10_ends_35 ?_
    refine g_iconst dX10_ends_38 ?_
    refine g_iS6 dX10_ends_39 rfl rfl ?_
    exact loop k 0 _ (by omega) hb S
  refine g_aL0 dX10_ends_0 ?_
  refine g_iL1 dX10_ends_1 ?_
  refine g_iL2 dX10_ends_2 ?_
  refine g_iL3 dX10_ends_3 ?_
  refine e_v3l W lm_X10_424 dX10_ends_4 (S.l 50 rfl) (S.k 50 rfl rfl) rfl rfl rfl rfl ?_
  refine g_lS4 dX10_ends_7 rfl rfl ?_
  refine g_aL0 dX10_ends_9 ?_
  refine g_gI lf_X10_414 (S.l 50 rfl) (S.k 50 rfl rfl) dX10_ends_10 ?_
  refine g_ifle dX10_ends_13 (fun c13 => ?_) (fun c13 => ?_)
  · exact both (if_pos c13)
  · refine g_lL4 dX10_ends_16 ?_
    refine g_aL0 dX10_ends_18 ?_
    refine g_getJ lf_X10_428 (S.l 50 rfl) (S.k 50 rfl rfl) dX10_ends_19 ?_
    refine g_lcmp dX10_ends_22 ?_
    refine g_ifgt dX10_ends_23 (fun c23 => ?_) (fun c23 => ?_)
    · exact both ((if_neg c13).trans (if_pos c23))
    · exact e_vret rfl dX10_ends_26 rfl rfl ((if_neg c13).trans (if_neg c23)).symm
/-- the reference's cells hold the best way s and the way p under way -/
def WM (h : Hp) (s : PW) (p : List Nat) : Prop := s.1.length ≤ 7 ∧ gI h 50 27 = nI s.1.length ∧ (s.1 ≠ [] → gJ h 50 28 = s.2) ∧ (∀ i x, s.1[i]? = some x → gI h 56 i = nI x) ∧ (∀ i x, p[i]? = some x → gI h 55 i = nI x)
theorem WM.less {h : Hp} {s : PW} {p q : List Nat} (r : WM h s (p ++ q)) : WM h s p := ⟨r.1, r.2.1, r.2.2.1, r.2.2.2.1, fun i x e => r.2.2.2.2 i x (by rw [List.getElem?_append_left (List.getElem?_eq_some_iff.mp e).1]; exact e)⟩
theorem ceL_I : ∀ (n i : Nat) (h : Hp) (b k : Nat), b ≠ 56 → gI (ceL n i h) b k = gI h b k
  | 0, _, _, _, _, _ => rfl
  | n + 1, i, h, b, k, hb => (ceL_I n (i + 1) _ b k hb).trans (gIq hb)
theorem ceL_J : ∀ (n i : Nat) (h : Hp), gJ (ceL n i h) = gJ h
  | 0, _, _ => rfl
  | n + 1, i, h => ceL_J n (i + 1) _
theorem ceL_lo : ∀ (n i : Nat) (h : Hp) (k : Nat), k < i → gI (ceL n i h) 56 k = gI h 56 k
  | 0, _, _, _, _ => rfl
  | n + 1, i, h, k, hk => (ceL_lo n (i + 1) _ k (by omega)).trans (gIk (by omega))
theorem ceL_56 : ∀ (n i : Nat) (h : Hp) (k : Nat), i ≤ k → k < i + n → gI (ceL n i h) 56 k = gI h 55 k
  | 0, _, _, _, _, _ => by omega
  | n + 1, i, h, k, h1, h2 => by
    by_cases e : k = i
    · subst e
      exact (ceL_lo n (k + 1) _ k (by omega)).trans (gIs _ _ _ _)
    · exact (ceL_56 n (i + 1) _ k (by omega) (by omega)).trans (gIq (by decide))
theorem WM_en {h : Hp} {s : PW} {p : List Nat} (hp : p.length ≤ 7) (r : WM h s p) (w : Int64) : WM (enH h p.length w) (pwK s p w) p := by
  obtain ⟨r0, r1, r2, r3, r4⟩ := r
  have new : WM (enS h p.length w) (p, w) p := by
    refine ⟨hp, ?_, ?_, ?_, ?_⟩
    · exact (ceL_I _ _ _ _ _ (by decide)).trans (gIs (pJ h 50 28 w) 50 27 _)
    · intro _
      show gJ (ceL _ _ _) 50 28 = _
      rw [ceL_J]; exact u2_s (gJ h) 50 28 w
    · intro i x e
      have hi : i < p.length := (List.getElem?_eq_some_iff.mp e).1
      exact (ceL_56 _ 0 _ i (by omega) (by omega)).trans ((gIq (h := pJ h 50 28 w) (a := 50) (k := 27) (v := nI p.length) (by decide)).trans (r4 i x e))
    · intro i x e
      exact (ceL_I _ _ _ _ _ (by decide)).trans ((gIq (h := pJ h 50 28 w) (a := 50) (k := 27) (v := nI p.length) (by decide)).trans (r4 i x e))
  unfold enH pwK
  by_cases z : s.1 = []
  · rw [r1, if_pos z, z]
    exact new
  · have hl : 0 < s.1.length := List.length_pos_iff.mpr z
    rw [r1, r2 z, if_neg z, if_neg (show ¬ nI s.1.length ≤ 0 from nI_nle hl (by omega))]
    by_cases y : 0 < lg_cmp w s.2
    · rw [if_pos y, if_pos y]; exact new
    · rw [if_neg y, if_neg y]; exact ⟨r0, r1, r2, r3, r4⟩

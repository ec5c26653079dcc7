/-! THE REFERENCE: picks of cells -/
def upF : Nat → Nat → List Nat
  | _, 0 => []
  | s, m + 1 => s :: upF (s + 1) m
theorem up_len : ∀ (m s : Nat), (upF s m).length = m
  | 0, _ => rfl
  | m + 1, s => congrArg (· + 1) (up_len m (s + 1))
theorem up_get : ∀ (m s i : Nat), i < m → (upF s m)[i]? = some (s + i)
  | 0, _, _, h => by omega
  | m + 1, s, 0, _ => rfl
  | m + 1, s, i + 1, h => by
    show (upF (s + 1) m)[i]? = _
    rw [up_get m (s + 1) i (by omega)]
    exact congrArg some (by omega)
/-- the next pick -/
def nxF (n : Nat) : List Nat → Option (List Nat)
  | [] => none
  | x :: l => match nxF n l with
    | some l' => some (x :: l')
    | none => if x + l.length + 1 < n then some (upF (x + 1) (l.length + 1)) else none
theorem nx_up (n : Nat) : ∀ (m s : Nat), s + m = n → nxF n (upF s m) = none
  | 0, _, _ => rfl
  | m + 1, s, h => by
    show (match nxF n (upF (s + 1) m) with | some l' => some (s :: l') | none => if s + (upF (s + 1) m).length + 1 < n then some (upF (s + 1) ((upF (s + 1) m).length + 1)) else none) = none
    rw [nx_up n m (s + 1) (by omega)]
    exact if_neg (by rw [up_len]; omega)
theorem nx_x {n x m : Nat} (h : x + m + 1 < n) : nxF n (x :: upF (n - m) m) = some (upF (x + 1) (m + 1)) := by
  show (match nxF n (upF (n - m) m) with | some l' => some (x :: l') | none => if x + (upF (n - m) m).length + 1 < n then some (upF (x + 1) ((upF (n - m) m).length + 1)) else none) = _
  rw [nx_up n m (n - m) (by omega), up_len]
  exact if_pos h
theorem nx_pre {n : Nat} {l l' : List Nat} (h : nxF n l = some l') : ∀ (pre : List Nat), nxF n (pre ++ l) = some (pre ++ l')
  | [] => h
  | x :: pre => by
    show (match nxF n (pre ++ l) with | some l' => some (x :: l') | none => if x + (pre ++ l).length + 1 < n then some (upF (x + 1) ((pre ++ l).length + 1)) else none) = _
    rw [nx_pre h pre]
    rfl
def PK (h : Hp) (b : Nat) (l : List Nat) : Prop := ∀ i x, l[i]? = some x → gI h b i = nI x
def pkK (h' h : Hp) : Prop := h'.1 = h.1 ∧ h'.2.1 = h.2.1 ∧ h'.2.2.1 = h.2.2.1 ∧ h'.2.2.2.1 = h.2.2.2.1 ∧ (∀ b j, b ≠ 58 → gI h' b j = gI h b j) ∧ gJ h' = gJ h
theorem pkK.refl (h : Hp) : pkK h h := ⟨rfl, rfl, rfl, rfl, fun _ _ _ => rfl, rfl⟩
theorem pkK.trans {a b c : Hp} (h1 : pkK a b) (h2 : pkK b c) : pkK a c := ⟨h1.1.trans h2.1, h1.2.1.trans h2.2.1, h1.2.2.1.trans h2.2.2.1, h1.2.2.2.1.trans h2.2.2.2.1, fun x j p => (h1.2.2.2.2.1 x j p).trans (h2.2.2.2.2.1 x j p), h1.2.2.2.2.2.trans h2.2.2.2.2.2⟩
theorem pkK_58 (h : Hp) (k : Nat) (v : Int32) : pkK (pI h 58 k v) h := ⟨rfl, rfl, rfl, rfl, fun _ _ p => gIq p, rfl⟩
theorem pkK.S {h' h : Hp} (k : pkK h' h) (S : SX h) : SX h' := S.eq k.1 k.2.1 k.2.2.1 k.2.2.2.1
theorem pkK.m {h' h : Hp} (k : pkK h' h) : mF h' h := ⟨k.1, k.2.1, k.2.2.1, k.2.2.2.1, fun b j _ _ _ q _ => k.2.2.2.2.1 b j q, fun b j _ => congrFun (congrFun k.2.2.2.2.2 b) j⟩
theorem nI_m2 {j : Nat} : nI (j + 1) - 1 = nI j := pk_sub (a := j + 1) (b := 1) (by omega)
theorem nI_back {j : Nat} : nI j + (-1) = nI j - 1 := by rw [Int32.sub_eq_add_neg]
theorem nI_eqN {a b : Nat} (ha : a < 2147483648) (hb : b < 2147483648) : nI a = nI b ↔ a = b := ⟨fun z => by
  have h1 := pn_nI ha
  have h2 := pn_nI hb
  rw [z] at h1
  omega, fun z => by rw [z]⟩
theorem nI_nn {j : Nat} (h : j < 2147483648) : ¬ nI j < 0 := nI_nlt (b := 0) (Nat.zero_le j) h
theorem nI_nng {j : Nat} (h : j < 2147483648) : (0 : Int32) ≤ nI j := nI_le (a := 0) (Nat.zero_le j) h
theorem d_nextPick {h : Hp} (S : SX h) {n : Nat} {qs : List Nat} (hn : n ≤ 20) (hq4 : qs.length ≤ 4) (hqn : qs.length ≤ n) (hv : ∀ i x, qs[i]? = some x → x + (qs.length - i) ≤ n) (r : PK h 58 qs) : gC 0 0 0 yX10_nextPick cX10_nextPick 5 (some .boolean) [.ref 50, .int (nI qs.length), .int (nI n)] h (fun v h' => match nxF n qs with | none => v = some (.int 0) ∧ h' = h | some q' => v = some (.int 1) ∧ PK h' 58 q' ∧ pkK h' h) := by
  refine g_entry (lv := [.ref 50, .int (nI qs.length), .int (nI n), .retAddr 0, .retAddr 0]) 2 pn_X10 rfl rfl rfl ?_
  have loop : ∀ (j : Nat) (pre : List Nat) (m : Nat), pre.length = j → qs = pre ++ upF (n - m) m → gY 0 0 0 yX10_nextPick cX10_nextPick 5 (some .boolean) 0 0 (fun v h' => match nxF n qs with | none => v = some (.int 0) ∧ h' = h | some q' => v = some (.int 1) ∧ PK h' 58 q' ∧ pkK h' h) 4 [.ref 50, .int (nI qs.length), .int (nI n), .int (nI j - 1), .retAddr 0] [] h := by
    intro j
    induction j with
    | zero =>
      intro pre m hp he
      obtain rfl : pre = [] := List.length_eq_zero_iff.mp hp
      have hm : qs.length = m := by rw [he, List.length_append, up_len]; exact Nat.zero_add m
      refine g_iL3 dX10_nextPick_4 ?_
      refine g_iflt dX10_nextPick_5 (fun c5 => ?_) (fun c5 => absurd (by decide) c5)
      refine g_iL3 dX10_nextPick_28 ?_
      refine g_ifge dX10_nextPick_29 (fun c29 => absurd c29 (by decide)) (fun c29 => ?_)
      refine g_iconst dX10_nextPick_32 ?_
      exact g_zret rfl rfl dX10_nextPick_33 rfl rfl (by rw [show nxF n qs = none from by rw [he]; exact nx_up n m (n - m) (by omega)]; exact ⟨rfl, rfl⟩)
    | succ j ih =>
      intro pre m hp he
      obtain ⟨pre', x, rfl⟩ : ∃ p x, pre = p ++ [x] := by
        rcases List.eq_nil_or_concat pre with z | ⟨p, x, z⟩
        · rw [z] at hp; cases hp
        · exact ⟨p, x, by rw [z, List.concat_eq_append]⟩
      have hp' : pre'.length = j := by rw [List.length_append] at hp; exact Nat.succ.inj hp
      have hql : qs.length = j + 1 + m := by rw [he, List.length_append, up_len, hp]
      have he2 : qs = pre' ++ (x :: upF (n - m) m) := by rw [he, List.append_assoc]; rfl
      have hqx : qs[j]? = some x := by rw [he2, List.getElem?_append_right (by omega), hp', Nat.sub_self]; rfl
      have hx := r j x hqx
      have hvx := hv j x hqx
      have hj4 : j < 4 := by omega
      rw [nI_m2]
      refine g_iL3 dX10_nextPick_4 ?_
      refine g_iflt dX10_nextPick_5 (fun c5 => absurd c5 (nI_nn (by omega))) (fun c5 => ?_)
      refine g_aL0 dX10_nextPick_8 ?_
      refine g_getR lf_X10_36 (S.l 50 rfl) (S.k 50 rfl rfl) (S.r 50 33 (b := 58) rfl rfl) dX10_nextPick_9 ?_
      refine g_iL3 dX10_nextPick_12 ?_
      refine g_ialoadN (S.l 58 rfl) (S.k 58 rfl rfl) (S.n 58 (n := 4) rfl rfl) hj4 (by decide) dX10_nextPick_13 ?_
      rw [hx]
      refine g_iL2 dX10_nextPick_14 ?_
      refine g_iL1 dX10_nextPick_15 ?_
      refine g_isub dX10_nextPick_16 ?_
      rw [show nI n - nI qs.length = nI (n - qs.length) from pk_sub hqn]
      refine g_iL3 dX10_nextPick_17 ?_
      refine g_iadd dX10_nextPick_18 ?_
      rw [nI_add]
      refine g_icne dX10_nextPick_19 (fun c19 => ?_) (fun c19 => ?_)
      · refine g_iL3 dX10_nextPick_28 ?_
        refine g_ifge dX10_nextPick_29 (fun c29 => ?_) (fun c29 => absurd (nI_nng (by omega)) c29)
        have hne : x + m + 1 < n := by
          have h9 : ¬ x = n - qs.length + j := fun z => c19 (by rw [z])
          omega
        have hnx : nxF n qs = some (pre' ++ upF (x + 1) (m + 1)) := by rw [he2]; exact nx_pre (nx_x hne) pre'
        refine g_aL0 dX10_nextPick_34 ?_
        refine g_getR lf_X10_36 (S.l 50 rfl) (S.k 50 rfl rfl) (S.r 50 33 (b := 58) rfl rfl) dX10_nextPick_35 ?_
        refine g_iL3 dX10_nextPick_38 ?_
        refine g_dup2 dX10_nextPick_39 rfl rfl ?_
        refine g_ialoadN (S.l 58 rfl) (S.k 58 rfl rfl) (S.n 58 (n := 4) rfl rfl) hj4 (by decide) dX10_nextPick_40 ?_
        rw [hx]
        refine g_iconst dX10_nextPick_41 ?_
        refine g_iadd dX10_nextPick_42 ?_
        rw [nI_1]
        refine g_iastoreN (S.l 58 rfl) (S.k 58 rfl rfl) (S.n 58 (n := 4) rfl rfl) hj4 (by decide) dX10_nextPick_43 ?_
        refine g_iL3 dX10_nextPick_44 ?_
        refine g_iconst dX10_nextPick_45 ?_
        refine g_iadd dX10_nextPick_46 ?_
        rw [nI_1]
        refine g_iS4 dX10_nextPick_47 rfl rfl ?_
        have loop2 : ∀ (nn i : Nat) (hh : Hp), i + nn = qs.length → True → SX hh → pkK hh h → (∀ i', i' < j → gI hh 58 i' = gI h 58 i') → (∀ i', j ≤ i' → i' < i → gI hh 58 i' = nI (x + 1 + (i' - j))) → j < i → gY 0 0 0 yX10_nextPick cX10_nextPick 5 (some .boolean) 0 0 (fun v h' => match nxF n qs with | none => v = some (.int 0) ∧ h' = h | some q' => v = some (.int 1) ∧ PK h' 58 q' ∧ pkK h' h) 49 [.ref 50, .int (nI qs.length), .int (nI n), .int (nI j), .int (nI i)] [] hh := by
          intro nn
          induction nn with
          | zero =>
            intro i hh hiz hez S hk hlo hhi hji
            refine g_iL4 dX10_nextPick_49 ?_
            refine g_iL1 dX10_nextPick_51 ?_
            refine g_icge dX10_nextPick_52 (fun c52 => ?_) (fun c52 => absurd (nI_le (by omega) (by omega)) c52)
            refine g_iconst dX10_nextPick_79 ?_
            exact g_zret rfl rfl dX10_nextPick_80 rfl rfl (by
              rw [hnx]
              refine ⟨rfl, fun k y e => ?_, hk⟩
              by_cases z : k < j
              · rw [List.getElem?_append_left (by omega)] at e
                rw [hlo k z]
                exact r k y (by rw [he2, List.getElem?_append_left (by omega)]; exact e)
              · rw [List.getElem?_append_right (by omega)] at e
                have hkl := (List.getElem?_eq_some_iff.mp e).1
                rw [up_len] at hkl
                rw [up_get _ _ _ hkl] at e
                rw [hhi k (by omega) (by omega), ← Option.some.inj e, hp'])
          | succ nn ihz =>
            intro i hh hiz hez S hk hlo hhi hji
            refine g_iL4 dX10_nextPick_49 ?_
            refine g_iL1 dX10_nextPick_51 ?_
            refine g_icge dX10_nextPick_52 (fun c52 => absurd c52 (nI_ge (by omega) (by omega))) (fun c52 => ?_)
            refine g_aL0 dX10_nextPick_55 ?_
            refine g_getR lf_X10_36 (S.l 50 rfl) (S.k 50 rfl rfl) (S.r 50 33 (b := 58) rfl rfl) dX10_nextPick_56 ?_
            refine g_iL4 dX10_nextPick_59 ?_
            refine g_aL0 dX10_nextPick_61 ?_
            refine g_getR lf_X10_36 (S.l 50 rfl) (S.k 50 rfl rfl) (S.r 50 33 (b := 58) rfl rfl) dX10_nextPick_62 ?_
            refine g_iL4 dX10_nextPick_65 ?_
            refine g_iconst dX10_nextPick_67 ?_
            refine g_isub dX10_nextPick_68 ?_
            rw [show nI i - 1 = nI (i - 1) from pk_sub (b := 1) (by omega)]
            refine g_ialoadN (S.l 58 rfl) (S.k 58 rfl rfl) (S.n 58 (n := 4) rfl rfl) (by omega) (by decide) dX10_nextPick_69 ?_
            rw [hhi (i - 1) (by omega) (by omega)]
            refine g_iconst dX10_nextPick_70 ?_
            refine g_iadd dX10_nextPick_71 ?_
            rw [nI_1]
            refine g_iastoreN (S.l 58 rfl) (S.k 58 rfl rfl) (S.n 58 (n := 4) rfl rfl) (by omega) (by decide) dX10_nextPick_72 ?_
            refine g_ii4 dX10_nextPick_73 rfl rfl ?_
            refine g_goto dX10_nextPick_76 ?_
            rw [nI_1]
            refine ihz (i + 1) _ (by omega) trivial S ((pkK_58 _ _ _).trans hk) (fun i' hi' => (gIk (by omega)).trans (hlo i' hi')) (fun i' h1 h2 => ?_) (by omega)
            by_cases z : i' = i
            · subst z
              rw [gIs]
              exact congrArg nI (by omega)
            · exact (gIk z).trans (hhi i' h1 (by omega))
        exact loop2 m (j + 1) _ (by omega) trivial S (pkK_58 _ _ _) (fun i' hi' => gIk (by omega)) (fun i' h1 h2 => by
          obtain rfl : i' = j := by omega
          rw [Nat.sub_self]; exact gIs _ _ _ _) (by omega)
      · refine g_ii3 dX10_nextPick_22 rfl rfl ?_
        refine g_goto dX10_nextPick_25 ?_
        rw [nI_back]
        exact ih pre' (m + 1) hp' (by rw [he2, show n - m = n - (m + 1) + 1 by omega, show x = n - (m + 1) from by have := (nI_eqN (by omega) (by omega)).mp c19; omega]; rfl)
  refine g_iL1 dX10_nextPick_0 ?_
  refine g_iconst dX10_nextPick_1 ?_
  refine g_isub dX10_nextPick_2 ?_
  refine g_iS3 dX10_nextPick_3 rfl rfl ?_
  exact loop qs.length qs 0 rfl (by rw [show upF (n - 0) 0 = [] from rfl, List.append_nil])

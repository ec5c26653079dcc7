/-! THE REFERENCE'S CITY IS MADE -/
theorem gn_pN (h : Hp) (k n : Nat) : gn (pN h k n) = gn h + 1 := rfl
/-- a new city at c with its first k rows, over the picture h0 -/
def CH (h0 h : Hp) (c k : Nat) : Prop := gn h = c + 1 + k ∧ (∀ b ∈ gL h0, b ∈ gL h) ∧ (∀ j, j ≤ k → c + j ∈ gL h) ∧ (∀ x ∈ gL h, x < gn h) ∧ (∀ b, b < c → gK h b = gK h0 b ∧ gN h b = gN h0 b ∧ gR h b = gR h0 b ∧ gI h b = gI h0 b ∧ gJ h b = gJ h0 b) ∧ (∀ j, j ≤ k → gK h (c + j) = kMl.getD j 0 ∧ gN h (c + j) = nMl.getD j 0) ∧ (∀ j, 1 ≤ j → j ≤ k → gR h c (14 + j) = some (c + j)) ∧ (∀ j, j ≤ k → ∀ x, gI h (c + j) x = if j = 0 ∧ x = 13 then -1 else 0)
theorem CH.i (h0 : Hp) (hv : ∀ x ∈ gL h0, x < gn h0) : CH h0 (pI (pN h0 9 0) (gn h0) 13 (-1)) (gn h0) 0 := by
  refine ⟨rfl, fun b hb => List.mem_append_left _ hb, fun j hj => ?_, fun x hx => ?_, fun b hb => ?_, fun j hj => ?_, fun j h1 h2 => by omega, fun j hj x => ?_⟩
  · obtain rfl : j = 0 := by omega
    exact List.mem_append_right _ (List.mem_singleton.mpr rfl)
  · show x < gn h0 + 1
    rcases List.mem_append.mp hx with h | h
    · have := hv x h; omega
    · rw [List.mem_singleton.mp h]; omega
  · have hb2 : ¬ b = gn h0 := by omega
    refine ⟨u1_n _ _ hb2, u1_n _ _ hb2, u1_n _ _ hb2, ?_, u1_n _ _ hb2⟩
    show u2 (u1 (gI h0) (gn h0) (fun _ => 0)) (gn h0) 13 (-1) b = _
    rw [u2_na _ _ _ hb2, u1_n _ _ hb2]
  · obtain rfl : j = 0 := by omega
    exact ⟨u1_s _ _ _, u1_s _ _ _⟩
  · obtain rfl : j = 0 := by omega
    show u2 (u1 (gI h0) (gn h0) (fun _ => 0)) (gn h0) 13 (-1) (gn h0 + 0) x = _
    rw [Nat.add_zero]
    by_cases z : x = 13
    · subst z; rw [u2_s, if_pos ⟨rfl, rfl⟩]
    · rw [u2_n _ _ (fun q => z q.2), u1_s, if_neg (fun q => z q.2)]
theorem CH.l {h0 h : Hp} {c k : Nat} (C : CH h0 h c k) : c ∈ gL h := by have := C.2.2.1 0 (Nat.zero_le k); rwa [Nat.add_zero] at this
theorem CH.g {h0 h : Hp} {c k : Nat} (C : CH h0 h c k) : gK h c = 9 := by have := (C.2.2.2.2.2.1 0 (Nat.zero_le k)).1; rwa [Nat.add_zero] at this
theorem CH.l1 {h0 h : Hp} {c k : Nat} (C : CH h0 h c k) (kd n : Nat) : c ∈ gL (pN h kd n) := List.mem_append_left _ C.l
theorem CH.g1 {h0 h : Hp} {c k : Nat} (C : CH h0 h c k) (kd n : Nat) : gK (pN h kd n) c = 9 := by
  show u1 (gK h) (gn h) kd c = 9
  rw [u1_n _ _ (by have := C.1; omega)]
  exact C.g
theorem CH.s {h0 h : Hp} {c k kd n : Nat} (C : CH h0 h c k) (hk : kMl.getD (k + 1) 0 = kd) (hn : nMl.getD (k + 1) 0 = n) : CH h0 (pR (pN h kd n) c (14 + (k + 1)) (some (gn h))) c (k + 1) := by
  obtain ⟨c1, c2, c3, c4, c5, c6, c7, c8⟩ := C
  have hne : ∀ b, b < gn h → ¬ b = gn h := fun b hb => by omega
  refine ⟨?_, fun b hb => List.mem_append_left _ (c2 b hb), fun j hj => ?_, fun x hx => ?_, fun b hb => ?_, fun j hj => ?_, fun j h1 h2 => ?_, fun j hj x => ?_⟩
  · show gn h + 1 = _
    omega
  · by_cases z : j = k + 1
    · subst z
      exact List.mem_append_right _ (List.mem_singleton.mpr (show c + (k + 1) = gn h by omega))
    · exact List.mem_append_left _ (c3 j (by omega))
  · show x < gn h + 1
    rcases List.mem_append.mp hx with h' | h'
    · have := c4 x h'; omega
    · rw [List.mem_singleton.mp h']; omega
  · obtain ⟨d1, d2, d3, d4, d5⟩ := c5 b hb
    refine ⟨(u1_n _ _ (hne b (by omega))).trans d1, (u1_n _ _ (hne b (by omega))).trans d2, ?_, (u1_n _ _ (hne b (by omega))).trans d4, (u1_n _ _ (hne b (by omega))).trans d5⟩
    show u2 (u1 (gR h) (gn h) (fun _ => none)) c (14 + (k + 1)) (some (gn h)) b = _
    rw [u2_na _ _ _ (by omega), u1_n _ _ (hne b (by omega)), d3]
  · show u1 (gK h) (gn h) kd (c + j) = _ ∧ u1 (gN h) (gn h) n (c + j) = _
    by_cases z : j = k + 1
    · subst z
      rw [show c + (k + 1) = gn h by omega, u1_s, u1_s]
      exact ⟨hk.symm, hn.symm⟩
    · rw [u1_n _ _ (by omega), u1_n _ _ (by omega)]
      exact c6 j (by omega)
  · show u2 (u1 (gR h) (gn h) (fun _ => none)) c (14 + (k + 1)) (some (gn h)) c (14 + j) = _
    by_cases z : j = k + 1
    · subst z
      rw [u2_s, show c + (k + 1) = gn h by omega]
    · rw [u2_n _ _ (by omega), u1_n _ _ (by omega)]
      exact c7 j h1 (by omega)
  · show u1 (gI h) (gn h) (fun _ => 0) (c + j) x = _
    by_cases z : j = k + 1
    · subst z
      rw [show c + (k + 1) = gn h by omega, u1_s, if_neg (by omega)]
    · rw [u1_n _ _ (by omega)]
      exact c8 j (by omega) x
theorem CH.mc {h0 h : Hp} {c : Nat} (C : CH h0 h c 16) (h6 : 60 ≤ c) : MC h c := by
  obtain ⟨c1, c2, c3, c4, c5, c6, c7, c8⟩ := C
  refine ⟨h6, fun j hj => c3 j (by omega), fun j hj => (c6 j (by omega)).1, fun j hj => (c6 j (by omega)).2, fun k j hj => ?_⟩
  have key : ∀ k : Fin 31, ∀ j, glk mOf k.1 = some j → k.1 = 14 + j ∧ 1 ≤ j ∧ j ≤ 16 := by
    intro k
    have : ∀ k : Fin 31, (glk mOf k.1 = none) ∨ (15 ≤ k.1 ∧ glk mOf k.1 = some (k.1 - 14)) := by decide
    intro j hj
    rcases this k with z | ⟨z1, z2⟩
    · rw [z] at hj; cases hj
    · rw [z2] at hj
      have := Option.some.inj hj
      have := k.2
      omega
  have hk : k < 31 := by
    apply Classical.byContradiction
    intro z
    have hn : glk mOf k = none := by
      have e : ∀ q, q ≤ 30 → Nat.beq q k = false := fun q hq => by
        cases hq2 : Nat.beq q k with
        | false => rfl
        | true => exact absurd (Nat.eq_of_beq_eq_true hq2) (by omega)
      simp [glk, mOf, e]
    rw [hn] at hj; cases hj
  obtain ⟨e1, e2, e3⟩ := key ⟨k, hk⟩ j hj
  have e1 : k = 14 + j := e1
  rw [e1]
  exact c7 j e2 e3
theorem CH.S {h0 h : Hp} {c : Nat} (C : CH h0 h c 16) (h6 : 60 ≤ c) (S : SX h0) : SX h := by
  obtain ⟨c1, c2, c3, c4, c5, c6, c7, c8⟩ := C
  refine ⟨fun a ha => c2 a (S.1 a ha), fun a ha => (c5 a (by omega)).1.trans (S.2.1 a ha), fun a ha => (c5 a (by omega)).2.1.trans (S.2.2.1 a ha), fun a k b ha hb => ?_⟩
  rw [(c5 a (by omega)).2.2.1]
  exact S.2.2.2 a k b ha hb
theorem d_cityInit {h0 : Hp} (hv : ∀ x ∈ gL h0, x < gn h0) : gC 1 16 276 yX9_init cX9_init 1 none [.ref (gn h0)] (pN h0 9 0) (fun v h' => v = none ∧ CH h0 h' (gn h0) 16) := by
  refine g_entry (lv := [.ref (gn h0)]) 0 pn_X9 rfl rfl rfl ?_
  have l0 : gn h0 ∈ gL (pN h0 9 0) := List.mem_append_right _ (List.mem_singleton.mpr rfl)
  have k0 : gK (pN h0 9 0) (gn h0) = 9 := u1_s _ _ _
  refine g_aL0 dX9_init_0 ?_
  refine g_objInit lo_X9_3 im_obj co_obj rfl rfl dX9_init_1 ?_
  refine g_aL0 dX9_init_4 ?_
  refine g_iconst dX9_init_5 ?_
  refine g_pI0 lf_X9_9 l0 k0 dX9_init_6 ?_
  have C0 := CH.i h0 hv
  generalize pI (pN h0 9 0) (gn h0) 13 (-1) = g0 at C0 ⊢
  refine g_aL0 dX9_init_9 ?_
  refine g_bipush dX9_init_10 ?_
  refine g_newarr (at0 := .int) (ty := .int) (kd := 12) (N' := 8) rfl (Or.inr (Or.inl ⟨rfl, rfl⟩)) ar_int (by decide) rfl (by decide) (by decide) (by decide) dX9_init_12 ?_
  refine g_pR2 lf_X9_15 rfl rfl (C0.l1 12 8) (C0.g1 12 8) dX9_init_14 ?_
  have C1 := C0.s (kd := 12) (n := 8) rfl rfl
  generalize pR (pN g0 12 8) (gn h0) 15 (some (gn g0)) = g1 at C1 ⊢
  refine g_aL0 dX9_init_17 ?_
  refine g_bipush dX9_init_18 ?_
  refine g_newarr (at0 := .int) (ty := .int) (kd := 12) (N' := 8) rfl (Or.inr (Or.inl ⟨rfl, rfl⟩)) ar_int (by decide) rfl (by decide) (by decide) (by decide) dX9_init_20 ?_
  refine g_pR2 lf_X9_19 rfl rfl (C1.l1 12 8) (C1.g1 12 8) dX9_init_22 ?_
  have C2 := C1.s (kd := 12) (n := 8) rfl rfl
  generalize pR (pN g1 12 8) (gn h0) 16 (some (gn g1)) = g2 at C2 ⊢
  refine g_aL0 dX9_init_25 ?_
  refine g_bipush dX9_init_26 ?_
  refine g_newarr (at0 := .int) (ty := .int) (kd := 12) (N' := 8) rfl (Or.inr (Or.inl ⟨rfl, rfl⟩)) ar_int (by decide) rfl (by decide) (by decide) (by decide) dX9_init_28 ?_
  refine g_pR2 lf_X9_22 rfl rfl (C2.l1 12 8) (C2.g1 12 8) dX9_init_30 ?_
  have C3 := C2.s (kd := 12) (n := 8) rfl rfl
  generalize pR (pN g2 12 8) (gn h0) 17 (some (gn g2)) = g3 at C3 ⊢
  refine g_aL0 dX9_init_33 ?_
  refine g_bipush dX9_init_34 ?_
  refine g_newarr (at0 := .int) (ty := .int) (kd := 12) (N' := 6) rfl (Or.inr (Or.inl ⟨rfl, rfl⟩)) ar_int (by decide) rfl (by decide) (by decide) (by decide) dX9_init_36 ?_
  refine g_pR2 lf_X9_25 rfl rfl (C3.l1 12 6) (C3.g1 12 6) dX9_init_38 ?_
  have C4 := C3.s (kd := 12) (n := 6) rfl rfl
  generalize pR (pN g3 12 6) (gn h0) 18 (some (gn g3)) = g4 at C4 ⊢
  refine g_aL0 dX9_init_41 ?_
  refine g_bipush dX9_init_42 ?_
  refine g_newarr (at0 := .int) (ty := .int) (kd := 12) (N' := 7) rfl (Or.inr (Or.inl ⟨rfl, rfl⟩)) ar_int (by decide) rfl (by decide) (by decide) (by decide) dX9_init_44 ?_
  refine g_pR2 lf_X9_28 rfl rfl (C4.l1 12 7) (C4.g1 12 7) dX9_init_46 ?_
  have C5 := C4.s (kd := 12) (n := 7) rfl rfl
  generalize pR (pN g4 12 7) (gn h0) 19 (some (gn g4)) = g5 at C5 ⊢
  refine g_aL0 dX9_init_49 ?_
  refine g_bipush dX9_init_50 ?_
  refine g_newarr (at0 := .int) (ty := .int) (kd := 12) (N' := 49) rfl (Or.inr (Or.inl ⟨rfl, rfl⟩)) ar_int (by decide) rfl (by decide) (by decide) (by decide) dX9_init_52 ?_
  refine g_pR2 lf_X9_31 rfl rfl (C5.l1 12 49) (C5.g1 12 49) dX9_init_54 ?_
  have C6 := C5.s (kd := 12) (n := 49) rfl rfl
  generalize pR (pN g5 12 49) (gn h0) 20 (some (gn g5)) = g6 at C6 ⊢
  refine g_aL0 dX9_init_57 ?_
  refine g_bipush dX9_init_58 ?_
  refine g_newarr (at0 := .int) (ty := .int) (kd := 12) (N' := 49) rfl (Or.inr (Or.inl ⟨rfl, rfl⟩)) ar_int (by decide) rfl (by decide) (by decide) (by decide) dX9_init_60 ?_
  refine g_pR2 lf_X9_34 rfl rfl (C6.l1 12 49) (C6.g1 12 49) dX9_init_62 ?_
  have C7 := C6.s (kd := 12) (n := 49) rfl rfl
  generalize pR (pN g6 12 49) (gn h0) 21 (some (gn g6)) = g7 at C7 ⊢
  refine g_aL0 dX9_init_65 ?_
  refine g_bipush dX9_init_66 ?_
  refine g_newarr (at0 := .int) (ty := .int) (kd := 12) (N' := 6) rfl (Or.inr (Or.inl ⟨rfl, rfl⟩)) ar_int (by decide) rfl (by decide) (by decide) (by decide) dX9_init_68 ?_
  refine g_pR2 lf_X9_37 rfl rfl (C7.l1 12 6) (C7.g1 12 6) dX9_init_70 ?_
  have C8 := C7.s (kd := 12) (n := 6) rfl rfl
  generalize pR (pN g7 12 6) (gn h0) 22 (some (gn g7)) = g8 at C8 ⊢
  refine g_aL0 dX9_init_73 ?_
  refine g_bipush dX9_init_74 ?_
  refine g_newarr (at0 := .int) (ty := .int) (kd := 12) (N' := 6) rfl (Or.inr (Or.inl ⟨rfl, rfl⟩)) ar_int (by decide) rfl (by decide) (by decide) (by decide) dX9_init_76 ?_
  refine g_pR2 lf_X9_40 rfl rfl (C8.l1 12 6) (C8.g1 12 6) dX9_init_78 ?_
  have C9 := C8.s (kd := 12) (n := 6) rfl rfl
  generalize pR (pN g8 12 6) (gn h0) 23 (some (gn g8)) = g9 at C9 ⊢
  refine g_aL0 dX9_init_81 ?_
  refine g_bipush dX9_init_82 ?_
  refine g_newarr (at0 := .int) (ty := .int) (kd := 12) (N' := 6) rfl (Or.inr (Or.inl ⟨rfl, rfl⟩)) ar_int (by decide) rfl (by decide) (by decide) (by decide) dX9_init_84 ?_
  refine g_pR2 lf_X9_43 rfl rfl (C9.l1 12 6) (C9.g1 12 6) dX9_init_86 ?_
  have C10 := C9.s (kd := 12) (n := 6) rfl rfl
  generalize pR (pN g9 12 6) (gn h0) 24 (some (gn g9)) = g10 at C10 ⊢
  refine g_aL0 dX9_init_89 ?_
  refine g_bipush dX9_init_90 ?_
  refine g_newarr (at0 := .int) (ty := .int) (kd := 12) (N' := 8) rfl (Or.inr (Or.inl ⟨rfl, rfl⟩)) ar_int (by decide) rfl (by decide) (by decide) (by decide) dX9_init_92 ?_
  refine g_pR2 lf_X9_46 rfl rfl (C10.l1 12 8) (C10.g1 12 8) dX9_init_94 ?_
  have C11 := C10.s (kd := 12) (n := 8) rfl rfl
  generalize pR (pN g10 12 8) (gn h0) 25 (some (gn g10)) = g11 at C11 ⊢
  refine g_aL0 dX9_init_97 ?_
  refine g_bipush dX9_init_98 ?_
  refine g_newarr (at0 := .int) (ty := .int) (kd := 12) (N' := 8) rfl (Or.inr (Or.inl ⟨rfl, rfl⟩)) ar_int (by decide) rfl (by decide) (by decide) (by decide) dX9_init_100 ?_
  refine g_pR2 lf_X9_49 rfl rfl (C11.l1 12 8) (C11.g1 12 8) dX9_init_102 ?_
  have C12 := C11.s (kd := 12) (n := 8) rfl rfl
  generalize pR (pN g11 12 8) (gn h0) 26 (some (gn g11)) = g12 at C12 ⊢
  refine g_aL0 dX9_init_105 ?_
  refine g_bipush dX9_init_106 ?_
  refine g_newarr (at0 := .int) (ty := .int) (kd := 12) (N' := 8) rfl (Or.inr (Or.inl ⟨rfl, rfl⟩)) ar_int (by decide) rfl (by decide) (by decide) (by decide) dX9_init_108 ?_
  refine g_pR2 lf_X9_52 rfl rfl (C12.l1 12 8) (C12.g1 12 8) dX9_init_110 ?_
  have C13 := C12.s (kd := 12) (n := 8) rfl rfl
  generalize pR (pN g12 12 8) (gn h0) 27 (some (gn g12)) = g13 at C13 ⊢
  refine g_aL0 dX9_init_113 ?_
  refine g_bipush dX9_init_114 ?_
  refine g_newarr (at0 := .long) (ty := .long) (kd := 13) (N' := 33) rfl (Or.inr (Or.inr ⟨rfl, rfl⟩)) ar_long (by decide) rfl (by decide) (by decide) (by decide) dX9_init_116 ?_
  refine g_pR2 lf_X9_55 rfl rfl (C13.l1 13 33) (C13.g1 13 33) dX9_init_118 ?_
  have C14 := C13.s (kd := 13) (n := 33) rfl rfl
  generalize pR (pN g13 13 33) (gn h0) 28 (some (gn g13)) = g14 at C14 ⊢
  refine g_aL0 dX9_init_121 ?_
  refine g_bipush dX9_init_122 ?_
  refine g_newarr (at0 := .int) (ty := .int) (kd := 12) (N' := 33) rfl (Or.inr (Or.inl ⟨rfl, rfl⟩)) ar_int (by decide) rfl (by decide) (by decide) (by decide) dX9_init_124 ?_
  refine g_pR2 lf_X9_59 rfl rfl (C14.l1 12 33) (C14.g1 12 33) dX9_init_126 ?_
  have C15 := C14.s (kd := 12) (n := 33) rfl rfl
  generalize pR (pN g14 12 33) (gn h0) 29 (some (gn g14)) = g15 at C15 ⊢
  refine g_aL0 dX9_init_129 ?_
  refine g_bipush dX9_init_130 ?_
  refine g_newarr (at0 := .int) (ty := .int) (kd := 12) (N' := 33) rfl (Or.inr (Or.inl ⟨rfl, rfl⟩)) ar_int (by decide) rfl (by decide) (by decide) (by decide) dX9_init_132 ?_
  refine g_pR2 lf_X9_62 rfl rfl (C15.l1 12 33) (C15.g1 12 33) dX9_init_134 ?_
  have C16 := C15.s (kd := 12) (n := 33) rfl rfl
  generalize pR (pN g15 12 33) (gn h0) 30 (some (gn g15)) = g16 at C16 ⊢
  exact g_vret rfl dX9_init_137 (by decide) (by decide) ⟨rfl, C16⟩

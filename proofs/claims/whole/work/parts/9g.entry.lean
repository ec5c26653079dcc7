/-! AT THE LAW'S ENTRY -/
abbrev tmS (i : Nat) : Term := .string (gsr.getD i ("", 0, "", 0)).1 (gsr.getD i ("", 0, "", 0)).2.1
abbrev tmV (i : Nat) : Term := .field (tmS i) "java/lang/String" "value" "[B"
abbrev nfl : List Cond := flatC (Jvm.Cond.and given_1 narrow_1)
def ix_ex : List Nat := [22, 30, 38, 46, 54, 64, 74, 83, 91, 101, 110, 119, 127, 135, 143, 150, 159, 168, 178, 187, 196, 205, 214, 222, 231, 240, 249, 260, 271, 281, 290, 301, 311, 321, 331, 341]
def ix_co : List Nat := [23, 31, 39, 47, 55, 65, 75, 84, 92, 102, 111, 120, 128, 136, 144, 151, 160, 169, 179, 188, 197, 206, 215, 223, 232, 241, 250, 261, 272, 282, 291, 302, 312, 322, 332, 342]
def ix_ar : List Nat := [24, 32, 40, 48, 56, 66, 76, 85, 93, 103, 112, 121, 129, 137, 145, 152, 161, 170, 180, 189, 198, 207, 216, 224, 233, 242, 251, 262, 273, 283, 292, 303, 313, 323, 333, 343]
def ix_le : List Nat := [25, 33, 41, 49, 57, 67, 77, 86, 94, 104, 113, 122, 130, 138, 146, 153, 162, 171, 181, 190, 199, 208, 217, 225, 234, 243, 252, 263, 274, 284, 293, 304, 314, 324, 334, 344]
def ix_el : List (List Nat) := [[26, 27, 28, 29], [34, 35, 36, 37], [42, 43, 44, 45], [50, 51, 52, 53], [58, 59, 60, 61, 62, 63], [68, 69, 70, 71, 72, 73], [78, 79, 80, 81, 82], [87, 88, 89, 90], [95, 96, 97, 98, 99, 100], [105, 106, 107, 108, 109], [114, 115, 116, 117, 118], [123, 124, 125, 126], [131, 132, 133, 134], [139, 140, 141, 142], [147, 148, 149], [154, 155, 156, 157, 158], [163, 164, 165, 166, 167], [172, 173, 174, 175, 176, 177], [182, 183, 184, 185], [191, 192, 193, 194], [200, 201, 202, 203], [209, 210, 211, 212], [218, 219, 220], [226, 227, 228, 229], [235, 236, 237, 238], [244, 245, 246, 247], [253, 254, 255, 256, 257, 258], [264, 265, 266, 267, 268, 269], [275, 276, 277, 278, 279], [285, 286, 287, 288], [294, 295, 296, 297, 298, 299], [305, 306, 307, 308, 309], [315, 316, 317, 318, 319], [325, 326, 327, 328, 329], [335, 336, 337, 338, 339], [345, 346, 347, 348, 349, 350]]
def ix_sr : List Nat := [422, 475, 476, 477, 478, 479, 480, 481, 482, 483, 484, 490, 503, 504, 505, 533, 534, 570, 1413, 1435, 1451, 1452, 1453, 1454, 1471, 1472, 1473, 1474, 1475, 1476, 1477, 1478, 1479, 1484, 1485, 1526]
theorem sx_ex : ∀ i : Fin 36, nfl[ix_ex.getD i.1 0]? = some (Cond.exactly (tmS i.1) "java/lang/String") := by decide +kernel
theorem sx_co : ∀ i : Fin 36, nfl[ix_co.getD i.1 0]? = some (Cond.eq (.field (tmS i.1) "java/lang/String" "coder" "B") (.int 0)) := by decide +kernel
theorem sx_ar : ∀ i : Fin 36, nfl[ix_ar.getD i.1 0]? = some (Cond.arrayOf (tmV i.1) .byte) := by decide +kernel
theorem sx_le : ∀ i : Fin 36, nfl[ix_le.getD i.1 0]? = some (Cond.eq (.length (tmV i.1)) (.int (Int32.ofNat (gbl i.1)))) := by decide +kernel
theorem sx_el : ∀ i : Fin 36, ∀ j : Fin 6, j.1 < gbl i.1 → nfl[(ix_el.getD i.1 []).getD j.1 0]? = some (Cond.eq (.elem (tmV i.1) (.int (Int32.ofNat j.1))) (.int (gby i.1 j.1))) := by decide +kernel
theorem sx_6 : ∀ i : Fin 36, gbl i.1 ≤ 6 := by decide +kernel
theorem sx_sr : ∀ i : Fin 36, tables_1[ix_sr.getD i.1 0]? = some (Cond.stringRef (gsr.getD i.1 ("", 0, "", 0)).1 (gsr.getD i.1 ("", 0, "", 0)).2.1 (gsr.getD i.1 ("", 0, "", 0)).2.2.1) := by decide +kernel
theorem sx_n : ∀ i : Fin 36, (gsr.getD i.1 ("", 0, "", 0)).2.2.2 = i.1 := by decide +kernel
theorem en_str {args : Array Value} {s : State} {A : Nat → Prop} (hs : ∀ w ∈ nfl, w.before args s = true) (hA : ∀ a : Nat, a < s.heap.size → ¬ A a) : ∃ adK adV : Nat → Nat, ∀ i : Nat, i < 36 → (tmS i).eval args s none [] s = some (.ref (adK i)) ∧ va_O "java/lang/String" (adK i) A s s.heap ∧ va_OF "java/lang/String" "coder" "B" (.int 0) (adK i) A s s.heap ∧ va_OF "java/lang/String" "value" "[B" (.ref (adV i)) (adK i) A s s.heap ∧ va_T .byte (adV i) (gbl i) (fun j => .int (gby i j)) A s s.heap := by
  have h0 : ∀ i : Nat, ∃ q : Nat × Nat, i < 36 → (tmS i).eval args s none [] s = some (.ref q.1) ∧ va_O "java/lang/String" q.1 A s s.heap ∧ va_OF "java/lang/String" "coder" "B" (.int 0) q.1 A s s.heap ∧ va_OF "java/lang/String" "value" "[B" (.ref q.2) q.1 A s s.heap ∧ va_T .byte q.2 (gbl i) (fun j => .int (gby i j)) A s s.heap := by
    intro i
    by_cases hi : i < 36
    · have w1 := hs _ (List.mem_of_getElem? (sx_ex ⟨i, hi⟩))
      have w2 := hs _ (List.mem_of_getElem? (sx_co ⟨i, hi⟩))
      have w3 := hs _ (List.mem_of_getElem? (sx_ar ⟨i, hi⟩))
      have w4 := hs _ (List.mem_of_getElem? (sx_le ⟨i, hi⟩))
      have l6 : gbl i ≤ 6 := sx_6 ⟨i, hi⟩
      obtain ⟨a, c, cA, kA, q1, q2, q3, q4, q5, q6, -⟩ := Cond.exactly_spec (args := args) (first := s) (o := none) (s := s) (idx := []) (t := tmS i) (cls := "java/lang/String") w1
      obtain ⟨t, ht, hT⟩ := va_Tof (f := fun j => .int (gby i j)) (A := A) (show gbl i < 2 ^ 31 by omega) w3 (va_eqt w4) (fun j hj => va_eqt (hs _ (List.mem_of_getElem? (sx_el ⟨i, hi⟩ ⟨j, by omega⟩ hj)))) hA
      exact ⟨(a, t), fun _ => ⟨q1, ⟨cA, q3, q5, by rw [q6]; exact q2, hA a (Array.getElem?_eq_some_iff.mp q3).1⟩, vk_OFof q1 (va_eqt w2) hA, vk_OFof q1 ht hA, hT⟩⟩
    · exact ⟨(0, 0), fun h => absurd h hi⟩
  obtain ⟨ad, had⟩ := Classical.axiomOfChoice h0
  exact ⟨fun i => (ad i).1, fun i => (ad i).2, had⟩
theorem en_sr {args : Array Value} {s : State} {adK : Nat → Nat} (ht : ∀ w ∈ tables_1, w.before args s = true) (h : ∀ i : Nat, i < 36 → (tmS i).eval args s none [] s = some (.ref (adK i))) : ∀ q ∈ gsr, vk_R q.1 q.2.1 q.2.2.1 (adK q.2.2.2) s := by
  intro q hq
  obtain ⟨i, hi⟩ := List.getElem?_of_mem hq
  have hl : i < 36 := (List.getElem?_eq_some_iff.mp hi).1
  have e : gsr.getD i ("", 0, "", 0) = q := by rw [List.getD_eq_getElem?_getD, hi]; rfl
  have w := ht _ (List.mem_of_getElem? (sx_sr ⟨i, hl⟩))
  have v := h i hl
  have n : (gsr.getD i ("", 0, "", 0)).2.2.2 = i := sx_n ⟨i, hl⟩
  have w' : (Cond.stringRef (gsr.getD i ("", 0, "", 0)).1 (gsr.getD i ("", 0, "", 0)).2.1 (gsr.getD i ("", 0, "", 0)).2.2.1).before args s = true := w
  have v' : (Term.string (gsr.getD i ("", 0, "", 0)).1 (gsr.getD i ("", 0, "", 0)).2.1).eval args s none [] s = some (.ref (adK i)) := v
  rw [e] at w' v' n
  rw [n]
  exact vk_R.of w' v'
theorem en_cl {args : Array Value} {s : State} (ht : ∀ w ∈ gtb, w.before args s = true) : ∃ D : va_G, ∀ (c : Nat) (q : vw_C), gcl[c]? = some q → u_Kn s q.1 q.2.1 q.2.2 (D.1 c) (D.2 c) := by
  have one : ∀ c : Nat, ∃ x : ClassId × (Nat → Nat), ∀ q : vw_C, gcl[c]? = some q → u_Kn s q.1 q.2.1 q.2.2 x.1 x.2 := by
    intro c
    by_cases hc : c < 11
    · have hc' : c = 0 ∨ c = 1 ∨ c = 2 ∨ c = 3 ∨ c = 4 ∨ c = 5 ∨ c = 6 ∨ c = 7 ∨ c = 8 ∨ c = 9 ∨ c = 10 := by omega
      rcases hc' with rfl | rfl | rfl | rfl | rfl | rfl | rfl | rfl | rfl | rfl | rfl
      · obtain ⟨cC, iS, h⟩ := u_known ht cls_X0.2.2.2.1 (ht _ ins_X0)
        exact ⟨(cC, iS), fun q hq => by cases hq; exact h⟩
      · obtain ⟨cC, iS, h⟩ := u_known ht cls_X1.2.2.2.1 (ht _ ins_X1)
        exact ⟨(cC, iS), fun q hq => by cases hq; exact h⟩
      · obtain ⟨cC, iS, h⟩ := u_known ht cls_X2.2.2.2.1 (ht _ ins_X2)
        exact ⟨(cC, iS), fun q hq => by cases hq; exact h⟩
      · obtain ⟨cC, iS, h⟩ := u_known ht cls_X3.2.2.2.1 (ht _ ins_X3)
        exact ⟨(cC, iS), fun q hq => by cases hq; exact h⟩
      · obtain ⟨cC, iS, h⟩ := u_known ht cls_X4.2.2.2.1 (ht _ ins_X4)
        exact ⟨(cC, iS), fun q hq => by cases hq; exact h⟩
      · obtain ⟨cC, iS, h⟩ := u_known ht cls_X5.2.2.2.1 (ht _ ins_X5)
        exact ⟨(cC, iS), fun q hq => by cases hq; exact h⟩
      · obtain ⟨cC, iS, h⟩ := u_known ht cls_X6.2.2.2.1 (ht _ ins_X6)
        exact ⟨(cC, iS), fun q hq => by cases hq; exact h⟩
      · obtain ⟨cC, iS, h⟩ := u_known ht cls_X7.2.2.2.1 (ht _ ins_X7)
        exact ⟨(cC, iS), fun q hq => by cases hq; exact h⟩
      · obtain ⟨cC, iS, h⟩ := u_known ht cls_X8.2.2.2.1 (ht _ ins_X8)
        exact ⟨(cC, iS), fun q hq => by cases hq; exact h⟩
      · obtain ⟨cC, iS, h⟩ := u_known ht cls_X9.2.2.2.1 (ht _ ins_X9)
        exact ⟨(cC, iS), fun q hq => by cases hq; exact h⟩
      · obtain ⟨cC, iS, h⟩ := u_known ht cls_X10.2.2.2.1 (ht _ ins_X10)
        exact ⟨(cC, iS), fun q hq => by cases hq; exact h⟩
    · refine ⟨(default, fun _ => 0), fun q hq => ?_⟩
      have hl : c < 11 := (List.getElem?_eq_some_iff.mp hq).1
      exact absurd hl hc
  obtain ⟨x, hx⟩ := Classical.axiomOfChoice one
  exact ⟨(fun c => (x c).1, fun c => (x c).2), hx⟩
theorem en_ar {args : Array Value} {s : State} {ty : FieldType} (hty : ty = .byte ∨ ty = .int ∨ ty = .long) (h : (Cond.arrayClass ty).before args s = true) : ∃ cA : ClassId, ArrOfT s cA ty ∧ va_RA s cA ty := by
  obtain ⟨cA, kA, comp, f1, f2, f3⟩ := Cond.arrayClass_spec h
  refine ⟨cA, fun N z => ⟨(fun k h => by cases h), kA, f2, comp, f3⟩, ?_⟩
  rcases hty with rfl | rfl | rfl
  · exact f1
  · exact f1
  · exact f1
theorem en_nw {args : Array Value} {s : State} (ht : ∀ w ∈ tables_1, w.before args s = true) : ∀ w ∈ gnw, va_Nw w s := by
  intro w hw
  have h1 := List.mem_filter.mp hw
  have h2 := ht w h1.1
  have h3 := h1.2
  cases w <;> first | exact va_tabs rfl rfl h2 | (simp [gisN] at h3)
/-- all of it -/
theorem en_all {s : State} {b L : Nat} {xs : Nat → Int32} (hts : ∀ w ∈ lw_tbl, w.before #[Value.ref b] s = true) (hs : ∀ w ∈ nfl, w.before #[Value.ref b] s = true) (hX : va_X b L xs s s.heap) (hbl : b < s.heap.size) : ∃ G : Gp, gB G = s.heap.size ∧ gsb G = b ∧ gsn G = L ∧ gsx G = xs ∧ gKo G s s.heap := by
  have ht : ∀ w ∈ tables_1, w.before #[Value.ref b] s = true := fun w hw => hts w (List.mem_append_right _ hw)
  have hg : ∀ w ∈ gtb, w.before #[Value.ref b] s = true := fun w hw => hts w (List.mem_filter.mp hw).1
  have hT : ∀ (i : Nat) (w : Cond), tables_1[i]? = some w → w.before #[Value.ref b] s = true := fun i w hw => ht w (List.mem_of_getElem? hw)
  have hF : ∀ (i : Nat) (w : Cond), nfl[i]? = some w → w.before #[Value.ref b] s = true := fun i w hw => hs w (List.mem_of_getElem? hw)
  have hA : ∀ a : Nat, a < s.heap.size → ¬ s.heap.size ≤ a := fun a ha => Nat.not_le.mpr ha
  obtain ⟨adK, adV, hstr⟩ := en_str (A := fun q => s.heap.size ≤ q) hs hA
  obtain ⟨D, hD⟩ := en_cl hg
  obtain ⟨cB, b1, b2⟩ := en_ar (ty := .byte) (Or.inl rfl) (hT 45 _ (by decide +kernel))
  obtain ⟨cI, i1, i2⟩ := en_ar (ty := .int) (Or.inr (Or.inl rfl)) (hT 157 _ (by decide +kernel))
  obtain ⟨cJ, j1, j2⟩ := en_ar (ty := .long) (Or.inr (Or.inr rfl)) (hT 228 _ (by decide +kernel))
  have z1 : va_Z "java/lang/String" "COMPACT_STRINGS" "Z" (.int 1) (fun q => s.heap.size ≤ q) s s.heap := va_Zof (hT 436 _ (by decide +kernel)) (hT 12 _ (by decide +kernel)) (va_eqt (hF 4 _ (by decide +kernel))) hA
  have z2 : va_Zq "jdk/internal/util/Preconditions" "SIOOBE_FORMATTER" "Ljava/util/function/BiFunction;" (fun q => s.heap.size ≤ q) s s.heap := va_Zqof (hT 452 _ (by decide +kernel)) (hT 14 _ (by decide +kernel)) (hF 5 _ (by decide +kernel)) hA
  have z3 : vx_Zq Bundle.tN "UNASSIGNED_STACK" Bundle.steD (fun q => s.heap.size ≤ q) s s.heap := vx_Zqof (hT 1107 _ (by decide +kernel)) (hT 18 _ (by decide +kernel)) (hF 9 _ (by decide +kernel)) hA
  have z4 : vx_Zq Bundle.tN "SUPPRESSED_SENTINEL" Bundle.listD (fun q => s.heap.size ≤ q) s s.heap := vx_Zqof (hT 1109 _ (by decide +kernel)) (hT 18 _ (by decide +kernel)) (hF 10 _ (by decide +kernel)) hA
  refine ⟨(s.heap.size, adK, adV, D, (cB, cI, cJ), b, L, xs), rfl, rfl, rfl, rfl, Nat.le_refl _, ⟨hD, ?_⟩, en_nw ht, en_sr ht (fun i hi => (hstr i hi).1), ⟨fun i hi => (hstr i hi).2, z1, z2, z3, z4⟩, hX, hbl⟩
  intro k q hq
  match k, hq with
  | 0, hq => cases hq; exact ⟨b1, b2⟩
  | 1, hq => cases hq; exact ⟨i1, i2⟩
  | 2, hq => cases hq; exact ⟨j1, j2⟩
  | k + 3, hq => cases hq

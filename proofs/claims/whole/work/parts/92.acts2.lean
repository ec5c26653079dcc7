/-! ACTS AND MARKS: what they leave in the cells, on both sides -/
theorem or_xor {x : Int32} {i : Nat} (hi : i < 32) (h : bt x i = false) : x ||| ((1 : Int32) <<< (nI i &&& 31)) = x ^^^ ((1 : Int32) <<< (nI i &&& 31)) := bt_ext (fun j hj => by
  rw [bt_or, bt_xor, bt_1 hi hj]
  by_cases e : j = i
  · subst e; rw [h]; cases decide (j = j) <;> rfl
  · rw [decide_eq_false e]; cases bt x j <;> rfl)
theorem xor_2 (x m : Int32) : (x ^^^ m) ^^^ m = x := bt_ext (fun j _ => by rw [bt_xor, bt_xor]; cases bt x j <;> cases bt m j <;> rfl)
theorem tg_2 (s : Int32) (p : Nat) (c : Int32) {v u : Nat → Int32} {j : Nat} (h : u j = tgF s p c v j) : tgF s p c u j = v j := by
  unfold tgF at h ⊢
  by_cases z0 : s = 0
  · rw [if_pos z0] at h ⊢
    by_cases z : j = p
    · rw [if_pos z] at h ⊢; rw [h, xor_2]
    · rw [if_neg z] at h ⊢; exact h
  · rw [if_neg z0] at h ⊢
    by_cases z1 : s = 1
    · rw [if_pos z1] at h ⊢
      by_cases z : j = 8 + p
      · rw [if_pos z] at h ⊢; rw [h, xor_2]
      · rw [if_neg z] at h ⊢; exact h
    · rw [if_neg z1] at h ⊢
      by_cases z : j = 16
      · rw [if_pos z] at h ⊢; rw [h, xor_2]
      · rw [if_neg z] at h ⊢; exact h
theorem tg_c {s : Int32} {p : Nat} {c : Int32} {v u : Nat → Int32} {j : Nat} (h : u j = v j) : tgF s p c u j = tgF s p c v j := by unfold tgF; rw [h]
theorem cst_eq {h' h : Hp} (e39 : ∀ j, gI h' 39 j = gI h 39 j) (e40 : ∀ j, gI h' 40 j = gI h 40 j) (e3 : gI h' 38 3 = gI h 38 3) (j : Nat) : cst h' j = cst h j := by unfold cst; rw [e39, e40, e3]
theorem cst_ch (h : Hp) (s : Int32) {P : Nat} (hP : P < 8) (c : Int32) {j : Nat} (hj : j ≤ 16) : cst (chH h s P c) j = tgF s P c (cst h) j := by
  unfold chH tgF
  by_cases z0 : s = 0
  · rw [if_pos z0, if_pos z0]
    unfold cst
    by_cases z : j < 8
    · rw [if_pos z, if_pos z]
      by_cases e : j = P
      · subst e; rw [gIs, if_pos rfl]
      · rw [gIk e, if_neg e]
    · rw [if_neg z, if_neg z, if_neg (show ¬ j = P by omega)]
      by_cases y : j < 16
      · rw [if_pos y, if_pos y, gIq (by omega)]
      · rw [if_neg y, if_neg y, gIq (by omega)]
  · rw [if_neg z0, if_neg z0]
    by_cases z1 : s = 1
    · rw [if_pos z1, if_pos z1]
      unfold cst
      by_cases z : j < 8
      · rw [if_pos z, if_pos z, gIq (by omega), if_neg (by omega)]
      · rw [if_neg z, if_neg z]
        by_cases y : j < 16
        · rw [if_pos y, if_pos y]
          by_cases e : j = 8 + P
          · subst e; rw [Nat.add_sub_cancel_left, gIs, if_pos rfl]
          · rw [gIk (by omega), if_neg e]
        · rw [if_neg y, if_neg y, gIq (by omega), if_neg (by omega)]
    · rw [if_neg z1, if_neg z1]
      unfold cst
      by_cases z : j < 8
      · rw [if_pos z, if_pos z, gIq (by omega), if_neg (by omega)]
      · rw [if_neg z, if_neg z]
        by_cases y : j < 16
        · rw [if_pos y, if_pos y, gIq (by omega), if_neg (by omega)]
        · rw [if_neg y, if_neg y, gIs, if_pos (by omega)]
theorem fgS_v (h : Hp) (i : Nat) {b : Nat} (hb : b = 41 ∨ b = 42 ∨ b = 43) (k : Nat) : gI (fgS h i) b k = if k = i then gI h b (i + 1) else gI h b k := by
  have e : fgS h i = pI (pI (pI h 41 i (gI h 41 (i + 1))) 42 i (gI h 42 (i + 1))) 43 i (gI h 43 (i + 1)) := by
    unfold fgS
    simp only [gIq (show ¬ (42 : Nat) = 41 by decide), gIq (show ¬ (43 : Nat) = 42 by decide), gIq (show ¬ (43 : Nat) = 41 by decide)]
  rw [e]
  rcases hb with rfl | rfl | rfl
  · rw [gIq (by decide), gIq (by decide)]
    by_cases z : k = i
    · subst z; rw [gIs, if_pos rfl]
    · rw [gIk z, if_neg z]
  · rw [gIq (by decide)]
    by_cases z : k = i
    · subst z; rw [gIs, if_pos rfl]
    · rw [gIk z, if_neg z, gIq (by decide)]
  · by_cases z : k = i
    · subst z; rw [gIs, if_pos rfl]
    · rw [gIk z, if_neg z, gIq (by decide), gIq (by decide)]
theorem fgL_v {b : Nat} (hb : b = 41 ∨ b = 42 ∨ b = 43) : ∀ (n i : Nat) (h : Hp) (k : Nat), gI (fgL n i h) b k = if i ≤ k ∧ k < i + n then gI h b (k + 1) else gI h b k
  | 0, i, h, k => by rw [if_neg (by omega)]; rfl
  | n + 1, i, h, k => by
    show gI (fgL n (i + 1) (fgS h i)) b k = _
    rw [fgL_v hb n (i + 1) (fgS h i) k, fgS_v h i hb, fgS_v h i hb]
    by_cases z : k = i
    · subst z; rw [if_neg (by omega), if_pos rfl, if_pos (by omega)]
    · by_cases y : i + 1 ≤ k ∧ k < i + 1 + n
      · rw [if_pos y, if_neg (by omega), if_pos (by omega)]
      · rw [if_neg y, if_neg z, if_neg (by omega)]
theorem rmL_v (A : Nat) : ∀ (n i : Nat) (h : Hp) (x : Nat), gI (rmL A n i h) 53 x = if 17 * A + i ≤ x ∧ x < 17 * A + i + n then gI h 52 (x - 17 * A) else gI h 53 x
  | 0, i, h, x => by rw [if_neg (by omega)]; rfl
  | n + 1, i, h, x => by
    show gI (rmL A n (i + 1) (pI h 53 (17 * A + i) (gI h 52 i))) 53 x = _
    rw [rmL_v A n (i + 1) _ x]
    by_cases z : x = 17 * A + i
    · subst z
      rw [if_neg (by omega), gIs, if_pos (by omega), Nat.add_sub_cancel_left]
    · by_cases y : 17 * A + (i + 1) ≤ x ∧ x < 17 * A + (i + 1) + n
      · rw [if_pos y, gIq (by decide), if_pos (by omega)]
      · rw [if_neg y, gIk z, if_neg (by omega)]
theorem shL_v : ∀ (n i : Nat) (h : Hp) (x : Nat), gI (shL n i h) 53 x = if i ≤ x ∧ x < i + n then gI h 53 (x + 17) else gI h 53 x
  | 0, i, h, x => by rw [if_neg (by omega)]; rfl
  | n + 1, i, h, x => by
    show gI (shL n (i + 1) (pI h 53 i (gI h 53 (i + 17)))) 53 x = _
    rw [shL_v n (i + 1) _ x]
    by_cases z : x = i
    · subst z; rw [if_neg (by omega), gIs, if_pos (by omega)]
    · by_cases y : i + 1 ≤ x ∧ x < i + 1 + n
      · rw [if_pos y, gIk (by omega), if_pos (by omega)]
      · rw [if_neg y, gIk z, if_neg (by omega)]
theorem unL_v (m : Nat) : ∀ (n i : Nat) (h : Hp) (x : Nat), gI (unL m n i h) 52 x = if i ≤ x ∧ x < i + n then gI h 53 (17 * m + x) else gI h 52 x
  | 0, i, h, x => by rw [if_neg (by omega)]; rfl
  | n + 1, i, h, x => by
    show gI (unL m n (i + 1) (pI h 52 i (gI h 53 (17 * m + i)))) 52 x = _
    rw [unL_v m n (i + 1) _ x]
    by_cases z : x = i
    · subst z; rw [if_neg (by omega), gIs, if_pos (by omega)]
    · by_cases y : i + 1 ≤ x ∧ x < i + 1 + n
      · rw [if_pos y, gIq (by decide), if_pos (by omega)]
      · rw [if_neg y, gIk z, if_neg (by omega)]
theorem bkL_v (m : Nat) : ∀ (n i : Nat) (h : Hp) (x : Nat), gI (bkL m n i h) 52 x = if i ≤ x ∧ x < i + n then gI h 54 (17 * m + x) else gI h 52 x
  | 0, i, h, x => by rw [if_neg (by omega)]; rfl
  | n + 1, i, h, x => by
    show gI (bkL m n (i + 1) (pI h 52 i (gI h 54 (17 * m + i)))) 52 x = _
    rw [bkL_v m n (i + 1) _ x]
    by_cases z : x = i
    · subst z; rw [if_neg (by omega), gIs, if_pos (by omega)]
    · by_cases y : i + 1 ≤ x ∧ x < i + 1 + n
      · rw [if_pos y, gIq (by decide), if_pos (by omega)]
      · rw [if_neg y, gIk z, if_neg (by omega)]
theorem mkL_v (m : Nat) : ∀ (n i : Nat) (h : Hp) (x : Nat), gI (mkL17 m n i h) 54 x = if 17 * m + i ≤ x ∧ x < 17 * m + i + n then gI h 52 (x - 17 * m) else gI h 54 x
  | 0, i, h, x => by rw [if_neg (by omega)]; rfl
  | n + 1, i, h, x => by
    show gI (mkL17 m n (i + 1) (pI h 54 (17 * m + i) (gI h 52 i))) 54 x = _
    rw [mkL_v m n (i + 1) _ x]
    by_cases z : x = 17 * m + i
    · subst z
      rw [if_neg (by omega), gIs, if_pos (by omega), Nat.add_sub_cancel_left]
    · by_cases y : 17 * m + (i + 1) ≤ x ∧ x < 17 * m + (i + 1) + n
      · rw [if_pos y, gIq (by decide), if_pos (by omega)]
      · rw [if_neg y, gIk z, if_neg (by omega)]
theorem unL_o (m : Nat) : ∀ (n i : Nat) (h : Hp), (unL m n i h).1 = h.1 ∧ (unL m n i h).2.1 = h.2.1 ∧ (unL m n i h).2.2.1 = h.2.2.1 ∧ (unL m n i h).2.2.2.1 = h.2.2.2.1 ∧ ∀ b j, b ≠ 52 → gI (unL m n i h) b j = gI h b j
  | 0, _, _ => ⟨rfl, rfl, rfl, rfl, fun _ _ _ => rfl⟩
  | n + 1, i, h => by
    obtain ⟨a, b, c, d, e⟩ := unL_o m n (i + 1) (pI h 52 i (gI h 53 (17 * m + i)))
    exact ⟨a, b, c, d, fun x j hx => (e x j hx).trans (gIq hx)⟩
theorem bkL_o (m : Nat) : ∀ (n i : Nat) (h : Hp), (bkL m n i h).1 = h.1 ∧ (bkL m n i h).2.1 = h.2.1 ∧ (bkL m n i h).2.2.1 = h.2.2.1 ∧ (bkL m n i h).2.2.2.1 = h.2.2.2.1 ∧ ∀ b j, b ≠ 52 → gI (bkL m n i h) b j = gI h b j
  | 0, _, _ => ⟨rfl, rfl, rfl, rfl, fun _ _ _ => rfl⟩
  | n + 1, i, h => by
    obtain ⟨a, b, c, d, e⟩ := bkL_o m n (i + 1) (pI h 52 i (gI h 54 (17 * m + i)))
    exact ⟨a, b, c, d, fun x j hx => (e x j hx).trans (gIq hx)⟩
theorem mkL_o (m : Nat) : ∀ (n i : Nat) (h : Hp), (mkL17 m n i h).1 = h.1 ∧ (mkL17 m n i h).2.1 = h.2.1 ∧ (mkL17 m n i h).2.2.1 = h.2.2.1 ∧ (mkL17 m n i h).2.2.2.1 = h.2.2.2.1 ∧ ∀ b j, b ≠ 54 → gI (mkL17 m n i h) b j = gI h b j
  | 0, _, _ => ⟨rfl, rfl, rfl, rfl, fun _ _ _ => rfl⟩
  | n + 1, i, h => by
    obtain ⟨a, b, c, d, e⟩ := mkL_o m n (i + 1) (pI h 54 (17 * m + i) (gI h 52 i))
    exact ⟨a, b, c, d, fun x j hx => (e x j hx).trans (gIq hx)⟩
theorem rmL_o (m : Nat) : ∀ (n i : Nat) (h : Hp), (rmL m n i h).1 = h.1 ∧ (rmL m n i h).2.1 = h.2.1 ∧ (rmL m n i h).2.2.1 = h.2.2.1 ∧ (rmL m n i h).2.2.2.1 = h.2.2.2.1 ∧ ∀ b j, b ≠ 53 → gI (rmL m n i h) b j = gI h b j
  | 0, _, _ => ⟨rfl, rfl, rfl, rfl, fun _ _ _ => rfl⟩
  | n + 1, i, h => by
    obtain ⟨a, b, c, d, e⟩ := rmL_o m n (i + 1) (pI h 53 (17 * m + i) (gI h 52 i))
    exact ⟨a, b, c, d, fun x j hx => (e x j hx).trans (gIq hx)⟩
theorem shL_o : ∀ (n i : Nat) (h : Hp), (shL n i h).1 = h.1 ∧ (shL n i h).2.1 = h.2.1 ∧ (shL n i h).2.2.1 = h.2.2.1 ∧ (shL n i h).2.2.2.1 = h.2.2.2.1 ∧ ∀ b j, b ≠ 53 → gI (shL n i h) b j = gI h b j
  | 0, _, _ => ⟨rfl, rfl, rfl, rfl, fun _ _ _ => rfl⟩
  | n + 1, i, h => by
    obtain ⟨a, b, c, d, e⟩ := shL_o n (i + 1) (pI h 53 i (gI h 53 (i + 17)))
    exact ⟨a, b, c, d, fun x j hx => (e x j hx).trans (gIq hx)⟩
theorem fgL_o : ∀ (n i : Nat) (h : Hp), (fgL n i h).1 = h.1 ∧ (fgL n i h).2.1 = h.2.1 ∧ (fgL n i h).2.2.1 = h.2.2.1 ∧ (fgL n i h).2.2.2.1 = h.2.2.2.1
  | 0, _, _ => ⟨rfl, rfl, rfl, rfl⟩
  | n + 1, i, h => fgL_o n (i + 1) (fgS h i)
theorem kpL_o (m : Nat) : ∀ (n i : Nat) (h : Hp), (kpL m n i h).1 = h.1 ∧ (kpL m n i h).2.1 = h.2.1 ∧ (kpL m n i h).2.2.1 = h.2.2.1 ∧ (kpL m n i h).2.2.2.1 = h.2.2.2.1
  | 0, _, _ => ⟨rfl, rfl, rfl, rfl⟩
  | n + 1, i, h => kpL_o m n (i + 1) (kpS m h i)
theorem rsL_o (m : Nat) : ∀ (n i : Nat) (h : Hp), (rsL m n i h).1 = h.1 ∧ (rsL m n i h).2.1 = h.2.1 ∧ (rsL m n i h).2.2.1 = h.2.2.1 ∧ (rsL m n i h).2.2.2.1 = h.2.2.2.1
  | 0, _, _ => ⟨rfl, rfl, rfl, rfl⟩
  | n + 1, i, h => rsL_o m n (i + 1) (rsS m h i)
theorem kpL_v (m : Nat) : ∀ (n i : Nat) (h : Hp) (x : Nat), i + n ≤ 8 → gI (kpL m n i h) 44 x = if m * 17 + i ≤ x ∧ x < m * 17 + i + n then gI h 39 (x - m * 17) else if m * 17 + 8 + i ≤ x ∧ x < m * 17 + 8 + i + n then gI h 40 (x - (m * 17 + 8)) else gI h 44 x
  | 0, i, h, x, _ => by rw [if_neg (by omega), if_neg (by omega)]; rfl
  | n + 1, i, h, x, hi => by
    have e : kpS m h i = pI (pI h 44 (m * 17 + i) (gI h 39 i)) 44 (m * 17 + 8 + i) (gI h 40 i) := by
      unfold kpS; simp only [gIq (show ¬ (40 : Nat) = 44 by decide)]
    show gI (kpL m n (i + 1) (kpS m h i)) 44 x = _
    rw [kpL_v m n (i + 1) _ x (by omega), e]
    by_cases z : x = m * 17 + i
    · subst z
      rw [if_neg (by omega), if_neg (by omega), gIk (by omega), gIs, if_pos (by omega), Nat.add_sub_cancel_left]
    · by_cases y : x = m * 17 + 8 + i
      · subst y
        rw [if_neg (by omega), if_neg (by omega), gIs, if_neg (by omega), if_pos (by omega), Nat.add_sub_cancel_left]
      · by_cases u : m * 17 + (i + 1) ≤ x ∧ x < m * 17 + (i + 1) + n
        · rw [if_pos u, gIq (by decide), gIq (by decide), if_pos (by omega)]
        · rw [if_neg u, if_neg (show ¬ (m * 17 + i ≤ x ∧ x < m * 17 + i + (n + 1)) by omega)]
          by_cases v : m * 17 + 8 + (i + 1) ≤ x ∧ x < m * 17 + 8 + (i + 1) + n
          · rw [if_pos v, gIq (by decide), gIq (by decide), if_pos (by omega)]
          · rw [if_neg v, gIk y, gIk z, if_neg (by omega)]
theorem rsL_v (m : Nat) : ∀ (n i : Nat) (h : Hp) (x : Nat), (gI (rsL m n i h) 39 x = if i ≤ x ∧ x < i + n then gI h 44 (m * 17 + x) else gI h 39 x) ∧ (gI (rsL m n i h) 40 x = if i ≤ x ∧ x < i + n then gI h 44 (m * 17 + 8 + x) else gI h 40 x)
  | 0, i, h, x => by rw [if_neg (by omega), if_neg (by omega)]; exact ⟨rfl, rfl⟩
  | n + 1, i, h, x => by
    have e : rsS m h i = pI (pI h 39 i (gI h 44 (m * 17 + i))) 40 i (gI h 44 (m * 17 + 8 + i)) := by
      unfold rsS; simp only [gIq (show ¬ (44 : Nat) = 39 by decide)]
    obtain ⟨e1, e2⟩ := rsL_v m n (i + 1) (rsS m h i) x
    have g1 : gI (rsL m (n + 1) i h) 39 x = _ := e1
    have g2 : gI (rsL m (n + 1) i h) 40 x = _ := e2
    rw [g1, g2, e]
    by_cases z : x = i
    · subst z
      have n1 : ¬ (x + 1 ≤ x ∧ x < x + 1 + n) := by omega
      have n2 : x ≤ x ∧ x < x + (n + 1) := by omega
      rw [if_neg n1, if_neg n1, gIq (by decide), gIs, gIs, if_pos n2, if_pos n2]
      exact ⟨rfl, rfl⟩
    · by_cases y : i + 1 ≤ x ∧ x < i + 1 + n
      · rw [if_pos y, if_pos y, gIq (by decide), gIq (by decide), gIq (by decide), gIq (by decide), if_pos (by omega), if_pos (by omega)]
        exact ⟨rfl, rfl⟩
      · rw [if_neg y, if_neg y, gIq (by decide), gIk z, gIk z, gIq (by decide), if_neg (by omega), if_neg (by omega)]
        exact ⟨rfl, rfl⟩
/-! what an act changes, and what it doesn't -/
def fax (b j : Nat) : Prop := frx b j ∨ (b = 38 ∧ (j = 3 ∨ j = 7 ∨ j = 9)) ∨ (39 ≤ b ∧ b ≤ 44) ∨ (b = 50 ∧ (j = 23 ∨ j = 24)) ∨ (52 ≤ b ∧ b ≤ 54)
def FA (h' h : Hp) : Prop := h'.1 = h.1 ∧ h'.2.1 = h.2.1 ∧ h'.2.2.1 = h.2.2.1 ∧ h'.2.2.2.1 = h.2.2.2.1 ∧ ∀ b j, ¬ fax b j → gI h' b j = gI h b j
theorem FA.refl (h : Hp) : FA h h := ⟨rfl, rfl, rfl, rfl, fun _ _ _ => rfl⟩
theorem FA.trans {a b c : Hp} (x : FA a b) (y : FA b c) : FA a c := ⟨x.1.trans y.1, x.2.1.trans y.2.1, x.2.2.1.trans y.2.2.1, x.2.2.2.1.trans y.2.2.2.1, fun b j hb => (x.2.2.2.2 b j hb).trans (y.2.2.2.2 b j hb)⟩
theorem FA_I (h : Hp) {a k : Nat} (v : Int32) (ha : fax a k) : FA (pI h a k v) h := ⟨rfl, rfl, rfl, rfl, fun b j hb => u2_n _ _ (fun z => hb (by rw [z.1, z.2]; exact ha))⟩
theorem FA.f {g h : Hp} (k : FA g h) {b : Nat} (hb : b < 38 ∨ b = 51 ∨ 58 < b) (h0 : b ≠ 0) : gI g b = gI h b := funext (fun j => k.2.2.2.2 b j (by unfold fax frx; omega))
theorem FA.S {h' h : Hp} (k : FA h' h) (S : SX h) : SX h' := S.eq k.1 k.2.1 k.2.2.1 k.2.2.2.1
theorem FA.R {h' h : Hp} (k : FA h' h) (b j : Nat) : gR h' b j = gR h b j := congrFun (congrFun k.2.2.2.1 b) j
theorem J_fa {h h' : Hp} {t s c : Nat} {C : CT} {K : List Nm} (j : J h) (jr : JR h t s) (jc : JC h t c C K) (k : FA h' h) (ps : PS h' (nnC C 1) (dmF C)) (e8 : gI h' 50 1 = gI h' 0 8) (e2 : gI h' 50 2 = -1) (y4 : ¬ gI h' 0 8 = 4) : J h' := by
  obtain ⟨⟨jh, ⟨n, t1, t2, t3, t4, t5⟩, ⟨⟨l1, l2, l3⟩, ⟨l4, l5, l6⟩⟩, -⟩, tr⟩ := j
  have S' := k.S jh.1
  have hc := jr.t
  have c6 := jc.2.1.1
  refine ⟨⟨⟨S', ?_, ?_⟩, ⟨n, t1, ?_, ?_, ?_, ?_⟩, ⟨⟨l1, l2, (k.2.2.2.2 50 15 (by unfold fax frx; omega)).trans l3⟩, ⟨l4, l5, (k.2.2.2.2 50 16 (by unfold fax frx; omega)).trans l6⟩⟩, t, s, ⟨jr.1, (k.R 0 6).trans jr.2.1, (k.R 0 7).trans jr.2.2.1, (k.R 38 0).trans jr.2.2.2⟩, Or.inr ⟨c, C, K, (k.R 50 3).trans jc.1, jc.2.1.eq k.1 k.2.1 k.2.2.1 k.2.2.2.1, fun a x ha => ?_, jc.2.2.2.1, jc.2.2.2.2.1, ?_, ps⟩⟩, e8, ?_, ?_⟩
  · show 60 ≤ h'.1.2
    rw [k.1]; exact jh.2.1
  · show ∀ a ∈ h'.1.1, a < h'.1.2
    rw [k.1]; exact jh.2.2
  · rw [k.f (by omega) (by omega)]; exact t2
  · rw [k.2.2.2.2 50 6 (by unfold fax frx; omega)]; exact t3
  · rw [k.f (by omega) (by omega), k.f (b := 2) (by omega) (by omega)]; exact t4
  · rw [k.f (b := 2) (by omega) (by omega)]; exact t5
  · rw [k.f (b := t + a) (by omega) (by omega)]; exact jc.2.2.1 a x ha
  · have r := jc.2.2.2.2.2.1
    have e : ∀ a, gI h' (c + a) = gI h (c + a) := fun a => k.f (by omega) (by omega)
    refine ⟨fun f hf => ?_, fun a x h1 h2 h3 => ?_, ?_⟩
    · rw [show gI h' c = gI h c from e 0]; exact r.1 f hf
    · rw [e a]; exact r.2.1 a x h1 h2 h3
    · show gI h' c 13 = _
      rw [show gI h' c = gI h c from e 0]; exact r.2.2
  · rw [e2, if_neg y4]
  · rw [k.2.2.2.2 50 13 (by unfold fax frx; omega), k.2.2.2.2 0 9 (by unfold fax frx; omega)]; exact tr.2.2
/-! the panes' state over an act -/
theorem lj16 {N j : Nat} (hN : N ≤ 8) (h : lj N j) : j ≤ 16 := by unfold lj at h; omega
/-- an act on the cells of both sides: d acts fall out in front, B stay -/
def ACT (h f : Hp) (N D d B : Nat) (s : Int32) (P : Nat) (c : Int32) : Prop := (∀ j, j ≤ 16 → cst f j = tgF s P c (cst h) j) ∧ (∀ j, lj N j → gI f 52 j = tgF s P c (gI h 52) j) ∧ SBv N D (gI f 52) ∧ gI f 38 7 = nI (B + 1) ∧ gI f 50 23 = nI (B + 1) ∧ (∀ k, k < B → gI f 41 k = gI h 41 (k + d) ∧ gI f 42 k = gI h 42 (k + d) ∧ gI f 43 k = gI h 43 (k + d) ∧ ∀ j, j ≤ 16 → gI f 53 (17 * k + j) = gI h 53 (17 * (k + d) + j)) ∧ (gI f 41 B = s ∧ gI f 42 B = nI P ∧ gI f 43 B = c ∧ ∀ j, j ≤ 16 → gI f 53 (17 * B + j) = gI h 52 j) ∧ gI f 38 9 = gI h 38 9 ∧ gI f 50 24 = gI h 50 24 ∧ gI f 44 = gI h 44 ∧ gI f 54 = gI h 54
theorem PS_act {h f : Hp} {N D d B P : Nat} {s c : Int32} (hN : N ≤ 8) (hP : P < N) (hB : B < 16) (ps : PSv h N D) (pa : PSa h N D (B + d)) (pm : ∃ M, PSm h N D M) (a : ACT h f N D d B s P c) : PS f N D := by
  obtain ⟨a1, a2, a3, a4, a5, a6, ⟨a7, a8, a9, a10⟩, a11, a12, a13, a14⟩ := a
  obtain ⟨M, m1, m2, m3, m4⟩ := pm
  refine ⟨⟨fun j hj => ?_, a3⟩, ⟨B + 1, by omega, a4, a5, fun k hk => ?_⟩, ⟨M, m1, a11.trans m2, a12.trans m3, fun m hm => by rw [a13, a14]; exact m4 m hm⟩⟩
  · rw [a1 j (lj16 hN hj), a2 j hj]
    exact tg_c (ps.1 j hj)
  · by_cases z : k = B
    · subst z
      refine ⟨P, hP, a8, fun j hj => ?_, ?_⟩
      · have h16 := lj16 hN hj
        rw [a10 j h16, a7, a9]
        refine (tg_2 s P c ?_).symm
        unfold nxV
        rw [if_pos rfl]
        exact a2 j hj
      · intro p hp x h1 h2
        show bt (gI f 53 (17 * k + p)) x = false
        rw [a10 p (by omega)]
        exact ps.2 p hp x h1 h2
    · have hk : k < B := by omega
      obtain ⟨c1, c2, c3, c4⟩ := a6 k hk
      obtain ⟨p, p1, p2, p3, p4⟩ := pa.2.2.2 (k + d) (by omega)
      refine ⟨p, p1, c2.trans p2, fun j hj => ?_, ?_⟩
      · have h16 := lj16 hN hj
        rw [c4 j h16, c1, c3, p3 j hj]
        refine tg_c ?_
        unfold nxV
        by_cases y : k + 1 = B
        · rw [if_pos (by omega), if_neg (by omega), y]
          exact (a10 j h16).symm
        · rw [if_neg (by omega), if_neg (by omega), (a6 (k + 1) (by omega)).2.2.2 j h16, show k + d + 1 = k + 1 + d by omega]
      · intro q hq x h1 h2
        show bt (gI f 53 (17 * k + q)) x = false
        rw [c4 q (by omega)]
        exact p4 q hq x h1 h2

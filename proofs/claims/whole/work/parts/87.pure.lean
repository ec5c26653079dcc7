/-! BOTH SIDES' PURE FUNCTIONS ARE ONE: putty, letters, wholes, owner, sizes, refusals -/
theorem thb (x : Int32) {j : Nat} (hj : j < 32) : thF x (nI j) = 0 ↔ bt x j = false := (th_iff x (nI j)).trans (bz0 x hj)
theorem bt_t {b : Bool} (h : ¬ b = false) : b = true := by cases b <;> simp_all
/-! putty -/
theorem ce_sub {b b' : Int32} : ∀ (n i : Nat), i + n ≤ 32 → (∀ j, i ≤ j → j < i + n → bt b j = bt b' j) → ceF b n i = ceF b' n i
  | 0, _, _, _ => rfl
  | n + 1, i, hi, h => by
    have ih := ce_sub n (i + 1) (by omega) (fun j h1 h2 => h j (by omega) (by omega))
    have e := h i (Nat.le_refl i) (by omega)
    show (if thF b (nI i) = 0 then ceF b n (i + 1) else i :: ceF b n (i + 1)) = (if thF b' (nI i) = 0 then ceF b' n (i + 1) else i :: ceF b' n (i + 1))
    rw [ih]
    by_cases z : bt b i = false
    · rw [if_pos ((thb b (by omega)).mpr z), if_pos ((thb b' (by omega)).mpr (e ▸ z))]
    · rw [if_neg (fun y => z ((thb b (by omega)).mp y)), if_neg (fun y => z (e.trans ((thb b' (by omega)).mp y)))]
theorem ce_cut {b : Int32} {C : Nat} (hC : C ≤ 20) (hb : ∀ j, C ≤ j → j < 32 → bt b j = false) : ∀ (n i : Nat), i + n = 20 → i ≤ C → ceF b n i = ceF b (C - i) i
  | 0, i, h1, h2 => by obtain rfl : i = C := by omega
                       rw [Nat.sub_self]
  | n + 1, i, h1, h2 => by
    by_cases z : i = C
    · subst z
      rw [Nat.sub_self]
      have : ∀ (m k : Nat), i ≤ k → k + m ≤ 20 → ceF b m k = [] := by
        intro m
        induction m with
        | zero => intro k _ _; rfl
        | succ m ih =>
          intro k h3 h4
          show (if thF b (nI k) = 0 then ceF b m (k + 1) else k :: ceF b m (k + 1)) = []
          rw [if_pos ((thb b (by omega)).mpr (hb k h3 (by omega)))]
          exact ih (k + 1) (by omega) (by omega)
      exact this (n + 1) i (Nat.le_refl i) (by omega)
    · rw [show C - i = (C - (i + 1)) + 1 by omega]
      show (if thF b (nI i) = 0 then ceF b n (i + 1) else i :: ceF b n (i + 1)) = (if thF b (nI i) = 0 then ceF b (C - (i + 1)) (i + 1) else i :: ceF b (C - (i + 1)) (i + 1))
      rw [ce_cut hC hb n (i + 1) (by omega) (by omega)]
theorem cb_31 (fw : Int32 → Int32) : ∀ (l : List Nat) (k : Nat) (b o : Int32), (∀ x ∈ l, x < 31) → cbF fw k b l = some o → bt o 31 = false
  | [], 0, b, o, _, h => by
    rw [cb_0] at h
    by_cases z : fw b = -2
    · rw [if_pos z] at h; cases h; exact bt_0 31
    · rw [if_neg z] at h; cases h
  | [], _ + 1, _, _, _, h => by cases h
  | x :: l, 0, b, o, _, h => by
    rw [cb_0] at h
    by_cases z : fw b = -2
    · rw [if_pos z] at h; cases h; exact bt_0 31
    · rw [if_neg z] at h; cases h
  | x :: l, k + 1, b, o, hl, h => by
    have hx : x < 31 := hl x List.mem_cons_self
    have hl' : ∀ y ∈ l, y < 31 := fun y hy => hl y (List.mem_cons_of_mem x hy)
    have e : cbF fw (k + 1) b (x :: l) = (match cbF fw k (b &&& (b1 x ^^^ (-1))) l with | some o => some (o ||| b1 x) | none => cbF fw (k + 1) b l) := rfl
    rw [e] at h
    cases hc : cbF fw k (b &&& (b1 x ^^^ (-1))) l with
    | none => rw [hc] at h; exact cb_31 fw l (k + 1) b o hl' h
    | some o' =>
      rw [hc] at h
      have h2 : some (o' ||| b1 x) = some o := h
      cases h2
      rw [bt_or, cb_31 fw l k _ o' hl' hc, bt_1 (by omega) (by decide), decide_eq_false (by omega)]
      rfl
theorem b31_2 {o : Int32} (h : bt o 31 = false) : ¬ o = -2 ∧ ¬ o = -1 := ⟨fun z => by rw [z] at h; exact absurd h (by decide), fun z => by rw [z] at h; exact absurd h (by decide)⟩
theorem hi_cb (fw : Int32 → Int32) {C : Nat} (hC : C ≤ 20) : ∀ (k : Nat) (b : Int32) (f : Nat), f ≤ C → hiF fw C k b f = (cbF fw k b (ceF b (C - f) f)).getD (-2)
  | 0, b, f, _ => by
    rw [cb_0]
    show (if fw b = -2 then 0 else -2) = _
    by_cases z : fw b = -2
    · rw [if_pos z, if_pos z]; rfl
    · rw [if_neg z, if_neg z]; rfl
  | k + 1, b, f, hf => by
    have IH := hi_cb fw hC k
    have key : ∀ (n i : Nat), i + n = C → hiL (hiF fw C k) b n i = (cbF fw (k + 1) b (ceF b n i)).getD (-2) := by
      intro n
      induction n with
      | zero => intro i _; rfl
      | succ n ih =>
        intro i hi
        have e := ih (i + 1) (by omega)
        show (if bz b (nI i) = 0 then hiL (hiF fw C k) b n (i + 1) else if hiF fw C k (b &&& (((1 : Int32) <<< (nI i &&& 31)) ^^^ (-1))) (i + 1) = -2 then hiL (hiF fw C k) b n (i + 1) else hiF fw C k (b &&& (((1 : Int32) <<< (nI i &&& 31)) ^^^ (-1))) (i + 1) ||| ((1 : Int32) <<< (nI i &&& 31))) = _
        by_cases z : bz b (nI i) = 0
        · rw [if_pos z, e]
          have : ceF b (n + 1) i = ceF b n (i + 1) := if_pos ((th_iff b (nI i)).mpr z)
          rw [this]
        · have ec : ceF b (n + 1) i = i :: ceF b n (i + 1) := if_neg (fun y => z ((th_iff b (nI i)).mp y))
          have es : ceF (b &&& (((1 : Int32) <<< (nI i &&& 31)) ^^^ (-1))) (C - (i + 1)) (i + 1) = ceF b n (i + 1) := by
            rw [show C - (i + 1) = n by omega]
            exact ce_sub n (i + 1) (by omega) (fun j h1 h2 => by
              rw [bt_and, bt_not _ (by omega), bt_1 (by omega) (by omega), decide_eq_false (by omega)]
              cases bt b j <;> rfl)
          rw [if_neg z, IH _ (i + 1) (by omega), es, ec, e]
          have hce : ∀ x ∈ ceF b n (i + 1), x < 31 := fun x hx => by have := ce_lt b n (i + 1) x hx; omega
          have eC : cbF fw (k + 1) b (i :: ceF b n (i + 1)) = (match cbF fw k (b &&& (b1 i ^^^ (-1))) (ceF b n (i + 1)) with | some o => some (o ||| b1 i) | none => cbF fw (k + 1) b (ceF b n (i + 1))) := rfl
          rw [eC]
          cases hc : cbF fw k (b &&& (b1 i ^^^ (-1))) (ceF b n (i + 1)) with
          | none => exact if_pos rfl
          | some o =>
            have h31 := b31_2 (cb_31 fw _ k _ o hce hc)
            exact if_neg h31.1
    exact key (C - f) f (by omega)
theorem lp_pt (fw : Int32 → Int32) {C : Nat} (hC : C ≤ 20) (b : Int32) (hb : ∀ j, C ≤ j → j < 32 → bt b j = false) : ∀ (n i : Nat), (ptF fw b (ceF b 20 0) n i = -1 ∧ lpF (fun k => hiF fw C k b 0) n i = -2) ∨ (ptF fw b (ceF b 20 0) n i = lpF (fun k => hiF fw C k b 0) n i ∧ bt (lpF (fun k => hiF fw C k b 0) n i) 31 = false)
  | 0, _ => Or.inl ⟨rfl, rfl⟩
  | n + 1, i => by
    have ih := lp_pt fw hC b hb n (i + 1)
    have e1 : ptF fw b (ceF b 20 0) (n + 1) i = (match cbF fw i b (ceF b 20 0) with | some o => o | none => ptF fw b (ceF b 20 0) n (i + 1)) := rfl
    have e2 : lpF (fun k => hiF fw C k b 0) (n + 1) i = if hiF fw C i b 0 = -2 then lpF (fun k => hiF fw C k b 0) n (i + 1) else hiF fw C i b 0 := rfl
    rw [e1, e2, hi_cb fw hC i b 0 (Nat.zero_le C), ← ce_cut hC hb 20 0 rfl (Nat.zero_le C)]
    cases hc : cbF fw i b (ceF b 20 0) with
    | none =>
      have hg : (none : Option Int32).getD (-2) = -2 := rfl
      rw [hg, if_pos rfl]
      exact ih
    | some o =>
      have h31 := cb_31 fw _ i b o (fun x hx => by have := ce_lt b 20 0 x hx; omega) hc
      have hg : (some o : Option Int32).getD (-2) = o := rfl
      rw [hg, if_neg (b31_2 h31).1]
      exact Or.inr ⟨rfl, h31⟩
theorem pu_eq (fw : Int32 → Int32) {C : Nat} (hC : C ≤ 20) (b : Int32) (hb : ∀ j, C ≤ j → j < 32 → bt b j = false) : (if ptF fw b (ceF b 20 0) 5 0 = -1 then -2 else pcI (ptF fw b (ceF b 20 0) 5 0)) = (if lpF (fun k => hiF fw C k b 0) 5 0 = -2 then -2 else bcF (lpF (fun k => hiF fw C k b 0) 5 0)) := by
  rcases lp_pt fw hC b hb 5 0 with ⟨h1, h2⟩ | ⟨h1, h2⟩
  · rw [if_pos h1, if_pos h2]
  · rw [h1, if_neg (b31_2 h2).1, if_neg (b31_2 h2).2, bc_pc]
theorem po_eq (fw : Int32 → Int32) {C : Nat} (hC : C ≤ 20) (b : Int32) (hb : ∀ j, C ≤ j → j < 32 → bt b j = false) : (if ptF fw b (ceF b 20 0) 5 0 = -1 then 0 else ptF fw b (ceF b 20 0) 5 0) = (if lpF (fun k => hiF fw C k b 0) 5 0 = -2 then 0 else lpF (fun k => hiF fw C k b 0) 5 0) := by
  rcases lp_pt fw hC b hb 5 0 with ⟨h1, h2⟩ | ⟨h1, h2⟩
  · rw [if_pos h1, if_pos h2]
  · rw [h1, if_neg (b31_2 h2).1, if_neg (b31_2 h2).2]
/-! letters -/
theorem fw_r (wd : Nat → Int32) (b : Int32) : ∀ (n i : Nat), fwF wd b n i = -2 ∨ ∃ x, i ≤ x ∧ x < i + n ∧ fwF wd b n i = nI x
  | 0, _ => Or.inl rfl
  | n + 1, i => by
    show (if wd i = b then nI i else fwF wd b n (i + 1)) = -2 ∨ ∃ x, i ≤ x ∧ x < i + (n + 1) ∧ (if wd i = b then nI i else fwF wd b n (i + 1)) = nI x
    by_cases z : wd i = b
    · rw [if_pos z]; exact Or.inr ⟨i, Nat.le_refl i, by omega, rfl⟩
    · rw [if_neg z]
      rcases fw_r wd b n (i + 1) with h | ⟨x, h1, h2, h3⟩
      · exact Or.inl h
      · exact Or.inr ⟨x, by omega, by omega, h3⟩
theorem co_bt : ∀ (l : List Nat) (b : Int32) (j : Nat), j < 32 → (∀ x ∈ l, x < 32) → (bt (coP l b) j = true ↔ bt b j = true ∨ j ∈ l)
  | [], b, j, _, _ => by simp [coP]
  | x :: l, b, j, hj, hl => by
    have hx := hl x List.mem_cons_self
    show bt (coP l (b ||| ((1 : Int32) <<< (nI x &&& 31)))) j = true ↔ _
    rw [co_bt l _ j hj (fun y hy => hl y (List.mem_cons_of_mem x hy)), bt_or, bt_1 hx hj, List.mem_cons]
    simp only [Bool.or_eq_true, decide_eq_true_eq]
    constructor
    · rintro ((h | h) | h)
      · exact Or.inl h
      · exact Or.inr (Or.inl h)
      · exact Or.inr (Or.inr h)
    · rintro (h | h | h)
      · exact Or.inl (Or.inl h)
      · exact Or.inl (Or.inr h)
      · exact Or.inr h
theorem rc_bt (th : Int32) (wr : Nat → Int32) : ∀ (n i : Nat) (c : Int32) (j : Nat), i + n ≤ 32 → j < 32 → (bt (rcF th wr n i c) j = true ↔ bt c j = true ∨ (i ≤ j ∧ j < i + n ∧ bt th j = true ∧ ¬ wr j = -2))
  | 0, i, c, j, _, _ => by
    show bt c j = true ↔ _
    constructor
    · exact Or.inl
    · rintro (h | h)
      · exact h
      · omega
  | n + 1, i, c, j, hi, hj => by
    show bt (if thF th (nI i) = 0 then rcF th wr n (i + 1) c else if wr i = -2 then rcF th wr n (i + 1) c else rcF th wr n (i + 1) (c ||| ((1 : Int32) <<< (nI i &&& 31)))) j = true ↔ _
    have skip : (bt th i = false ∨ wr i = -2) → (bt (rcF th wr n (i + 1) c) j = true ↔ bt c j = true ∨ (i ≤ j ∧ j < i + (n + 1) ∧ bt th j = true ∧ ¬ wr j = -2)) := by
      intro hs
      rw [rc_bt th wr n (i + 1) c j (by omega) hj]
      constructor
      · rintro (h | ⟨h1, h2, h3, h4⟩)
        · exact Or.inl h
        · exact Or.inr ⟨by omega, by omega, h3, h4⟩
      · rintro (h | ⟨h1, h2, h3, h4⟩)
        · exact Or.inl h
        · by_cases e : j = i
          · subst e
            rcases hs with hs | hs
            · rw [hs] at h3; cases h3
            · exact absurd hs h4
          · exact Or.inr ⟨by omega, by omega, h3, h4⟩
    by_cases z : thF th (nI i) = 0
    · rw [if_pos z]; exact skip (Or.inl ((thb th (by omega)).mp z))
    · rw [if_neg z]
      by_cases y : wr i = -2
      · rw [if_pos y]; exact skip (Or.inr y)
      · rw [if_neg y, rc_bt th wr n (i + 1) _ j (by omega) hj, bt_or, bt_1 (by omega) hj]
        have ht := bt_t (fun q => z ((thb th (by omega)).mpr q))
        simp only [Bool.or_eq_true, decide_eq_true_eq]
        constructor
        · rintro ((h | h) | ⟨h1, h2, h3, h4⟩)
          · exact Or.inl h
          · subst h; exact Or.inr ⟨Nat.le_refl j, by omega, ht, y⟩
          · exact Or.inr ⟨by omega, by omega, h3, h4⟩
        · rintro (h | ⟨h1, h2, h3, h4⟩)
          · exact Or.inl (Or.inl h)
          · by_cases e : j = i
            · exact Or.inl (Or.inr e)
            · exact Or.inr ⟨by omega, by omega, h3, h4⟩
theorem rs_bt (th : Int32) (wr : Nat → Int32) (hw : ∀ x, wr x = -2 ∨ ∃ y, y < 32 ∧ wr x = nI y) : ∀ (l : List Nat) (s e : Int32) (j : Nat), j < 32 → (∀ x ∈ l, x < 32) → (bt (rsM th wr l s e).1 j = true ↔ bt s j = true ∨ (j ∈ l ∧ bt th j = true ∧ ¬ wr j = -2)) ∧ (bt (rsM th wr l s e).2 j = true ↔ bt e j = true ∨ ∃ x ∈ l, bt th x = true ∧ ¬ wr x = -2 ∧ wr x = nI j)
  | [], s, e, j, _, _ => by simp [rsM]
  | x :: l, s, e, j, hj, hl => by
    have hx := hl x List.mem_cons_self
    have IH := fun s e => rs_bt th wr hw l s e j hj (fun y hy => hl y (List.mem_cons_of_mem x hy))
    have skip : (bt th x = false ∨ wr x = -2) → (bt (rsM th wr l s e).1 j = true ↔ bt s j = true ∨ (j ∈ x :: l ∧ bt th j = true ∧ ¬ wr j = -2)) ∧ (bt (rsM th wr l s e).2 j = true ↔ bt e j = true ∨ ∃ y ∈ x :: l, bt th y = true ∧ ¬ wr y = -2 ∧ wr y = nI j) := by
      intro hs
      have no : ¬ (bt th x = true ∧ ¬ wr x = -2) := by
        rintro ⟨h1, h2⟩
        rcases hs with hs | hs
        · rw [hs] at h1; cases h1
        · exact h2 hs
      constructor
      · rw [(IH s e).1]
        constructor
        · rintro (h | ⟨h1, h2⟩)
          · exact Or.inl h
          · exact Or.inr ⟨List.mem_cons_of_mem x h1, h2⟩
        · rintro (h | ⟨h1, h2⟩)
          · exact Or.inl h
          · rcases List.mem_cons.mp h1 with h3 | h3
            · subst h3; exact absurd h2 no
            · exact Or.inr ⟨h3, h2⟩
      · rw [(IH s e).2]
        constructor
        · rintro (h | ⟨y, h1, h2⟩)
          · exact Or.inl h
          · exact Or.inr ⟨y, List.mem_cons_of_mem x h1, h2⟩
        · rintro (h | ⟨y, h1, h2, h3, h4⟩)
          · exact Or.inl h
          · rcases List.mem_cons.mp h1 with h5 | h5
            · subst h5; exact absurd ⟨h2, h3⟩ no
            · exact Or.inr ⟨y, h5, h2, h3, h4⟩
    show (bt (if thF th (nI x) = 0 then rsM th wr l s e else if wr x = -2 then rsM th wr l s e else rsM th wr l (s ||| ((1 : Int32) <<< (nI x &&& 31))) (e ||| ((1 : Int32) <<< (wr x &&& 31)))).1 j = true ↔ _) ∧ (bt (if thF th (nI x) = 0 then rsM th wr l s e else if wr x = -2 then rsM th wr l s e else rsM th wr l (s ||| ((1 : Int32) <<< (nI x &&& 31))) (e ||| ((1 : Int32) <<< (wr x &&& 31)))).2 j = true ↔ _)
    by_cases z : thF th (nI x) = 0
    · rw [if_pos z]; exact skip (Or.inl ((thb th hx).mp z))
    · rw [if_neg z]
      by_cases y : wr x = -2
      · rw [if_pos y]; exact skip (Or.inr y)
      · rw [if_neg y]
        have ht := bt_t (fun q => z ((thb th hx).mpr q))
        obtain ⟨k, hk, ek⟩ := (hw x).resolve_left y
        constructor
        · rw [(IH _ _).1, bt_or, bt_1 hx hj]
          simp only [Bool.or_eq_true, decide_eq_true_eq, List.mem_cons]
          constructor
          · rintro ((h | h) | ⟨h1, h2⟩)
            · exact Or.inl h
            · subst h; exact Or.inr ⟨Or.inl rfl, ht, y⟩
            · exact Or.inr ⟨Or.inr h1, h2⟩
          · rintro (h | ⟨h1 | h1, h2⟩)
            · exact Or.inl (Or.inl h)
            · exact Or.inl (Or.inr h1)
            · exact Or.inr ⟨h1, h2⟩
        · rw [(IH _ _).2, bt_or, ek, bt_1 hk hj]
          simp only [Bool.or_eq_true, decide_eq_true_eq]
          constructor
          · rintro ((h | h) | ⟨v, h1, h2⟩)
            · exact Or.inl h
            · exact Or.inr ⟨x, List.mem_cons_self, ht, y, by rw [ek, h]⟩
            · exact Or.inr ⟨v, List.mem_cons_of_mem x h1, h2⟩
          · rintro (h | ⟨v, h1, h2, h3, h4⟩)
            · exact Or.inl (Or.inl h)
            · rcases List.mem_cons.mp h1 with h5 | h5
              · subst h5
                exact Or.inl (Or.inr ((nI_eqN (by omega) (by omega)).mp (h4.symm.trans ek)))
              · exact Or.inr ⟨v, h5, h2, h3, h4⟩
theorem oh_bt (ro : Int32) (wr : Nat → Int32) : ∀ (n i : Nat) (b : Int32) (j : Nat), i + n ≤ 32 → j < 32 → (∀ x, i ≤ x → x < i + n → bt ro x = true → ∃ y, y < 32 ∧ wr x = nI y) → (bt (ohF ro wr n i b) j = true ↔ bt b j = true ∨ ∃ x, i ≤ x ∧ x < i + n ∧ bt ro x = true ∧ wr x = nI j)
  | 0, i, b, j, _, _, _ => by
    show bt b j = true ↔ _
    constructor
    · exact Or.inl
    · rintro (h | ⟨x, h1, h2, -⟩)
      · exact h
      · omega
  | n + 1, i, b, j, hi, hj, hw => by
    have IH := fun b => oh_bt ro wr n (i + 1) b j (by omega) hj (fun x h1 h2 h3 => hw x (by omega) (by omega) h3)
    show bt (if bz ro (nI i) = 0 then ohF ro wr n (i + 1) b else ohF ro wr n (i + 1) (b ||| ((1 : Int32) <<< (wr i &&& 31)))) j = true ↔ _
    by_cases z : bz ro (nI i) = 0
    · have hf := (bz0 ro (by omega)).mp z
      rw [if_pos z, IH]
      constructor
      · rintro (h | ⟨x, h1, h2, h3⟩)
        · exact Or.inl h
        · exact Or.inr ⟨x, by omega, by omega, h3⟩
      · rintro (h | ⟨x, h1, h2, h3, h4⟩)
        · exact Or.inl h
        · by_cases e : x = i
          · subst e; rw [hf] at h3; cases h3
          · exact Or.inr ⟨x, by omega, by omega, h3, h4⟩
    · have ht := bt_t (fun q => z ((bz0 ro (by omega)).mpr q))
      obtain ⟨k, hk, ek⟩ := hw i (Nat.le_refl i) (by omega) ht
      rw [if_neg z, IH, bt_or, ek, bt_1 hk hj]
      simp only [Bool.or_eq_true, decide_eq_true_eq]
      constructor
      · rintro ((h | h) | ⟨x, h1, h2, h3⟩)
        · exact Or.inl h
        · exact Or.inr ⟨i, Nat.le_refl i, by omega, ht, by rw [ek, h]⟩
        · exact Or.inr ⟨x, by omega, by omega, h3⟩
      · rintro (h | ⟨x, h1, h2, h3, h4⟩)
        · exact Or.inl (Or.inl h)
        · by_cases e : x = i
          · subst e
            exact Or.inl (Or.inr ((nI_eqN (by omega) (by omega)).mp (h4.symm.trans ek)))
          · exact Or.inr ⟨x, by omega, by omega, h3, h4⟩
theorem bt_iff {x y : Int32} (h : ∀ j, j < 32 → (bt x j = true ↔ bt y j = true)) : x = y := bt_ext (fun j hj => by
  have := h j hj
  cases hx : bt x j <;> cases hy : bt y j <;> simp_all)
theorem ro_eq (th : Int32) (wr : Nat → Int32) (hw : ∀ x, wr x = -2 ∨ ∃ y, y < 32 ∧ wr x = nI y) {C : Nat} (hC : C ≤ 7) {l : List Nat} (hl : ∀ x ∈ l, x < C) : (rsM th wr l 0 0).1 = coP l 0 &&& rcF th wr C 0 0 := bt_iff (fun j hj => by
  rw [(rs_bt th wr hw l 0 0 j hj (fun x hx => by have := hl x hx; omega)).1, bt_and, Bool.and_eq_true, co_bt l 0 j hj (fun x hx => by have := hl x hx; omega), rc_bt th wr C 0 0 j (by omega) hj, bt_0]
  constructor
  · rintro (h | ⟨h1, h2, h3⟩)
    · cases h
    · exact ⟨Or.inr h1, Or.inr ⟨Nat.zero_le j, by have := hl j h1; omega, h2, h3⟩⟩
  · rintro ⟨h | h, g | ⟨-, -, g⟩⟩
    · cases h
    · cases h
    · cases g
    · exact Or.inr ⟨h, g⟩)
theorem oh_eq (th : Int32) (wr : Nat → Int32) (hw : ∀ x, wr x = -2 ∨ ∃ y, y < 32 ∧ wr x = nI y) {C : Nat} (hC : C ≤ 7) {l : List Nat} (hl : ∀ x ∈ l, x < C) : (rsM th wr l 0 0).2 = ohF (coP l 0 &&& rcF th wr C 0 0) wr C 0 0 := bt_iff (fun j hj => by
  have key : ∀ x, x < C → (bt (coP l 0 &&& rcF th wr C 0 0) x = true ↔ x ∈ l ∧ bt th x = true ∧ ¬ wr x = -2) := by
    intro x hx
    rw [← ro_eq th wr hw hC hl, (rs_bt th wr hw l 0 0 x (by omega) (fun x hx => by have := hl x hx; omega)).1, bt_0]
    constructor
    · rintro (h | h)
      · cases h
      · exact h
    · exact Or.inr
  rw [(rs_bt th wr hw l 0 0 j hj (fun x hx => by have := hl x hx; omega)).2, oh_bt _ wr C 0 0 j (by omega) hj (fun x _ h2 h3 => (hw x).resolve_left ((key x (by omega)).mp h3).2.2), bt_0]
  constructor
  · rintro (h | ⟨x, h1, h2, h3, h4⟩)
    · cases h
    · exact Or.inr ⟨x, Nat.zero_le x, by have := hl x h1; omega, (key x (hl x h1)).mpr ⟨h1, h2, h3⟩, h4⟩
  · rintro (h | ⟨x, -, h2, h3, h4⟩)
    · cases h
    · have := (key x (by omega)).mp h3
      exact Or.inr ⟨x, this.1, this.2.1, this.2.2, h4⟩)
theorem un_eq (ro : Nat → Int32) : ∀ (n i : Nat) (b : Int32), unM ro n i b = unF ro n i b
  | 0, _, _ => rfl
  | n + 1, i, b => by simp only [unM, unF, or_0, un_eq ro n (i + 1)]
theorem sh_eq (th : Int32) (wr : Nat → Int32) {C : Nat} (hC : C ≤ 7) : ∀ q, q < C → decide (mbM 1 (thF th (nI q)) (wr q) = 0) = bt (rcF th wr C 0 0) q := by
  intro q hq
  have h1 := rc_bt th wr C 0 0 q (by omega) (by omega)
  rw [bt_0] at h1
  have h2 : mbM 1 (thF th (nI q)) (wr q) = 0 ↔ bt th q = true ∧ ¬ wr q = -2 := by
    unfold mbM
    rw [if_pos rfl]
    by_cases z : thF th (nI q) = 0
    · rw [if_pos z]
      have := (thb th (by omega)).mp z
      constructor
      · intro y; exact absurd y (by decide)
      · rintro ⟨y, -⟩; rw [this] at y; cases y
    · rw [if_neg z]
      have ht := bt_t (fun y => z ((thb th (by omega)).mpr y))
      by_cases y : wr q = -2
      · rw [if_pos y]
        constructor
        · intro v; exact absurd v (by decide)
        · rintro ⟨-, v⟩; exact absurd y v
      · rw [if_neg y]; exact ⟨fun _ => ⟨ht, y⟩, fun _ => rfl⟩
  cases hb : bt (rcF th wr C 0 0) q with
  | true =>
    rcases h1.mp hb with h | ⟨-, -, h⟩
    · cases h
    · exact decide_eq_true (h2.mpr h)
  | false =>
    refine decide_eq_false (fun z => ?_)
    have := h1.mpr (Or.inr ⟨Nat.zero_le q, by omega, h2.mp z⟩)
    rw [hb] at this; cases this
/-! wholes -/
theorem iw_0 (sc : Nat → Int32) {al : Int32} (ha : ¬ (0 : Int32) = al) : ∀ (n i : Nat), i + n ≤ 32 → iwF sc (nI 0) al n i 0 = 0
  | 0, _, _ => if_neg ha
  | n + 1, i, h => by
    show (if bz (nI 0) (nI i) = 0 then iwF sc (nI 0) al n (i + 1) 0 else _) = 0
    rw [if_pos ((bz0 (nI 0) (by omega)).mpr (bt_0 i))]
    exact iw_0 sc ha n (i + 1) (by omega)
theorem al_n0 {W H : Nat} (h1 : 2 ≤ W) (h2 : W ≤ 5) (h3 : 2 ≤ H) (h4 : H ≤ 4) : ¬ (0 : Int32) = allF (nI W) (nI H) := by
  have hw : W = 2 ∨ W = 3 ∨ W = 4 ∨ W = 5 := by omega
  have hh : H = 2 ∨ H = 3 ∨ H = 4 := by omega
  rcases hw with rfl | rfl | rfl | rfl <;> rcases hh with rfl | rfl | rfl <;> decide
theorem cw_1 {iw : Int32 → Int32} (h : iw (nI 0) = 0) {N : Nat} : cwM iw (2 ^ N) 0 0 = cwF iw (2 ^ N - 1) 1 0 := by
  rw [cw_eq]
  obtain ⟨m, hm⟩ : ∃ m, 2 ^ N = m + 1 := ⟨2 ^ N - 1, by have := Nat.two_pow_pos N; omega⟩
  rw [hm, Nat.add_sub_cancel]
  exact if_pos h
theorem wa_1 {iw : Int32 → Int32} (h : iw (nI 0) = 0) {N : Nat} (hN : N ≤ 8) (k : Int32) : (waM iw k (2 ^ N) 0 0 = -1 ∧ waF iw k (2 ^ N - 1) 1 0 = 0) ∨ (¬ waM iw k (2 ^ N) 0 0 = -1 ∧ ¬ waF iw k (2 ^ N - 1) 1 0 = 0 ∧ waM iw k (2 ^ N) 0 0 = waF iw k (2 ^ N - 1) 1 0) := by
  obtain ⟨m, hm⟩ : ∃ m, 2 ^ N = m + 1 := ⟨2 ^ N - 1, by have := Nat.two_pow_pos N; omega⟩
  have hp := p2_8 hN
  rw [hm, Nat.add_sub_cancel]
  have e : waM iw k (m + 1) 0 0 = waM iw k m 1 0 := if_pos h
  rw [e]
  exact wa_eq iw k m 1 0 (by decide) (by omega)
/-! the owner -/
theorem pc_32 (x : Int32) : pc32 x ≤ 32 := by
  have : ∀ k n, pcn k n ≤ k := by
    intro k
    induction k with
    | zero => intro n; exact Nat.le_refl 0
    | succ k ih => intro n; show n % 2 + pcn k (n / 2) ≤ k + 1; have := ih (n / 2); omega
  exact this 32 _
theorem cp_nn (sp sc : Nat → Int32) (s p : Int32) : ∀ (n i m : Nat), ∃ r, r ≤ m + 32 * n ∧ cpF sp sc s p n i (nI m) = nI r
  | 0, _, m => ⟨m, by omega, rfl⟩
  | n + 1, i, m => by
    show ∃ r, r ≤ m + 32 * (n + 1) ∧ (if bz s (nI i) = 0 then cpF sp sc s p n (i + 1) (nI m) else if sp i = p then cpF sp sc s p n (i + 1) (nI m + bcF (sc i)) else cpF sp sc s p n (i + 1) (nI m)) = nI r
    obtain ⟨r, h1, h2⟩ := cp_nn sp sc s p n (i + 1) m
    have hp := pc_32 (sc i)
    obtain ⟨r', h3, h4⟩ := cp_nn sp sc s p n (i + 1) (m + pc32 (sc i))
    by_cases z : bz s (nI i) = 0
    · rw [if_pos z]; exact ⟨r, by omega, h2⟩
    · rw [if_neg z]
      by_cases y : sp i = p
      · rw [if_pos y, bc_pc, nI_add]; exact ⟨r', by omega, h4⟩
      · rw [if_neg y]; exact ⟨r, by omega, h2⟩
theorem ow_eq' (cp : Int32 → Int32) : ∀ (n i : Nat) (o : Int32), owF cp n i o (cp o) = owM cp n i o
  | 0, _, _ => rfl
  | n + 1, i, o => by
    show (if cp (nI i) ≤ cp o then owF cp n (i + 1) o (cp o) else owF cp n (i + 1) (nI i) (cp (nI i))) = (if cp (nI i) ≤ cp o then owM cp n (i + 1) o else owM cp n (i + 1) (nI i))
    rw [ow_eq' cp n (i + 1) o, ow_eq' cp n (i + 1) (nI i)]
theorem ow_eq (cp : Int32 → Int32) (h : ∀ p, ∃ r, r ≤ 256 ∧ cp p = nI r) (P : Nat) : owF cp P 0 0 (-1) = owM cp (P - 1) 1 0 := by
  cases P with
  | zero => rfl
  | succ P =>
    show (if cp (nI 0) ≤ -1 then owF cp P 1 0 (-1) else owF cp P 1 (nI 0) (cp (nI 0))) = _
    obtain ⟨r, hr, e⟩ := h (nI 0)
    rw [if_neg (fun z => by
      rw [e, Int32.le_iff_toInt_le, nI_toInt (by omega)] at z
      have : (-1 : Int32).toInt = -1 := by decide
      omega)]
    exact ow_eq' cp P 1 (nI 0)
/-! how many thieves -/
theorem pcB_sh (f : Nat → Bool) : ∀ k, pcB f (k + 1) = (if f 0 = true then 1 else 0) + pcB (fun j => f (j + 1)) k
  | 0 => by
    show 0 + (if f 0 = true then 1 else 0) = (if f 0 = true then 1 else 0) + 0
    rw [Nat.zero_add, Nat.add_zero]
  | k + 1 => by
    show pcB f (k + 1) + (if f (k + 1) = true then 1 else 0) = _ + (pcB (fun j => f (j + 1)) k + (if f (k + 1) = true then 1 else 0))
    rw [pcB_sh f k]; omega
theorem pcn_B : ∀ (k n : Nat), pcn k n = pcB (fun j => n.testBit j) k
  | 0, _ => rfl
  | k + 1, n => by
    rw [pcB_sh]
    show n % 2 + pcn k (n / 2) = _
    rw [pcn_B k (n / 2)]
    have e1 : (fun j => (n / 2).testBit j) = (fun j => n.testBit (j + 1)) := funext (fun j => (Nat.testBit_succ n j).symm)
    have e2 : n % 2 = if n.testBit 0 = true then 1 else 0 := by
      rw [Nat.testBit_zero]
      rcases Nat.mod_two_eq_zero_or_one n with z | z <;> rw [z] <;> rfl
    rw [e1, ← e2]
theorem pc_B (x : Int32) : pc32 x = pcB (bt x) 32 := pcn_B 32 x.toBitVec.toNat
/-! refusals -/
theorem rw_wn {h : Hp} {cn : Nat → Nat} {p a b : Int32} : rwM h cn p a b = wnF (ipF p (nI (cn 1))) (anF (ipF a (nI (cn 4))) (ipF b (nI (cn 4)))) (thF (gI h 52 16) p) := by
  unfold rwM wnF anF
  by_cases z1 : ipF p (nI (cn 1)) = 0
  · rw [if_pos z1, if_pos z1]
  · rw [if_neg z1, if_neg z1]
    by_cases z2 : ipF a (nI (cn 4)) = 0
    · rw [if_pos z2, if_pos (if_pos z2)]
    · rw [if_neg z2]
      by_cases z3 : ipF b (nI (cn 4)) = 0
      · rw [if_pos z3, if_pos ((if_neg z2).trans (if_pos z3))]
      · rw [if_neg z3, if_neg (fun y => absurd (((if_neg z2).trans (if_neg z3)).symm.trans y) (by decide))]
theorem vy_wn {h : Hp} {cn : Nat → Nat} {p a : Int32} : vyM h cn p a = wnF (ipF p (nI (cn 1))) (ipF a (nI (cn 2))) (thF (gI h 52 16) p) := rfl
theorem rt_wb {h : Hp} {cn : Nat → Nat} {p q : Int32} : rtM h cn p q = wbt (wnF (ipF p (nI (cn 1))) (neF p q (ipF q (nI (cn 1)))) (thF (gI h 52 16) p)) (wnF (ipF q (nI (cn 1))) 1 (thF (gI h 52 16) q)) := by
  unfold rtM wbt wnF neF
  by_cases z1 : ipF p (nI (cn 1)) = 0
  · simp [z1]
  · by_cases z2 : ipF q (nI (cn 1)) = 0
    · simp [z1, z2]
    · by_cases z3 : p = q
      · subst z3; simp [z1]
      · by_cases z4 : thF (gI h 52 16) p = 0 <;> simp [z1, z2, z3, z4]
theorem rd_yd (s d : Int32) : ydF 0 s d = rdD s d := by
  unfold ydF rdD inF
  rw [if_pos rfl]
  by_cases z1 : s < 0
  · simp [z1]
  · by_cases z2 : 65536 < s
    · simp [z1, z2]
    · by_cases z3 : d < 0
      · simp [z1, z2, z3]
      · by_cases z4 : d ≤ 99
        · have : ¬ 99 < d := Int32.not_lt.mpr z4
          simp [z1, z2, z3, z4, this]
        · have : 99 < d := Int32.not_le.mp z4
          simp [z1, z2, z3, z4, this]
theorem sc_wn (ip si iw br : Int32) : wnF ip (anF si iw) br = if iw = 0 then 1 else wnF ip si br := by
  unfold wnF anF
  by_cases z1 : ip = 0
  · by_cases z2 : iw = 0 <;> simp [z1, z2]
  · by_cases z2 : iw = 0
    · by_cases z3 : si = 0 <;> simp [z1, z2, z3]
    · by_cases z3 : si = 0 <;> simp [z1, z2, z3]
theorem an_bt (x y z : Int32) : (x &&& ((x &&& y) ^^^ (-1))) &&& z = (x &&& (y ^^^ (-1))) &&& z := bt_ext (fun j hj => by
  rw [bt_and, bt_and, bt_and, bt_and, bt_not _ hj, bt_not _ hj, bt_and]
  cases bt x j <;> cases bt y j <;> rfl)
theorem an_b2 (x y : Int32) : x &&& ((x &&& y) ^^^ (-1)) = x &&& (y ^^^ (-1)) := bt_ext (fun j hj => by
  rw [bt_and, bt_and, bt_not _ hj, bt_not _ hj, bt_and]
  cases bt x j <;> cases bt y j <;> rfl)
theorem mk_eq (f fd s sd th : Int32) : mkMF f fd s sd th = b2 (mkOk f fd s sd th) := by
  unfold mkMF
  rw [an_bt]
  by_cases z1 : f &&& fd = 0
  · by_cases z2 : s &&& sd = 0
    · by_cases z3 : (f ||| s) &&& (th ^^^ (-1)) = 0
      · by_cases z4 : ((th &&& ((f ||| s) ^^^ (-1))) &&& (sd ^^^ (-1))) &&& (fd ^^^ (-1)) = 0
        · rw [if_pos z1, if_pos z2, if_pos z3, if_pos z4, b2_t ⟨z1, z2, z3, z4⟩]
        · rw [if_pos z1, if_pos z2, if_pos z3, if_neg z4, b2_f (fun y => z4 y.2.2.2)]
      · rw [if_pos z1, if_pos z2, if_neg z3, b2_f (fun y => z3 y.2.2.1)]
    · rw [if_pos z1, if_neg z2, b2_f (fun y => z2 y.2.1)]
  · rw [if_neg z1, b2_f (fun y => z1 y.1)]
theorem mk_H (h g : Hp) {f fd s sd th : Int32} (ok : mkOk f fd s sd th) : gI (mkMH h f fd s sd th) 50 30 = gI (mkH g f fd s sd th) 48 0 ∧ gI (mkMH h f fd s sd th) 50 31 = gI (mkH g f fd s sd th) 48 1 := by
  have e1 : mkMH h f fd s sd th = mk2 h (f ||| ((th &&& ((f ||| s) ^^^ (-1))) &&& (sd ^^^ (-1)))) (s ||| ((th &&& ((f ||| s) ^^^ (-1))) &&& sd)) := by
    unfold mkMH
    rw [an_bt, an_b2, if_pos ok.1, if_pos ok.2.1, if_pos ok.2.2.1, if_pos ok.2.2.2]
  have e2 : mkH g f fd s sd th = pI (pI g 48 0 (f ||| (mkL f s th &&& (sd ^^^ (-1))))) 48 1 (s ||| (mkL f s th &&& sd)) := if_pos ok
  rw [e1, e2, mk2_I30, mk2_I31, gIk (by decide), gIs, gIs]
  exact ⟨rfl, rfl⟩
theorem wm_im {h : Hp} {t : Nat} {cn : Nat → Nat} {a b c d e : Int32} : wmF h t cn a b c d e = if imF cn a b c d e = 0 then 1 else if b2 (mkOk (gI h (t + 4) (pn a)) (dkF (gI h (t + 5)) b) (gI h (t + 4) (pn c)) (dkF (gI h (t + 5)) d) (gI h (t + 4) (pn e))) = 0 then 6 else 0 := by
  unfold wmF imF
  by_cases z1 : ipF a (nI (cn 2)) = 0
  · simp [z1]
  · by_cases z2 : ipF c (nI (cn 2)) = 0
    · simp [z1, z2]
    · by_cases z3 : ipF e (nI (cn 2)) = 0
      · simp [z1, z2, z3]
      · by_cases z4 : siF b (nI (cn 3)) = 0
        · simp [z1, z2, z3, z4]
        · by_cases z5 : siF d (nI (cn 3)) = 0
          · simp [z1, z2, z3, z4, z5]
          · simp [z1, z2, z3, z4, z5]
theorem wm_H {h : Hp} {t : Nat} {cn : Nat → Nat} {a b c d e : Int32} (z : ¬ imF cn a b c d e = 0) : wmH h t cn a b c d e = mkH h (gI h (t + 4) (pn a)) (dkF (gI h (t + 5)) b) (gI h (t + 4) (pn c)) (dkF (gI h (t + 5)) d) (gI h (t + 4) (pn e)) := by
  obtain ⟨z1, z2, z3, z4, z5⟩ := im1 z
  unfold wmH
  rw [if_neg z1, if_neg z2, if_neg z3, if_neg z4, if_neg z5]
/-! the shelf -/
theorem bt_nI {i : Nat} (j : Nat) : bt (nI i) j = (decide (j < 32) && i.testBit j) := by
  show (BitVec.ofNat 32 i).getLsbD j = _
  exact BitVec.getLsbD_ofNat 32 i j
theorem ub_bt {N : Nat} (hN : N ≤ 8) (br : Int32) {j : Nat} (hj : j < 32) : bt (ubF (nI N) br) j = (decide (j < N) && !(bt br j)) := by
  unfold ubF
  rw [sh2 hN, bt_and, bt_not _ hj]
  have hp := Nat.two_pow_pos N
  have e : nI (2 ^ N) - 1 = nI (2 ^ N - 1) := pk_sub (a := 2 ^ N) (b := 1) (by omega)
  rw [e, bt_nI, Nat.testBit_two_pow_sub_one, decide_eq_true hj, Bool.true_and]
theorem and0 {x y : Int32} : x &&& y = 0 ↔ ∀ j, j < 32 → ¬ (bt x j = true ∧ bt y j = true) := by
  constructor
  · rintro h j hj ⟨h1, h2⟩
    have := bt_and x y j
    rw [h, bt_0, h1, h2] at this
    cases this
  · intro h
    refine bt_ext (fun j hj => ?_)
    rw [bt_and, bt_0]
    have := h j hj
    cases h1 : bt x j <;> cases h2 : bt y j <;> simp_all
theorem sub_iff {N U i : Nat} (hN : N ≤ 8) {br : Int32} (hU : ubF (nI N) br = nI U) (hi : i < 2 ^ N) : nI i &&& br = 0 ↔ nI i &&& (nI U ^^^ (-1)) = 0 := by
  rw [and0, and0]
  have hb : ∀ j, j < 32 → bt (nI i) j = true → j < N := by
    intro j hj h
    rw [bt_nI, Bool.and_eq_true] at h
    exact Classical.byContradiction (fun z => by
      have : i.testBit j = false := Nat.testBit_lt_two_pow (Nat.lt_of_lt_of_le hi (Nat.pow_le_pow_right (by decide) (by omega)))
      rw [this] at h; cases h.2)
  constructor
  · rintro h j hj ⟨h1, h2⟩
    rw [bt_not _ hj, ← hU, ub_bt hN br hj, decide_eq_true (hb j hj h1)] at h2
    refine h j hj ⟨h1, ?_⟩
    cases hx : bt br j <;> simp_all
  · rintro h j hj ⟨h1, h2⟩
    refine h j hj ⟨h1, ?_⟩
    rw [bt_not _ hj, ← hU, ub_bt hN br hj, h2]
    simp
theorem sub_le {U i : Nat} (hU : U < 256) (hi : i < 256) (h : nI i &&& (nI U ^^^ (-1)) = 0) : i ≤ U := by
  have h2 := and0.mp h
  have : i &&& U = i := by
    apply Nat.eq_of_testBit_eq
    intro j
    rw [Nat.testBit_and]
    by_cases hj : j < 32
    · have := h2 j hj
      rw [bt_not _ hj, bt_nI, bt_nI, decide_eq_true hj, Bool.true_and, Bool.true_and] at this
      cases h1 : i.testBit j <;> cases h3 : U.testBit j <;> simp_all
    · have : i.testBit j = false := Nat.testBit_lt_two_pow (Nat.lt_of_lt_of_le hi (Nat.le_trans (show 256 ≤ 2 ^ 8 by decide) (Nat.pow_le_pow_right (by decide) (by omega))))
      rw [this]; rfl
  rw [← this]
  exact Nat.and_le_right
theorem pc_cmp (x y : Int32) : (0 < bcF x - bcF y ↔ pcI y < pcI x) ∧ (bcF x - bcF y = 0 ↔ pcI x = pcI y) := by
  have hx := pc_32 x
  have hy := pc_32 y
  rw [bc_pc, bc_pc]
  have e := pk_sub_toInt (a := pc32 x) (b := pc32 y) (by omega) (by omega)
  have ex := nI_toInt (n := pc32 x) (by omega)
  have ey := nI_toInt (n := pc32 y) (by omega)
  constructor
  · rw [Int32.lt_iff_toInt_lt, Int32.lt_iff_toInt_lt, e]
    show (0 : Int) < _ ↔ (nI (pc32 y)).toInt < (nI (pc32 x)).toInt
    rw [ex, ey]; omega
  · rw [← Int32.toInt_inj, ← Int32.toInt_inj, e]
    show _ = (0 : Int) ↔ (nI (pc32 x)).toInt = (nI (pc32 y)).toInt
    rw [ex, ey]; omega
theorem lo_0 (lt : Nat → Int32) : ∀ (n i : Nat) (s : Int32), i + n ≤ 32 → loF lt 0 n i s = s
  | 0, _, _, _ => rfl
  | n + 1, i, s, h => by
    show (if bz 0 (nI i) = 0 then loF lt 0 n (i + 1) s else loF lt 0 n (i + 1) (s + lt i)) = s
    rw [if_pos ((bz0 0 (by omega)).mpr (bt_0 i))]
    exact lo_0 lt n (i + 1) s (by omega)
theorem bs_eq {lo : Int32 → Int32} {br sl : Int32} {N U : Nat} (hN : N ≤ 8) (hU : ubF (nI N) br = nI U) (hU8 : U < 2 ^ N) : ∀ (n i : Nat) (b : Int32), 1 ≤ i → i + n = 2 ^ N → bsM lo br sl n i b = bsF lo (nI U) sl (U + 1 - i) i b (lo b)
  | 0, i, b, _, h => by
    rw [show U + 1 - i = 0 by omega]; rfl
  | n + 1, i, b, h1, h => by
    have hp := p2_8 hN
    have ih := fun b => bs_eq (lo := lo) (br := br) (sl := sl) hN hU hU8 n (i + 1) b (by omega) (by omega)
    have si := sub_iff hN hU (i := i) (by omega)
    by_cases z : i ≤ U
    · rw [show U + 1 - i = (U + 1 - (i + 1)) + 1 by omega]
      simp only [bsM, bsF, ih]
      by_cases y : nI i &&& br = 0
      · rw [if_pos y, if_pos (si.mp y)]
        by_cases x : lo (nI i) ≤ sl
        · rw [if_pos x, if_neg (Int32.not_lt.mpr x)]
          by_cases v : pcI b < pcI (nI i)
          · rw [if_pos v, if_pos ((pc_cmp (nI i) b).1.mpr v)]
          · rw [if_neg v, if_neg (fun q => v ((pc_cmp (nI i) b).1.mp q))]
            by_cases u : pcI (nI i) = pcI b
            · rw [if_pos u, if_pos ((pc_cmp (nI i) b).2.mpr u)]
            · rw [if_neg u, if_neg (fun q => u ((pc_cmp (nI i) b).2.mp q))]
        · rw [if_neg x, if_pos (Int32.not_le.mp x)]
      · rw [if_neg y, if_neg (fun q => y (si.mpr q))]
    · rw [show U + 1 - i = 0 by omega]
      have y : ¬ nI i &&& br = 0 := fun q => z (sub_le (by omega) (by omega) (si.mp q))
      simp only [bsM]
      rw [if_neg y, ih, show U + 1 - (i + 1) = 0 by omega]
      rfl
theorem ub_ex {N : Nat} (hN : N ≤ 8) (br : Int32) : ∃ U, U < 2 ^ N ∧ ubF (nI N) br = nI U := by
  refine ⟨(ubF (nI N) br).toBitVec.toNat, ?_, ?_⟩
  · apply Nat.lt_pow_two_of_testBit
    intro j hj
    by_cases z : j < 32
    · have := ub_bt hN br z
      rw [decide_eq_false (by omega)] at this
      exact this
    · exact Nat.testBit_lt_two_pow (Nat.lt_of_lt_of_le (ubF (nI N) br).toBitVec.isLt (Nat.pow_le_pow_right (by decide) (by omega)))
  · have : (ubF (nI N) br).toBitVec = BitVec.ofNat 32 (ubF (nI N) br).toBitVec.toNat := by simp
    exact Int32.toBitVec_inj.mp this

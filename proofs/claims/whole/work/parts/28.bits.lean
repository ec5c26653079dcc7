/-! BITS of an int; ways as lists -/
/-- is bit j of x set -/
def bt (x : Int32) (j : Nat) : Bool := x.toBitVec.getLsbD j
theorem sh_k0 : ∀ j : Fin 32, (nI j.1 &&& 31).toBitVec.smod 32 = BitVec.ofNat 32 j.1 := by decide
theorem sh_k {j : Nat} (hj : j < 32) : (nI j &&& 31).toBitVec.smod 32 = BitVec.ofNat 32 j := sh_k0 ⟨j, hj⟩
theorem bt_ext {x y : Int32} (h : ∀ j, j < 32 → bt x j = bt y j) : x = y := by
  apply Int32.toBitVec_inj.mp
  apply BitVec.eq_of_getLsbD_eq
  intro i hi
  exact h i hi
theorem bt_or (x y : Int32) (j : Nat) : bt (x ||| y) j = (bt x j || bt y j) := by
  unfold bt; rw [Int32.toBitVec_or, BitVec.getLsbD_or]
theorem bt_and (x y : Int32) (j : Nat) : bt (x &&& y) j = (bt x j && bt y j) := by
  unfold bt; rw [Int32.toBitVec_and, BitVec.getLsbD_and]
theorem bt_xor (x y : Int32) (j : Nat) : bt (x ^^^ y) j = (bt x j ^^ bt y j) := by
  unfold bt; rw [Int32.toBitVec_xor, BitVec.getLsbD_xor]
theorem bt_m1 {j : Nat} (hj : j < 32) : bt (-1) j = true := by
  unfold bt
  rw [show (-1 : Int32).toBitVec = BitVec.allOnes 32 from by decide, BitVec.getLsbD_allOnes]
  exact decide_eq_true hj
theorem bt_not (x : Int32) {j : Nat} (hj : j < 32) : bt (x ^^^ (-1)) j = !(bt x j) := by
  rw [bt_xor, bt_m1 hj]; cases bt x j <;> rfl
theorem bt_0 (j : Nat) : bt 0 j = false := by
  unfold bt
  rw [show (0 : Int32).toBitVec = 0#32 from by decide, BitVec.getLsbD_zero]
theorem bt_1 {i j : Nat} (hi : i < 32) (hj : j < 32) : bt ((1 : Int32) <<< (nI i &&& 31)) j = decide (j = i) := by
  unfold bt
  rw [Int32.toBitVec_shiftLeft, sh_k hi, BitVec.shiftLeft_eq', BitVec.toNat_ofNat, Nat.mod_eq_of_lt (by omega), BitVec.getLsbD_shiftLeft, show (1 : Int32).toBitVec = 1#32 from by decide, BitVec.getLsbD_one]
  by_cases e : j = i
  · subst e; simp [hj]
  · have : (j < i) ∨ (j - i ≠ 0) := by omega
    rcases this with z | z
    · simp [hj, e, z]
    · simp [hj, e, z]
theorem bz_bt (x : Int32) {j : Nat} (hj : j < 32) : bz x (nI j) = if bt x j then 1 else 0 := by
  apply bt_ext
  intro i hi
  have e1 : bt (1 : Int32) i = decide (i = 0) := bt_1 (i := 0) (by decide) hi
  unfold bz
  rw [bt_and, e1]
  by_cases z : i = 0
  · subst z
    have e2 : bt (x >>> (nI j &&& 31)) 0 = bt x j := by
      unfold bt
      rw [Int32.toBitVec_shiftRight, sh_k hj]
      show (x.toBitVec.sshiftRight (BitVec.ofNat 32 j).toNat).getLsbD 0 = _
      rw [BitVec.toNat_ofNat, Nat.mod_eq_of_lt (by omega), BitVec.getLsbD_sshiftRight]
      simp [hj]
    rw [e2]
    cases bt x j <;> rfl
  · rw [decide_eq_false z, Bool.and_false]
    split
    · rw [e1, decide_eq_false z]
    · rw [bt_0]
theorem bz0 (x : Int32) {j : Nat} (hj : j < 32) : bz x (nI j) = 0 ↔ bt x j = false := by
  rw [bz_bt x hj]
  cases bt x j
  · exact ⟨fun _ => rfl, fun _ => rfl⟩
  · exact ⟨fun z => absurd z (by decide), fun z => Bool.noConfusion z⟩
/-- the best way so far and its worth -/
abbrev PW := List Nat × Int64
def pwK (s : PW) (p : List Nat) (w : Int64) : PW := if s.1 = [] then (p, w) else if 0 < lg_cmp w s.2 then (p, w) else s
def pwL (mi : Nat → Int32) (wb : Nat → Int64 → Int64) (rc : PW → Nat → (Nat → Bool) → Int64 → PW) (a : Nat) (bl : Nat → Bool) (w : Int64) : Nat → Nat → PW → PW
  | 0, _, s => s
  | n + 1, i, s => if bl i = false then (if mi (a * 7 + i) ≤ 0 then pwL mi wb rc a bl w n (i + 1) s else pwL mi wb rc a bl w n (i + 1) (rc s i (fun j => bl j || decide (j = i)) (wb (a * 7 + i) w))) else pwL mi wb rc a bl w n (i + 1) s
def pwF (mi : Nat → Int32) (wb : Nat → Int64 → Int64) (to : Int32) (C : Nat) : Nat → PW → Nat → List Nat → (Nat → Bool) → Int64 → PW
  | 0, s, _, _, _, _ => s
  | f + 1, s, a, p, bl, w => if nI a = to then pwK s (p ++ [a]) w else pwL mi wb (fun s i bl w => pwF mi wb to C f s i (p ++ [a]) bl w) a bl w C 0 s
/-- the ways' cells hold the best way s and the way p under way -/
def WR (h : Hp) (s : PW) (p : List Nat) : Prop := s.1.length ≤ 7 ∧ gI h 45 6 = nI s.1.length ∧ gJ h 45 7 = s.2 ∧ (∀ i x, s.1[i]? = some x → gI h 47 i = nI x) ∧ (∀ i x, p[i]? = some x → gI h 46 i = nI x)
theorem WR.less {h : Hp} {s : PW} {p q : List Nat} (r : WR h s (p ++ q)) : WR h s p := ⟨r.1, r.2.1, r.2.2.1, r.2.2.2.1, fun i x e => r.2.2.2.2 i x (by rw [List.getElem?_append_left (List.getElem?_eq_some_iff.mp e).1]; exact e)⟩
theorem cpL_I : ∀ (n i : Nat) (h : Hp) (b k : Nat), b ≠ 47 → gI (cpL n i h) b k = gI h b k
  | 0, _, _, _, _, _ => rfl
  | n + 1, i, h, b, k, hb => (cpL_I n (i + 1) _ b k hb).trans (gIq hb)
theorem cpL_J : ∀ (n i : Nat) (h : Hp), gJ (cpL n i h) = gJ h
  | 0, _, _ => rfl
  | n + 1, i, h => cpL_J n (i + 1) _
theorem cpL_lo : ∀ (n i : Nat) (h : Hp) (k : Nat), k < i → gI (cpL n i h) 47 k = gI h 47 k
  | 0, _, _, _, _ => rfl
  | n + 1, i, h, k, hk => (cpL_lo n (i + 1) _ k (by omega)).trans (gIk (by omega))
theorem cpL_47 : ∀ (n i : Nat) (h : Hp) (k : Nat), i ≤ k → k < i + n → gI (cpL n i h) 47 k = gI h 46 k
  | 0, _, _, _, _, _ => by omega
  | n + 1, i, h, k, h1, h2 => by
    by_cases e : k = i
    · subst e
      exact (cpL_lo n (k + 1) _ k (by omega)).trans (gIs _ _ _ _)
    · exact (cpL_47 n (i + 1) _ k (by omega) (by omega)).trans (gIq (by decide))
theorem WR_kb {h : Hp} {s : PW} {p : List Nat} (hp : p.length ≤ 7) (r : WR h s p) (w : Int64) : WR (kbH h p.length w) (pwK s p w) p := by
  obtain ⟨r0, r1, r2, r3, r4⟩ := r
  have new : WR (kbS h p.length w) (p, w) p := by
    refine ⟨hp, ?_, ?_, ?_, ?_⟩
    · exact (cpL_I _ _ _ _ _ (by decide)).trans (show gI (pI h 45 6 (nI p.length)) 45 6 = _ from gIs _ _ _ _)
    · show gJ (cpL _ _ _) 45 7 = _
      rw [cpL_J]; exact u2_s (gJ h) 45 7 w
    · intro i x e
      have hi : i < p.length := (List.getElem?_eq_some_iff.mp e).1
      exact (cpL_47 _ 0 _ i (by omega) (by omega)).trans ((gIq (h := h) (a := 45) (k := 6) (v := nI p.length) (by decide)).trans (r4 i x e))
    · intro i x e
      exact (cpL_I _ _ _ _ _ (by decide)).trans ((gIq (h := h) (a := 45) (k := 6) (v := nI p.length) (by decide)).trans (r4 i x e))
  unfold kbH pwK
  rw [r1, r2]
  by_cases z : s.1 = []
  · rw [if_pos z, z]
    exact new
  · have hl : 0 < s.1.length := List.length_pos_iff.mpr z
    rw [if_neg z, if_neg (show ¬ nI s.1.length ≤ 0 from nI_nle hl (by omega))]
    by_cases y : 0 < lg_cmp w s.2
    · rw [if_pos y, if_pos y]; exact new
    · rw [if_neg y, if_neg y]; exact ⟨r0, r1, r2, r3, r4⟩
/-- what the walk reads of the city and of its own orders -/
def WC (h : Hp) (t : Nat) (mi ri : Nat → Int32) (to bc nb : Int32) : Prop := gI h 45 1 = to ∧ gI h 45 2 = bc ∧ gI h 45 3 = nb ∧ (∀ j, gI h (t + 7) j = mi j) ∧ (∀ j, gI h (t + 8) j = ri j)
theorem WC.k {h h' : Hp} {t : Nat} {mi ri : Nat → Int32} {to bc nb : Int32} (hc : t = 3 ∨ t = 18) (c : WC h t mi ri to bc nb) (k : wkK h' h) : WC h' t mi ri to bc nb :=
  ⟨(k.2.2.2.2.1 _ _ (by decide) (by decide) (by decide)).trans c.1, (k.2.2.2.2.1 _ _ (by decide) (by decide) (by decide)).trans c.2.1, (k.2.2.2.2.1 _ _ (by decide) (by decide) (by decide)).trans c.2.2.1, fun j => (k.2.2.2.2.1 _ _ (by omega) (by omega) (by omega)).trans (c.2.2.2.1 j), fun j => (k.2.2.2.2.1 _ _ (by omega) (by omega) (by omega)).trans (c.2.2.2.2 j)⟩
theorem wk_pw {t C : Nat} (hc : t = 3 ∨ t = 18) (hC : C ≤ 7) {mi ri : Nat → Int32} {to bc nb : Int32} : ∀ (f : Nat) (h : Hp) (a : Nat) (p : List Nat) (be : Int32) (bl : Nat → Bool) (w : Int64) (s : PW), WC h t mi ri to bc nb → p.length + f = 7 → (∀ i, i < 7 → bl i = bt be i) → WR h s p → WR (wkF t C f h a p.length be w) (pwF mi (fun j w => wbF bc nb (mi j) (ri j) w) to C f s a p bl w) p := by
  intro f
  induction f with
  | zero => intro h a p be bl w s _ _ _ r; exact r
  | succ f ih =>
    intro h a p be bl w s c hf hb r
    have r1 : WR (pI h 46 p.length (nI a)) s (p ++ [a]) := by
      obtain ⟨r0, r1, r2, r3, r4⟩ := r
      refine ⟨r0, (gIq (by decide)).trans r1, r2, fun i x e => (gIq (by decide)).trans (r3 i x e), fun i x e => ?_⟩
      by_cases z : i < p.length
      · rw [List.getElem?_append_left z] at e
        exact (gIk (by omega)).trans (r4 i x e)
      · have hi := (List.getElem?_eq_some_iff.mp e).1
        rw [List.length_append] at hi
        have hi2 : i = p.length := by have : [a].length = 1 := rfl; omega
        subst hi2
        rw [List.getElem?_append_right (Nat.le_refl _), Nat.sub_self] at e
        cases e
        exact gIs _ _ _ _
    have c1 : WC (pI h 46 p.length (nI a)) t mi ri to bc nb := c.k hc (wkK_46 h _ _)
    have hl : (p ++ [a]).length = p.length + 1 := List.length_append
    unfold wkF pwF
    rw [c.1]
    by_cases z : nI a = to
    · rw [if_pos z, if_pos z]
      have := WR_kb (p := p ++ [a]) (by omega) r1 w
      rw [hl] at this
      exact this.less
    · rw [if_neg z, if_neg z]
      have loop : ∀ (n i : Nat) (hh : Hp) (s : PW), i + n = C → WC hh t mi ri to bc nb → WR hh s (p ++ [a]) → WR (wkL t (fun h i b w => wkF t C f h i (p.length + 1) b w) a be w n i hh) (pwL mi (fun j w => wbF bc nb (mi j) (ri j) w) (fun s i bl w => pwF mi (fun j w => wbF bc nb (mi j) (ri j) w) to C f s i (p ++ [a]) bl w) a bl w n i s) (p ++ [a]) := by
        intro n
        induction n with
        | zero => intro i hh s _ _ r; exact r
        | succ n ihn =>
          intro i hh s hi c r
          unfold wkL pwL
          have e0 : (bz be (nI i) = 0) ↔ (bl i = false) := by rw [bz0 be (by omega), hb i (by omega)]
          rw [c.2.2.2.1, c.2.2.2.2, c.2.1, c.2.2.1]
          by_cases y : bl i = false
          · rw [if_pos y, if_pos (e0.mpr y)]
            by_cases x : mi (a * 7 + i) ≤ 0
            · rw [if_pos x, if_pos x]; exact ihn (i + 1) hh s (by omega) c r
            · rw [if_neg x, if_neg x]
              have step := ih hh i (p ++ [a]) (be ||| ((1 : Int32) <<< (nI i &&& 31))) (fun j => bl j || decide (j = i)) (wbF bc nb (mi (a * 7 + i)) (ri (a * 7 + i)) w) s c (by omega) (fun j hj => by rw [bt_or, bt_1 (by omega) (by omega), hb j hj]) r
              rw [hl] at step
              exact ihn (i + 1) _ _ (by omega) (c.k hc (wkK_F t C f hh i (p.length + 1) _ _)) step
          · rw [if_neg y, if_neg (fun q => y (e0.mp q))]; exact ihn (i + 1) hh s (by omega) c r
      exact (loop C 0 _ s (by omega) c1 r1).less
/-- the best way from fr to to, corners of sh shut: by minutes or by chance -/
def wyF (mi ri : Nat → Int32) (bc nb : Int32) (C fr : Nat) (to : Int32) (sh : Nat → Bool) : PW := if sh fr = false then pwF mi (fun j w => wbF bc nb (mi j) (ri j) w) to C 7 ([], 0) fr [] (fun j => sh j || decide (j = fr)) (if bc = 0 then 0 else 1000000000000) else ([], 0)
theorem go_wy {h : Hp} {t C fr : Nat} (hc : t = 3 ∨ t = 18) (hC : C ≤ 7) (hfr : fr < 7) (to sh : Int32) : WR (goH h t C fr to sh) (wyF (gI h (t + 7)) (gI h (t + 8)) (gI h 45 2) (gI h 45 3) C fr to (bt sh)) [] := by
  have r0 : WR (goS h t to) ([], 0) [] := ⟨by decide, rfl, rfl, (fun i x e => by cases e), (fun i x e => by cases e)⟩
  have c : WC (goS h t to) t (gI h (t + 7)) (gI h (t + 8)) to (gI h 45 2) (gI h 45 3) := ⟨rfl, rfl, rfl, fun j => (gIq (by omega)).trans (gIq (by omega)), fun j => (gIq (by omega)).trans (gIq (by omega))⟩
  unfold goH wyF
  by_cases z : bt sh fr = false
  · rw [if_pos z, if_pos ((bz0 sh (by omega)).mpr z)]
    have hb : ∀ i, i < 7 → (bt sh i || decide (i = fr)) = bt (sh ||| ((1 : Int32) <<< (nI fr &&& 31))) i := fun i hi => by rw [bt_or, bt_1 (by omega) (by omega)]
    by_cases y : gI h 45 2 = 0
    · rw [if_pos y, if_pos y]
      exact wk_pw hc hC 7 _ fr [] _ _ _ _ c rfl hb r0
    · rw [if_neg y, if_neg y]
      exact wk_pw hc hC 7 _ fr [] _ _ _ _ c rfl hb r0
  · rw [if_neg z, if_neg (fun q => z ((bz0 sh (by omega)).mp q))]
    exact r0

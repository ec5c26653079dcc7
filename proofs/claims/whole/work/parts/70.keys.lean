/-! THE REFERENCE'S PARSER: words by their keys -/
def dgF (f : Nat → Nat) : Nat → Nat
  | 0 => 0
  | n + 1 => 32 * dgF f n + f n
theorem dg_lt (f : Nat → Nat) : ∀ (n : Nat), (∀ i, i < n → f i ≤ 26) → dgF f n < 32 ^ n
  | 0, _ => Nat.one_pos
  | n + 1, h => by
    have h1 := dg_lt f n (fun i hi => h i (by omega))
    have h2 := h n (by omega)
    show 32 * dgF f n + f n < 32 ^ (n + 1)
    rw [Nat.pow_succ]
    omega
theorem dg_inj (f g : Nat → Nat) : ∀ (m n : Nat), (∀ i, i < m → 1 ≤ f i ∧ f i ≤ 26) → (∀ i, i < n → 1 ≤ g i ∧ g i ≤ 26) → dgF f m = dgF g n → m = n ∧ ∀ i, i < m → f i = g i
  | 0, 0, _, _, _ => ⟨rfl, fun i hi => by omega⟩
  | 0, n + 1, _, hg, e => by
    have := hg n (by omega)
    have e : 0 = 32 * dgF g n + g n := e
    omega
  | m + 1, 0, hf, _, e => by
    have := hf m (by omega)
    have e : 32 * dgF f m + f m = 0 := e
    omega
  | m + 1, n + 1, hf, hg, e => by
    have h1 := hf m (by omega)
    have h2 := hg n (by omega)
    have e : 32 * dgF f m + f m = 32 * dgF g n + g n := e
    obtain ⟨rfl, h3⟩ := dg_inj f g m n (fun i hi => hf i (by omega)) (fun i hi => hg i (by omega)) (by omega)
    refine ⟨rfl, fun i hi => ?_⟩
    by_cases z : i = m
    · subst z; omega
    · exact h3 i (by omega)
/-- a letter's number -/
def ltN (x : Int32) : Nat := x.toInt.toNat - 96
theorem lt_l {x : Int32} (h1 : 97 ≤ x.toInt) (h2 : x.toInt ≤ 122) : (x - 97 + 1).toInt64 = lN (ltN x) ∧ 1 ≤ ltN x ∧ ltN x ≤ 26 := by
  have e : x = nI x.toInt.toNat := by
    apply Int32.toInt_inj.mp
    rw [nI_toInt (by omega)]
    omega
  have hk : x.toInt.toNat = ltN x + 96 := by unfold ltN; omega
  refine ⟨?_, by unfold ltN; omega, by unfold ltN; omega⟩
  rw [e, show (97 : Int32) = nI 97 from rfl, pk_sub (by omega), nI_1, nI_l (by omega), ← e]
  exact congrArg lN (by omega)
theorem ky_d (tx : Nat → Int32) (p : Nat) : ∀ (n : Nat), (∀ i, i < n → 97 ≤ (tx (p + i)).toInt ∧ (tx (p + i)).toInt ≤ 122) → kyF tx p n 0 0 = lN (dgF (fun i => ltN (tx (p + i))) n)
  | 0, _ => rfl
  | n + 1, h => by
    rw [ky_sn, ky_d tx p n (fun i hi => h i (by omega)), Nat.zero_add, (lt_l (h n (by omega)).1 (h n (by omega)).2).1, show (32 : Int64) = lN 32 from rfl, lN_mul, lN_add]
    rfl
theorem pk_sn (k : Nat) : ∀ (n i : Nat) (a : Int64), pkF k (n + 1) i a = 32 * pkF k n i a + (gch k (i + n) - 97 + 1).toInt64
  | 0, i, a => rfl
  | n + 1, i, a => by
    have := pk_sn k n (i + 1) (32 * a + (gch k i - 97 + 1).toInt64)
    rw [show i + 1 + n = i + (n + 1) by omega] at this
    exact this
theorem gch_l : ∀ k, k < 36 → ∀ i, i < gbl k → 97 ≤ (gch k i).toInt ∧ (gch k i).toInt ≤ 122 := by decide +kernel
theorem pk_d (k : Nat) (hk : k < 36) : ∀ (n : Nat), n ≤ gbl k → pkF k n 0 0 = lN (dgF (fun i => ltN (gch k i)) n)
  | 0, _ => rfl
  | n + 1, h => by
    have hc := gch_l k hk n (by omega)
    rw [pk_sn, pk_d k hk n (by omega), Nat.zero_add, (lt_l hc.1 hc.2).1, show (32 : Int64) = lN 32 from rfl, lN_mul, lN_add]
    rfl
theorem eq_1 (tx : Nat → Int32) (p k : Nat) : ∀ (n i : Nat), (∀ j, j < n → tx (p + (i + j)) = gch k (i + j)) → eqF tx p k n i = 1
  | 0, _, _ => rfl
  | n + 1, i, h => by
    rw [eqF, if_pos (show tx (p + i) = gch k i from h 0 (by omega))]
    exact eq_1 tx p k n (i + 1) (fun j hj => by have := h (j + 1) (by omega); rwa [show i + (j + 1) = i + 1 + j by omega] at this)
theorem eq_0 (tx : Nat → Int32) (p k : Nat) : ∀ (n i : Nat), (∃ j, j < n ∧ ¬ tx (p + (i + j)) = gch k (i + j)) → eqF tx p k n i = 0
  | 0, _, h => by obtain ⟨j, hj, _⟩ := h; omega
  | n + 1, i, h => by
    rw [eqF]
    by_cases z : tx (p + i) = gch k i
    · rw [if_pos z]
      refine eq_0 tx p k n (i + 1) ?_
      obtain ⟨j, hj, hne⟩ := h
      cases j with
      | zero => exact absurd z hne
      | succ j => exact ⟨j, by omega, by rwa [show i + 1 + j = i + (j + 1) by omega]⟩
    · exact if_neg z
theorem lg_eq {a b : Nat} (ha : a < 2 ^ 63) (hb : b < 2 ^ 63) : lg_cmp (lN a) (lN b) = 0 ↔ a = b := by
  constructor
  · intro z
    by_cases y : a = b
    · exact y
    · exfalso
      have h1 : ¬ lN a = lN b := fun q => y ((pk_lEQ ha hb).mp q)
      have h2 : lN a < lN b ∨ lN b < lN a := by
        rcases Nat.lt_or_gt_of_ne y with q | q
        · exact Or.inl ((pk_lLT ha hb).mpr q)
        · exact Or.inr ((pk_lLT hb ha).mpr q)
      have h3 : lN a < lN b → ¬ lN b < lN a := fun q r => by
        have := (pk_lLT ha hb).mp q
        have := (pk_lLT hb ha).mp r
        omega
      unfold lg_cmp at z
      revert z
      repeat' split
      all_goals first | (intro z; exact absurd z (by decide)) | (intro _; rcases h2 with q | q <;> first | contradiction | (have := h3 q; contradiction))
  · intro z
    subst z
    unfold lg_cmp
    have h0 : ¬ lN a < lN a := fun q => by have := (pk_lLT ha ha).mp q; omega
    repeat' split
    all_goals first | rfl | contradiction
theorem ck_1 {x : Int32} (h : ck x = 1) : 97 ≤ x.toInt ∧ x.toInt ≤ 122 := by
  have h2 : ∀ y, ¬ ck2 y = 1 := by
    intro y
    unfold ck2 ck3
    repeat' split
    all_goals decide
  unfold ck at h
  by_cases z : x < 97
  · rw [if_pos z] at h; exact absurd h (h2 x)
  · by_cases y : 122 < x
    · rw [if_neg z, if_pos y] at h; exact absurd h (h2 x)
    · have a := Int32.not_lt.mp z
      have b := Int32.not_lt.mp y
      rw [Int32.le_iff_toInt_le] at a b
      exact ⟨a, b⟩
theorem rn_all (tx : Nat → Int32) (en p : Nat) (s : Int32) : ∀ (n l i : Nat), l ≤ i → i < rnF tx en p s n l → sAt tx en (p + i) = s
  | 0, l, i, h1, h2 => by
    have h2 : i < l := h2
    omega
  | n + 1, l, i, h1, h2 => by
    rw [rnF] at h2
    by_cases z : sAt tx en (p + l) = s
    · rw [if_pos z] at h2
      by_cases y : i = l
      · rw [y]; exact z
      · exact rn_all tx en p s n (l + 1) i (by omega) h2
    · rw [if_neg z] at h2; omega
section TW
variable {tx : Nat → Int32} {en q : Nat}
theorem tkS_1 (h : tkS tx en q = 1) : tk0 tx en q = 1 ∧ tkL tx en q ≤ 8 := by
  unfold tkS at h
  by_cases z : tk0 tx en q = 1
  · rw [if_pos z] at h
    by_cases y : tkL tx en q ≤ 8
    · exact ⟨z, y⟩
    · rw [if_neg y] at h; exact absurd h (by decide)
  · rw [if_neg z] at h
    by_cases y : tk0 tx en q = 2
    · rw [if_pos y] at h
      by_cases x : tkL tx en q ≤ 2
      · rw [if_pos x] at h; exact absurd h (by decide)
      · rw [if_neg x] at h; exact absurd h (by decide)
    · rw [if_neg y] at h; exact absurd h z
theorem tk_let (he : en ≤ 1100) (hq : q ≤ en) (h : tkS tx en q = 1) : ∀ i, i < tkL tx en q → 97 ≤ (tx (tkP tx en q + i)).toInt ∧ (tx (tkP tx en q + i)).toInt ≤ 122 := by
  intro i hi
  obtain ⟨h0, _⟩ := tkS_1 h
  have hle := tkL_le (tx := tx) hq he
  have hs : sAt tx en (tkP tx en q + i) = 1 := by
    cases i with
    | zero => exact h0
    | succ i =>
      unfold tkL at hi
      rw [if_pos (Or.inl h0), h0] at hi
      exact rn_all tx en _ 1 _ 1 (i + 1) (by omega) hi
  rw [sA_in (by omega) he] at hs
  exact ck_1 hs
theorem dg_63 (f : Nat → Nat) {n : Nat} (hn : n ≤ 9) (h : ∀ i, i < n → f i ≤ 26) : dgF f n < 2 ^ 63 :=
  Nat.lt_trans (Nat.lt_of_lt_of_le (dg_lt f n h) (Nat.pow_le_pow_right (by decide) hn)) (show (32 : Nat) ^ 9 < 2 ^ 63 by decide)
theorem dg_eq {f g : Nat → Nat} : ∀ (n : Nat), (∀ i, i < n → f i = g i) → dgF f n = dgF g n
  | 0, _ => rfl
  | n + 1, h => by
    show 32 * dgF f n + f n = 32 * dgF g n + g n
    rw [dg_eq n (fun i hi => h i (Nat.lt_succ_of_lt hi)), h n (Nat.lt_succ_self n)]
theorem lt_in {x y : Int32} (h1 : 97 ≤ x.toInt) (h2 : 97 ≤ y.toInt) (e : ltN x = ltN y) : x = y := by
  apply Int32.toInt_inj.mp
  unfold ltN at e
  omega
theorem ky_eq {p l k : Nat} (hl : ∀ i, i < l → 97 ≤ (tx (p + i)).toInt ∧ (tx (p + i)).toInt ≤ 122) (h8 : l ≤ 8) (hk : k < 36) : lg_cmp (kyF tx p l 0 0) (pkF k (gbl k) 0 0) = 0 ↔ (l = gbl k ∧ ∀ j, j < l → tx (p + j) = gch k j) := by
  have hd1 : ∀ i, i < l → 1 ≤ ltN (tx (p + i)) ∧ ltN (tx (p + i)) ≤ 26 := fun i hi => (lt_l (hl i hi).1 (hl i hi).2).2
  have hd2 : ∀ i, i < gbl k → 1 ≤ ltN (gch k i) ∧ ltN (gch k i) ≤ 26 := fun i hi => (lt_l (gch_l k hk i hi).1 (gch_l k hk i hi).2).2
  rw [ky_d tx _ _ hl, pk_d k hk _ (Nat.le_refl _), lg_eq (dg_63 _ (Nat.le_succ_of_le h8) (fun i hi => (hd1 i hi).2)) (dg_63 _ (Nat.le_of_lt_succ (gbl_lt k hk)) (fun i hi => (hd2 i hi).2))]
  constructor
  · intro e
    obtain ⟨h1, h3⟩ := dg_inj _ _ _ _ hd1 hd2 e
    exact ⟨h1, fun j hj => lt_in (hl j hj).1 (gch_l k hk j (h1 ▸ hj)).1 (h3 j hj)⟩
  · rintro ⟨h1, h2⟩
    rw [← h1]
    exact dg_eq l (fun i hi => by rw [h2 i hi])
theorem is_eq {p l k : Nat} (h8 : l < 2147483648) (hk : gbl k < 2147483648) : isF tx 1 p l k = 1 ∧ (l = gbl k ∧ ∀ j, j < l → tx (p + j) = gch k j) ∨ isF tx 1 p l k = 0 ∧ ¬ (l = gbl k ∧ ∀ j, j < l → tx (p + j) = gch k j) := by
  unfold isF
  rw [if_pos rfl]
  by_cases z : l = gbl k
  · rw [if_pos (by rw [z])]
    by_cases y : ∀ j, j < l → tx (p + j) = gch k j
    · exact Or.inl ⟨eq_1 tx _ k _ 0 (fun j hj => by rw [Nat.zero_add]; exact y j hj), z, y⟩
    · have y2 : ∃ j, j < l ∧ ¬ tx (p + j) = gch k j := Classical.byContradiction fun x => y fun j hj => Classical.byContradiction fun u => x ⟨j, hj, u⟩
      exact Or.inr ⟨eq_0 tx _ k _ 0 (by obtain ⟨j, h1, h2⟩ := y2; exact ⟨j, h1, by rw [Nat.zero_add]; exact h2⟩), fun q => y q.2⟩
  · exact Or.inr ⟨if_neg (fun y => z ((nI_eqN h8 hk).mp y)), fun q => z q.1⟩
/-- a word is a string if their keys are one -/
theorem is_key (he : en ≤ 1100) (hq : q ≤ en) (h : tkS tx en q = 1) {k : Nat} (hk : k < 36) : isP tx en q k = if lg_cmp (kyP tx en q) (pkF k (gbl k) 0 0) = 0 then 1 else 0 := by
  have h8 := (tkS_1 h).2
  have e := ky_eq (tx := tx) (p := tkP tx en q) (k := k) (tk_let he hq h) h8 hk
  unfold isP kyP
  rw [h]
  rcases is_eq (tx := tx) (p := tkP tx en q) (l := tkL tx en q) (k := k) (Nat.lt_of_le_of_lt h8 (by decide)) (Nat.lt_trans (gbl_lt k hk) (by decide)) with ⟨a, b⟩ | ⟨a, b⟩
  · rw [a, if_pos (e.mpr b)]
  · rw [a, if_neg (fun z => b (e.mp z))]
theorem rs_2 (s : Int32) : rsM' s = 2 ↔ s = 1 := by
  unfold rsM'
  constructor
  · intro h
    revert h
    repeat' split
    all_goals first | (intro h; exact absurd h (by decide)) | (intro _; assumption)
  · intro h; rw [h]; decide
theorem rs_3 (s : Int32) : rsM' s = 3 ↔ s = 2 := by
  unfold rsM'
  constructor
  · intro h
    revert h
    repeat' split
    all_goals first | (intro h; exact absurd h (by decide)) | (intro _; assumption)
  · intro h; rw [h]; decide
theorem rs_1 (s : Int32) : rsM' s = 1 ↔ s = 0 := by
  unfold rsM'
  constructor
  · intro h
    revert h
    repeat' split
    all_goals first | (intro h; exact absurd h (by decide)) | (intro _; assumption)
  · intro h; rw [h]; decide
theorem rs_5 (s : Int32) : ¬ rsM' s = 5 := by
  unfold rsM'
  repeat' split
  all_goals decide
theorem rs_4 (s c : Int32) (hc : c = 59 ∨ c = 44) : (rsM' s = 4 ∧ sgM s = c) ↔ (c = 59 ∧ s = 3) ∨ (c = 44 ∧ s = 4) := by
  constructor
  · intro ⟨h1, h2⟩
    unfold rsM' at h1
    have : s = 3 ∨ s = 4 := by
      revert h1
      repeat' split
      all_goals first | (intro h; exact absurd h (by decide)) | (intro _; first | exact Or.inl (by assumption) | exact Or.inr (by assumption))
    rcases this with rfl | rfl
    · exact Or.inl ⟨h2.symm.trans (by decide), rfl⟩
    · exact Or.inr ⟨h2.symm.trans (by decide), rfl⟩
  · rintro (⟨rfl, rfl⟩ | ⟨rfl, rfl⟩) <;> decide
end TW
theorem is_same {tx : Nat → Int32} {en q a b : Nat} (h : gbt.getD a [] = gbt.getD b []) : isP tx en q a = isP tx en q b := by
  have e1 : gbl a = gbl b := by unfold gbl; rw [h]
  have e2 : ∀ i, gch a i = gch b i := fun i => by unfold gch gby; rw [h]
  have e3 : ∀ (n i p : Nat), eqF tx p a n i = eqF tx p b n i := by
    intro n
    induction n with
    | zero => intro i p; rfl
    | succ n ih => intro i p; rw [eqF, eqF, e2, ih]
  unfold isP isF
  rw [e1, e3]
def iwR (s : Int32) (w : Int64) (k : Nat) : Int32 := if s = 2 then (if lg_cmp w (pkF k (gbl k) 0 0) = 0 then 1 else 0) else 0
theorem d_isWord {h : Hp} (S : SX h) {k : Nat} (hk : k < 36) {x : UInt32} (hx : ¬ x = 0 ∧ x.toNat - 1 = k) : gCi 5 0 0 yX10_isWord cX10_isWord 2 (some .boolean) [.ref 50, .float x] h (some (.int (iwR (gI h 50 9) (gJ h 50 17) k))) h := by
  refine g_entry (lv := [.ref 50, .float x]) 0 pn_X10 rfl rfl rfl ?_
  refine g_aL0 dX10_isWord_0 ?_
  refine g_gI lf_X10_71 (S.l 50 rfl) (S.k 50 rfl rfl) dX10_isWord_1 ?_
  refine g_iconst dX10_isWord_4 ?_
  refine g_icne dX10_isWord_5 (fun c5 => ?_) (fun c5 => ?_)
  · refine g_iconst dX10_isWord_24 ?_
    exact e_zret rfl (by decide) dX10_isWord_25 rfl rfl (if_neg c5).symm rfl
  · refine g_aL0 dX10_isWord_8 ?_
    refine g_getJ lf_X10_90 (S.l 50 rfl) (S.k 50 rfl rfl) dX10_isWord_9 ?_
    refine g_sL1 dX10_isWord_12 ?_
    refine e_s1l (d_packed hk hx) lm_X10_116 dX10_isWord_13 rfl rfl rfl rfl ?_
    refine g_lcmp dX10_isWord_16 ?_
    refine g_ifne dX10_isWord_17 (fun c17 => ?_) (fun c17 => ?_)
    · refine g_iconst dX10_isWord_24 ?_
      exact e_zret rfl (by decide) dX10_isWord_25 rfl rfl ((if_pos c5).trans (if_neg c17)).symm rfl
    · refine g_iconst dX10_isWord_20 ?_
      refine g_goto dX10_isWord_21 ?_
      exact e_zret rfl (by decide) dX10_isWord_25 rfl rfl ((if_pos c5).trans (if_pos c17)).symm rfl
theorem iw_K {tx : Nat → Int32} {en : Nat} {h : Hp} {q : Nat} (he : en ≤ 1100) (r : RK tx en h q) {k : Nat} (hk : k < 36) : iwR (gI h 50 9) (gJ h 50 17) k = isP tx en q k := by
  unfold iwR
  rw [r.2.1]
  by_cases z : tkS tx en q = 1
  · rw [if_pos ((rs_2 _).mpr z), (r.2.2.2.2.2.1 z).1, is_key he r.1 z hk]
  · rw [if_neg (fun y => z ((rs_2 _).mp y))]
    unfold isP isF
    rw [if_neg z]
theorem w_isWord {tx : Nat → Int32} {en : Nat} {h : Hp} {q : Nat} (S : SX h) (he : en ≤ 1100) (r : RK tx en h q) {k k0 : Nat} (hk : k < 36) {x : UInt32} (hx : ¬ x = 0 ∧ x.toNat - 1 = k) (hs : gbt.getD k [] = gbt.getD k0 []) : gCi 5 0 0 yX10_isWord cX10_isWord 2 (some .boolean) [.ref 50, .float x] h (some (.int (isP tx en q k0))) h := by
  rw [← is_same hs, ← iw_K he r hk]
  exact d_isWord S hk hx
theorem w_isWord5 {h : Hp} (S : SX h) (hs : gI h 50 9 = 5) {k : Nat} (hk : k < 36) {x : UInt32} (hx : ¬ x = 0 ∧ x.toNat - 1 = k) : gCi 5 0 0 yX10_isWord cX10_isWord 2 (some .boolean) [.ref 50, .float x] h (some (.int 0)) h := by
  have := d_isWord S hk hx
  rw [show iwR (gI h 50 9) (gJ h 50 17) k = 0 from if_neg (by rw [hs]; decide)] at this
  exact this

/-! THE PARSER KEEPS ITS INVARIANT -/
theorem eb_inv {α β : Type} {o : Ex α} {F : α → Ex β} {y : β} (h : Except.bind o F = .ok y) : ∃ a, o = .ok a ∧ F a = .ok y := by
  cases o with
  | error e => cases h
  | ok a => exact ⟨a, rfl, h⟩
def PIr (D : CT) (K : List Nm) (nn : Nat → Nat) : Prop := (nn 1 ≤ 8 ∧ nn 2 ≤ 8 ∧ nn 3 ≤ 6 ∧ nn 4 ≤ 7 ∧ nn 5 ≤ 12 ∧ nn 7 ≤ 6 ∧ nn 8 ≤ 4 ∧ nn 9 ≤ 8 ∧ nn 10 ≤ 1 ∧ nn 0 = 0) ∧ (∃ W H, 2 ≤ W ∧ W ≤ 5 ∧ 2 ≤ H ∧ H ≤ 4 ∧ D 0 1 = nI W ∧ D 0 2 = nI H ∧ ∀ p, p < nn 1 → ∀ j, W * H ≤ j → j < 32 → bt (D 3 p) j = false) ∧ K.length = nn 1 + nn 2 + nn 3 + nn 4 + nn 8 ∧ (∀ x ∈ K, NBp nn x) ∧ (∀ j, j < 49 → (∃ m, m ≤ 99 ∧ D 7 j = nI m) ∧ ∃ r, r ≤ 50 ∧ D 8 j = nI r) ∧ (∀ x, x < nn 4 → ∃ v, v < nn 3 ∧ D 6 x = nI v) ∧ (∀ L, L < nn 7 → ∃ p f t, p < nn 1 ∧ f < nn 4 ∧ t < nn 4 ∧ D 9 L = nI p ∧ D 10 L = nI f ∧ D 11 L = nI t) ∧ ((∀ j, nn 4 ≤ j → j < 32 → bt (D 0 13) j = false) ∧ nn 6 = pcB (bt (D 0 13)) 32) ∧ (¬ nn 10 = 0 → ∃ v, v ≤ 99 ∧ D 0 5 = nI v)
theorem PI.r {C : CT} {K : List Nm} (p : PI C K) : PIr C K (nnC C) := ⟨p.2.1, p.2.2.1, p.2.2.2.1, p.2.2.2.2.1, p.2.2.2.2.2.1, p.2.2.2.2.2.2.1, p.2.2.2.2.2.2.2.1, p.2.2.2.2.2.2.2.2.1, fun h => p.2.2.2.2.2.2.2.2.2 (by rw [p.1 10 (by decide)]; exact nI_ne0 (by omega) (by have := p.2.1; omega))⟩
theorem PI_up {C D : CT} {K K' : List Nm} {k : Nat} (p : PI C K) (hk : k < 11) (h1 : ∀ j, D 1 j = C 1 j) (hr : PIr D K' (u1 (nnC C) k (nnC C k + 1))) : PI (u2 D 1 k (D 1 k + 1)) K' := by
  have hb : nnC C k ≤ 1100 := (by
    obtain ⟨n, hn, e⟩ := p.cb.1 k hk
    show pn (C 1 k) ≤ 1100
    rw [e, pn_nI (by omega)]; exact hn)
  have hne : nnC (u2 D 1 k (D 1 k + 1)) = u1 (nnC C) k (nnC C k + 1) := nn_up (C := C) (p.1 k hk) hb h1
  have hd : ∀ a j, a ≠ 1 → u2 D 1 k (D 1 k + 1) a j = D a j := fun a j ha => u2_n _ _ (fun z => ha z.1)
  have hc : ∀ j, j < 11 → u2 D 1 k (D 1 k + 1) 1 j = nI (u1 (nnC C) k (nnC C k + 1) j) := fun j hj => by
    by_cases z : j = k
    · subst z; rw [u2_s, u1_s, h1, p.1 j hj, nI_1]
    · rw [u2_n _ _ (fun y => z y.2), u1_n _ _ z, h1, p.1 j hj]
  unfold PI PIx
  rw [hne]
  obtain ⟨r1, ⟨W, H, w1, w2, w3, w4, w5, w6, w7⟩, r3, r4, r5, r6, r7, r8, r9⟩ := hr
  refine ⟨hc, r1, ⟨W, H, w1, w2, w3, w4, (hd 0 1 (by decide)).trans w5, (hd 0 2 (by decide)).trans w6, fun q hq j => by rw [hd 3 q (by decide)]; exact w7 q hq j⟩, r3, r4, fun j hj => by rw [hd 7 j (by decide), hd 8 j (by decide)]; exact r5 j hj, fun x hx => by rw [hd 6 x (by decide)]; exact r6 x hx, fun L hL => by rw [hd 9 L (by decide), hd 10 L (by decide), hd 11 L (by decide)]; exact r7 L hL, by rw [hd 0 13 (by decide)]; exact r8, fun h => by
    rw [hd 0 5 (by decide)]
    exact r9 (fun z => h (by rw [hc 10 (by decide), z]; rfl))⟩
section MO
variable {tx : Nat → Int32} {en : Nat}
theorem nx_ge (q : Nat) : q ≤ nx tx en q := by
  have := (skF_le tx (en - q) q).1
  unfold nx tkP
  omega
theorem fx_ok {q k a : Nat} (h : fxP tx en q k = .ok a) : a = nx tx en q := by
  unfold fxP at h
  split at h
  · cases h
  · cases h; rfl
theorem nwP_ok {q : Nat} {lo hi : Int32} {a : Int32 × Nat} (h : nwP tx en q lo hi = .ok a) : a.2 = nx tx en q ∧ ¬ a.1 < lo ∧ a.1 ≤ hi := by
  unfold nwP at h
  split at h
  · split at h
    · cases h
    · split at h
      · cases h; exact ⟨rfl, by assumption, by assumption⟩
      · cases h
  · cases h
theorem nwN {lo hi : Nat} {x : Int32} (hh : hi < 2147483648) (h1 : ¬ x < nI lo) (h2 : x ≤ nI hi) (hl : lo < 2147483648) : ∃ n, lo ≤ n ∧ n ≤ hi ∧ x = nI n := by
  have a := Int32.le_iff_toInt_le.mp h2
  have b := Int32.le_iff_toInt_le.mp (Int32.not_lt.mp h1)
  rw [nI_toInt hh] at a
  rw [nI_toInt hl] at b
  refine ⟨x.toInt.toNat, by omega, by omega, ?_⟩
  apply Int32.toInt_inj.mp
  rw [nI_toInt (by omega)]
  omega
theorem kd_ok {q : Nat} {a : Int32 × Nat} (h : kdP tx en q = .ok a) : a.2 = nx tx en q := by
  unfold kdP at h
  repeat' split at h
  all_goals first | (cases h; rfl) | cases h
theorem nm_ok {q : Nat} {K : List Nm} {so nu : Int32} {a : Nat × List Nm} (h : nmP tx en q K so nu = .ok a) : a.1 = nx tx en q ∧ ∃ key, a.2 = adP K (key, so, nu) := by
  unfold nmP at h
  repeat' split at h
  all_goals first | (cases h; exact ⟨rfl, _, rfl⟩) | cases h
theorem rw_bits {W i H : Nat} (hW : W ≤ 5) (hiH : i < H) (hH : H ≤ 4) (sh : Int32) (p : Nat) : ∀ (n j : Nat) (S Cc : Int32) (x : Int32 × Int32), j + n ≤ W → rwF tx p (nI i * nI W) sh n j S Cc = some x → (∀ b, W * H ≤ b → b < 32 → bt S b = false) → ∀ b, W * H ≤ b → b < 32 → bt x.1 b = false
  | 0, _, S, Cc, x, _, h, hS => by cases h; exact hS
  | n + 1, j, S, Cc, x, hj, h, hS => by
    rw [rwF] at h
    by_cases z1 : tx (p + j) = 111
    · rw [if_pos z1] at h
      exact rw_bits hW hiH hH sh p n (j + 1) _ _ x (by omega) h hS
    · rw [if_neg z1] at h
      by_cases z2 : tx (p + j) = 120
      · rw [if_pos z2] at h
        refine rw_bits hW hiH hH sh p n (j + 1) _ _ x (by omega) h (fun b h1 h2 => ?_)
        have hm : i * W + j < W * H := by
          have : (i + 1) * W ≤ H * W := Nat.mul_le_mul_right W hiH
          rw [Nat.add_mul, Nat.one_mul, Nat.mul_comm H W] at this
          omega
        have hm2 : W * H ≤ 5 * 4 := Nat.mul_le_mul hW hH
        rw [pk_mul, nI_add, bt_or, hS b h1 h2, bt_1 (by omega) h2, decide_eq_false (by omega)]
        rfl
      · rw [if_neg z2] at h
        split at h
        · cases h
        · split at h
          · exact rw_bits hW hiH hH sh p n (j + 1) _ _ x (by omega) h hS
          · cases h
theorem rs_ok {W H : Nat} (hW : W ≤ 5) (hH : H ≤ 4) (sh : Int32) : ∀ (n i q : Nat) (S Cc : Int32) (x : Nat × Int32 × Int32), i + n = H → rsP tx en (nI W) sh n i q S Cc = .ok x → (∀ b, W * H ≤ b → b < 32 → bt S b = false) → q ≤ x.1 ∧ ∀ b, W * H ≤ b → b < 32 → bt x.2.1 b = false
  | 0, _, q, S, Cc, x, _, h, hS => by cases h; exact ⟨Nat.le_refl q, hS⟩
  | n + 1, i, q, S, Cc, x, hi, h, hS => by
    rw [rsP] at h
    obtain ⟨q', h1, h2⟩ := eb_inv h
    have hq' : q ≤ q' := by
      unfold rcP at h1
      repeat' split at h1
      all_goals first | (cases h1; exact Nat.le_refl _) | (cases h1; exact nx_ge _) | cases h1
    unfold rsB at h2
    by_cases z : tkS tx en q' = 1
    · rw [if_pos z] at h2
      cases hr : rowP tx en q' (nI W) (nI i * nI W) sh S Cc with
      | none => rw [hr] at h2; cases h2
      | some y =>
        rw [hr] at h2
        have h8 := (tkS_1 z).2
        unfold rowP at hr
        by_cases u : nI (tkL tx en q') = nI W
        · rw [if_pos u] at hr
          have hl : tkL tx en q' = W := (nI_eqN (by omega) (by omega)).mp u
          have hb := rw_bits (tx := tx) hW (i := i) (H := H) (by omega) hH sh _ _ 0 S Cc y (by omega) hr hS
          have := rs_ok hW hH sh n (i + 1) (nx tx en q') y.1 y.2 x (by omega) h2 hb
          have hg := nx_ge (tx := tx) (en := en) q'
          exact ⟨by omega, this.2⟩
        · rw [if_neg u] at hr; cases hr
    · rw [if_neg z] at h2; cases h2
end MO

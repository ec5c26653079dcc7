/-! TWINS: what the reference counts is what the class counts -/
theorem th_iff (x s : Int32) : thF x s = 0 ↔ bz x s = 0 := by
  unfold thF
  by_cases z : bz x s = 0
  · rw [if_pos z]; exact ⟨fun _ => z, fun _ => rfl⟩
  · rw [if_neg z]; exact ⟨fun y => absurd y (by decide), fun y => absurd y z⟩
theorem or_0 (b : Int32) : b ||| 0 = b := bt_ext fun j _ => by rw [bt_or, bt_0, Bool.or_false]
theorem add_0 (m : Int32) : m + 0 = m := Int32.add_zero m
theorem iw_eq (sc : Nat → Int32) (set al : Int32) : ∀ (n i : Nat) (hv : Int32), iwM sc set al n i hv = iwF sc set al n i hv
  | 0, _, _ => rfl
  | n + 1, i, hv => by
    unfold iwM iwF
    by_cases z : bz set (nI i) = 0
    · rw [if_pos z, if_pos ((th_iff _ _).mpr z), iw_eq sc set al n]
    · rw [if_neg z, if_neg (fun y => z ((th_iff _ _).mp y)), iw_eq sc set al n]
theorem or_eq (sc : Nat → Int32) (set : Int32) : ∀ (n i : Nat) (b : Int32), orM sc set n i b = orF sc set n i b
  | 0, _, _ => rfl
  | n + 1, i, b => by
    unfold orM orF
    by_cases z : bz set (nI i) = 0
    · rw [if_pos z, if_pos ((th_iff _ _).mpr z), or_0, or_eq sc set n]
    · rw [if_neg z, if_neg (fun y => z ((th_iff _ _).mp y)), or_eq sc set n]
theorem lo_eq (lt : Nat → Int32) (set : Int32) : ∀ (n i : Nat) (s : Int32), loM lt set n i s = loF lt set n i s
  | 0, _, _ => rfl
  | n + 1, i, s => by
    unfold loM loF
    by_cases z : bz set (nI i) = 0
    · rw [if_pos z, if_pos ((th_iff _ _).mpr z), add_0, lo_eq lt set n]
    · rw [if_neg z, if_neg (fun y => z ((th_iff _ _).mp y)), lo_eq lt set n]
theorem cd_eq (fs : Nat → Int32) : ∀ (n i : Nat) (b : Int32), cdM fs n i b = cdF fs n i b
  | 0, _, _ => rfl
  | n + 1, i, b => by
    unfold cdM cdF
    by_cases z : fs i = -2
    · rw [if_pos z, if_pos z, or_0, cd_eq fs n]
    · rw [if_neg z, if_neg z, cd_eq fs n]
theorem vf_eq (wr : Nat → Int32) (wd : Int32) : ∀ (n i : Nat) (b : Int32), vfM wr wd n i b = vfF wr wd n i b
  | 0, _, _ => rfl
  | n + 1, i, b => by
    unfold vfM vfF
    by_cases z : wr i = wd
    · rw [if_pos z, if_pos z, vf_eq wr wd n]
    · rw [if_neg z, if_neg z, or_0, vf_eq wr wd n]
theorem rtB_eq (ir : Nat → Nat → Int32) (p : Nat) : ∀ (n j : Nat) (m : Int32), rtBM ir p n j m = rtB ir p n j m
  | 0, _, _ => rfl
  | n + 1, j, m => by
    unfold rtBM rtB
    by_cases z : ir p j = 0
    · rw [if_pos z, if_pos z, add_0, rtB_eq ir p n]
    · rw [if_neg z, if_neg z, rtB_eq ir p n]
theorem rtA_eq (ir : Nat → Nat → Int32) (V : Nat) : ∀ (n i : Nat) (m : Int32), rtAM ir V n i m = rtA ir V n i m
  | 0, _, _ => rfl
  | n + 1, i, m => by unfold rtAM rtA; rw [rtB_eq, rtA_eq ir V n]
theorem cw_eq (iw : Int32 → Int32) : ∀ (n i : Nat) (m : Int32), cwM iw n i m = cwF iw n i m
  | 0, _, _ => rfl
  | n + 1, i, m => by
    unfold cwM cwF
    by_cases z : iw (nI i) = 0
    · rw [if_pos z, if_pos z, add_0, cw_eq iw n]
    · rw [if_neg z, if_neg z, cw_eq iw n]
/-- a whole's number: the reference says -1 where the class says 0 -/
theorem wa_eq (iw : Int32 → Int32) (k : Int32) : ∀ (n i : Nat) (m : Int32), 0 < i → i + n < 2147483648 → (waM iw k n i m = -1 ∧ waF iw k n i m = 0) ∨ (¬ waM iw k n i m = -1 ∧ ¬ waF iw k n i m = 0 ∧ waM iw k n i m = waF iw k n i m)
  | 0, _, _, _, _ => Or.inl ⟨rfl, rfl⟩
  | n + 1, i, m, h0, h1 => by
    unfold waM waF
    by_cases z : iw (nI i) = 0
    · rw [if_pos z, if_pos z]; exact wa_eq iw k n (i + 1) m (by omega) (by omega)
    · rw [if_neg z, if_neg z]
      by_cases y : m = k
      · rw [if_pos y, if_pos y]
        exact Or.inr ⟨nI_n1 (by omega), nI_ne0 h0 (by omega), rfl⟩
      · rw [if_neg y, if_neg y]; exact wa_eq iw k n (i + 1) (m + 1) (by omega) (by omega)

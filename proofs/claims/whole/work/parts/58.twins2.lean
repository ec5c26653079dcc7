/-! TWINS: with bits counted -/
theorem fs_eq (b wd dk pu : Int32) : fsM b wd dk pu = fsF b wd dk pu := by
  unfold fsM fsF
  rw [bc_pc]
theorem wh_eq (b wr : Int32) : whM b wr = whF b wr := by
  unfold whM whF
  rw [bc_pc]
theorem cp_eq (sp sc : Nat → Int32) (p set : Int32) : ∀ (n i : Nat) (m : Int32), cpM sp sc p set n i m = cpF sp sc set p n i m
  | 0, _, _ => rfl
  | n + 1, i, m => by
    unfold cpM cpF
    by_cases z : bz set (nI i) = 0
    · rw [if_pos z, if_pos ((th_iff _ _).mpr z), add_0, cp_eq sp sc p set n]
    · rw [if_neg z, if_neg (fun y => z ((th_iff _ _).mp y))]
      by_cases y : sp i = p
      · rw [if_pos y, if_pos y, bc_pc, cp_eq sp sc p set n]
      · rw [if_neg y, if_neg y, add_0, cp_eq sp sc p set n]

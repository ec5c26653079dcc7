/-! CALLS ON BOTH SIDES: breaks, undo, mark, back -/
theorem q_breaks {h : Hp} (j : J h) (p : Int32) : PRi h yX8_breaks cX8_breaks 3 yX10_breaks cX10_breaks 2 (some .boolean) [.int p] := by
  obtain ⟨⟨jh, jt, jl, t, s, jr, jz | ⟨c, C, K, jc⟩⟩, tr⟩ := id j
  · have hx := m_breaks (jz.cx jh.1 jr) (A := 0) (jz.2.2.2.1) (by decide) p
    have ey : scB (wnF (ipF p (nI 0)) 1 (thF (gI h 38 3) p)) (gI h (t + 2) (pn p)) = 1 := by
      unfold scB; rw [wz, if_neg (by decide)]
    rw [ey, if_neg (by decide), if_neg (by decide)] at hx
    exact PRi.z j jr jz hx (by decide) (FR_8 _ _) (gIs _ _ _ _) (fun S hz => q2_r (z_breaks S hz p)) (by decide) rfl rfl (by decide)
  · have b := jc.2.2.2.1.2.1
    obtain ⟨A, pa⟩ := jc.2.2.2.2.2.2.2.1
    have X := jc.cx jh.1 jr
    have hx := m_breaks X pa.2.1 pa.1 p
    by_cases z1 : ipF p (nI (nnC C 1)) = 0
    · have ey : (scB (wnF (ipF p (nI (nnC C 1))) 1 (thF (gI h 38 3) p)) (gI h (t + 2) (pn p))) = 1 := by
        unfold scB wnF; rw [if_pos z1, if_neg (by decide)]
      rw [ey, if_neg (by decide), if_neg (by decide)] at hx
      exact PRi.c j jr jc hx (by decide) (FR_8 _ _) (gIs _ _ _ _) (fun M _ => q2_r (n_breaks0 M p z1)) (by decide) (fun V => rfl) (fun V => rfl) (by decide)
    · obtain ⟨P, hP, rfl⟩ := ip1 (by omega) z1
      have epn := pn_nI (n := P) (by omega)
      by_cases z3 : thF (gI h 38 3) (nI P) = 0 ∧ ¬ gI h (t + 2) P = 1
      · have ey : (scB (wnF (ipF (nI P) (nI (nnC C 1))) 1 (thF (gI h 38 3) (nI P))) (gI h (t + 2) (pn (nI P)))) = 0 := by
          unfold scB wnF; rw [epn, if_neg z1, if_neg (show ¬ (1 : Int32) = 0 by decide), if_pos z3.1, if_pos rfl, if_neg z3.2]
        rw [ey, if_pos rfl, if_pos rfl, epn] at hx
        have V0 := jc.vw (FR.refl h)
        have bf : bt (gI h 52 16) P = false := by rw [V0.th]; exact (thb _ (by omega)).mp z3.1
        have hi : ∀ j, lj (nnC C 1) j → (if j = 16 then gI h 52 j ||| ((1 : Int32) <<< (nI P &&& 31)) else gI h 52 j) = tgF 2 P 0 (gI h 52) j := fun j hj => by
          unfold tgF
          rw [if_neg (show ¬ (2 : Int32) = 0 by decide), if_neg (show ¬ (2 : Int32) = 1 by decide)]
          by_cases e : j = 16
          · rw [if_pos e, if_pos e]; subst e; exact or_xor (by omega) bf
          · rw [if_neg e, if_neg e]
        have hs : ∀ p, p < nnC C 1 → ∀ y, dmF C ≤ y → y < 32 → p = 16 → bt ((1 : Int32) <<< (nI P &&& 31)) y = false := fun p hp y h1 h2 h3 => by omega
        have fin : ∀ (f r : Hp) (d B : Nat), B < 16 → B + d = A → CA h f d B 2 P 0 → MA (mT f) r d B → SX r → gCi 0 0 0 yX10_remembers cX10_remembers 2 none [.ref 50] (mT f) none r → gCi 3 0 0 yX8_breaks cX8_breaks 3 (some .boolean) [.ref 0, .int (nI P)] h (some (.int 1)) f → PRi h yX8_breaks cX8_breaks 3 yX10_breaks cX10_breaks 2 (some .boolean) [.int (nI P)] := by
          intro f r d B hB hA ca ma Sr W hy
          obtain ⟨M, w1, w2, w3, w4⟩ := ca_v ca j jr jc
          subst hA
          exact PRi.a hy (by decide) (ca_S ca jh.1) (n_breaks1 M hP (by rw [w1, V0.th]; exact z3.1) (by rw [w3 P hP]; exact z3.2) Sr W) (by decide) (J_act j jr jc hP hB pa ca ma hi hs)
        by_cases hA : A = 16
        · subst hA
          rw [prH_2] at hx
          have ca := CA_2 h 2 (P := P) (by omega) 0
          have ma := MA_2 (mT (pfH (fgH (chH (pI h 0 8 0) 2 P 0)) 15 2 P 0)) (n := 17) (m := 255) rfl rfl
          have Sm : SX (mT (pfH (fgH (chH (pI h 0 8 0) 2 P 0)) 15 2 P 0)) := (FR_mT _).2.2.2.2.1 (ca_S ca jh.1)
          exact fin _ _ 1 15 (by decide) rfl ca ma (ma.2.2.2.1.S Sm) (d_remembers2 Sm ((ca_v ca j jr jc).2.2.2.2.trans pa.2.2.1) rfl) hx
        · rw [prH_1 hA] at hx
          have ca := CA_1 h (A := A) 2 (P := P) (by omega) 0
          have ma := MA_1 (mT (pfH (chH (pI h 0 8 0) 2 P 0) A 2 P 0)) (A := A) (n := 17) rfl
          have Sm : SX (mT (pfH (chH (pI h 0 8 0) 2 P 0) A 2 P 0)) := (FR_mT _).2.2.2.2.1 (ca_S ca jh.1)
          exact fin _ _ 0 A (by have := pa.1; omega) rfl ca ma (ma.2.2.2.1.S Sm) (d_remembers1 Sm ((ca_v ca j jr jc).2.2.2.2.trans pa.2.2.1) (by have := pa.1; omega)) hx
      · have ey : (scB (wnF (ipF (nI P) (nI (nnC C 1))) 1 (thF (gI h 38 3) (nI P))) (gI h (t + 2) (pn (nI P)))) = 5 := by
          unfold scB wnF; rw [epn, if_neg z1, if_neg (show ¬ (1 : Int32) = 0 by decide)]
          by_cases z4 : thF (gI h 38 3) (nI P) = 0
          · rw [if_pos z4, if_pos rfl, if_pos (Classical.byContradiction (fun q => z3 ⟨z4, q⟩))]
          · rw [if_neg z4, if_neg (by decide)]
        rw [ey, if_neg (by decide), if_neg (by decide)] at hx
        have V := jc.vw ((FR_mT (pI h 0 8 5)).trans (FR_8 h 5))
        exact PRi.c j jr jc hx (by decide) (FR_8 _ _) (gIs _ _ _ _) (fun M _ => q2_r (n_breaks5 M hP (by
          rw [V.th, V.a (a := 1) (by decide) (by decide) (by decide) hP]
          by_cases z4 : thF (gI h 38 3) (nI P) = 0
          · exact Or.inr (Classical.byContradiction (fun q => z3 ⟨z4, q⟩))
          · exact Or.inl z4))) (by decide) (fun V => rfl) (fun V => rfl) (by decide)
/-! undo -/
theorem J_undo {h : Hp} {t s c : Nat} {C : CT} {K : List Nm} {A p n : Nat} (hn : n = 17) (j : J h) (jr : JR h t s) (jc : JC h t c C K) (pa : PSa h (nnC C 1) (dmF C) (A + 1)) (hp : p < nnC C 1) (hq : gI h 42 A = nI p) : J (mR (unL A n 0 (pI (mT (pI (chH (pI h 38 7 (nI A)) (gI h 41 A) p (gI h 43 A)) 0 8 0)) 50 23 (nI A))) 0) := by
  have b := jc.2.2.2.1.2.1
  have ps := jc.2.2.2.2.2.2
  generalize hg : pI (mT (pI (chH (pI h 38 7 (nI A)) (gI h 41 A) p (gI h 43 A)) 0 8 0)) 50 23 (nI A) = g
  have fg : FA g h := by
    rw [← hg]
    exact ((((FA_I _ _ (by unfold fax; omega)).trans (FA_I _ 0 (by unfold fax frx; omega))).trans (FA_I _ 0 (by unfold fax frx; omega))).trans (chH_fa _ _ _ _)).trans (FA_I h _ (by unfold fax; omega))
  have gc : ∀ b j, b ≠ 0 → b ≠ 38 → b ≠ 39 → b ≠ 40 → b ≠ 50 → gI g b j = gI h b j := fun b j h1 h2 h3 h4 h5 => by
    rw [← hg, gIq h5, show gI (mT (pI (chH (pI h 38 7 (nI A)) (gI h 41 A) p (gI h 43 A)) 0 8 0)) b j = gI (pI (chH (pI h 38 7 (nI A)) (gI h 41 A) p (gI h 43 A)) 0 8 0) b j from gIq h5, gIq h1, chH_I _ _ _ b j h3 h4 (fun z => h2 z.1), gIq h2]
  have gs : ∀ j, j ≤ 16 → cst g j = tgF (gI h 41 A) p (gI h 43 A) (cst h) j := fun j hj => by
    have e1 : cst g j = cst (chH (pI h 38 7 (nI A)) (gI h 41 A) p (gI h 43 A)) j := by rw [← hg]; rfl
    rw [e1, cst_ch _ _ (by omega) _ hj]
    exact tg_c (cst_eq (fun _ => gIq (by decide)) (fun _ => gIq (by decide)) (gIk (by decide)) j)
  have g7 : gI g 38 7 = nI A := by
    rw [← hg]
    show gI (chH (pI h 38 7 (nI A)) (gI h 41 A) p (gI h 43 A)) 38 7 = _
    rw [chH_I _ _ _ 38 7 (by decide) (by decide) (by decide), gIs]
  have g9 : gI g 38 9 = gI h 38 9 := by
    rw [← hg]
    show gI (chH (pI h 38 7 (nI A)) (gI h 41 A) p (gI h 43 A)) 38 9 = _
    rw [chH_I _ _ _ 38 9 (by decide) (by decide) (by decide), gIk (by decide)]
  have g23 : gI g 50 23 = nI A := by rw [← hg]; exact gIs _ _ _ _
  have g24 : gI g 50 24 = gI h 50 24 := by
    rw [← hg]
    show gI (chH (pI h 38 7 (nI A)) (gI h 41 A) p (gI h 43 A)) 50 24 = _
    rw [chH_I _ _ _ 50 24 (by decide) (by decide) (by decide)]; rfl
  have g0 : gI g 0 8 = 0 := by rw [← hg]; rfl
  obtain ⟨o1, o2, o3, o4, o5⟩ := unL_o A n 0 g
  have uf : FA (unL A n 0 g) g := ⟨o1, o2, o3, o4, fun b j hb => o5 b j (fun z => hb (by unfold fax; omega))⟩
  have f52 : ∀ j, j ≤ 16 → gI (unL A n 0 g) 52 j = gI h 53 (17 * A + j) := fun j hj => by
    rw [unL_v, if_pos (by omega), gc 53 _ (by decide) (by decide) (by decide) (by decide) (by decide)]
  obtain ⟨A16, pa2, pa3, pa4⟩ := pa
  obtain ⟨p', q1, q2, q3, q4⟩ := pa4 A (by omega)
  have epp : p' = p := (nI_eqN (by omega) (by omega)).mp (q2.symm.trans hq)
  subst epp
  obtain ⟨M, m1, m2, m3, m4⟩ := ps.2.2
  have key : PS (unL A n 0 g) (nnC C 1) (dmF C) := by
    refine ⟨⟨fun j hj => ?_, fun x hx y h1 h2 => ?_⟩, ⟨A, by omega, ?_, ?_, fun k hk => ?_⟩, ⟨M, m1, ?_, ?_, fun m hm => ?_⟩⟩
    · have h16 := lj16 (by omega) hj
      rw [f52 j h16, cst_eq (h := g) (fun j => o5 39 j (by decide)) (fun j => o5 40 j (by decide)) (o5 38 3 (by decide)), gs j h16, q3 j hj]
      refine tg_c ?_
      unfold nxV
      rw [if_pos rfl]
      exact ps.1.1 j hj
    · rw [f52 x (by omega)]; exact q4 x hx y h1 h2
    · rw [o5 38 7 (by decide)]; exact g7
    · rw [o5 50 23 (by decide)]; exact g23
    · obtain ⟨u, u1, u2', u3, u4⟩ := pa4 k (by omega)
      refine ⟨u, u1, ?_, fun j hj => ?_, fun x hx y h1 h2 => ?_⟩
      · rw [o5 42 k (by decide), gc 42 k (by decide) (by decide) (by decide) (by decide) (by decide)]; exact u2'
      · have h16 := lj16 (by omega) hj
        rw [o5 53 _ (by decide), gc 53 _ (by decide) (by decide) (by decide) (by decide) (by decide), o5 41 k (by decide), gc 41 k (by decide) (by decide) (by decide) (by decide) (by decide), o5 43 k (by decide), gc 43 k (by decide) (by decide) (by decide) (by decide) (by decide), u3 j hj]
        refine tg_c ?_
        unfold nxV
        rw [if_neg (by omega)]
        by_cases z : k + 1 = A
        · rw [if_pos z, f52 j h16, z]
        · rw [if_neg z, o5 53 _ (by decide), gc 53 _ (by decide) (by decide) (by decide) (by decide) (by decide)]
      · show bt (gI (unL A n 0 g) 53 (17 * k + x)) y = false
        rw [o5 53 _ (by decide), gc 53 _ (by decide) (by decide) (by decide) (by decide) (by decide)]
        exact u4 x hx y h1 h2
    · rw [o5 38 9 (by decide), g9]; exact m2
    · rw [o5 50 24 (by decide), g24]; exact m3
    · have e44 : gI (unL A n 0 g) 44 = gI h 44 := funext (fun j => by rw [o5 44 j (by decide), gc 44 j (by decide) (by decide) (by decide) (by decide) (by decide)])
      have e54 : gI (unL A n 0 g) 54 = gI h 54 := funext (fun j => by rw [o5 54 j (by decide), gc 54 j (by decide) (by decide) (by decide) (by decide) (by decide)])
      rw [e44, e54]; exact m4 m hm
  have e0 : gI (mR (unL A n 0 g) 0) 0 8 = 0 := by
    show gI (unL A n 0 g) 0 8 = 0
    rw [o5 0 8 (by decide)]; exact g0
  have pk : PS (mR (unL A n 0 g) 0) (nnC C 1) (dmF C) := key.fr (FR_mR _ _)
  exact J_fa j jr jc ((((FA_I _ _ (by unfold fax frx; omega)).trans (FA_I _ _ (by unfold fax frx; omega))).trans uf).trans fg) pk (e0 ▸ rfl) rfl (by rw [e0]; decide)
theorem q_undo {h : Hp} (j : J h) : PRi h yX8_undo cX8_undo 1 yX10_undo cX10_undo 2 (some .boolean) [] := by
  obtain ⟨⟨jh, jt, jl, t, s, jr, jz | ⟨c, C, K, jc⟩⟩, tr⟩ := id j
  · exact PRi.z j jr jz (m_undo0 (jz.cx jh.1 jr) jz.2.2.2.1) (by decide) (FR_8 _ _) (gIs _ _ _ _) (fun S hz => q2_r (z_undo S hz)) (by decide) rfl rfl (by decide)
  · have b := jc.2.2.2.1.2.1
    obtain ⟨A, pa⟩ := jc.2.2.2.2.2.2.2.1
    have X := jc.cx jh.1 jr
    cases A with
    | zero =>
      exact PRi.c j jr jc (m_undo0 X pa.2.1) (by decide) (FR_8 _ _) (gIs _ _ _ _) (fun M _ => q2_r (n_undo0 M.S M.M M.C (by
        show gI h 50 23 = 0
        exact pa.2.2.1))) (by decide) (fun V => rfl) (fun V => rfl) (by decide)
    | succ A =>
      obtain ⟨p, p1, p2, p3, p4⟩ := pa.2.2.2 A (by omega)
      have hx := m_undo1 X pa.2.1 (by have := pa.1; omega) p2 (by omega)
      have fx : FA (pI (chH (pI h 38 7 (nI A)) (gI h 41 A) p (gI h 43 A)) 0 8 0) h := ((FA_I _ 0 (by unfold fax frx; omega)).trans (chH_fa _ _ _ _)).trans (FA_I h _ (by unfold fax; omega))
      have S1 := fx.S jh.1
      refine PRi.a hx (by decide) S1 (n_undo1 ((FR_mT _).2.2.2.2.1 S1) (c := c) ((jc.2.1.eq fx.1 fx.2.1 fx.2.2.1 fx.2.2.2.1).fr (FR_mT _)) ((fx.R 50 3).trans jc.1) (A := A) ?_ (by have := pa.1; omega)) (by decide) (J_undo rfl j jr jc pa p1 p2)
      show gI (chH (pI h 38 7 (nI A)) (gI h 41 A) p (gI h 43 A)) 50 23 = _
      rw [chH_I _ _ _ 50 23 (by decide) (by decide) (by decide)]
      exact pa.2.2.1
/-! marks -/
theorem kp_fa (M n8 : Nat) (h : Hp) : FA (pI (kpE M (kpL M n8 0 h)) 0 8 0) h := by
  obtain ⟨k1, k2, k3, k4⟩ := kpL_o M n8 0 h
  exact (FA_I _ 0 (by unfold fax frx; omega)).trans (((FA_I _ _ (by unfold fax; omega)).trans (FA_I _ _ (by unfold fax; omega))).trans ⟨k1, k2, k3, k4, fun b j hb => kpL_I M n8 0 h b j (fun z => hb (by unfold fax; omega))⟩)
theorem rs_fa (m n8 : Nat) (h : Hp) : FA (pI (rsE m (rsL m n8 0 h)) 0 8 0) h := by
  obtain ⟨k1, k2, k3, k4⟩ := rsL_o m n8 0 h
  exact (FA_I _ 0 (by unfold fax frx; omega)).trans (((FA_I _ _ (by unfold fax; omega)).trans (FA_I _ _ (by unfold fax; omega))).trans ⟨k1, k2, k3, k4, fun b j hb => rsL_I m n8 0 h b j (fun z => hb (by unfold fax; omega)) (fun z => hb (by unfold fax; omega))⟩)
theorem J_mark {h : Hp} {t s c : Nat} {C : CT} {K : List Nm} {m n n8 : Nat} (hn : n = 17) (hn8 : n8 = 8) (j : J h) (jr : JR h t s) (jc : JC h t c C K) (pm : PSm h (nnC C 1) (dmF C) m) (hm3 : m < 3) : J (mR (pI (mkL17 m n 0 (mT (pI (kpE m (kpL m n8 0 h)) 0 8 0))) 50 24 (nI (m + 1))) 0) := by
  have b := jc.2.2.2.1.2.1
  have ps := jc.2.2.2.2.2.2
  generalize hg : mT (pI (kpE m (kpL m n8 0 h)) 0 8 0) = g
  have fg : FA g h := by
    rw [← hg]
    obtain ⟨k1, k2, k3, k4⟩ := kpL_o m n8 0 h
    refine ((FA_I _ 0 (by unfold fax frx; omega)).trans (FA_I _ 0 (by unfold fax frx; omega))).trans (((FA_I _ _ (by unfold fax; omega)).trans (FA_I _ _ (by unfold fax; omega))).trans ⟨k1, k2, k3, k4, fun b j hb => kpL_I m n8 0 h b j (fun z => hb (by unfold fax; omega))⟩)
  have gc : ∀ b j, b ≠ 0 → b ≠ 38 → b ≠ 44 → b ≠ 50 → gI g b j = gI h b j := fun b j h1 h2 h3 h4 => by
    rw [← hg, show gI (mT (pI (kpE m (kpL m n8 0 h)) 0 8 0)) b j = gI (pI (kpE m (kpL m n8 0 h)) 0 8 0) b j from gIq h4, gIq h1, kpE_I m _ h2 h3, kpL_I m n8 0 h b j h3]
  have g38 : ∀ j, j ≠ 9 → gI g 38 j = gI h 38 j := fun j hj => by
    rw [← hg]
    show gI (kpE m (kpL m n8 0 h)) 38 j = _
    unfold kpE
    rw [gIk hj, gIq (by decide), kpL_I m n8 0 h 38 j (by decide)]
  have g9 : gI g 38 9 = nI (m + 1) := by rw [← hg]; exact kpE_m m (kpL m n8 0 h)
  have g50 : ∀ j, j ≠ 0 → gI g 50 j = gI h 50 j := fun j hj => by
    rw [← hg, show gI (mT (pI (kpE m (kpL m n8 0 h)) 0 8 0)) 50 j = gI (pI (kpE m (kpL m n8 0 h)) 0 8 0) 50 j from gIk hj, gIq (by decide), kpE_I m _ (by decide) (by decide), kpL_I m n8 0 h 50 j (by decide)]
  have g44 : ∀ x, gI g 44 x = if m * 17 ≤ x ∧ x ≤ m * 17 + 16 then cst h (x - m * 17) else gI h 44 x := fun x => by
    rw [← hg]
    show gI (kpE m (kpL m n8 0 h)) 44 x = _
    unfold kpE
    rw [gIq (by decide)]
    by_cases z : x = m * 17 + 16
    · subst z
      rw [gIs, kpL_I m n8 0 h 38 3 (by decide), if_pos (by omega), Nat.add_sub_cancel_left]
      unfold cst
      rw [if_neg (by omega), if_neg (by omega)]
    · rw [gIk z, kpL_v m n8 0 h x (by omega)]
      by_cases y : m * 17 + 0 ≤ x ∧ x < m * 17 + 0 + n8
      · rw [if_pos y, if_pos (by omega)]
        unfold cst
        rw [if_pos (by omega)]
      · rw [if_neg y]
        by_cases u : m * 17 + 8 + 0 ≤ x ∧ x < m * 17 + 8 + 0 + n8
        · rw [if_pos u, if_pos (by omega)]
          unfold cst
          rw [if_neg (by omega), if_pos (by omega), Nat.sub_sub]
        · rw [if_neg u, if_neg (by omega)]
  have g0 : gI g 0 8 = 0 := by rw [← hg]; rfl
  obtain ⟨o1, o2, o3, o4, o5⟩ := mkL_o m n 0 g
  have fc : ∀ b j, b ≠ 54 → ¬ (b = 50 ∧ j = 24) → gI (pI (mkL17 m n 0 g) 50 24 (nI (m + 1))) b j = gI g b j := fun b j h1 h2 => (show gI (pI (mkL17 m n 0 g) 50 24 (nI (m + 1))) b j = gI (mkL17 m n 0 g) b j from u2_n _ _ h2).trans (o5 b j h1)
  obtain ⟨⟨v1, v2⟩, ⟨A, a1, a2, a3, a4⟩, -⟩ := ps
  obtain ⟨m1, m2, m3, m4⟩ := pm
  have fch : ∀ b j, b ≠ 0 → b ≠ 38 → b ≠ 44 → b ≠ 50 → b ≠ 54 → gI (pI (mkL17 m n 0 g) 50 24 (nI (m + 1))) b j = gI h b j := fun b j h1 h2 h3 h4 h5 => (fc b j h5 (by omega)).trans (gc b j h1 h2 h3 h4)
  have f38 : ∀ j, j ≠ 9 → gI (pI (mkL17 m n 0 g) 50 24 (nI (m + 1))) 38 j = gI h 38 j := fun j hj => (fc 38 j (by decide) (by omega)).trans (g38 j hj)
  have key : PS (pI (mkL17 m n 0 g) 50 24 (nI (m + 1))) (nnC C 1) (dmF C) := by
    have e52 : gI (pI (mkL17 m n 0 g) 50 24 (nI (m + 1))) 52 = gI h 52 := funext (fun j => fch 52 j (by decide) (by decide) (by decide) (by decide) (by decide))
    have e53 : gI (pI (mkL17 m n 0 g) 50 24 (nI (m + 1))) 53 = gI h 53 := funext (fun j => fch 53 j (by decide) (by decide) (by decide) (by decide) (by decide))
    have en : ∀ k, nxV (pI (mkL17 m n 0 g) 50 24 (nI (m + 1))) A k = nxV h A k := fun k => funext (fun j => by unfold nxV; rw [e52, e53])
    refine ⟨⟨fun j hj => ?_, by rw [e52]; exact v2⟩, ⟨A, a1, ?_, ?_, fun k hk => ?_⟩, ⟨m + 1, by omega, ?_, gIs _ _ _ _, fun x hx => ?_⟩⟩
    · rw [e52, cst_eq (h := h) (fun j => fch 39 j (by decide) (by decide) (by decide) (by decide) (by decide)) (fun j => fch 40 j (by decide) (by decide) (by decide) (by decide) (by decide)) (f38 3 (by decide))]
      exact v1 j hj
    · rw [f38 7 (by decide)]; exact a2
    · rw [fc 50 23 (by decide) (by decide), g50 23 (by decide)]; exact a3
    · obtain ⟨u, u1, u2', u3, u4⟩ := a4 k hk
      refine ⟨u, u1, ?_, fun j hj => ?_, ?_⟩
      · rw [fch 42 k (by decide) (by decide) (by decide) (by decide) (by decide)]; exact u2'
      · rw [e53, en, fch 41 k (by decide) (by decide) (by decide) (by decide) (by decide), fch 43 k (by decide) (by decide) (by decide) (by decide) (by decide)]
        exact u3 j hj
      · rw [e53]; exact u4
    · rw [fc 38 9 (by decide) (by decide)]; exact g9
    · have f44 : ∀ y, gI (pI (mkL17 m n 0 g) 50 24 (nI (m + 1))) 44 y = gI g 44 y := fun y => fc 44 y (by decide) (by omega)
      have f54 : ∀ y, gI (pI (mkL17 m n 0 g) 50 24 (nI (m + 1))) 54 y = if 17 * m ≤ y ∧ y ≤ 17 * m + 16 then gI h 52 (y - 17 * m) else gI h 54 y := fun y => by
        rw [gIq (by decide), mkL_v]
        by_cases z : 17 * m + 0 ≤ y ∧ y < 17 * m + 0 + n
        · rw [if_pos z, if_pos (by omega), gc 52 _ (by decide) (by decide) (by decide) (by decide)]
        · rw [if_neg z, if_neg (by omega), gc 54 _ (by decide) (by decide) (by decide) (by decide)]
      by_cases z : x = m
      · subst z
        refine ⟨fun j hj => ?_, fun p hp y h1 h2 => ?_⟩
        · have h16 := lj16 (by omega) hj
          rw [f44, g44, if_pos (by omega), f54, if_pos (by omega), show 17 * x + j - x * 17 = j by omega, Nat.add_sub_cancel_left]
          exact v1 j hj
        · show bt (gI (pI (mkL17 x n 0 g) 50 24 (nI (x + 1))) 54 (17 * x + p)) y = false
          rw [f54, if_pos (by omega), Nat.add_sub_cancel_left]
          exact v2 p hp y h1 h2
      · obtain ⟨x1, x2⟩ := m4 x (by omega)
        refine ⟨fun j hj => ?_, fun p hp y h1 h2 => ?_⟩
        · have h16 := lj16 (by omega) hj
          rw [f44, g44, if_neg (by omega), f54, if_neg (by omega)]
          exact x1 j hj
        · show bt (gI (pI (mkL17 m n 0 g) 50 24 (nI (m + 1))) 54 (17 * x + p)) y = false
          rw [f54, if_neg (by omega)]
          exact x2 p hp y h1 h2
  have e0 : gI (mR (pI (mkL17 m n 0 g) 50 24 (nI (m + 1))) 0) 0 8 = 0 := by
    show gI (pI (mkL17 m n 0 g) 50 24 (nI (m + 1))) 0 8 = 0
    rw [fc 0 8 (by decide) (by decide)]; exact g0
  have uf : FA (mkL17 m n 0 g) g := ⟨o1, o2, o3, o4, fun b j hb => o5 b j (fun z => hb (by unfold fax; omega))⟩
  exact J_fa j jr jc (((((FA_I _ _ (by unfold fax frx; omega)).trans (FA_I _ _ (by unfold fax frx; omega))).trans (FA_I _ _ (by unfold fax; omega))).trans uf).trans fg) (key.fr (FR_mR _ _)) (e0 ▸ rfl) rfl (by rw [e0]; decide)
theorem J_back {h : Hp} {t s c : Nat} {C : CT} {K : List Nm} {m M n n8 : Nat} (hn : n = 17) (hn8 : n8 = 8) (j : J h) (jr : JR h t s) (jc : JC h t c C K) (pm : PSm h (nnC C 1) (dmF C) M) (hm : m < M) : J (mR (pI (bkL m n 0 (mT (pI (rsE m (rsL m n8 0 h)) 0 8 0))) 50 23 0) 0) := by
  have b := jc.2.2.2.1.2.1
  have ps := jc.2.2.2.2.2.2
  generalize hg : mT (pI (rsE m (rsL m n8 0 h)) 0 8 0) = g
  have fg : FA g h := by
    rw [← hg]
    obtain ⟨k1, k2, k3, k4⟩ := rsL_o m n8 0 h
    refine ((FA_I _ 0 (by unfold fax frx; omega)).trans (FA_I _ 0 (by unfold fax frx; omega))).trans (((FA_I _ _ (by unfold fax; omega)).trans (FA_I _ _ (by unfold fax; omega))).trans ⟨k1, k2, k3, k4, fun b j hb => rsL_I m n8 0 h b j (fun z => hb (by unfold fax; omega)) (fun z => hb (by unfold fax; omega))⟩)
  have gc : ∀ b j, b ≠ 0 → b ≠ 38 → b ≠ 39 → b ≠ 40 → b ≠ 50 → gI g b j = gI h b j := fun b j h1 h2 h3 h4 h5 => by
    rw [← hg, show gI (mT (pI (rsE m (rsL m n8 0 h)) 0 8 0)) b j = gI (pI (rsE m (rsL m n8 0 h)) 0 8 0) b j from gIq h5, gIq h1, rsE_I m _ h2, rsL_I m n8 0 h b j h3 h4]
  have gs : ∀ j, j ≤ 16 → cst g j = gI h 44 (m * 17 + j) := fun j hj => by
    have e1 : cst g j = cst (rsE m (rsL m n8 0 h)) j := by rw [← hg]; rfl
    rw [e1]
    unfold cst
    by_cases z : j < 8
    · rw [if_pos z, rsE_I m _ (by decide), (rsL_v m n8 0 h j).1, if_pos (by omega)]
    · rw [if_neg z]
      by_cases y : j < 16
      · rw [if_pos y, rsE_I m _ (by decide), (rsL_v m n8 0 h (j - 8)).2, if_pos (by omega), show m * 17 + 8 + (j - 8) = m * 17 + j by omega]
      · rw [if_neg y]
        unfold rsE
        rw [gIk (by decide), gIs, rsL_I m n8 0 h 44 _ (by decide) (by decide), show j = 16 by omega]
  have g7 : gI g 38 7 = nI 0 := by rw [← hg]; rfl
  have g9 : gI g 38 9 = gI h 38 9 := by
    rw [← hg]
    show gI (rsE m (rsL m n8 0 h)) 38 9 = _
    unfold rsE
    rw [gIk (by decide), gIk (by decide), rsL_I m n8 0 h 38 9 (by decide) (by decide)]
  have g24 : gI g 50 24 = gI h 50 24 := by
    rw [← hg]
    show gI (rsE m (rsL m n8 0 h)) 50 24 = _
    rw [rsE_I m _ (by decide), rsL_I m n8 0 h 50 24 (by decide) (by decide)]
  have g0 : gI g 0 8 = 0 := by rw [← hg]; rfl
  obtain ⟨o1, o2, o3, o4, o5⟩ := bkL_o m n 0 g
  have fc : ∀ b j, b ≠ 52 → ¬ (b = 50 ∧ j = 23) → gI (pI (bkL m n 0 g) 50 23 0) b j = gI g b j := fun b j h1 h2 => (show gI (pI (bkL m n 0 g) 50 23 0) b j = gI (bkL m n 0 g) b j from u2_n _ _ h2).trans (o5 b j h1)
  obtain ⟨m1, m2, m3, m4⟩ := pm
  obtain ⟨x1, x2⟩ := m4 m hm
  have f52 : ∀ j, j ≤ 16 → gI (pI (bkL m n 0 g) 50 23 0) 52 j = gI h 54 (17 * m + j) := fun j hj => by
    rw [gIq (by decide), bkL_v, if_pos (by omega), gc 54 _ (by decide) (by decide) (by decide) (by decide) (by decide)]
  have key : PS (pI (bkL m n 0 g) 50 23 0) (nnC C 1) (dmF C) := by
    refine ⟨⟨fun j hj => ?_, fun p hp y h1 h2 => ?_⟩, ⟨0, by decide, ?_, gIs _ _ _ _, fun k hk => absurd hk (Nat.not_lt_zero k)⟩, ⟨M, m1, ?_, ?_, fun x hx => ?_⟩⟩
    · have h16 := lj16 (by omega) hj
      rw [f52 j h16, cst_eq (h := g) (fun j => fc 39 j (by decide) (by omega)) (fun j => fc 40 j (by decide) (by omega)) (fc 38 3 (by decide) (by omega)), gs j h16, Nat.mul_comm m 17]
      exact x1 j hj
    · rw [f52 p (by omega)]; exact x2 p hp y h1 h2
    · rw [fc 38 7 (by decide) (by decide)]; exact g7
    · rw [fc 38 9 (by decide) (by decide), g9]; exact m2
    · rw [fc 50 24 (by decide) (by decide), g24]; exact m3
    · have e44 : gI (pI (bkL m n 0 g) 50 23 0) 44 = gI h 44 := funext (fun j => by rw [fc 44 j (by decide) (by omega), gc 44 j (by decide) (by decide) (by decide) (by decide) (by decide)])
      have e54 : gI (pI (bkL m n 0 g) 50 23 0) 54 = gI h 54 := funext (fun j => by rw [fc 54 j (by decide) (by omega), gc 54 j (by decide) (by decide) (by decide) (by decide) (by decide)])
      rw [e44, e54]; exact m4 x hx
  have e0 : gI (mR (pI (bkL m n 0 g) 50 23 0) 0) 0 8 = 0 := by
    show gI (pI (bkL m n 0 g) 50 23 0) 0 8 = 0
    rw [fc 0 8 (by decide) (by decide)]; exact g0
  have uf : FA (bkL m n 0 g) g := ⟨o1, o2, o3, o4, fun b j hb => o5 b j (fun z => hb (by unfold fax; omega))⟩
  exact J_fa j jr jc (((((FA_I _ _ (by unfold fax frx; omega)).trans (FA_I _ _ (by unfold fax frx; omega))).trans (FA_I _ _ (by unfold fax; omega))).trans uf).trans fg) (key.fr (FR_mR _ _)) (e0 ▸ rfl) rfl (by rw [e0]; decide)
theorem q_mark {h : Hp} (j : J h) : PRi h yX8_mark cX8_mark 1 yX10_mark cX10_mark 2 (some .int) [] := by
  obtain ⟨⟨jh, jt, jl, t, s, jr, jz | ⟨c, C, K, jc⟩⟩, tr⟩ := id j
  · exact PRi.z j jr jz (m_mark0 (jz.cx jh.1 jr) rfl) (by decide) (FR_8 _ _) (gIs _ _ _ _) (fun S hz => q2_r (z_mark S hz)) (by decide) rfl rfl (by decide)
  · have b := jc.2.2.2.1.2.1
    have h5 := jc.2.2.2.2.1
    obtain ⟨M, pm⟩ := jc.2.2.2.2.2.2.2.2
    have X := jc.cx jh.1 jr
    have m3 := pm.1
    by_cases z : M = 3
    · subst z
      exact PRi.c j jr jc (m_mark1 X h5 pm.2.1) (by decide) (FR_8 _ _) (gIs _ _ _ _) (fun M _ => q2_r (n_mark1 M.S M.M M.C (by
        show gI h 50 24 = nI 3
        exact pm.2.2.1))) (by decide) (fun V => rfl) (fun V => rfl) (by decide)
    · have hx := m_mark2 X h5 pm.2.1 (show M < 3 by omega)
      have fx : FA (pI (kpE M (kpL M 8 0 h)) 0 8 0) h := kp_fa M 8 h
      have e24 : gI (mT (pI (kpE M (kpL M 8 0 h)) 0 8 0)) 50 24 = nI M := by
        generalize (8 : Nat) = n8
        show gI (kpE M (kpL M n8 0 h)) 50 24 = _
        rw [kpE_I M _ (by decide) (by decide), kpL_I M n8 0 h 50 24 (by decide)]
        exact pm.2.2.1
      have S1 := fx.S jh.1
      exact PRi.a hx (by decide) S1 (n_mark2 ((FR_mT _).2.2.2.2.1 S1) (c := c) ((jc.2.1.eq fx.1 fx.2.1 fx.2.2.1 fx.2.2.2.1).fr (FR_mT _)) ((fx.R 50 3).trans jc.1) e24 (by omega)) (by decide) (J_mark rfl rfl j jr jc pm (by omega))
theorem q_back {h : Hp} (j : J h) (k : Int32) : PRi h yX8_back cX8_back 2 yX10_back cX10_back 3 (some .boolean) [.int k] := by
  obtain ⟨⟨jh, jt, jl, t, s, jr, jz | ⟨c, C, K, jc⟩⟩, tr⟩ := id j
  · exact PRi.z j jr jz (m_back0 (jz.cx jh.1 jr) (N := 0) jz.2.2.2.2 k (by
      by_cases z : k < 0
      · exact Or.inl z
      · exact Or.inr z)) (by decide) (FR_8 _ _) (gIs _ _ _ _) (fun S hz => q2_r (z_back S hz k)) (by decide) rfl rfl (by decide)
  · have b := jc.2.2.2.1.2.1
    obtain ⟨M, pm⟩ := jc.2.2.2.2.2.2.2.2
    have X := jc.cx jh.1 jr
    have m3 := pm.1
    by_cases z : k < 0 ∨ ¬ k < nI M
    · exact PRi.c j jr jc (m_back0 X pm.2.1 k z) (by decide) (FR_8 _ _) (gIs _ _ _ _) (fun M0 _ => q2_r (n_back0 M0.S M0.M M0.C (N := M) (by
        show gI h 50 24 = nI M
        exact pm.2.2.1) k z)) (by decide) (fun V => rfl) (fun V => rfl) (by decide)
    · have hip : ¬ ipF k (nI M) = 0 := by
        unfold ipF
        rw [if_neg (fun y => z (Or.inl y)), if_neg (fun y => z (Or.inr (Int32.not_lt.mpr y)))]; decide
      obtain ⟨m, hm, rfl⟩ := ip1 (by omega) hip
      have hx := m_back1 X pm.2.1 m3 hm
      have fx : FA (pI (rsE m (rsL m 8 0 h)) 0 8 0) h := rs_fa m 8 h
      have e24 : gI (mT (pI (rsE m (rsL m 8 0 h)) 0 8 0)) 50 24 = nI M := by
        generalize (8 : Nat) = n8
        show gI (rsE m (rsL m n8 0 h)) 50 24 = _
        rw [rsE_I m _ (by decide), rsL_I m n8 0 h 50 24 (by decide) (by decide)]
        exact pm.2.2.1
      have S1 := fx.S jh.1
      exact PRi.a hx (by decide) S1 (n_back1 ((FR_mT _).2.2.2.2.1 S1) (c := c) ((jc.2.1.eq fx.1 fx.2.1 fx.2.2.1 fx.2.2.2.1).fr (FR_mT _)) ((fx.R 50 3).trans jc.1) e24 m3 hm) (by decide) (J_back rfl rfl j jr jc pm hm)

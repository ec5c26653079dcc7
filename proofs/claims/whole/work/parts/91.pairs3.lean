/-! CALLS ON BOTH SIDES: ways and letters -/
section VW3
variable {h g : Hp} {t c : Nat} {C : CT} {K : List Nm}
theorem VW.wy (v : VW h g t c C) (p : PI C K) {F : Nat} (hF : F < nnC C 4) {bc nb to : Int32} {sh sh' : Nat → Bool} (hs : ∀ q, q < nnC C 4 → sh' q = sh q) : wyF (gI g (c + 6)) (gI g (c + 7)) bc nb (nnC C 4) F to sh' = wyF (gI h (t + 7)) (gI h (t + 8)) bc nb (nnC C 4) F to sh := by
  have b := p.2.1
  exact wyF_d (by omega) hF (fun j hj => v.m (Or.inl rfl) hj) (fun j hj => v.m (Or.inr rfl) hj) hs
theorem VW.wy0 (v : VW h g t c C) (p : PI C K) {F : Nat} (hF : F < nnC C 4) (to : Int32) : wy0 g c (nnC C) F to = swF h t (nnC C 4) F to (bt 0) := v.wy p hF (fun q _ => (bt_0 q).symm)
theorem VW.vs (v : VW h g t c C) (p : PI C K) {x : Nat} (hx : x < nnC C 4) : gI g (c + 5) x = gI h (t + 6) x ∧ ¬ siF (gI h (t + 6) x) (nI (nnC C 3)) = 0 := by
  have b := p.2.1
  refine ⟨v.a (a := 5) (by decide) (by decide) (by decide) hx, ?_⟩
  obtain ⟨y, hy, e⟩ := p.2.2.2.2.2.2.1 x hx
  rw [v.1 6 x (by decide), e]
  exact si_ok hy (by omega)
theorem VW.wy1 (v : VW h g t c C) (p : PI C K) {P F : Nat} (hP : P < nnC C 1) (hF : F < nnC C 4) (to : Int32) : wy1 g c (nnC C) P F to = swF h t (nnC C 4) F to (bt (rcF (gI h t 13) (fun c => wrF h t (nnC C 2) P (gI h (t + 6) c)) (nnC C 4) 0 0)) := by
  have b := p.2.1
  refine v.wy p hF (fun q hq => ?_)
  obtain ⟨e1, e2⟩ := v.vs p hq
  show decide (mbM 1 (thF (gI g c 9) (nI q)) (rdM g c (nnC C) P (gI g (c + 5) q)) = 0) = _
  rw [v.tv, e1, v.rd (by omega) hP e2]
  exact sh_eq (gI h t 13) (fun c => wrF h t (nnC C 2) P (gI h (t + 6) c)) (by omega) q hq
theorem VW.wy2 (v : VW h g t c C) (p : PI C K) {P F : Nat} (hP : P < nnC C 1) (hF : F < nnC C 4) (to : Int32) : wy2 g c (nnC C) P F to = fwyF h t (nnC C 4) F to (tkF (gI h (t + 2) P)) := by
  show wyF _ _ 1 (tkF (gI g (c + 1) P)) _ _ _ _ = _
  rw [v.a (a := 1) (by decide) (by decide) (by decide) hP]
  exact v.wy p hF (fun _ _ => rfl)
theorem oh_0 (wr : Nat → Int32) : ∀ (n i : Nat) (b : Int32), i + n ≤ 32 → ohF 0 wr n i b = b
  | 0, _, _, _ => rfl
  | n + 1, i, b, h => by
    show (if bz 0 (nI i) = 0 then ohF 0 wr n (i + 1) b else _) = b
    rw [if_pos ((bz0 0 (by omega)).mpr (bt_0 i))]
    exact oh_0 wr n (i + 1) b (by omega)
theorem VW.ro (v : VW h g t c C) (p : PI C K) {L : Nat} (hL : L < nnC C 7) : (roM g c (nnC C) L).1 = roF h t (nnC C) L ∧ (roM g c (nnC C) L).2 = ohF (roF h t (nnC C) L) (fun c => wrF h t (nnC C 2) (pn (gI h (t + 9) L)) (gI h (t + 6) c)) (nnC C 4) 0 0 := by
  have b := p.2.1
  obtain ⟨P, F, T, q1, q2, q3, q4, q5, q6⟩ := p.2.2.2.2.2.2.2.1 L hL
  have e8 : gI g (c + 8) L = gI h (t + 9) L := v.a (a := 8) (by decide) (by decide) (by decide) hL
  have e9 : gI g (c + 9) L = gI h (t + 10) L := v.a (a := 9) (by decide) (by decide) (by decide) hL
  have e10 : gI g (c + 10) L = gI h (t + 11) L := v.a (a := 10) (by decide) (by decide) (by decide) hL
  have hP : pn (gI h (t + 9) L) < nnC C 1 := by rw [v.1 9 L (by decide), q4, pn_nI (by omega)]; exact q1
  have hF : pn (gI h (t + 10) L) < nnC C 4 := by rw [v.1 10 L (by decide), q5, pn_nI (by omega)]; exact q2
  unfold roM roF
  rw [v.th, e8, e9, e10, v.tv, v.wy0 p hF]
  by_cases z : thF (gI h 38 3) (gI h (t + 9) L) = 0
  · rw [if_pos z, if_pos z]
    have hl : ∀ x ∈ (swF h t (nnC C 4) (pn (gI h (t + 10) L)) (gI h (t + 11) L) (bt 0)).1, x < nnC C 4 := al_y hF _ _
    rw [rsM_c (f' := fun c => wrF h t (nnC C 2) (pn (gI h (t + 9) L)) (gI h (t + 6) c)) _ _ _ (fun x hx => by
      obtain ⟨e1, e2⟩ := v.vs p (hl x hx)
      show rdM g c (nnC C) _ (gI g (c + 5) x) = _
      rw [e1, v.rd (by omega) hP e2])]
    have hw : ∀ x, (fun c => wrF h t (nnC C 2) (pn (gI h (t + 9) L)) (gI h (t + 6) c)) x = -2 ∨ ∃ y, y < 32 ∧ (fun c => wrF h t (nnC C 2) (pn (gI h (t + 9) L)) (gI h (t + 6) c)) x = nI y := fun x => by
      rcases fw_r (gI h (t + 4)) (seF h t (pn (gI h (t + 9) L)) (gI h (t + 6) x)) (nnC C 2) 0 with z1 | ⟨y, z1, z2, z3⟩
      · exact Or.inl z1
      · exact Or.inr ⟨y, by omega, z3⟩
    exact ⟨ro_eq _ _ hw (by omega) hl, oh_eq _ _ hw (by omega) hl⟩
  · rw [if_neg z, if_neg z]
    exact ⟨rfl, (oh_0 _ _ _ _ (by omega)).symm⟩
end VW3
theorem anz (a b : Int32) : anF (ipF a (nI 0)) b = 0 := by unfold anF; rw [if_pos (iz a)]
theorem cw4 (s : PW) (k : Int32) : ¬ cwY s k = 4 := by
  unfold cwY
  repeat' split
  all_goals decide
theorem ws4 (a b c : Int32) (s : PW) : ¬ wsF (wnF a b c) s = 4 := by
  unfold wsF
  split
  · split <;> decide
  · exact wn4 _ _ _
theorem wsz (p b c : Int32) (s : PW) : wsF (wnF (ipF p (nI 0)) b c) s = 1 := by unfold wsF; rw [wz, if_neg (by decide)]
theorem q_soonest {h : Hp} (j : J h) (a : Int32) (b0 : Int32) : PRi h yX8_soonest cX8_soonest 3 yX10_soonest cX10_soonest 3 (some .int) [.int a, .int b0] := by
  obtain ⟨⟨jh, jt, jl, t, s, jr, jz | ⟨c, C, K, jc⟩⟩, tr⟩ := id j
  · exact PRi.z j jr jz (m_soonest (jz.cx jh.1 jr) a b0) (by decide) (fr_ite (fun _ => FR_8 _ _) (fun _ => (FR_8 _ _).trans (gsH_wy _ _ _ _ _ _).fr)) (e8_ite (fun z => (gIs _ _ _ _).trans (if_pos z).symm) (fun z => (gIs _ _ _ _).trans (if_neg z).symm)) (fun S hz => q2_r (z_soonest S hz a b0)) (by decide) (if_pos (anz _ _)).symm (if_pos (anz _ _)).symm (it4 (by decide) (by decide))
  · have b := jc.2.2.2.1.2.1
    have h5 := jc.2.2.2.2.1
    exact PRi.c j jr jc (m_soonest (jc.cx jh.1 jr) a b0) (by decide) (fr_ite (fun _ => FR_8 _ _) (fun _ => (FR_8 _ _).trans (gsH_wy _ _ _ _ _ _).fr)) (e8_ite (fun z => (gIs _ _ _ _).trans (if_pos z).symm) (fun z => (gIs _ _ _ _).trans (if_neg z).symm)) (fun M B => q2_q (n_soonest M B a b0)) (by decide) (fun V => itr (fun z => congrArg smF (V.wy0 jc.2.2.2.1 (pnl (show nnC C 4 ≤ 100 by omega) (an1 z).1) b0))) (fun V => rfl) (it4 (by decide) (by decide))

theorem q_soonestAt {h : Hp} (j : J h) (a : Int32) (b0 : Int32) (k : Int32) : PRi h yX8_soonestAt cX8_soonestAt 4 yX10_soonestAt cX10_soonestAt 4 (some .int) [.int a, .int b0, .int k] := by
  obtain ⟨⟨jh, jt, jl, t, s, jr, jz | ⟨c, C, K, jc⟩⟩, tr⟩ := id j
  · exact PRi.z j jr jz (m_soonestAt (jz.cx jh.1 jr) a b0 k) (by decide) (fr_ite (fun _ => FR_8 _ _) (fun _ => (FR_8 _ _).trans (gsH_wy _ _ _ _ _ _).fr)) (e8_ite (fun z => (gIs _ _ _ _).trans (if_pos z).symm) (fun z => (gIs _ _ _ _).trans (if_neg z).symm)) (fun S hz => q2_r (z_soonestAt S hz a b0 k)) (by decide) (if_pos (anz _ _)).symm (if_pos (anz _ _)).symm (it4 (by decide) (cw4 _ _))
  · have b := jc.2.2.2.1.2.1
    have h5 := jc.2.2.2.2.1
    exact PRi.c j jr jc (m_soonestAt (jc.cx jh.1 jr) a b0 k) (by decide) (fr_ite (fun _ => FR_8 _ _) (fun _ => (FR_8 _ _).trans (gsH_wy _ _ _ _ _ _).fr)) (e8_ite (fun z => (gIs _ _ _ _).trans (if_pos z).symm) (fun z => (gIs _ _ _ _).trans (if_neg z).symm)) (fun M B => q2_q (n_soonestAt M B a b0 k)) (by decide) (fun V => itr (fun z => by rw [V.wy0 jc.2.2.2.1 (pnl (show nnC C 4 ≤ 100 by omega) (an1 z).1) b0])) (fun V => itr (fun z => by rw [V.wy0 jc.2.2.2.1 (pnl (show nnC C 4 ≤ 100 by omega) (an1 z).1) b0])) (it4 (by decide) (cw4 _ _))

theorem q_secret {h : Hp} (j : J h) (p : Int32) (a : Int32) (b0 : Int32) : PRi h yX8_secret cX8_secret 5 yX10_secret cX10_secret 5 (some .int) [.int p, .int a, .int b0] := by
  obtain ⟨⟨jh, jt, jl, t, s, jr, jz | ⟨c, C, K, jc⟩⟩, tr⟩ := id j
  · exact PRi.z j jr jz (m_secret (jz.cx jh.1 jr) p a b0) (by decide) (fr_ite (fun _ => (FR_8 _ _).trans (gsH_wy _ _ _ _ _ _).fr) (fun _ => FR_8 _ _)) (e8_ite (fun z => (gIs _ _ _ _).trans z.symm) (fun _ => gIs _ _ _ _)) (fun S hz => q2_r (z_secret S hz p a b0)) (by decide) (if_neg (by rw [wz]; decide)).symm (wz _ _ _).symm (wn4 _ _ _)
  · have b := jc.2.2.2.1.2.1
    have h5 := jc.2.2.2.2.1
    exact PRi.c j jr jc (m_secret (jc.cx jh.1 jr) p a b0) (by decide) (fr_ite (fun _ => (FR_8 _ _).trans (gsH_wy _ _ _ _ _ _).fr) (fun _ => FR_8 _ _)) (e8_ite (fun z => (gIs _ _ _ _).trans z.symm) (fun _ => gIs _ _ _ _)) (fun M B => q2_q (n_secret M B p a b0)) (by decide) (fun V => by rw [rw_wn, V.th]; exact itl (fun z => congrArg smF (V.wy1 jc.2.2.2.1 (pnl (show nnC C 1 ≤ 100 by omega) (wn0 z).1) (pnl (show nnC C 4 ≤ 100 by omega) (an1 (wn0 z).2.1).1) b0))) (fun V => by
      rw [rw_wn, V.th]
      by_cases z : wnF (ipF p (nI (nnC C 1))) (anF (ipF a (nI (nnC C 4))) (ipF b0 (nI (nnC C 4)))) (thF (gI h 38 3) p) = 0
      · exact (if_pos z).trans z.symm
      · exact if_neg z) (wn4 _ _ _)

theorem q_secretAt {h : Hp} (j : J h) (p : Int32) (a : Int32) (b0 : Int32) (k : Int32) : PRi h yX8_secretAt cX8_secretAt 6 yX10_secretAt cX10_secretAt 6 (some .int) [.int p, .int a, .int b0, .int k] := by
  obtain ⟨⟨jh, jt, jl, t, s, jr, jz | ⟨c, C, K, jc⟩⟩, tr⟩ := id j
  · exact PRi.z j jr jz (m_secretAt (jz.cx jh.1 jr) p a b0 k) (by decide) (fr_ite (fun _ => (FR_8 _ _).trans (gsH_wy _ _ _ _ _ _).fr) (fun _ => FR_8 _ _)) (e8_ite (fun z => (gIs _ _ _ _).trans (if_pos z).symm) (fun z => (gIs _ _ _ _).trans (if_neg z).symm)) (fun S hz => q2_r (z_secretAt S hz p a b0 k)) (by decide) (if_neg (by rw [wz]; decide)).symm ((if_neg (by rw [wz]; decide)).trans (wz _ _ _)).symm (it4 (cw4 _ _) (wn4 _ _ _))
  · have b := jc.2.2.2.1.2.1
    have h5 := jc.2.2.2.2.1
    exact PRi.c j jr jc (m_secretAt (jc.cx jh.1 jr) p a b0 k) (by decide) (fr_ite (fun _ => (FR_8 _ _).trans (gsH_wy _ _ _ _ _ _).fr) (fun _ => FR_8 _ _)) (e8_ite (fun z => (gIs _ _ _ _).trans (if_pos z).symm) (fun z => (gIs _ _ _ _).trans (if_neg z).symm)) (fun M B => q2_q (n_secretAt M B p a b0 k)) (by decide) (fun V => by rw [rw_wn, V.th]; exact itl (fun z => by rw [V.wy1 jc.2.2.2.1 (pnl (show nnC C 1 ≤ 100 by omega) (wn0 z).1) (pnl (show nnC C 4 ≤ 100 by omega) (an1 (wn0 z).2.1).1) b0])) (fun V => by rw [rw_wn, V.th]; exact itl (fun z => by rw [V.wy1 jc.2.2.2.1 (pnl (show nnC C 1 ≤ 100 by omega) (wn0 z).1) (pnl (show nnC C 4 ≤ 100 by omega) (an1 (wn0 z).2.1).1) b0])) (it4 (cw4 _ _) (wn4 _ _ _))

theorem q_safest {h : Hp} (j : J h) (p : Int32) (a : Int32) (b0 : Int32) (o : Int32) : PRl h yX8_safest cX8_safest 8 yX10_safest cX10_safest 6 (some .long) [.int p, .int a, .int b0, .int o] := by
  obtain ⟨⟨jh, jt, jl, t, s, jr, jz | ⟨c, C, K, jc⟩⟩, tr⟩ := id j
  · exact PRl.z j jr jz (m_safest (jz.cx jh.1 jr) p a b0 o) (by decide) ((FR_8 _ _).trans (fr_ite (fun _ => (gfH_wy _ _ _ _ _ _).fr) (fun _ => FR.refl _))) (gIs _ _ _ _) (fun S hz => q2_r (z_safest S hz p a b0 o)) (by decide) (Eq.trans (by decide) (if_neg (by rw [wsz]; decide)).symm) (wsz _ _ _ _).symm (ws4 _ _ _ _)
  · have b := jc.2.2.2.1.2.1
    have h5 := jc.2.2.2.2.1
    exact PRl.c j jr jc (m_safest (jc.cx jh.1 jr) p a b0 o) (by decide) ((FR_8 _ _).trans (fr_ite (fun _ => (gfH_wy _ _ _ _ _ _).fr) (fun _ => FR.refl _))) (gIs _ _ _ _) (fun M B => q2_q (n_safest M B p a b0 o)) (by decide) (fun V => by
      rw [rw_wn, V.th]
      by_cases z : wnF (ipF p (nI (nnC C 1))) (anF (ipF a (nI (nnC C 4))) (ipF b0 (nI (nnC C 4)))) (thF (gI h 38 3) p) = 0
      · refine (if_pos z).trans ?_
        rw [V.wy2 jc.2.2.2.1 (pnl (show nnC C 1 ≤ 100 by omega) (wn0 z).1) (pnl (show nnC C 4 ≤ 100 by omega) (an1 (wn0 z).2.1).1) b0]
        have ew : ∀ s : PW, wsF (wnF (ipF p (nI (nnC C 1))) (anF (ipF a (nI (nnC C 4))) (ipF b0 (nI (nnC C 4)))) (thF (gI h 38 3) p)) s = (if nI s.1.length = 0 then 6 else 0) := fun s => if_pos z
        by_cases y : nI (fwyF h t (nnC C 4) (pn a) b0 (tkF (gI h (t + 2) (pn p)))).1.length = 0
        · refine (if_pos y).trans (Eq.trans ?_ (if_neg (by rw [ew, if_pos y]; decide)).symm)
          decide
        · refine (if_neg y).trans (Eq.trans ?_ (if_pos ((ew _).trans (if_neg y))).symm)
          by_cases q : o = 0
          · rw [if_pos q, if_pos q]
          · rw [if_neg q, if_neg q]
      · refine (if_neg z).trans (Eq.trans ?_ (if_neg (fun q => z (ws0 q))).symm)
        decide) (fun V => by
      rw [rw_wn, V.th]
      by_cases z : wnF (ipF p (nI (nnC C 1))) (anF (ipF a (nI (nnC C 4))) (ipF b0 (nI (nnC C 4)))) (thF (gI h 38 3) p) = 0
      · refine (if_pos z).trans ?_
        rw [V.wy2 jc.2.2.2.1 (pnl (show nnC C 1 ≤ 100 by omega) (wn0 z).1) (pnl (show nnC C 4 ≤ 100 by omega) (an1 (wn0 z).2.1).1) b0]
        exact (if_pos z).symm
      · exact (if_neg z).trans (if_neg z).symm) (ws4 _ _ _ _)

theorem q_safestAt {h : Hp} (j : J h) (p : Int32) (a : Int32) (b0 : Int32) (k : Int32) : PRi h yX8_safestAt cX8_safestAt 6 yX10_safestAt cX10_safestAt 7 (some .int) [.int p, .int a, .int b0, .int k] := by
  obtain ⟨⟨jh, jt, jl, t, s, jr, jz | ⟨c, C, K, jc⟩⟩, tr⟩ := id j
  · exact PRi.z j jr jz (m_safestAt (jz.cx jh.1 jr) p a b0 k) (by decide) ((FR_8 _ _).trans (fr_ite (fun _ => (gfH_wy _ _ _ _ _ _).fr) (fun _ => FR.refl _))) (gIs _ _ _ _) (fun S hz => q2_r (z_safestAt S hz p a b0 k)) (by decide) (if_neg (by rw [wsz]; decide)).symm ((if_neg (by rw [wsz]; decide)).trans (wsz _ _ _ _)).symm (it4 (cw4 _ _) (ws4 _ _ _ _))
  · have b := jc.2.2.2.1.2.1
    have h5 := jc.2.2.2.2.1
    exact PRi.c j jr jc (m_safestAt (jc.cx jh.1 jr) p a b0 k) (by decide) ((FR_8 _ _).trans (fr_ite (fun _ => (gfH_wy _ _ _ _ _ _).fr) (fun _ => FR.refl _))) (gIs _ _ _ _) (fun M B => q2_q (n_safestAt M B p a b0 k)) (by decide) (fun V => by
      rw [rw_wn, V.th]
      by_cases z : wnF (ipF p (nI (nnC C 1))) (anF (ipF a (nI (nnC C 4))) (ipF b0 (nI (nnC C 4)))) (thF (gI h 38 3) p) = 0
      · refine (if_pos z).trans ?_
        rw [V.wy2 jc.2.2.2.1 (pnl (show nnC C 1 ≤ 100 by omega) (wn0 z).1) (pnl (show nnC C 4 ≤ 100 by omega) (an1 (wn0 z).2.1).1) b0]
        have ew : ∀ s : PW, wsF (wnF (ipF p (nI (nnC C 1))) (anF (ipF a (nI (nnC C 4))) (ipF b0 (nI (nnC C 4)))) (thF (gI h 38 3) p)) s = (if nI s.1.length = 0 then 6 else 0) := fun s => if_pos z
        by_cases y : nI (fwyF h t (nnC C 4) (pn a) b0 (tkF (gI h (t + 2) (pn p)))).1.length = 0
        · exact (if_pos y).trans (if_neg (by rw [ew, if_pos y]; decide)).symm
        · exact (if_neg y).trans (if_pos ((ew _).trans (if_neg y))).symm
      · exact (if_neg z).trans (if_neg (fun q => z (ws0 q))).symm) (fun V => by
      rw [rw_wn, V.th]
      by_cases z : wnF (ipF p (nI (nnC C 1))) (anF (ipF a (nI (nnC C 4))) (ipF b0 (nI (nnC C 4)))) (thF (gI h 38 3) p) = 0
      · refine (if_pos z).trans ?_
        rw [V.wy2 jc.2.2.2.1 (pnl (show nnC C 1 ≤ 100 by omega) (wn0 z).1) (pnl (show nnC C 4 ≤ 100 by omega) (an1 (wn0 z).2.1).1) b0]
        have ew : ∀ s : PW, wsF (wnF (ipF p (nI (nnC C 1))) (anF (ipF a (nI (nnC C 4))) (ipF b0 (nI (nnC C 4)))) (thF (gI h 38 3) p)) s = (if nI s.1.length = 0 then 6 else 0) := fun s => if_pos z
        by_cases y : nI (fwyF h t (nnC C 4) (pn a) b0 (tkF (gI h (t + 2) (pn p)))).1.length = 0
        · exact (if_pos y).trans ((if_neg (by rw [ew, if_pos y]; decide)).trans ((ew _).trans (if_pos y))).symm
        · exact (if_neg y).trans (if_pos ((ew _).trans (if_neg y))).symm
      · exact (if_neg z).trans ((if_neg (fun q => z (ws0 q))).trans (if_neg z)).symm) (it4 (cw4 _ _) (ws4 _ _ _ _))

theorem q_readers {h : Hp} (j : J h) (l : Int32) : PRi h yX8_readers cX8_readers 2 yX10_readers cX10_readers 2 (some .int) [.int l] := by
  obtain ⟨⟨jh, jt, jl, t, s, jr, jz | ⟨c, C, K, jc⟩⟩, tr⟩ := id j
  · exact PRi.z j jr jz (m_readers (jz.cx jh.1 jr) (fun L hL => absurd hL (Nat.not_lt_zero L)) l) (by decide) (fr_ite (fun _ => FR_8 _ _) (fun _ => (FR_8 _ _).trans (roH_wy _ _ _ _).fr)) (e8_ite (fun z => (gIs _ _ _ _).trans (if_pos z).symm) (fun z => (gIs _ _ _ _).trans (if_neg z).symm)) (fun S hz => q2_r (z_readers S hz l)) (by decide) (if_pos (iz l)).symm (if_pos (iz l)).symm (it4 (by decide) (by decide))
  · have b := jc.2.2.2.1.2.1
    have h5 := jc.2.2.2.2.1
    exact PRi.c j jr jc (m_readers (jc.cx jh.1 jr) jc.lx l) (by decide) (fr_ite (fun _ => FR_8 _ _) (fun _ => (FR_8 _ _).trans (roH_wy _ _ _ _).fr)) (e8_ite (fun z => (gIs _ _ _ _).trans (if_pos z).symm) (fun z => (gIs _ _ _ _).trans (if_neg z).symm)) (fun M B => n_readers M B l) (by decide) (fun V => itr (fun z => (V.ro jc.2.2.2.1 (pnl (show nnC C 7 ≤ 100 by omega) z)).1)) (fun V => rfl) (it4 (by decide) (by decide))

theorem q_overheard {h : Hp} (j : J h) (l : Int32) : PRi h yX8_overheard cX8_overheard 5 yX10_overheard cX10_overheard 2 (some .int) [.int l] := by
  obtain ⟨⟨jh, jt, jl, t, s, jr, jz | ⟨c, C, K, jc⟩⟩, tr⟩ := id j
  · exact PRi.z j jr jz (m_overheard (jz.cx jh.1 jr) (fun L hL => absurd hL (Nat.not_lt_zero L)) l) (by decide) (fr_ite (fun _ => FR_8 _ _) (fun _ => (FR_8 _ _).trans (roH_wy _ _ _ _).fr)) (e8_ite (fun z => (gIs _ _ _ _).trans (if_pos z).symm) (fun z => (gIs _ _ _ _).trans (if_neg z).symm)) (fun S hz => q2_r (z_overheard S hz l)) (by decide) (if_pos (iz l)).symm (if_pos (iz l)).symm (it4 (by decide) (by decide))
  · have b := jc.2.2.2.1.2.1
    have h5 := jc.2.2.2.2.1
    exact PRi.c j jr jc (m_overheard (jc.cx jh.1 jr) jc.lx l) (by decide) (fr_ite (fun _ => FR_8 _ _) (fun _ => (FR_8 _ _).trans (roH_wy _ _ _ _).fr)) (e8_ite (fun z => (gIs _ _ _ _).trans (if_pos z).symm) (fun z => (gIs _ _ _ _).trans (if_neg z).symm)) (fun M B => n_overheard M B l) (by decide) (fun V => itr (fun z => (V.ro jc.2.2.2.1 (pnl (show nnC C 7 ≤ 100 by omega) z)).2)) (fun V => rfl) (it4 (by decide) (by decide))

theorem q_unread {h : Hp} (j : J h) : PRi h yX8_unread cX8_unread 3 yX10_unread cX10_unread 3 (some .int) [] := by
  obtain ⟨⟨jh, jt, jl, t, s, jr, jz | ⟨c, C, K, jc⟩⟩, tr⟩ := id j
  · exact PRi.z j jr jz (m_unread (jz.cx jh.1 jr) (fun L hL => absurd hL (Nat.not_lt_zero L))) (by decide) (fr_ite (fun _ => (FR_8 _ _).trans (unH_wy _ _ _ _ _).fr) (fun _ => FR_8 _ _)) (e8_ite (fun z => (gIs _ _ _ _).trans (if_pos z).symm) (fun z => (gIs _ _ _ _).trans (if_neg z).symm)) (fun S hz => q2_r (z_unread S hz)) (by decide) (if_neg (by decide)).symm (if_neg (by decide)).symm (it4 (by decide) (by decide))
  · have b := jc.2.2.2.1.2.1
    have h5 := jc.2.2.2.2.1
    have en := nc_pos h5 (show nnC C 1 < 2147483648 by omega)
    exact PRi.c j jr jc (m_unread (jc.cx jh.1 jr) jc.lx) (by decide) (fr_ite (fun _ => (FR_8 _ _).trans (unH_wy _ _ _ _ _).fr) (fun _ => FR_8 _ _)) (e8_ite (fun z => (gIs _ _ _ _).trans (if_pos z).symm) (fun z => (gIs _ _ _ _).trans (if_neg z).symm)) (fun M B => n_unread M B) (by decide) (fun V => Eq.trans (by rw [un_eq]; exact unF_c _ _ _ (fun x _ hx => (V.ro jc.2.2.2.1 (by omega)).1)) (if_pos en).symm) (fun V => (if_pos en).symm) (it4 (by decide) (by decide))

theorem q_sent {h : Hp} (j : J h) (l f : Int32) : PRi h yX8_sent cX8_sent 3 yX10_sent cX10_sent 3 (some .int) [.int l, .int f] := by
  obtain ⟨⟨jh, jt, jl, t, s, jr, jz | ⟨c, C, K, jc⟩⟩, tr⟩ := id j
  · exact PRi.z j jr jz (m_sent_no (jz.cx jh.1 jr) l f (iz l)) (by decide) (FR_8 _ _) (gIs _ _ _ _) (fun S hz => q2_r (z_sent S hz l f)) (by decide) rfl rfl (by decide)
  · have b := jc.2.2.2.1.2.1
    have h5 := jc.2.2.2.2.1
    by_cases z : ipF l (nI (nnC C 7)) = 0
    · exact PRi.c j jr jc (m_sent_no (jc.cx jh.1 jr) l f z) (by decide) (FR_8 _ _) (gIs _ _ _ _) (fun M _ => q2_r (n_sent_no M l f z)) (by decide) (fun V => rfl) (fun V => rfl) (by decide)
    · obtain ⟨L, hL, rfl⟩ := ip1 (by omega) z
      have hc : f.toInt = 0 ∨ f.toInt = 1 ∨ f.toInt = 2 ∨ f.toInt = 3 ∨ (f.toInt < 0 ∨ 4 ≤ f.toInt) := by omega
      rcases hc with hf | hf | hf | hf | hf
      · exact PRi.c j jr jc (m_sent0 (jc.cx jh.1 jr) hL f hf) (by decide) (FR_8 _ _) (gIs _ _ _ _) (fun M _ => q2_r (n_sent0 M hL f hf)) (by decide) (fun V => V.a (a := 8) (by decide) (by decide) (by decide) hL) (fun V => rfl) (by decide)
      · exact PRi.c j jr jc (m_sent1 (jc.cx jh.1 jr) hL f hf) (by decide) (FR_8 _ _) (gIs _ _ _ _) (fun M _ => q2_r (n_sent1 M hL f hf)) (by decide) (fun V => V.a (a := 9) (by decide) (by decide) (by decide) hL) (fun V => rfl) (by decide)
      · exact PRi.c j jr jc (m_sent2 (jc.cx jh.1 jr) hL f hf) (by decide) (FR_8 _ _) (gIs _ _ _ _) (fun M _ => q2_r (n_sent2 M hL f hf)) (by decide) (fun V => V.a (a := 10) (by decide) (by decide) (by decide) hL) (fun V => rfl) (by decide)
      · obtain ⟨P, F, T, q1, q2, q3, q4, q5, q6⟩ := jc.2.2.2.1.2.2.2.2.2.2.2.1 L hL
        have e10 : gI h (t + 10) L = nI F := (jc.2.2.1 10 L (by decide)).trans q5
        exact PRi.c j jr jc (m_sent3 (jc.cx jh.1 jr) hL f hf (show F < 7 by omega) e10) (by decide) ((FR_8 _ _).trans (gsH_wy _ _ _ _ _ _).fr) (gIs _ _ _ _) (fun M B => q2_q (n_sent3 M B hL f hf)) (by decide) (fun V => by
          rw [V.a (a := 9) (by decide) (by decide) (by decide) hL, V.a (a := 10) (by decide) (by decide) (by decide) hL, e10, pn_nI (by omega)]
          exact congrArg smF (V.wy0 jc.2.2.2.1 q2 _)) (fun V => rfl) (by decide)
      · exact PRi.c j jr jc (m_sentO (jc.cx jh.1 jr) hL f hf) (by decide) (FR_8 _ _) (gIs _ _ _ _) (fun M _ => q2_r (n_sentO M hL f hf)) (by decide) (fun V => rfl) (fun V => rfl) (by decide)
theorem q_pane {h : Hp} (j : J h) (p f : Int32) : PRi h yX8_pane cX8_pane 3 yX10_pane cX10_pane 3 (some .int) [.int p, .int f] := by
  obtain ⟨⟨jh, jt, jl, t, s, jr, jz | ⟨c, C, K, jc⟩⟩, tr⟩ := id j
  · exact PRi.z j jr jz (m_pane_no (jz.cx jh.1 jr) p f (iz p)) (by decide) (FR_8 _ _) (gIs _ _ _ _) (fun S hz => q2_r (z_pane S hz p f)) (by decide) rfl rfl (by decide)
  · have b := jc.2.2.2.1.2.1
    have h5 := jc.2.2.2.2.1
    by_cases z : ipF p (nI (nnC C 1)) = 0
    · exact PRi.c j jr jc (m_pane_no (jc.cx jh.1 jr) p f z) (by decide) (FR_8 _ _) (gIs _ _ _ _) (fun M _ => q2_r (n_pane_no M p f z)) (by decide) (fun V => rfl) (fun V => rfl) (by decide)
    · obtain ⟨P, hP, rfl⟩ := ip1 (by omega) z
      have hc : f.toInt = 0 ∨ f.toInt = 1 ∨ f.toInt = 2 ∨ f.toInt = 3 ∨ f.toInt = 4 ∨ (f.toInt < 0 ∨ 5 ≤ f.toInt) := by omega
      rcases hc with hf | hf | hf | hf | hf | hf
      · exact PRi.c j jr jc (m_pane0 (jc.cx jh.1 jr) hP f hf) (by decide) (FR_8 _ _) (gIs _ _ _ _) (fun M _ => q2_r (n_pane0 M hP f hf)) (by decide) (fun V => V.a (a := 1) (by decide) (by decide) (by decide) hP) (fun V => rfl) (by decide)
      · exact PRi.c j jr jc (m_pane1 (jc.cx jh.1 jr) hP f hf) (by decide) (FR_8 _ _) (gIs _ _ _ _) (fun M _ => q2_r (n_pane1 M hP f hf)) (by decide) (fun V => (V.2.2.1 P hP).1) (fun V => rfl) (by decide)
      · exact PRi.c j jr jc (m_pane2 (jc.cx jh.1 jr) hP f hf) (by decide) (FR_8 _ _) (gIs _ _ _ _) (fun M _ => q2_r (n_pane2 M hP f hf)) (by decide) (fun V => (V.2.2.1 P hP).2) (fun V => rfl) (by decide)
      · exact PRi.c j jr jc (m_pane3 (jc.cx jh.1 jr) hP f hf) (by decide) (FR_8 _ _) (gIs _ _ _ _) (fun M _ => q2_r (n_pane3 M hP f hf)) (by decide) (fun V => by rw [V.th]) (fun V => rfl) (by decide)
      · exact PRi.c j jr jc (m_pane4 (jc.cx jh.1 jr) hP f hf) (by decide) (FR_8 _ _) (gIs _ _ _ _) (fun M _ => q2_r (n_pane4 M hP f hf)) (by decide) (fun V => V.li hP) (fun V => rfl) (by decide)
      · exact PRi.c j jr jc (m_paneO (jc.cx jh.1 jr) hP f hf) (by decide) (FR_8 _ _) (gIs _ _ _ _) (fun M _ => q2_r (n_paneO M hP f hf)) (by decide) (fun V => rfl) (fun V => rfl) (by decide)
theorem J_mT {h : Hp} (j : J h) : J (mT h) := ⟨j.1.fr (FR_mT h), j.2⟩
theorem PRi.t {h : Hp} {yx ym : MethodName} {cx cm : ByteArray} {nx nm dx dm : Nat} {rt : Option FieldType} {as : List Value} {r r' : Int32} (j : J h) (hx : gCi dx 0 0 yx cx nx rt (.ref 0 :: as) h (some (.int r)) h) (dx12 : dx ≤ 12) (hm : gCi dm 0 0 ym cm nm rt (.ref 50 :: as) h (some (.int r')) (mT h)) (dm12 : dm ≤ 12) (er : r' = r) : PRi h yx cx nx ym cm nm rt as := by
  refine ⟨r, h, gCi_deep dx12 hx, j.1.1.1, gC_deep dm12 (gC_imp ?_ hm)⟩
  rintro v h' ⟨rfl, rfl⟩
  exact ⟨by rw [er], J_mT j⟩
theorem J.cx {h : Hp} (j : J h) : ∃ t cn, CX h t cn := by
  obtain ⟨⟨jh, jt, jl, t, s, jr, jz | ⟨c, C, K, jc⟩⟩, tr⟩ := j
  · exact ⟨t, _, jz.cx jh.1 jr⟩
  · exact ⟨t, _, jc.cx jh.1 jr⟩
theorem q_fault {h : Hp} (j : J h) : PRi h yX8_fault cX8_fault 1 yX10_fault cX10_fault 1 (some .int) [] := by
  obtain ⟨t, cn, X⟩ := j.cx
  exact PRi.t j (m_fault X) (by decide) (n_fault ((FR_mT h).2.2.2.2.1 j.1.1.1)) (by decide) j.2.2.2
theorem q_where {h : Hp} (j : J h) : PRi h yX8_where cX8_where 1 yX10_where cX10_where 1 (some .int) [] := by
  obtain ⟨t, cn, X⟩ := j.cx
  exact PRi.t j (m_where X) (by decide) (n_where ((FR_mT h).2.2.2.2.1 j.1.1.1)) (by decide) j.2.2.1
theorem q_trouble {h : Hp} (j : J h) : PRi h yX8_trouble cX8_trouble 1 yX10_trouble cX10_trouble 1 (some .int) [] := by
  obtain ⟨t, cn, X⟩ := j.cx
  exact PRi.t j (m_trouble X) (by decide) (n_trouble ((FR_mT h).2.2.2.2.1 j.1.1.1)) (by decide) j.2.1
theorem q_size {h : Hp} (j : J h) (f : Int32) : PRi h yX8_size cX8_size 2 yX10_size cX10_size 2 (some .int) [.int f] := by
  have hc : f.toInt = 0 ∨ f.toInt = 1 ∨ f.toInt = 2 ∨ f.toInt = 3 ∨ f.toInt = 4 ∨ f.toInt = 5 ∨ f.toInt = 6 ∨ f.toInt = 7 ∨ f.toInt = 8 ∨ f.toInt = 9 ∨ f.toInt = 10 ∨ f.toInt = 11 ∨ f.toInt = 12 ∨ f.toInt = 13 ∨ f.toInt = 14 ∨ f.toInt = 15 ∨ (f.toInt < 0 ∨ 16 ≤ f.toInt) := by omega
  obtain ⟨⟨jh, jt, jl, t, s, jr, jz | ⟨c, C, K, jc⟩⟩, tr⟩ := id j
  · have S1 := (FR_mT h).2.2.2.2.1 jh.1
    have hz := (jz.fr jr.t (FR_mT h)).1
    have X := jz.cx jh.1 jr
    rcases hc with hf | hf | hf | hf | hf | hf | hf | hf | hf | hf | hf | hf | hf | hf | hf | hf | hf
    · exact PRi.t j (m_size0 X f hf) (by decide) (z_size S1 hz f (by omega)) (by decide) (jz.2.1.2.2.2.1).symm
    · exact PRi.t j (m_size1 X f hf) (by decide) (z_size S1 hz f (by omega)) (by decide) (jz.2.1.2.2.2.2.1).symm
    · exact PRi.t j (m_size2 X f hf) (by decide) (z_size S1 hz f (by omega)) (by decide) (jz.2.1.2.2.2.2.2.1).symm
    · exact PRi.t j (m_size3 X f hf) (by decide) (z_size S1 hz f (by omega)) (by decide) (jz.2.1.2.2.2.2.2.2.1).symm
    · exact PRi.t j (m_size4 X f hf) (by decide) (z_size S1 hz f (by omega)) (by decide) rfl
    · exact PRi.t j (m_size5 X f hf) (by decide) (z_size S1 hz f (by omega)) (by decide) rfl
    · exact PRi.t j (m_size6 X f hf) (by decide) (z_size S1 hz f (by omega)) (by decide) rfl
    · exact PRi.t j (m_size7 X f hf) (by decide) (z_size S1 hz f (by omega)) (by decide) rfl
    · exact PRi.t j (m_size8 X f hf) (by decide) (z_size S1 hz f (by omega)) (by decide) rfl
    · exact PRi.t j (m_size9 X f hf) (by decide) (z_size S1 hz f (by omega)) (by decide) rfl
    · exact PRi.t j (m_size10 X f hf) (by decide) (z_size S1 hz f (by omega)) (by decide) rfl
    · exact PRi.t j (m_size11 X f hf) (by decide) (z_size S1 hz f (by omega)) (by decide) rfl
    · exact PRi.t j (m_size12 X f hf) (by decide) (z_size S1 hz f (by omega)) (by decide) rfl
    · exact PRi.t j (m_size13 X f hf) (by decide) (z_size S1 hz f (by omega)) (by decide) (jz.2.2.2.1).symm
    · exact PRi.t j (m_size14 X f hf) (by decide) (z_size S1 hz f (by omega)) (by decide) (jz.2.2.2.2).symm
    · obtain ⟨n, h1, h2, h3, h4⟩ := jt
      exact PRi.t j (m_size15 X f hf) (by decide) (n_size15 S1 f (Int32.toInt_inj.mp hf)) (by decide) (h3.trans h2.symm)
    · exact PRi.t j (m_sizeO X f hf) (by decide) (n_sizeO S1 f hf) (by decide) rfl
  · have S1 := (FR_mT h).2.2.2.2.1 jh.1
    have M := (jc.fr jr.t (FR_mT h)).mx S1
    have X := jc.cx jh.1 jr
    have V := jc.vw (FR_mT h)
    have b := jc.2.2.2.1.2.1
    obtain ⟨-, ⟨A, a1, a2, a3, -⟩, ⟨M0, m1, m2, m3, -⟩⟩ := jc.2.2.2.2.2.2
    rcases hc with hf | hf | hf | hf | hf | hf | hf | hf | hf | hf | hf | hf | hf | hf | hf | hf | hf
    · exact PRi.t j (m_size0 X f hf) (by decide) (n_size0 M f hf) (by decide) V.w
    · exact PRi.t j (m_size1 X f hf) (by decide) (n_size1 M f hf) (by decide) V.hg
    · exact PRi.t j (m_size2 X f hf) (by decide) (n_size2 M f hf) (by decide) V.hl
    · exact PRi.t j (m_size3 X f hf) (by decide) (n_size3 M f hf) (by decide) V.ic
    · exact PRi.t j (m_size4 X f hf) (by decide) (n_size4 M f hf) (by decide) rfl
    · exact PRi.t j (m_size5 X f hf) (by decide) (n_size5 M f hf) (by decide) rfl
    · exact PRi.t j (m_size6 X f hf) (by decide) (n_size6 M f hf) (by decide) rfl
    · exact PRi.t j (m_size7 X f hf) (by decide) (n_size7 M f hf) (by decide) rfl
    · exact PRi.t j (m_size8 X f hf) (by decide) (n_size8 M f hf) (by decide) ((V.s (f := 8) (by decide)).trans (jc.2.2.2.1.1 5 (by decide)))
    · exact PRi.t j (m_size9 X f hf) (by decide) (n_size9 M f hf) (by decide) (by rw [V.s (f := 9) (by decide), pc_B]; exact congrArg nI jc.2.2.2.1.2.2.2.2.2.2.2.2.1.2.symm)
    · exact PRi.t j (m_size10 X f hf) (by decide) (n_size10 M f hf) (by decide) rfl
    · exact PRi.t j (m_size11 X f hf) (by decide) (n_size11 M f hf) (by decide) rfl
    · exact PRi.t j (m_size12 X f hf) (by decide) (n_size12 M f hf) (by decide) rfl
    · exact PRi.t j (m_size13 X f hf) (by decide) (n_size13 M f hf) (by decide) (a3.trans a2.symm)
    · exact PRi.t j (m_size14 X f hf) (by decide) (n_size14 M f hf) (by decide) (m3.trans m2.symm)
    · obtain ⟨n, h1, h2, h3, h4⟩ := jt
      exact PRi.t j (m_size15 X f hf) (by decide) (n_size15 S1 f (Int32.toInt_inj.mp hf)) (by decide) (h3.trans h2.symm)
    · exact PRi.t j (m_sizeO X f hf) (by decide) (n_sizeO S1 f hf) (by decide) rfl


/-! CALLS ON BOTH SIDES: panes -/
theorem PRi.z {h h1 : Hp} {t s : Nat} {yx ym : MethodName} {cx cm : ByteArray} {nx nm dx dm : Nat} {rt : Option FieldType} {as : List Value} {r r' y y' : Int32} (j : J h) (jr : JR h t s) (jz : JZ h t) (hx : gCi dx 0 0 yx cx nx rt (.ref 0 :: as) h (some (.int r)) h1) (dx12 : dx ≤ 12) (fx : FR h1 h) (e8 : gI h1 0 8 = y) (hm : SX (mT h1) → gR (mT h1) 50 3 = none → gC dm 0 0 ym cm nm rt (.ref 50 :: as) h1 (mQ2 (mT h1) (.int r') y')) (dm12 : dm ≤ 12) (er : r' = r) (ey : y' = y) (y4 : ¬ y = 4) : PRi h yx cx nx ym cm nm rt as :=
  have fg : FR (mT h1) h := (FR_mT h1).trans fx
  PRi.q j hx dx12 fx (hm (fg.2.2.2.2.1 j.1.1.1) (jz.fr jr.t fg).1) dm12 er (ey.trans e8.symm) (by rw [e8]; exact y4)
theorem PRi.c {h h1 : Hp} {t s c : Nat} {C : CT} {K : List Nm} {yx ym : MethodName} {cx cm : ByteArray} {nx nm dx dm : Nat} {rt : Option FieldType} {as : List Value} {r r' y y' : Int32} (j : J h) (jr : JR h t s) (jc : JC h t c C K) (hx : gCi dx 0 0 yx cx nx rt (.ref 0 :: as) h (some (.int r)) h1) (dx12 : dx ≤ 12) (fx : FR h1 h) (e8 : gI h1 0 8 = y) (hm : MX (mT h1) c (nnC C) → MB (mT h1) c (nnC C) → gC dm 0 0 ym cm nm rt (.ref 50 :: as) h1 (mQ2 (mT h1) (.int r') y')) (dm12 : dm ≤ 12) (er : VW h (mT h1) t c C → r' = r) (ey : VW h (mT h1) t c C → y' = y) (y4 : ¬ y = 4) : PRi h yx cx nx ym cm nm rt as :=
  have fg : FR (mT h1) h := (FR_mT h1).trans fx
  have jg := jc.fr jr.t fg
  PRi.q j hx dx12 fx (hm (jg.mx (fg.2.2.2.2.1 j.1.1.1)) jg.mb) dm12 (er (jc.vw fg)) ((ey (jc.vw fg)).trans e8.symm) (by rw [e8]; exact y4)
theorem PRl.z {h h1 : Hp} {t s : Nat} {yx ym : MethodName} {cx cm : ByteArray} {nx nm dx dm : Nat} {rt : Option FieldType} {as : List Value} {r r' : Int64} {y y' : Int32} (j : J h) (jr : JR h t s) (jz : JZ h t) (hx : gCi dx 0 0 yx cx nx rt (.ref 0 :: as) h (some (.long r)) h1) (dx12 : dx ≤ 12) (fx : FR h1 h) (e8 : gI h1 0 8 = y) (hm : SX (mT h1) → gR (mT h1) 50 3 = none → gC dm 0 0 ym cm nm rt (.ref 50 :: as) h1 (mQ2 (mT h1) (.long r') y')) (dm12 : dm ≤ 12) (er : r' = r) (ey : y' = y) (y4 : ¬ y = 4) : PRl h yx cx nx ym cm nm rt as :=
  have fg : FR (mT h1) h := (FR_mT h1).trans fx
  PRl.q j hx dx12 fx (hm (fg.2.2.2.2.1 j.1.1.1) (jz.fr jr.t fg).1) dm12 er (ey.trans e8.symm) (by rw [e8]; exact y4)
theorem PRl.c {h h1 : Hp} {t s c : Nat} {C : CT} {K : List Nm} {yx ym : MethodName} {cx cm : ByteArray} {nx nm dx dm : Nat} {rt : Option FieldType} {as : List Value} {r r' : Int64} {y y' : Int32} (j : J h) (jr : JR h t s) (jc : JC h t c C K) (hx : gCi dx 0 0 yx cx nx rt (.ref 0 :: as) h (some (.long r)) h1) (dx12 : dx ≤ 12) (fx : FR h1 h) (e8 : gI h1 0 8 = y) (hm : MX (mT h1) c (nnC C) → MB (mT h1) c (nnC C) → gC dm 0 0 ym cm nm rt (.ref 50 :: as) h1 (mQ2 (mT h1) (.long r') y')) (dm12 : dm ≤ 12) (er : VW h (mT h1) t c C → r' = r) (ey : VW h (mT h1) t c C → y' = y) (y4 : ¬ y = 4) : PRl h yx cx nx ym cm nm rt as :=
  have fg : FR (mT h1) h := (FR_mT h1).trans fx
  have jg := jc.fr jr.t fg
  PRl.q j hx dx12 fx (hm (jg.mx (fg.2.2.2.2.1 j.1.1.1)) jg.mb) dm12 (er (jc.vw fg)) ((ey (jc.vw fg)).trans e8.symm) (by rw [e8]; exact y4)
theorem itl {α : Type} {c : Prop} [Decidable c] {a b x : α} (h : c → a = b) : (if c then a else x) = if c then b else x := by
  by_cases z : c
  · rw [if_pos z, if_pos z, h z]
  · rw [if_neg z, if_neg z]
theorem itr {α : Type} {c : Prop} [Decidable c] {a b x : α} (h : ¬ c → a = b) : (if c then x else a) = if c then x else b := by
  by_cases z : c
  · rw [if_pos z, if_pos z]
  · rw [if_neg z, if_neg z, h z]
theorem it4 {c : Prop} [Decidable c] {a b : Int32} (ha : ¬ a = 4) (hb : ¬ b = 4) : ¬ (if c then a else b) = 4 := by
  by_cases z : c
  · rw [if_pos z]; exact ha
  · rw [if_neg z]; exact hb
theorem pnl {p : Int32} {N : Nat} (hN : N ≤ 100) (h : ¬ ipF p (nI N) = 0) : pn p < N := by
  obtain ⟨P, hP, rfl⟩ := ip1 (by omega) h
  rw [pn_nI (by omega)]; exact hP
theorem wb4 (a b c d e f : Int32) : ¬ wbt (wnF a b c) (wnF d e f) = 4 := by
  unfold wbt
  split
  · exact wn4 _ _ _
  · exact wn4 _ _ _
theorem wbz (p a b x : Int32) : wbt (wnF (ipF p (nI 0)) a b) x = 1 := by unfold wbt; rw [wz, if_neg (by decide)]
theorem nz : ncF (nI 0) = 1 := rfl
theorem q_word {h : Hp} (j : J h) (p : Int32) : PRi h yX8_word cX8_word 2 yX10_word cX10_word 2 (some .int) [.int p] := by
  obtain ⟨⟨jh, jt, jl, t, s, jr, jz | ⟨c, C, K, jc⟩⟩, tr⟩ := id j
  · exact PRi.z j jr jz (m_word (jz.cx jh.1 jr) p) (by decide) (FR_8 _ _) (gIs _ _ _ _) (fun S hz => q2_r (z_word S hz p)) (by decide) (if_pos (iz p)).symm (if_pos (iz p)).symm (it4 (by decide) (by decide))
  · have b := jc.2.2.2.1.2.1
    have h5 := jc.2.2.2.2.1
    exact PRi.c j jr jc (m_word (jc.cx jh.1 jr) p) (by decide) (FR_8 _ _) (gIs _ _ _ _) (fun M _ => q2_r (n_word M p)) (by decide) (fun V => itr (fun z => V.a (a := 3) (by decide) (by decide) (by decide) (pnl (show nnC C 2 ≤ 100 by omega) z))) (fun V => rfl) (it4 (by decide) (by decide))

theorem q_view {h : Hp} (j : J h) (p : Int32) : PRi h yX8_view cX8_view 2 yX10_view cX10_view 2 (some .int) [.int p] := by
  obtain ⟨⟨jh, jt, jl, t, s, jr, jz | ⟨c, C, K, jc⟩⟩, tr⟩ := id j
  · exact PRi.z j jr jz (m_view (jz.cx jh.1 jr) p) (by decide) (FR_8 _ _) (gIs _ _ _ _) (fun S hz => q2_r (z_view S hz p)) (by decide) (if_pos (iz p)).symm (if_pos (iz p)).symm (it4 (by decide) (by decide))
  · have b := jc.2.2.2.1.2.1
    have h5 := jc.2.2.2.2.1
    exact PRi.c j jr jc (m_view (jc.cx jh.1 jr) p) (by decide) (FR_8 _ _) (gIs _ _ _ _) (fun M _ => q2_r (n_view M p)) (by decide) (fun V => itr (fun z => V.a (a := 4) (by decide) (by decide) (by decide) (pnl (show nnC C 3 ≤ 100 by omega) z))) (fun V => rfl) (it4 (by decide) (by decide))

theorem q_seen {h : Hp} (j : J h) (p : Int32) (v : Int32) : PRi h yX8_seen cX8_seen 4 yX10_seen cX10_seen 4 (some .int) [.int p, .int v] := by
  obtain ⟨⟨jh, jt, jl, t, s, jr, jz | ⟨c, C, K, jc⟩⟩, tr⟩ := id j
  · exact PRi.z j jr jz (m_seen (jz.cx jh.1 jr) p v) (by decide) (FR_8 _ _) (gIs _ _ _ _) (fun S hz => q2_r (z_seen S hz p v)) (by decide) (if_neg (by rw [wz]; decide)).symm (wz _ _ _).symm (wn4 _ _ _)
  · have b := jc.2.2.2.1.2.1
    have h5 := jc.2.2.2.2.1
    exact PRi.c j jr jc (m_seen (jc.cx jh.1 jr) p v) (by decide) (FR_8 _ _) (gIs _ _ _ _) (fun M _ => q2_r (n_seen M p v)) (by decide) (fun V => by rw [V.th]; exact itl (fun z => V.se (by omega) (pnl (by omega) (wn0 z).1) (wn0 z).2.1)) (fun V => by rw [V.th]) (wn4 _ _ _)

theorem q_read {h : Hp} (j : J h) (p : Int32) (v : Int32) : PRi h yX8_read cX8_read 4 yX10_read cX10_read 4 (some .int) [.int p, .int v] := by
  obtain ⟨⟨jh, jt, jl, t, s, jr, jz | ⟨c, C, K, jc⟩⟩, tr⟩ := id j
  · exact PRi.z j jr jz (m_read (jz.cx jh.1 jr) p v) (by decide) (FR_8 _ _) (gIs _ _ _ _) (fun S hz => q2_r (z_read S hz p v)) (by decide) (if_neg (by rw [wz]; decide)).symm (wz _ _ _).symm (wn4 _ _ _)
  · have b := jc.2.2.2.1.2.1
    have h5 := jc.2.2.2.2.1
    exact PRi.c j jr jc (m_read (jc.cx jh.1 jr) p v) (by decide) (FR_8 _ _) (gIs _ _ _ _) (fun M _ => q2_r (n_read M p v)) (by decide) (fun V => by rw [V.th]; exact itl (fun z => V.rd (by omega) (pnl (by omega) (wn0 z).1) (wn0 z).2.1)) (fun V => by rw [V.th]) (wn4 _ _ _)

theorem q_gain {h : Hp} (j : J h) (p : Int32) (v : Int32) : PRi h yX8_gain cX8_gain 4 yX10_gain cX10_gain 4 (some .int) [.int p, .int v] := by
  obtain ⟨⟨jh, jt, jl, t, s, jr, jz | ⟨c, C, K, jc⟩⟩, tr⟩ := id j
  · exact PRi.z j jr jz (m_gain (jz.cx jh.1 jr) p v) (by decide) (FR_8 _ _) (gIs _ _ _ _) (fun S hz => q2_r (z_gain S hz p v)) (by decide) (if_neg (by rw [wz]; decide)).symm (wz _ _ _).symm (wn4 _ _ _)
  · have b := jc.2.2.2.1.2.1
    have h5 := jc.2.2.2.2.1
    exact PRi.c j jr jc (m_gain (jc.cx jh.1 jr) p v) (by decide) (FR_8 _ _) (gIs _ _ _ _) (fun M _ => q2_r (n_gain M p v)) (by decide) (fun V => by rw [V.th]; exact itl (fun z => V.gn (by omega) (pnl (by omega) (wn0 z).1) (wn0 z).2.1)) (fun V => by rw [V.th]) (wn4 _ _ _)

theorem q_together {h : Hp} (j : J h) (p : Int32) (q : Int32) : PRi h yX8_together cX8_together 4 yX10_together cX10_together 4 (some .int) [.int p, .int q] := by
  obtain ⟨⟨jh, jt, jl, t, s, jr, jz | ⟨c, C, K, jc⟩⟩, tr⟩ := id j
  · exact PRi.z j jr jz (m_together (jz.cx jh.1 jr) p q) (by decide) (FR_8 _ _) (gIs _ _ _ _) (fun S hz => q2_r (z_together S hz p q)) (by decide) (if_neg (by rw [wbz]; decide)).symm (wbz _ _ _ _).symm (wb4 _ _ _ _ _ _)
  · have b := jc.2.2.2.1.2.1
    have h5 := jc.2.2.2.2.1
    exact PRi.c j jr jc (m_together (jc.cx jh.1 jr) p q) (by decide) (FR_8 _ _) (gIs _ _ _ _) (fun M _ => q2_r (n_together M p q)) (by decide) (fun V => by rw [rt_wb, V.th]; exact itl (fun z => by rw [V.sh (pnl (by omega) (wb0 z).1), V.sh (pnl (by omega) (wb0 z).2)])) (fun V => by rw [rt_wb, V.th]) (wb4 _ _ _ _ _ _)

theorem q_readTogether {h : Hp} (j : J h) (p : Int32) (q : Int32) : PRi h yX8_readTogether cX8_readTogether 4 yX10_readTogether cX10_readTogether 4 (some .int) [.int p, .int q] := by
  obtain ⟨⟨jh, jt, jl, t, s, jr, jz | ⟨c, C, K, jc⟩⟩, tr⟩ := id j
  · exact PRi.z j jr jz (m_readTogether (jz.cx jh.1 jr) p q) (by decide) (FR_8 _ _) (gIs _ _ _ _) (fun S hz => q2_r (z_readTogether S hz p q)) (by decide) (if_neg (by rw [wbz]; decide)).symm (wbz _ _ _ _).symm (wb4 _ _ _ _ _ _)
  · have b := jc.2.2.2.1.2.1
    have h5 := jc.2.2.2.2.1
    exact PRi.c j jr jc (m_readTogether (jc.cx jh.1 jr) p q) (by decide) (FR_8 _ _) (gIs _ _ _ _) (fun M _ => q2_r (n_readTogether M p q)) (by decide) (fun V => by rw [rt_wb, V.th]; exact itl (fun z => by rw [V.fw, V.sh (pnl (by omega) (wb0 z).1), V.sh (pnl (by omega) (wb0 z).2)])) (fun V => by rw [rt_wb, V.th]) (wb4 _ _ _ _ _ _)

theorem q_viewsFor {h : Hp} (j : J h) (p : Int32) (wd : Int32) : PRi h yX8_viewsFor cX8_viewsFor 6 yX10_viewsFor cX10_viewsFor 5 (some .int) [.int p, .int wd] := by
  obtain ⟨⟨jh, jt, jl, t, s, jr, jz | ⟨c, C, K, jc⟩⟩, tr⟩ := id j
  · exact PRi.z j jr jz (m_viewsFor (jz.cx jh.1 jr) p wd) (by decide) (FR_8 _ _) (gIs _ _ _ _) (fun S hz => q2_r (z_viewsFor S hz p wd)) (by decide) (if_neg (by rw [wz]; decide)).symm (wz _ _ _).symm (wn4 _ _ _)
  · have b := jc.2.2.2.1.2.1
    have h5 := jc.2.2.2.2.1
    exact PRi.c j jr jc (m_viewsFor (jc.cx jh.1 jr) p wd) (by decide) (FR_8 _ _) (gIs _ _ _ _) (fun M _ => q2_r (n_viewsFor M p wd)) (by decide) (fun V => by rw [vy_wn, V.th]; exact itl (fun z => by rw [vf_eq]; exact vfF_c _ _ _ (fun j _ hj => V.rd (by omega) (pnl (by omega) (wn0 z).1) (si_ok (by omega) (by omega))))) (fun V => by rw [vy_wn, V.th]) (wn4 _ _ _)

theorem q_pairFor {h : Hp} (j : J h) (p : Int32) : PRi h yX8_pairFor cX8_pairFor 2 yX10_pairFor cX10_pairFor 4 (some .int) [.int p] := by
  obtain ⟨⟨jh, jt, jl, t, s, jr, jz | ⟨c, C, K, jc⟩⟩, tr⟩ := id j
  · exact PRi.z j jr jz (m_pairFor (jz.cx jh.1 jr) p) (by decide) (FR_8 _ _) (gIs _ _ _ _) (fun S hz => q2_r (z_pairFor S hz p)) (by decide) (if_pos (iz p)).symm (if_pos (iz p)).symm (it4 (by decide) (by decide))
  · have b := jc.2.2.2.1.2.1
    have h5 := jc.2.2.2.2.1
    exact PRi.c j jr jc (m_pairFor (jc.cx jh.1 jr) p) (by decide) (FR_8 _ _) (gIs _ _ _ _) (fun M _ => q2_r (n_pairFor M p)) (by decide) (fun V => itr (fun z => by
      rw [V.th, V.a (a := 3) (by decide) (by decide) (by decide) (pnl (show nnC C 2 ≤ 100 by omega) z)]
      exact fpO_c (fun _ _ => rfl) (fun x y hx hy => by rw [V.sh hx, V.sh hy]) _ _ (by omega))) (fun V => rfl) (it4 (by decide) (by decide))

theorem q_scratches {h : Hp} (j : J h) (p : Int32) (v : Int32) (wd : Int32) : PRi h yX8_scratches cX8_scratches 5 yX10_scratches cX10_scratches 5 (some .int) [.int p, .int v, .int wd] := by
  obtain ⟨⟨jh, jt, jl, t, s, jr, jz | ⟨c, C, K, jc⟩⟩, tr⟩ := id j
  · exact PRi.z j jr jz (m_scratches (jz.cx jh.1 jr) p v wd) (by decide) (FR_8 _ _) (gIs _ _ _ _) (fun S hz => q2_r (z_scratches S hz p v wd)) (by decide) (if_neg (by rw [wz]; decide)).symm (wz _ _ _).symm (wn4 _ _ _)
  · have b := jc.2.2.2.1.2.1
    have h5 := jc.2.2.2.2.1
    exact PRi.c j jr jc (m_scratches (jc.cx jh.1 jr) p v wd) (by decide) (FR_8 _ _) (gIs _ _ _ _) (fun M _ => q2_r (n_scratches M p v wd)) (by decide) (fun V => by
      rw [V.th]
      conv => rhs; rw [sc_wn]
      by_cases z1 : ipF wd (nI (nnC C 2)) = 0
      · rw [if_pos z1, if_pos z1, if_neg (by decide)]
      · rw [if_neg z1, if_neg z1]
        exact itl (fun z => by rw [fs_eq, V.se (by omega) (pnl (by omega) (wn0 z).1) (wn0 z).2.1, V.a (a := 3) (by decide) (by decide) (by decide) (pnl (show nnC C 2 ≤ 100 by omega) z1), V.dk (by omega) (wn0 z).2.1, (V.2.2.1 _ (pnl (by omega) (wn0 z).1)).2])) (fun V => by rw [V.th]; exact (sc_wn _ _ _ _).symm) (wn4 _ _ _)

theorem q_could {h : Hp} (j : J h) (p : Int32) (v : Int32) : PRi h yX8_could cX8_could 6 yX10_could cX10_could 6 (some .int) [.int p, .int v] := by
  obtain ⟨⟨jh, jt, jl, t, s, jr, jz | ⟨c, C, K, jc⟩⟩, tr⟩ := id j
  · exact PRi.z j jr jz (m_could (jz.cx jh.1 jr) p v) (by decide) (FR_8 _ _) (gIs _ _ _ _) (fun S hz => q2_r (z_could S hz p v)) (by decide) (if_neg (by rw [wz]; decide)).symm (wz _ _ _).symm (wn4 _ _ _)
  · have b := jc.2.2.2.1.2.1
    have h5 := jc.2.2.2.2.1
    exact PRi.c j jr jc (m_could (jc.cx jh.1 jr) p v) (by decide) (FR_8 _ _) (gIs _ _ _ _) (fun M _ => q2_r (n_could M p v)) (by decide) (fun V => by
      rw [V.th]
      exact itl (fun z => by
        rw [cd_eq]
        exact cdF_c _ _ _ (fun x _ hx => by rw [fs_eq, V.se (by omega) (pnl (by omega) (wn0 z).1) (wn0 z).2.1, V.a (a := 3) (by decide) (by decide) (by decide) (show x < nnC C 2 by omega), V.dk (by omega) (wn0 z).2.1, (V.2.2.1 _ (pnl (by omega) (wn0 z).1)).2]))) (fun V => by rw [V.th]) (wn4 _ _ _)


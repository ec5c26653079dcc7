/-! CALLS ON BOTH SIDES: shards, shelf, rests, days, made panes, putty -/
theorem n_owner0 {h : Hp} {c : Nat} {cn : Nat → Nat} (X : MX (mT h) c cn) (h8 : cn 8 = 0) (k : Int32) : gCi 3 0 0 yX10_owner cX10_owner 5 (some .int) [.ref 50, .int k] h (some (.int (if (waM (fun set => iwM (gI (mT h) (c + 12)) set (allF (gI (mT h) c 0) (gI (mT h) c 1)) (cn 9) 0 0) k (2 ^ cn 9) 0 0) = -1 then -1 else owM (fun p => cpM (gI (mT h) (c + 11)) (gI (mT h) (c + 12)) p (waM (fun set => iwM (gI (mT h) (c + 12)) set (allF (gI (mT h) c 0) (gI (mT h) c 1)) (cn 9) 0 0) k (2 ^ cn 9) 0 0) (cn 9) 0 0) (cn 8 - 1) 1 0))) (mR (mT h) (if (waM (fun set => iwM (gI (mT h) (c + 12)) set (allF (gI (mT h) c 0) (gI (mT h) c 1)) (cn 9) 0 0) k (2 ^ cn 9) 0 0) = -1 then 1 else 0)) := by
  refine g_entry (lv := [.ref 50, .int k, .retAddr 0, .retAddr 0, .retAddr 0]) 3 pn_X10 rfl rfl rfl ?_
  refine g_aL0 dX10_owner_0 ?_
  refine g_iconst dX10_owner_1 ?_
  refine g_pI0 lf_X10_39 (X.S.l 50 rfl) (X.S.k 50 rfl rfl) dX10_owner_2 ?_
  show gY _ _ _ _ _ _ _ _ _ _ _ _ _ (mT h)
  generalize mT h = h at X ⊢
  refine g_aL0 dX10_owner_5 ?_
  refine g_iL1 dX10_owner_6 ?_
  refine e_v1i (d_wholeAt X _) lm_X10_486 dX10_owner_7 (X.S.l 50 rfl) (X.S.k 50 rfl rfl) rfl rfl rfl rfl ?_
  refine g_iS2 dX10_owner_10 rfl rfl ?_
  refine g_iL2 dX10_owner_11 ?_
  refine g_iconst dX10_owner_12 ?_
  refine g_icne dX10_owner_13 (fun c13 => ?_) (fun c13 => ?_)
  · refine g_iconst dX10_owner_22 ?_
    refine g_iS3 dX10_owner_23 rfl rfl ?_
    refine g_iconst dX10_owner_24 ?_
    refine g_iS4 dX10_owner_25 rfl rfl ?_
    refine g_iL4 dX10_owner_27 ?_
    refine g_aL0 dX10_owner_29 ?_
    refine g_getR lf_X10_359 (X.S.l 50 rfl) (X.S.k 50 rfl rfl) X.C dX10_owner_30 ?_
    refine g_gI lf_X10_335 (X.M.l 0 rfl) (X.M.k 0 rfl rfl) dX10_owner_33 ?_
    rw [X.c8, h8]
    refine g_icge dX10_owner_36 (fun c36 => ?_) (fun c36 => absurd (show nI 0 ≤ (1 : Int32) by decide) c36)
    refine g_aL0 dX10_owner_64 ?_
    refine g_iL3 dX10_owner_65 ?_
    refine e_v1i (d_good X.S _) lm_X10_49 dX10_owner_66 (X.S.l 50 rfl) (X.S.k 50 rfl rfl) rfl rfl rfl rfl ?_
    exact e_iret rfl dX10_owner_69 rfl rfl (by rw [if_neg c13]; rfl) (by rw [if_neg c13])
  · refine g_aL0 dX10_owner_16 ?_
    refine g_iconst dX10_owner_17 ?_
    refine e_v1i (d_refused X.S _) lm_X10_45 dX10_owner_18 (X.S.l 50 rfl) (X.S.k 50 rfl rfl) rfl rfl rfl rfl ?_
    exact e_iret rfl dX10_owner_21 rfl rfl (if_pos c13).symm (by rw [if_pos c13])
section VW2
variable {h g : Hp} {t c : Nat} {C : CT} {K : List Nm}
theorem VW.iw (v : VW h g t c C) : (fun set => iwM (gI g (c + 12)) set (allF (gI g c 0) (gI g c 1)) (nnC C 9) 0 0) = (fun set => iwF (gI h (t + 13)) set (allF (gI h t 1) (gI h t 2)) (nnC C 9) 0 0) := funext (fun x => by
  show iwM _ _ _ _ _ _ = iwF _ _ _ _ _ _
  rw [iw_eq, v.w, v.hg]
  exact iwF_c _ _ _ (fun j _ hj => v.a (a := 12) (by decide) (by decide) (by decide) (show j < nnC C 9 by omega)))
theorem VW.w0 (p : PI C K) (v : VW h g t c C) : iwF (gI h (t + 13)) (nI 0) (allF (gI h t 1) (gI h t 2)) (nnC C 9) 0 0 = 0 := by
  obtain ⟨W, H, h1, h2, h3, h4, h5, h6, h7⟩ := p.2.2.1
  have b := p.2.1
  have e1 : gI h t 1 = nI W := (v.1 0 1 (by decide)).trans h5
  have e2 : gI h t 2 = nI H := (v.1 0 2 (by decide)).trans h6
  rw [e1, e2]
  exact iw_0 _ (al_n0 h1 h2 h3 h4) _ _ (by omega)
theorem VW.wa (p : PI C K) (v : VW h g t c C) (k : Int32) : (waM (fun set => iwM (gI g (c + 12)) set (allF (gI g c 0) (gI g c 1)) (nnC C 9) 0 0) k (2 ^ nnC C 9) 0 0 = -1 ∧ waF (fun set => iwF (gI h (t + 13)) set (allF (gI h t 1) (gI h t 2)) (nnC C 9) 0 0) k (2 ^ nnC C 9 - 1) 1 0 = 0) ∨ (¬ waM (fun set => iwM (gI g (c + 12)) set (allF (gI g c 0) (gI g c 1)) (nnC C 9) 0 0) k (2 ^ nnC C 9) 0 0 = -1 ∧ ¬ waF (fun set => iwF (gI h (t + 13)) set (allF (gI h t 1) (gI h t 2)) (nnC C 9) 0 0) k (2 ^ nnC C 9 - 1) 1 0 = 0 ∧ waM (fun set => iwM (gI g (c + 12)) set (allF (gI g c 0) (gI g c 1)) (nnC C 9) 0 0) k (2 ^ nnC C 9) 0 0 = waF (fun set => iwF (gI h (t + 13)) set (allF (gI h t 1) (gI h t 2)) (nnC C 9) 0 0) k (2 ^ nnC C 9 - 1) 1 0) := by
  have b := p.2.1
  rw [v.iw]
  exact wa_1 (iw := (fun set => iwF (gI h (t + 13)) set (allF (gI h t 1) (gI h t 2)) (nnC C 9) 0 0)) (N := nnC C 9) (v.w0 p) (by omega) k
theorem VW.or (v : VW h g t c C) (x : Int32) : orM (gI g (c + 13)) x (nnC C 9) 0 0 = orF (gI h (t + 14)) x (nnC C 9) 0 0 := by
  rw [or_eq]
  exact orF_c _ _ _ (fun j _ hj => v.a (a := 13) (by decide) (by decide) (by decide) (show j < nnC C 9 by omega))
theorem VW.cp (v : VW h g t c C) (x : Int32) : (fun p => cpM (gI g (c + 11)) (gI g (c + 12)) p x (nnC C 9) 0 0) = (fun p => cpF (gI h (t + 12)) (gI h (t + 13)) x p (nnC C 9) 0 0) := funext (fun p => by
  show cpM _ _ _ _ _ _ _ = cpF _ _ _ _ _ _ _
  rw [cp_eq]
  exact cpF_c _ _ _ (fun j _ hj => v.a (a := 11) (by decide) (by decide) (by decide) (show j < nnC C 9 by omega)) (fun j _ hj => v.a (a := 12) (by decide) (by decide) (by decide) (show j < nnC C 9 by omega)))
theorem VW.li (v : VW h g t c C) {p : Nat} (hp : p < nnC C 1) : liM g c p = liF h t p := by
  show gI g c 0 * gI g c 1 - nI (pc32 (gI g 52 p)) = gI h t 1 * gI h t 2 - bcF (gI h 39 p)
  rw [v.w, v.hg, (v.2.2.1 p hp).1, bc_pc]
theorem VW.lo (v : VW h g t c C) : (fun set => loM (liM g c) set (nnC C 1) 0 0) = (fun set => loF (liF h t) set (nnC C 1) 0 0) := funext (fun x => by
  show loM _ _ _ _ _ = loF _ _ _ _ _
  rw [lo_eq]
  exact loF_c _ _ _ (fun j _ hj => v.li (by omega)))
theorem VW.ir (v : VW h g t c C) (b3 : nnC C 3 ≤ 6) {p k : Nat} (hp : p < nnC C 1) (hk : k ≤ nnC C 3) : irF (fun q => thF (gI g 52 16) (nI q)) (gnM g c (nnC C)) (nnC C 1) (nnC C 3) p (nI k) = iRF h t (nnC C) p (nI k) := by
  unfold iRF
  rw [v.th]
  exact irF_c hp hk (fun _ _ => rfl) (fun q x hq hx => v.gn b3 hq (vo_ok hx b3))
theorem VW.dm (p : PI C K) (v : VW h g t c C) : gI h t 1 * gI h t 2 = nI (dmF C) ∧ dmF C ≤ 20 := by
  obtain ⟨W, H, h1, h2, h3, h4, h5, h6, h7⟩ := p.2.2.1
  have e1 : gI h t 1 = nI W := (v.1 0 1 (by decide)).trans h5
  have e2 : gI h t 2 = nI H := (v.1 0 2 (by decide)).trans h6
  have e3 : dmF C = W * H := by unfold dmF; rw [h5, h6, pn_nI (by omega), pn_nI (by omega)]
  rw [e1, e2, e3]
  refine ⟨(Int32.ofNat_mul W H).symm, ?_⟩
  exact Nat.le_trans (Nat.mul_le_mul h2 h4) (by decide)
end VW2
theorem wa_if {a b x : Int32} (f f' : Int32 → Int32) (hw : (a = -1 ∧ b = 0) ∨ (¬ a = -1 ∧ ¬ b = 0 ∧ a = b)) (hf : ¬ b = 0 → f b = f' b) : (if a = -1 then x else f a) = (if b = 0 then x else f' b) := by
  rcases hw with ⟨h1, h2⟩ | ⟨h1, h2, h3⟩
  · rw [if_pos h1, if_pos h2]
  · rw [if_neg h1, if_neg h2, h3]; exact hf h2
theorem fr_ite {p : Prop} [Decidable p] {a b h : Hp} (ha : p → FR a h) (hb : ¬ p → FR b h) : FR (if p then a else b) h := by
  by_cases z : p
  · rw [if_pos z]; exact ha z
  · rw [if_neg z]; exact hb z
theorem mf_ite {p : Prop} [Decidable p] {a b h : Hp} (ha : p → mF a h) (hb : ¬ p → mF b h) : mF (if p then a else b) h := by
  by_cases z : p
  · rw [if_pos z]; exact ha z
  · rw [if_neg z]; exact hb z
theorem e8_ite {p : Prop} [Decidable p] {a b : Hp} {y : Int32} (ha : p → gI a 0 8 = y) (hb : ¬ p → gI b 0 8 = y) : gI (if p then a else b) 0 8 = y := by
  by_cases z : p
  · rw [if_pos z]; exact ha z
  · rw [if_neg z]; exact hb z
theorem q2_e {d nL : Nat} {y : MethodName} {cc : ByteArray} {ret : Option FieldType} {args : List Value} {h a b : Hp} {r : Value} {x x' : Int32} {p : Prop} [Decidable p] (ka : mF a (mT h)) (kb : mF b (mT h)) (hC : gCi d 0 0 y cc nL ret args h (some r) (if p then mR a x else mR b x')) : gC d 0 0 y cc nL ret args h (mQ2 (mT h) r (if p then x else x')) := gC_imp (fun v h' z => by
  refine ⟨z.1, ?_⟩
  rw [z.2]
  by_cases e : p
  · rw [if_pos e, if_pos e]; exact ⟨a, ka, rfl⟩
  · rw [if_neg e, if_neg e]; exact ⟨b, kb, rfl⟩) hC
theorem yd4 (a b c : Int32) : ¬ ydF a b c = 4 := by
  unfold ydF
  repeat' split
  all_goals decide
theorem ydz (b c : Int32) : ydF (ncF (nI 0)) b c = 1 := by unfold ydF; rw [nz, if_neg (by decide)]
theorem FR_h3 (h : Hp) (a b c : Int32) : FR (h3 h a b c) h := ((FR_I _ c (by unfold frx; omega)).trans (FR_I _ b (by unfold frx; omega))).trans (FR_I h a (by unfold frx; omega))
theorem FR_mk (h : Hp) (a b c d e : Int32) : FR (mkH h a b c d e) h := by
  unfold mkH
  exact fr_ite (fun _ => (FR_I _ _ (by unfold frx; omega)).trans (FR_I h _ (by unfold frx; omega))) (fun _ => FR.refl h)
theorem FR_wm (h : Hp) (t : Nat) (cn : Nat → Nat) (a b c d e : Int32) : FR (wmH h t cn a b c d e) h := by
  unfold wmH
  exact fr_ite (fun _ => FR.refl h) (fun _ => fr_ite (fun _ => FR.refl h) (fun _ => fr_ite (fun _ => FR.refl h) (fun _ => fr_ite (fun _ => FR.refl h) (fun _ => fr_ite (fun _ => FR.refl h) (fun _ => FR_mk h _ _ _ _ _)))))
theorem mF_mk2 (h : Hp) (x y : Int32) : mF (mk2 h x y) h := (mF_50 _ (by omega) y).trans (mF_50 h (by omega) x)
theorem mF_mk (h : Hp) (a b c d e : Int32) : mF (mkMH h a b c d e) h := by
  unfold mkMH
  exact mf_ite (fun _ => mf_ite (fun _ => mf_ite (fun _ => mf_ite (fun _ => mF_mk2 h _ _) (fun _ => mF_mk2 h _ _)) (fun _ => mF_mk2 h _ _)) (fun _ => mF_mk2 h _ _)) (fun _ => mF_mk2 h _ _)
theorem imz (a b c d e : Int32) : imF (fun _ => 0) a b c d e = 0 := by unfold imF; rw [if_pos (iz a)]
theorem q_wholes {h : Hp} (j : J h) : PRi h yX8_wholes cX8_wholes 1 yX10_wholes cX10_wholes 3 (some .int) [] := by
  obtain ⟨⟨jh, jt, jl, t, s, jr, jz | ⟨c, C, K, jc⟩⟩, tr⟩ := id j
  · exact PRi.z j jr jz (m_wholes (jz.cx jh.1 jr)) (by decide) (FR_8 _ _) (gIs _ _ _ _) (fun S hz => q2_r (z_wholes S hz)) (by decide) (if_neg (by decide)).symm (if_neg (by decide)).symm (it4 (by decide) (by decide))
  · have b := jc.2.2.2.1.2.1
    have h5 := jc.2.2.2.2.1
    have en := nc_pos h5 (show nnC C 1 < 2147483648 by omega)
    exact PRi.c j jr jc (m_wholes (jc.cx jh.1 jr)) (by decide) (FR_8 _ _) (gIs _ _ _ _) (fun M _ => q2_r (n_wholes M)) (by decide) (fun V => Eq.trans (by rw [V.iw]; exact cw_1 (iw := (fun set => iwF (gI h (t + 13)) set (allF (gI h t 1) (gI h t 2)) (nnC C 9) 0 0)) (V.w0 jc.2.2.2.1)) (if_pos en).symm) (fun V => (if_pos en).symm) (it4 (by decide) (by decide))

theorem q_missing {h : Hp} (j : J h) : PRi h yX8_missing cX8_missing 1 yX10_missing cX10_missing 3 (some .int) [] := by
  obtain ⟨⟨jh, jt, jl, t, s, jr, jz | ⟨c, C, K, jc⟩⟩, tr⟩ := id j
  · exact PRi.z j jr jz (m_missing (jz.cx jh.1 jr)) (by decide) (FR_8 _ _) (gIs _ _ _ _) (fun S hz => q2_r (z_missing S hz)) (by decide) (if_neg (by decide)).symm (if_neg (by decide)).symm (it4 (by decide) (by decide))
  · have b := jc.2.2.2.1.2.1
    have h5 := jc.2.2.2.2.1
    have en := nc_pos h5 (show nnC C 1 < 2147483648 by omega)
    exact PRi.c j jr jc (m_missing (jc.cx jh.1 jr)) (by decide) (FR_8 _ _) (gIs _ _ _ _) (fun M _ => q2_r (n_missing M)) (by decide) (fun V => Eq.trans (by rw [V.w, V.hg, oaF_c _ _ _ (fun x _ hx => V.a (a := 12) (by decide) (by decide) (by decide) (show x < nnC C 9 by omega))]) (if_pos en).symm) (fun V => (if_pos en).symm) (it4 (by decide) (by decide))

theorem q_rests {h : Hp} (j : J h) : PRi h yX8_rests cX8_rests 4 yX10_rests cX10_rests 4 (some .int) [] := by
  obtain ⟨⟨jh, jt, jl, t, s, jr, jz | ⟨c, C, K, jc⟩⟩, tr⟩ := id j
  · exact PRi.z j jr jz (m_rests (jz.cx jh.1 jr)) (by decide) (FR_8 _ _) (gIs _ _ _ _) (fun S hz => q2_r (z_rests S hz)) (by decide) (if_neg (by decide)).symm (if_neg (by decide)).symm (it4 (by decide) (by decide))
  · have b := jc.2.2.2.1.2.1
    have h5 := jc.2.2.2.2.1
    have en := nc_pos h5 (show nnC C 1 < 2147483648 by omega)
    exact PRi.c j jr jc (m_rests (jc.cx jh.1 jr)) (by decide) (FR_8 _ _) (gIs _ _ _ _) (fun M _ => q2_r (n_rests M)) (by decide) (fun V => Eq.trans (by rw [rtA_eq]; exact rtA_c _ _ _ (fun p x _ hp hx => V.ir (by omega) (by omega) hx)) (if_pos en).symm) (fun V => (if_pos en).symm) (it4 (by decide) (by decide))

theorem q_rest {h : Hp} (j : J h) : PRi h yX8_rest cX8_rest 3 yX10_rest cX10_rest 3 (some .int) [] := by
  obtain ⟨⟨jh, jt, jl, t, s, jr, jz | ⟨c, C, K, jc⟩⟩, tr⟩ := id j
  · exact PRi.z j jr jz (m_rest (jz.cx jh.1 jr)) (by decide) (FR_8 _ _) (gIs _ _ _ _) (fun S hz => q2_r (z_rest S hz)) (by decide) (if_neg (by decide)).symm (if_neg (by decide)).symm (it4 (by decide) (by decide))
  · have b := jc.2.2.2.1.2.1
    have h5 := jc.2.2.2.2.1
    have en := nc_pos h5 (show nnC C 1 < 2147483648 by omega)
    exact PRi.c j jr jc (m_rest (jc.cx jh.1 jr)) (by decide) (FR_8 _ _) (gIs _ _ _ _) (fun M _ => q2_r (n_rest M)) (by decide) (fun V => Eq.trans (by exact rfA_c _ _ (fun p x _ hp hx => V.ir (by omega) (by omega) hx)) (if_pos en).symm) (fun V => (if_pos en).symm) (it4 (by decide) (by decide))

theorem q_whole {h : Hp} (j : J h) (k : Int32) : PRi h yX8_whole cX8_whole 3 yX10_whole cX10_whole 3 (some .int) [.int k] := by
  obtain ⟨⟨jh, jt, jl, t, s, jr, jz | ⟨c, C, K, jc⟩⟩, tr⟩ := id j
  · exact PRi.z j jr jz (m_whole (jz.cx jh.1 jr) k) (by decide) (FR_8 _ _) (gIs _ _ _ _) (fun S hz => q2_r (z_whole S hz k)) (by decide) rfl rfl (it4 (by decide) (by decide))
  · have b := jc.2.2.2.1.2.1
    have h5 := jc.2.2.2.2.1
    exact PRi.c j jr jc (m_whole (jc.cx jh.1 jr) k) (by decide) (FR_8 _ _) (gIs _ _ _ _) (fun M _ => q2_r (n_whole M k)) (by decide) (fun V => wa_if (fun x => x) (fun x => x) (V.wa jc.2.2.2.1 k) (fun _ => rfl)) (fun V => wa_if (fun _ => 0) (fun _ => 0) (V.wa jc.2.2.2.1 k) (fun _ => rfl)) (it4 (by decide) (by decide))

theorem q_written {h : Hp} (j : J h) (k : Int32) : PRi h yX8_written cX8_written 3 yX10_written cX10_written 3 (some .int) [.int k] := by
  obtain ⟨⟨jh, jt, jl, t, s, jr, jz | ⟨c, C, K, jc⟩⟩, tr⟩ := id j
  · exact PRi.z j jr jz (m_written (jz.cx jh.1 jr) k) (by decide) (FR_8 _ _) (gIs _ _ _ _) (fun S hz => q2_r (z_written S hz k)) (by decide) rfl rfl (it4 (by decide) (by decide))
  · have b := jc.2.2.2.1.2.1
    have h5 := jc.2.2.2.2.1
    exact PRi.c j jr jc (m_written (jc.cx jh.1 jr) k) (by decide) (FR_8 _ _) (gIs _ _ _ _) (fun M _ => q2_r (n_written M k)) (by decide) (fun V => wa_if (fun x => orM _ x _ _ _) (fun x => orF _ x _ _ _) (V.wa jc.2.2.2.1 k) (fun _ => V.or _)) (fun V => wa_if (fun _ => 0) (fun _ => 0) (V.wa jc.2.2.2.1 k) (fun _ => rfl)) (it4 (by decide) (by decide))

theorem q_wordOf {h : Hp} (j : J h) (k : Int32) : PRi h yX8_wordOf cX8_wordOf 3 yX10_wordOf cX10_wordOf 3 (some .int) [.int k] := by
  obtain ⟨⟨jh, jt, jl, t, s, jr, jz | ⟨c, C, K, jc⟩⟩, tr⟩ := id j
  · exact PRi.z j jr jz (m_wordOf (jz.cx jh.1 jr) k) (by decide) (FR_8 _ _) (gIs _ _ _ _) (fun S hz => q2_r (z_wordOf S hz k)) (by decide) rfl rfl (it4 (by decide) (by decide))
  · have b := jc.2.2.2.1.2.1
    have h5 := jc.2.2.2.2.1
    exact PRi.c j jr jc (m_wordOf (jc.cx jh.1 jr) k) (by decide) (FR_8 _ _) (gIs _ _ _ _) (fun M _ => q2_r (n_wordOf M k)) (by decide) (fun V => wa_if (fun x => fwF _ (orM _ x _ _ _) _ _) (fun x => fwF _ (orF _ x _ _ _) _ _) (V.wa jc.2.2.2.1 k) (fun _ => by show fwF _ _ _ _ = fwF _ _ _ _; rw [V.fw, V.or])) (fun V => wa_if (fun _ => 0) (fun _ => 0) (V.wa jc.2.2.2.1 k) (fun _ => rfl)) (it4 (by decide) (by decide))

theorem q_owner {h : Hp} (j : J h) (k : Int32) : PRi h yX8_owner cX8_owner 3 yX10_owner cX10_owner 5 (some .int) [.int k] := by
  obtain ⟨⟨jh, jt, jl, t, s, jr, jz | ⟨c, C, K, jc⟩⟩, tr⟩ := id j
  · exact PRi.z j jr jz (m_owner (jz.cx jh.1 jr) k) (by decide) (FR_8 _ _) (gIs _ _ _ _) (fun S hz => q2_r (z_owner S hz k)) (by decide) rfl rfl (it4 (by decide) (by decide))
  · have b := jc.2.2.2.1.2.1
    have h5 := jc.2.2.2.2.1
    exact PRi.c j jr jc (m_owner (jc.cx jh.1 jr) k) (by decide) (FR_8 _ _) (gIs _ _ _ _) (fun M _ => q2_r (by rcases Nat.eq_zero_or_pos (nnC C 8) with h8 | h8; exact n_owner0 M h8 k; exact n_owner M h8 k)) (by decide) (fun V => wa_if (fun x => owM (fun p => cpM _ _ p x _ _ _) _ _ _) (fun x => owF (fun p => cpF _ _ x p _ _ _) _ _ _ _) (V.wa jc.2.2.2.1 k) (fun _ => by show owM _ _ _ _ = owF _ _ _ _ _; rw [V.cp, ow_eq _ (fun p => by obtain ⟨r, h1, h2⟩ := cp_nn _ _ _ p (nnC C 9) 0 0; exact ⟨r, by omega, h2⟩)])) (fun V => wa_if (fun _ => 0) (fun _ => 0) (V.wa jc.2.2.2.1 k) (fun _ => rfl)) (it4 (by decide) (by decide))

theorem q_shelf {h : Hp} (j : J h) : PRi h yX8_shelf cX8_shelf 1 yX10_shelf cX10_shelf 3 (some .int) [] := by
  obtain ⟨⟨jh, jt, jl, t, s, jr, jz | ⟨c, C, K, jc⟩⟩, tr⟩ := id j
  · exact PRi.z j jr jz (m_shelf (jz.cx jh.1 jr) (U := 0) (by rw [show gI h (t + 1) 1 = nI 0 from jz.2.1.1 1 (by decide), jz.2.2.1]; rfl) (by decide)) (by decide) (FR_8 _ _) (gIs _ _ _ _) (fun S hz => q2_r (z_shelf S hz)) (by decide) (if_neg (by decide)).symm (if_neg (by decide)).symm (it4 (it4 (by decide) (by decide)) (by decide))
  · have b := jc.2.2.2.1.2.1
    have h5 := jc.2.2.2.2.1
    have en := nc_pos h5 (show nnC C 1 < 2147483648 by omega)
    obtain ⟨U, hUl, hU⟩ := ub_ex (N := nnC C 1) (by omega) (gI h 38 3)
    have hU2 : ubF (gI h (t + 1) 1) (gI h 38 3) = nI U := by rw [(jc.cx jh.1 jr).c 1 rfl]; exact hU
    have hp8 := p2_8 (N := nnC C 1) (by omega)
    exact PRi.c j jr jc (m_shelf (jc.cx jh.1 jr) hU2 (by omega)) (by decide) (FR_8 _ _) (gIs _ _ _ _) (fun M _ => q2_r (n_shelf M)) (by decide) (fun V => by
      have esh := V.2.1.2.2
      have e5 : gI h t 5 = C 0 5 := V.1 0 5 (by decide)
      have e10 : C 1 10 = nI (nnC C 10) := jc.2.2.2.1.1 10 (by decide)
      refine Eq.trans ?_ (if_pos en).symm
      unfold RSh at esh
      by_cases z : C 1 10 = 0
      · rw [if_pos z] at esh
        rw [if_pos esh, if_pos (e10.symm.trans z)]
      · rw [if_neg z] at esh
        refine (if_neg (fun y => jc.2.2.2.1.sh z (esh.symm.trans y))).trans (Eq.trans ?_ (if_neg (fun y => z (e10.trans y))).symm)
        rw [V.lo, V.th, esh, e5, bs_eq (by omega) hU hUl _ 1 0 (by decide) (by have := Nat.two_pow_pos (nnC C 1); omega), lo_0 _ _ _ _ (by omega), show U + 1 - 1 = U by omega]) (fun V => by
      have esh := V.2.1.2.2
      have e10 : C 1 10 = nI (nnC C 10) := jc.2.2.2.1.1 10 (by decide)
      refine Eq.trans ?_ (if_pos en).symm
      unfold RSh at esh
      by_cases z : C 1 10 = 0
      · rw [if_pos z] at esh
        rw [if_pos esh, if_pos (e10.symm.trans z)]
      · rw [if_neg z] at esh
        rw [if_neg (fun y => jc.2.2.2.1.sh z (esh.symm.trans y)), if_neg (fun y => z (e10.trans y))]) (it4 (it4 (by decide) (by decide)) (by decide))

theorem q_left {h : Hp} (j : J h) (x : Int32) (d : Int32) : PRi h yX8_left cX8_left 4 yX10_left cX10_left 4 (some .int) [.int x, .int d] := by
  obtain ⟨⟨jh, jt, jl, t, s, jr, jz | ⟨c, C, K, jc⟩⟩, tr⟩ := id j
  · exact PRi.z j jr jz (m_left (jz.cx jh.1 jr) x d) (by decide) (fr_ite (fun _ => (FR_8 _ _).trans (FR_h3 _ _ _ _)) (fun _ => FR_8 _ _)) (e8_ite (fun z => (gIs _ _ _ _).trans z.symm) (fun _ => gIs _ _ _ _)) (fun S hz => q2_r (z_left S hz x d)) (by decide) (if_neg (by rw [ydz]; decide)).symm (ydz _ _).symm (yd4 _ _ _)
  · have b := jc.2.2.2.1.2.1
    have h5 := jc.2.2.2.2.1
    have en := nc_pos h5 (show nnC C 1 < 2147483648 by omega)
    exact PRi.c j jr jc (m_left (jc.cx jh.1 jr) x d) (by decide) (fr_ite (fun _ => (FR_8 _ _).trans (FR_h3 _ _ _ _)) (fun _ => FR_8 _ _)) (e8_ite (fun z => (gIs _ _ _ _).trans z.symm) (fun _ => gIs _ _ _ _)) (fun M _ => q2_i (mf_ite (fun _ => mF_50 _ (by omega) _) (fun _ => mF.refl _)) (n_left M h5 x d)) (by decide) (fun V => by
      conv => rhs; rw [en, rd_yd]
      exact itl (fun z => by
        have X := jc.cx jh.1 jr
        show (paF _ _ _ _ _ _ _ _ _).2.1 = (paF _ _ _ _ _ _ _ _ _).2.1
        rw [V.hl, V.ic, V.th, X.c 1 rfl, paF_c h5 (fun y hy => V.a (a := 1) (by decide) (by decide) (by decide) hy)])) (fun V => by rw [en, rd_yd]) (yd4 _ _ _)

theorem q_hails {h : Hp} (j : J h) (x : Int32) (d : Int32) : PRi h yX8_hails cX8_hails 4 yX10_hails cX10_hails 4 (some .int) [.int x, .int d] := by
  obtain ⟨⟨jh, jt, jl, t, s, jr, jz | ⟨c, C, K, jc⟩⟩, tr⟩ := id j
  · exact PRi.z j jr jz (m_hails (jz.cx jh.1 jr) x d) (by decide) (fr_ite (fun _ => (FR_8 _ _).trans (FR_h3 _ _ _ _)) (fun _ => FR_8 _ _)) (e8_ite (fun z => (gIs _ _ _ _).trans z.symm) (fun _ => gIs _ _ _ _)) (fun S hz => q2_r (z_hails S hz x d)) (by decide) (if_neg (by rw [ydz]; decide)).symm (ydz _ _).symm (yd4 _ _ _)
  · have b := jc.2.2.2.1.2.1
    have h5 := jc.2.2.2.2.1
    have en := nc_pos h5 (show nnC C 1 < 2147483648 by omega)
    exact PRi.c j jr jc (m_hails (jc.cx jh.1 jr) x d) (by decide) (fr_ite (fun _ => (FR_8 _ _).trans (FR_h3 _ _ _ _)) (fun _ => FR_8 _ _)) (e8_ite (fun z => (gIs _ _ _ _).trans z.symm) (fun _ => gIs _ _ _ _)) (fun M _ => q2_i (mf_ite (fun _ => mF_50 _ (by omega) _) (fun _ => mF.refl _)) (n_hails M h5 x d)) (by decide) (fun V => by
      conv => rhs; rw [en, rd_yd]
      exact itl (fun z => by
        have X := jc.cx jh.1 jr
        show (paF _ _ _ _ _ _ _ _ _).2.2 = (paF _ _ _ _ _ _ _ _ _).2.2
        rw [V.hl, V.ic, V.th, X.c 1 rfl, paF_c h5 (fun y hy => V.a (a := 1) (by decide) (by decide) (by decide) hy)])) (fun V => by rw [en, rd_yd]) (yd4 _ _ _)

theorem q_made {h : Hp} (j : J h) (a : Int32) (b0 : Int32) (c0 : Int32) (d : Int32) (e : Int32) : PRi h yX8_made cX8_made 7 yX10_made cX10_made 6 (some .int) [.int a, .int b0, .int c0, .int d, .int e] := by
  obtain ⟨⟨jh, jt, jl, t, s, jr, jz | ⟨c, C, K, jc⟩⟩, tr⟩ := id j
  · exact PRi.z j jr jz (m_made (jz.cx jh.1 jr) a b0 c0 d e) (by decide) ((FR_8 _ _).trans (FR_wm _ _ _ _ _ _ _ _)) (gIs _ _ _ _) (fun S hz => q2_r (z_made S hz a b0 c0 d e)) (by decide) (if_pos (wm_im.trans (if_pos (imz _ _ _ _ _)))).symm (if_pos (wm_im.trans (if_pos (imz _ _ _ _ _)))).symm (it4 (by decide) (by decide))
  · have b := jc.2.2.2.1.2.1
    have h5 := jc.2.2.2.2.1
    exact PRi.c j jr jc (m_made (jc.cx jh.1 jr) a b0 c0 d e) (by decide) ((FR_8 _ _).trans (FR_wm _ _ _ _ _ _ _ _)) (gIs _ _ _ _) (fun M _ => q2_e (mF.refl _) (mF_mk _ _ _ _ _ _) (n_made M a b0 c0 d e)) (by decide) (fun V => by
      have X := V
      by_cases zi : imF (nnC C) a b0 c0 d e = 0
      · rw [if_pos zi, wm_im, if_pos zi, if_pos rfl]
      · obtain ⟨z1, z2, z3, z4, z5⟩ := im1 zi
        rw [if_neg zi, V.a (a := 3) (j := pn a) (by decide) (by decide) (by decide) (pnl (show nnC C 2 ≤ 100 by omega) z1), V.a (a := 3) (j := pn c0) (by decide) (by decide) (by decide) (pnl (show nnC C 2 ≤ 100 by omega) z2), V.a (a := 3) (j := pn e) (by decide) (by decide) (by decide) (pnl (show nnC C 2 ≤ 100 by omega) z3), V.dk (by omega) z4, V.dk (by omega) z5, mk_eq, show wmF h t (nnC C) a b0 c0 d e = _ from wm_im.trans (if_neg zi)]
        by_cases zk : mkOk (gI h (t + 4) (pn a)) (dkF (gI h (t + 5)) b0) (gI h (t + 4) (pn c0)) (dkF (gI h (t + 5)) d) (gI h (t + 4) (pn e))
        · rw [b2_t zk]
          obtain ⟨k1, k2⟩ := mk_H _ h zk
          rw [if_neg (by decide), if_neg (by decide), if_neg (by decide), if_pos (by decide), wm_H zi, k1, k2, bc_pc, bc_pc]
        · rw [b2_f zk]
          rw [if_pos rfl, if_pos rfl, if_neg (by decide), if_neg (by decide)]) (fun V => by
      rw [wm_im]
      by_cases zi : imF (nnC C) a b0 c0 d e = 0
      · rw [if_pos zi, if_pos zi, if_pos rfl]
      · rw [if_neg zi, if_neg zi]
        exact (if_neg (by split <;> decide)).symm) (it4 (by decide) (by decide))

theorem q_madeOf {h : Hp} (j : J h) (a : Int32) (b0 : Int32) (c0 : Int32) (d : Int32) (e : Int32) (o : Int32) : PRi h yX8_madeOf cX8_madeOf 8 yX10_madeOf cX10_madeOf 7 (some .int) [.int a, .int b0, .int c0, .int d, .int e, .int o] := by
  obtain ⟨⟨jh, jt, jl, t, s, jr, jz | ⟨c, C, K, jc⟩⟩, tr⟩ := id j
  · exact PRi.z j jr jz (m_madeOf (jz.cx jh.1 jr) a b0 c0 d e o) (by decide) ((FR_8 _ _).trans (FR_wm _ _ _ _ _ _ _ _)) (gIs _ _ _ _) (fun S hz => q2_r (z_madeOf S hz a b0 c0 d e o)) (by decide) (if_neg (by rw [wm_im, if_pos (imz _ _ _ _ _)]; decide)).symm (wm_im.trans (if_pos (imz _ _ _ _ _))).symm (by rw [wm_im]; exact it4 (by decide) (it4 (by decide) (by decide)))
  · have b := jc.2.2.2.1.2.1
    have h5 := jc.2.2.2.2.1
    exact PRi.c j jr jc (m_madeOf (jc.cx jh.1 jr) a b0 c0 d e o) (by decide) ((FR_8 _ _).trans (FR_wm _ _ _ _ _ _ _ _)) (gIs _ _ _ _) (fun M _ => q2_e (mF.refl _) (mF_mk _ _ _ _ _ _) (n_madeOf M a b0 c0 d e o)) (by decide) (fun V => by
      have X := V
      by_cases zi : imF (nnC C) a b0 c0 d e = 0
      · rw [if_pos zi, wm_im, if_pos zi, if_neg (by decide)]
      · obtain ⟨z1, z2, z3, z4, z5⟩ := im1 zi
        rw [if_neg zi, V.a (a := 3) (j := pn a) (by decide) (by decide) (by decide) (pnl (show nnC C 2 ≤ 100 by omega) z1), V.a (a := 3) (j := pn c0) (by decide) (by decide) (by decide) (pnl (show nnC C 2 ≤ 100 by omega) z2), V.a (a := 3) (j := pn e) (by decide) (by decide) (by decide) (pnl (show nnC C 2 ≤ 100 by omega) z3), V.dk (by omega) z4, V.dk (by omega) z5, mk_eq, show wmF h t (nnC C) a b0 c0 d e = _ from wm_im.trans (if_neg zi)]
        by_cases zk : mkOk (gI h (t + 4) (pn a)) (dkF (gI h (t + 5)) b0) (gI h (t + 4) (pn c0)) (dkF (gI h (t + 5)) d) (gI h (t + 4) (pn e))
        · rw [b2_t zk]
          obtain ⟨k1, k2⟩ := mk_H _ h zk
          refine (if_neg (show ¬ (1 : Int32) = 0 by decide)).trans (Eq.trans ?_ (if_pos (show (if (1 : Int32) = 0 then 6 else 0) = (0 : Int32) by decide)).symm)
          rw [wm_H zi, k1, k2]
        · rw [b2_f zk]
          rw [if_pos rfl, if_pos rfl, if_neg (by decide)]) (fun V => by
      have X := V
      by_cases zi : imF (nnC C) a b0 c0 d e = 0
      · rw [if_pos zi, wm_im, if_pos zi]
      · obtain ⟨z1, z2, z3, z4, z5⟩ := im1 zi
        rw [if_neg zi, V.a (a := 3) (j := pn a) (by decide) (by decide) (by decide) (pnl (show nnC C 2 ≤ 100 by omega) z1), V.a (a := 3) (j := pn c0) (by decide) (by decide) (by decide) (pnl (show nnC C 2 ≤ 100 by omega) z2), V.a (a := 3) (j := pn e) (by decide) (by decide) (by decide) (pnl (show nnC C 2 ≤ 100 by omega) z3), V.dk (by omega) z4, V.dk (by omega) z5, mk_eq, show wmF h t (nnC C) a b0 c0 d e = _ from wm_im.trans (if_neg zi)]) (by rw [wm_im]; exact it4 (by decide) (it4 (by decide) (by decide)))

theorem q_putty {h : Hp} (j : J h) (p : Int32) (v : Int32) : PRi h yX8_putty cX8_putty 5 yX10_putty cX10_putty 5 (some .int) [.int p, .int v] := by
  obtain ⟨⟨jh, jt, jl, t, s, jr, jz | ⟨c, C, K, jc⟩⟩, tr⟩ := id j
  · exact PRi.z j jr jz (m_putty (jz.cx jh.1 jr) (C := 0) (by rw [show gI h t 1 = 0 from jz.2.1.2.2.2.1]; exact Int32.zero_mul) (by decide) p v) (by decide) (FR_8 _ _) (gIs _ _ _ _) (fun S hz => q2_r (z_putty S hz p v)) (by decide) (if_neg (by rw [wz]; decide)).symm (wz _ _ _).symm (wn4 _ _ _)
  · have b := jc.2.2.2.1.2.1
    have h5 := jc.2.2.2.2.1
    have D := (jc.vw (FR.refl h)).dm jc.2.2.2.1
    have sb : ∀ p, p < nnC C 1 → ∀ x, dmF C ≤ x → x < 32 → bt (gI h 39 p) x = false := fun p hp x h1 h2 => by
      rw [← ((jc.vw (FR.refl h)).2.2.1 p hp).1]; exact jc.2.2.2.2.2.2.1.2 p hp x h1 h2
    exact PRi.c j jr jc (m_putty (jc.cx jh.1 jr) D.1 D.2 p v) (by decide) (FR_8 _ _) (gIs _ _ _ _) (fun M _ => n_putty M p v) (by decide) (fun V => by
      rw [V.th]
      exact itl (fun z => by
        have hp := pnl (show nnC C 1 ≤ 100 by omega) (wn0 z).1
        rw [V.se (by omega) hp (wn0 z).2.1, show (fun b => fwF (gI (mT (pI h 0 8 (wnF (ipF p (nI (nnC C 1))) (siF v (nI (nnC C 3))) (thF (gI h 38 3) p)))) (c + 3)) b (nnC C 2) 0) = (fun b => fwF (gI h (t + 4)) b (nnC C 2) 0) from funext (fun b => V.fw b)]
        exact pu_eq _ D.2 _ (fun x h1 h2 => by
          show bt ((gI h 39 (pn p) &&& _) &&& _) x = false
          rw [bt_and, bt_and, sb _ hp x h1 h2]; rfl))) (fun V => by rw [V.th]) (wn4 _ _ _)

theorem q_puttyOf {h : Hp} (j : J h) (p : Int32) (v : Int32) : PRi h yX8_puttyOf cX8_puttyOf 5 yX10_puttyOf cX10_puttyOf 5 (some .int) [.int p, .int v] := by
  obtain ⟨⟨jh, jt, jl, t, s, jr, jz | ⟨c, C, K, jc⟩⟩, tr⟩ := id j
  · exact PRi.z j jr jz (m_puttyOf (jz.cx jh.1 jr) (C := 0) (by rw [show gI h t 1 = 0 from jz.2.1.2.2.2.1]; exact Int32.zero_mul) (by decide) p v) (by decide) (FR_8 _ _) (gIs _ _ _ _) (fun S hz => q2_r (z_puttyOf S hz p v)) (by decide) (if_neg (by rw [wz]; decide)).symm (wz _ _ _).symm (wn4 _ _ _)
  · have b := jc.2.2.2.1.2.1
    have h5 := jc.2.2.2.2.1
    have D := (jc.vw (FR.refl h)).dm jc.2.2.2.1
    have sb : ∀ p, p < nnC C 1 → ∀ x, dmF C ≤ x → x < 32 → bt (gI h 39 p) x = false := fun p hp x h1 h2 => by
      rw [← ((jc.vw (FR.refl h)).2.2.1 p hp).1]; exact jc.2.2.2.2.2.2.1.2 p hp x h1 h2
    exact PRi.c j jr jc (m_puttyOf (jc.cx jh.1 jr) D.1 D.2 p v) (by decide) (FR_8 _ _) (gIs _ _ _ _) (fun M _ => n_puttyOf M p v) (by decide) (fun V => by
      rw [V.th]
      exact itl (fun z => by
        have hp := pnl (show nnC C 1 ≤ 100 by omega) (wn0 z).1
        rw [V.se (by omega) hp (wn0 z).2.1, show (fun b => fwF (gI (mT (pI h 0 8 (wnF (ipF p (nI (nnC C 1))) (siF v (nI (nnC C 3))) (thF (gI h 38 3) p)))) (c + 3)) b (nnC C 2) 0) = (fun b => fwF (gI h (t + 4)) b (nnC C 2) 0) from funext (fun b => V.fw b)]
        exact po_eq _ D.2 _ (fun x h1 h2 => by
          show bt ((gI h 39 (pn p) &&& _) &&& _) x = false
          rw [bt_and, bt_and, sb _ hp x h1 h2]; rfl))) (fun V => by rw [V.th]) (wn4 _ _ _)


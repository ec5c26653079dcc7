/-! THE REFERENCE'S PARSER: needs, wholes, names -/
section RR2
variable {d RC RS nL cells slots pc q : Nat} {y : MethodName} {cc : ByteArray} {ret : Option FieldType} {Q : Option Value → Hp → Prop} {lv st : List Value} {h : Hp}
theorem r_v3i {x1 x2 x3 : Value} {a idx ci mL dc : Nat} {yc : MethodName} {bc : ByteArray} {rc : Option FieldType} {Qk : Option Value → Hp → Prop} (hM : gC dc 0 0 yc bc mL rc (.ref a :: [x1, x2, x3]) h Qk) (hl0 : gV y.cls idx yc bc mL rc ci 3) (hd : gd cc pc (.invokevirtual idx) 3 q) (ha : a ∈ gL h) (hk : gK h a = ci) (hdep : Nat.ble (dc + 1) d = true) (hcat : Nat.ble (st.map fun v => v.category).sum 8 = true) (hc : Nat.ble cells RC = true) (hs : Nat.ble slots RS = true) (hQ : ∀ v h', Qk v h' → ∃ r : Int32, v = some (.int r)) (k : ∀ (r : Int32) h', Qk (some (.int r)) h' → gY d RC RS y cc nL ret cells slots Q q lv (.int r :: st) h') : gY d RC RS y cc nL ret cells slots Q pc lv (x3 :: x2 :: x1 :: .ref a :: st) h := g_v3 hM hl0 hd ha hk hdep hcat hc hs (fun v h' e => by obtain ⟨r, rfl⟩ := hQ v h' e; exact k r h' e)
theorem r_v0l {a idx ci mL dc : Nat} {yc : MethodName} {bc : ByteArray} {rc : Option FieldType} {Qk : Option Value → Hp → Prop} (hM : gC dc 0 0 yc bc mL rc (.ref a :: []) h Qk) (hl0 : gV y.cls idx yc bc mL rc ci 0) (hd : gd cc pc (.invokevirtual idx) 3 q) (ha : a ∈ gL h) (hk : gK h a = ci) (hdep : Nat.ble (dc + 1) d = true) (hcat : Nat.ble (st.map fun v => v.category).sum 8 = true) (hc : Nat.ble cells RC = true) (hs : Nat.ble slots RS = true) (hQ : ∀ v h', Qk v h' → ∃ r : Int64, v = some (.long r)) (k : ∀ (r : Int64) h', Qk (some (.long r)) h' → gY d RC RS y cc nL ret cells slots Q q lv (.long r :: st) h') : gY d RC RS y cc nL ret cells slots Q pc lv (.ref a :: st) h := g_v0 hM hl0 hd ha hk hdep hcat hc hs (fun v h' e => by obtain ⟨r, rfl⟩ := hQ v h' e; exact k r h' e)
theorem r_v3u {x1 x2 x3 : Value} {a idx ci mL dc : Nat} {yc : MethodName} {bc : ByteArray} {rc : Option FieldType} {Qk : Option Value → Hp → Prop} (hM : gC dc 0 0 yc bc mL rc (.ref a :: [x1, x2, x3]) h Qk) (hl0 : gV y.cls idx yc bc mL rc ci 3) (hd : gd cc pc (.invokevirtual idx) 3 q) (ha : a ∈ gL h) (hk : gK h a = ci) (hdep : Nat.ble (dc + 1) d = true) (hcat : Nat.ble (st.map fun v => v.category).sum 8 = true) (hc : Nat.ble cells RC = true) (hs : Nat.ble slots RS = true) (hQ : ∀ v h', Qk v h' → v = none) (k : ∀ h', Qk none h' → gY d RC RS y cc nL ret cells slots Q q lv st h') : gY d RC RS y cc nL ret cells slots Q pc lv (x3 :: x2 :: x1 :: .ref a :: st) h := g_v3 hM hl0 hd ha hk hdep hcat hc hs (fun v h' e => by obtain rfl := hQ v h' e; exact k h' e)
end RR2
theorem isP_1 {tx : Nat → Int32} {en q k : Nat} (h : ¬ isP tx en q k = 0) : tkS tx en q = 1 := by
  by_cases z : tkS tx en q = 1
  · exact z
  · exact absurd (if_neg z) h
theorem t5 {tx : Nat → Int32} {en q : Nat} {s : Int32} (h : tkS tx en q = s) (hs : ¬ s = 5) : ¬ tkS tx en q = 5 := by rw [h]; exact hs
theorem RK.n5 {tx : Nat → Int32} {en q : Nat} {h : Hp} (r : RK tx en h q) : ¬ gI h 50 9 = 5 := by rw [r.2.1]; exact rs_5 _
theorem fw5 (h : Hp) (f p : Int32) : gI (fwH h f p) 50 9 = 5 := gIs _ _ _ _
theorem r_needs {tx : Nat → Int32} {en : Nat} {h : Hp} {c : Nat} {K : List Nm} (b : RB tx en h c K) {o : Ex Nat} (s : RSt h o (RKs tx en)) {k k0 : Nat} (hk : k < 36) {x : UInt32} (hx : ¬ x = 0 ∧ x.toNat - 1 = k) (hs : gbt.getD k [] = gbt.getD k0 []) : gC 6 0 0 yX10_needs cX10_needs 2 none [.ref 50, .float x] h (fun v h' => v = none ∧ GQ h' h ∧ RSt h' (o.bind fun q => fxP tx en q k0) (RKs tx en)) := by
  rcases s with ⟨hL, ⟨e, rfl, f⟩ | ⟨q, rfl, r⟩⟩
  · refine g_entry (lv := [.ref 50, .float x]) 0 pn_X10 rfl rfl rfl ?_
    refine g_aL0 dX10_needs_0 ?_
    refine g_sL1 dX10_needs_1 ?_
    refine e_v1i (w_isWord5 b.S f.1 hk hx) lm_X10_126 dX10_needs_2 (b.S.l 50 rfl) (b.S.k 50 rfl rfl) rfl rfl rfl rfl ?_
    refine g_ifne dX10_needs_5 (fun c5 => absurd rfl c5) (fun c5 => ?_)
    refine g_aL0 dX10_needs_8 ?_
    refine g_iconst dX10_needs_9 ?_
    refine e_v1u (d_flaw5 b.S f.1 _) lm_X10_130 dX10_needs_10 (b.S.l 50 rfl) (b.S.k 50 rfl rfl) rfl rfl rfl rfl ?_
    refine g_aL0 dX10_needs_13 ?_
    refine e_v0u (d_goesOn5 b.S f.1) lm_X10_123 dX10_needs_14 (b.S.l 50 rfl) (b.S.k 50 rfl rfl) rfl rfl rfl rfl ?_
    exact g_vret rfl dX10_needs_17 rfl rfl ⟨rfl, GQ.refl _, hL, Or.inl ⟨e, rfl, f⟩⟩
  · refine g_entry (lv := [.ref 50, .float x]) 0 pn_X10 rfl rfl rfl ?_
    refine g_aL0 dX10_needs_0 ?_
    refine g_sL1 dX10_needs_1 ?_
    refine e_v1i (w_isWord b.S b.e2 r hk hx hs) lm_X10_126 dX10_needs_2 (b.S.l 50 rfl) (b.S.k 50 rfl rfl) rfl rfl rfl rfl ?_
    refine g_ifne dX10_needs_5 (fun c5 => ?_) (fun c5 => ?_)
    · refine g_aL0 dX10_needs_13 ?_
      refine r_v0u (r_goesOn b (o := .ok q) ⟨hL, Or.inr ⟨q, rfl, r⟩⟩ (fun q' z => by cases z; exact t5 (isP_1 c5) (by decide))) lm_X10_123 dX10_needs_14 (b.S.l 50 rfl) (b.S.k 50 rfl rfl) rfl rfl rfl rfl (fun v h' z => z.1) (fun h1 z => ?_)
      obtain ⟨-, k1, s1⟩ := z
      exact g_vret rfl dX10_needs_17 rfl rfl ⟨rfl, k1, s1.1, s1.2.imp (fun ⟨e, z, _⟩ => by cases z) (fun ⟨a, z, y⟩ => ⟨a, (if_neg c5).trans z, y⟩)⟩
    · refine g_aL0 dX10_needs_8 ?_
      refine g_iconst dX10_needs_9 ?_
      refine e_v1u (d_flaw0 b.S r.n5 _) lm_X10_130 dX10_needs_10 (b.S.l 50 rfl) (b.S.k 50 rfl rfl) rfl rfl rfl rfl ?_
      refine g_aL0 dX10_needs_13 ?_
      refine e_v0u (d_goesOn5 ((GQ_fw h _ _).S b.S) (fw5 _ _ _)) lm_X10_123 dX10_needs_14 (b.S.l 50 rfl) (b.S.k 50 rfl rfl) rfl rfl rfl rfl ?_
      exact g_vret rfl dX10_needs_17 rfl rfl ⟨rfl, GQ_fw _ _ _, LB_fw hL _ _, Or.inl ⟨(1, tkP tx en q), if_pos c5, RF_fw r (by decide)⟩⟩
theorem inF_0 {x a b : Int32} (h : inF x a b = 0) : x < a ∨ b < x := by
  unfold inF at h
  by_cases z : x < a
  · exact Or.inl z
  · rw [if_neg z] at h
    by_cases y : b < x
    · exact Or.inr y
    · rw [if_neg y] at h; exact absurd h (by decide)
theorem inF_1 {x a b : Int32} (h : ¬ inF x a b = 0) : ¬ x < a ∧ x ≤ b := by
  unfold inF at h
  by_cases z : x < a
  · rw [if_pos z] at h; exact absurd rfl h
  · rw [if_neg z] at h
    by_cases y : b < x
    · rw [if_pos y] at h; exact absurd rfl h
    · exact ⟨z, Int32.not_lt.mp y⟩
theorem nw_4 {tx : Nat → Int32} {en q : Nat} {lo hi : Int32} (h2 : tkS tx en q = 2) (h : inF (vlP tx en q) lo hi = 0) : nwP tx en q lo hi = er tx en 4 q := by
  unfold nwP
  rw [if_pos h2]
  rcases inF_0 h with z | z
  · exact if_pos z
  · by_cases y : vlP tx en q < lo
    · exact if_pos y
    · rw [if_neg y]; exact if_neg (fun x => Int32.not_lt.mpr x z)
theorem nw_ok {tx : Nat → Int32} {en q : Nat} {lo hi : Int32} (h2 : tkS tx en q = 2) (h : ¬ inF (vlP tx en q) lo hi = 0) : nwP tx en q lo hi = .ok (vlP tx en q, nx tx en q) := by
  unfold nwP
  rw [if_pos h2, if_neg (inF_1 h).1]
  exact if_pos (inF_1 h).2
theorem r_readWhole {tx : Nat → Int32} {en : Nat} {h : Hp} {c : Nat} {K : List Nm} (b : RB tx en h c K) {o : Ex Nat} (s : RSt h o (RKs tx en)) (lo hi : Int32) : gC 2 0 0 yX10_readWhole cX10_readWhole 4 (some .int) [.ref 50, .int lo, .int hi] h (fun v h' => ∃ x : Int32, v = some (.int x) ∧ GQ h' h ∧ RSt h' (o.bind fun q => nwP tx en q lo hi) (fun y g => RK tx en g y.2 ∧ x = y.1)) := by
  rcases s with ⟨hL, ⟨e, rfl, f⟩ | ⟨q, rfl, r⟩⟩
  · refine g_entry (lv := [.ref 50, .int lo, .int hi, .retAddr 0]) 1 pn_X10 rfl rfl rfl ?_
    refine g_aL0 dX10_readWhole_0 ?_
    refine g_gI lf_X10_71 (b.S.l 50 rfl) (b.S.k 50 rfl rfl) dX10_readWhole_1 ?_
    refine g_iconst dX10_readWhole_4 ?_
    refine g_iceq dX10_readWhole_5 (fun c5 => absurd (c5.symm.trans f.1) (by decide)) (fun c5 => ?_)
    refine g_aL0 dX10_readWhole_8 ?_
    refine g_iconst dX10_readWhole_9 ?_
    refine e_v1u (d_flaw5 b.S f.1 _) lm_X10_130 dX10_readWhole_10 (b.S.l 50 rfl) (b.S.k 50 rfl rfl) rfl rfl rfl rfl ?_
    refine g_goto dX10_readWhole_13 ?_
    refine g_aL0 dX10_readWhole_33 ?_
    refine g_gI lf_X10_71 (b.S.l 50 rfl) (b.S.k 50 rfl rfl) dX10_readWhole_34 ?_
    refine g_iconst dX10_readWhole_37 ?_
    refine g_icne dX10_readWhole_38 (fun c38 => absurd f.1 c38) (fun c38 => ?_)
    refine g_iL1 dX10_readWhole_41 ?_
    refine g_goto dX10_readWhole_42 ?_
    refine g_iS3 dX10_readWhole_49 rfl rfl ?_
    refine g_aL0 dX10_readWhole_50 ?_
    refine e_v0u (d_goesOn5 b.S f.1) lm_X10_123 dX10_readWhole_51 (b.S.l 50 rfl) (b.S.k 50 rfl rfl) rfl rfl rfl rfl ?_
    refine g_iL3 dX10_readWhole_54 ?_
    exact g_iret rfl dX10_readWhole_55 rfl rfl ⟨_, rfl, GQ.refl _, hL, Or.inl ⟨e, rfl, f⟩⟩
  · refine g_entry (lv := [.ref 50, .int lo, .int hi, .retAddr 0]) 1 pn_X10 rfl rfl rfl ?_
    refine g_aL0 dX10_readWhole_0 ?_
    refine g_gI lf_X10_71 (b.S.l 50 rfl) (b.S.k 50 rfl rfl) dX10_readWhole_1 ?_
    refine g_iconst dX10_readWhole_4 ?_
    refine g_iceq dX10_readWhole_5 (fun c5 => ?_) (fun c5 => ?_)
    · have h2 : tkS tx en q = 2 := (rs_3 _).mp (r.2.1 ▸ c5)
      refine g_aL0 dX10_readWhole_16 ?_
      refine g_gI lf_X10_103 (b.S.l 50 rfl) (b.S.k 50 rfl rfl) dX10_readWhole_17 ?_
      rw [r.2.2.2.2.2.2.1 h2]
      refine g_iL1 dX10_readWhole_20 ?_
      refine g_iL2 dX10_readWhole_21 ?_
      refine e_s3i (d_in _ _ _) lm_X10_134 dX10_readWhole_22 rfl rfl rfl rfl ?_
      refine g_ifne dX10_readWhole_25 (fun c25 => ?_) (fun c25 => ?_)
      · refine g_aL0 dX10_readWhole_33 ?_
        refine g_gI lf_X10_71 (b.S.l 50 rfl) (b.S.k 50 rfl rfl) dX10_readWhole_34 ?_
        refine g_iconst dX10_readWhole_37 ?_
        refine g_icne dX10_readWhole_38 (fun c38 => ?_) (fun c38 => absurd c38 r.n5)
        refine g_aL0 dX10_readWhole_45 ?_
        refine g_gI lf_X10_103 (b.S.l 50 rfl) (b.S.k 50 rfl rfl) dX10_readWhole_46 ?_
        refine g_iS3 dX10_readWhole_49 rfl rfl ?_
        refine g_aL0 dX10_readWhole_50 ?_
        refine r_v0u (r_goesOn b (o := .ok q) ⟨hL, Or.inr ⟨q, rfl, r⟩⟩ (fun q' z => by cases z; exact t5 ((rs_3 _).mp (r.2.1 ▸ c5)) (by decide))) lm_X10_123 dX10_readWhole_51 (b.S.l 50 rfl) (b.S.k 50 rfl rfl) rfl rfl rfl rfl (fun v h' z => z.1) (fun h1 z => ?_)
        obtain ⟨-, k1, s1⟩ := z
        refine g_iL3 dX10_readWhole_54 ?_
        exact g_iret rfl dX10_readWhole_55 rfl rfl ⟨_, rfl, k1, s1.1, s1.2.imp (fun ⟨e, z, _⟩ => by cases z) (fun ⟨a, z, y⟩ => ⟨(vlP tx en q, a), by cases z; exact nw_ok h2 c25, y, r.2.2.2.2.2.2.1 h2⟩)⟩
      · refine g_aL0 dX10_readWhole_28 ?_
        refine g_iconst dX10_readWhole_29 ?_
        refine e_v1u (d_flaw0 b.S r.n5 _) lm_X10_130 dX10_readWhole_30 (b.S.l 50 rfl) (b.S.k 50 rfl rfl) rfl rfl rfl rfl ?_
        refine g_aL0 dX10_readWhole_33 ?_
        refine g_gI lf_X10_71 (((GQ_fw h _ _).S b.S).l 50 rfl) (((GQ_fw h _ _).S b.S).k 50 rfl rfl) dX10_readWhole_34 ?_
        refine g_iconst dX10_readWhole_37 ?_
        refine g_icne dX10_readWhole_38 (fun c38 => absurd (fw5 _ _ _) c38) (fun c38 => ?_)
        refine g_iL1 dX10_readWhole_41 ?_
        refine g_goto dX10_readWhole_42 ?_
        refine g_iS3 dX10_readWhole_49 rfl rfl ?_
        refine g_aL0 dX10_readWhole_50 ?_
        refine e_v0u (d_goesOn5 ((GQ_fw h _ _).S b.S) (fw5 _ _ _)) lm_X10_123 dX10_readWhole_51 (((GQ_fw h _ _).S b.S).l 50 rfl) (((GQ_fw h _ _).S b.S).k 50 rfl rfl) rfl rfl rfl rfl ?_
        refine g_iL3 dX10_readWhole_54 ?_
        exact g_iret rfl dX10_readWhole_55 rfl rfl ⟨_, rfl, GQ_fw _ _ _, LB_fw hL _ _, Or.inl ⟨(4, tkP tx en q), nw_4 h2 c25, RF_fw r (by decide)⟩⟩
    · refine g_aL0 dX10_readWhole_8 ?_
      refine g_iconst dX10_readWhole_9 ?_
      refine e_v1u (d_flaw0 b.S r.n5 _) lm_X10_130 dX10_readWhole_10 (b.S.l 50 rfl) (b.S.k 50 rfl rfl) rfl rfl rfl rfl ?_
      refine g_goto dX10_readWhole_13 ?_
      refine g_aL0 dX10_readWhole_33 ?_
      refine g_gI lf_X10_71 (((GQ_fw h _ _).S b.S).l 50 rfl) (((GQ_fw h _ _).S b.S).k 50 rfl rfl) dX10_readWhole_34 ?_
      refine g_iconst dX10_readWhole_37 ?_
      refine g_icne dX10_readWhole_38 (fun c38 => absurd (fw5 _ _ _) c38) (fun c38 => ?_)
      refine g_iL1 dX10_readWhole_41 ?_
      refine g_goto dX10_readWhole_42 ?_
      refine g_iS3 dX10_readWhole_49 rfl rfl ?_
      refine g_aL0 dX10_readWhole_50 ?_
      refine e_v0u (d_goesOn5 ((GQ_fw h _ _).S b.S) (fw5 _ _ _)) lm_X10_123 dX10_readWhole_51 (((GQ_fw h _ _).S b.S).l 50 rfl) (((GQ_fw h _ _).S b.S).k 50 rfl rfl) rfl rfl rfl rfl ?_
      refine g_iL3 dX10_readWhole_54 ?_
      exact g_iret rfl dX10_readWhole_55 rfl rfl ⟨_, rfl, GQ_fw _ _ _, LB_fw hL _ _, Or.inl ⟨(1, tkP tx en q), if_neg (fun z => c5 (r.2.1.trans ((rs_3 _).mpr z))), RF_fw r (by decide)⟩⟩
theorem r_readPart {tx : Nat → Int32} {en : Nat} {h : Hp} {c : Nat} {K : List Nm} (b : RB tx en h c K) {o : Ex Nat} (s : RSt h o (RKs tx en)) {k k0 : Nat} (hk : k < 36) {x : UInt32} (hx : ¬ x = 0 ∧ x.toNat - 1 = k) (hs : gbt.getD k [] = gbt.getD k0 []) (lo hi : Int32) : gC 7 0 0 yX10_readPart cX10_readPart 4 (some .int) [.ref 50, .float x, .int lo, .int hi] h (fun v h' => ∃ x : Int32, v = some (.int x) ∧ GQ h' h ∧ RSt h' ((o.bind fun q => fxP tx en q k0).bind fun q => nwP tx en q lo hi) (fun y g => RK tx en g y.2 ∧ x = y.1)) := by
  refine g_entry (lv := [.ref 50, .float x, .int lo, .int hi]) 0 pn_X10 rfl rfl rfl ?_
  refine g_aL0 dX10_readPart_0 ?_
  refine g_sL1 dX10_readPart_1 ?_
  refine r_v1u (r_needs b s hk hx hs) lm_X10_138 dX10_readPart_2 (b.S.l 50 rfl) (b.S.k 50 rfl rfl) rfl rfl rfl rfl (fun v h' z => z.1) (fun h1 z => ?_)
  obtain ⟨-, k1, s1⟩ := z
  have b1 := b.go k1
  refine g_aL0 dX10_readPart_5 ?_
  refine g_iL2 dX10_readPart_6 ?_
  refine g_iL3 dX10_readPart_7 ?_
  refine r_v2i (r_readWhole b1 s1 lo hi) lm_X10_142 dX10_readPart_8 (b1.S.l 50 rfl) (b1.S.k 50 rfl rfl) rfl rfl rfl rfl (fun v h' z => ⟨_, z.choose_spec.1⟩) (fun rv h1 z => ?_)
  obtain ⟨xv, z0, k2, s2⟩ := z
  obtain rfl := Value.int.inj (Option.some.inj z0)
  exact g_iret rfl dX10_readPart_11 rfl rfl ⟨_, rfl, k2.trans k1, s2⟩
def inM (tx : Nat → Int32) (en q : Nat) : Int32 := if tkS tx en q = 1 then (if lsF tx en q = -1 then 1 else 0) else 0
theorem d_isName {tx : Nat → Int32} {en : Nat} {h : Hp} {c : Nat} {K : List Nm} (b : RB tx en h c K) {q : Nat} (r : RK tx en h q) : gCi 6 0 0 yX10_isName cX10_isName 1 (some .boolean) [.ref 50] h (some (.int (inM tx en q))) h := by
  refine g_entry (lv := [.ref 50]) 0 pn_X10 rfl rfl rfl ?_
  refine g_aL0 dX10_isName_0 ?_
  refine g_gI lf_X10_71 (b.S.l 50 rfl) (b.S.k 50 rfl rfl) dX10_isName_1 ?_
  refine g_iconst dX10_isName_4 ?_
  refine g_icne dX10_isName_5 (fun c5 => ?_) (fun c5 => ?_)
  · refine g_iconst dX10_isName_62 ?_
    exact e_zret rfl (by decide) dX10_isName_63 rfl rfl (if_neg (fun z => c5 (r.2.1.trans ((rs_2 _).mpr z)))).symm rfl
  · refine g_aL0 dX10_isName_8 ?_
    refine g_ldcS (tx := "city") (n := 18) (x := 19) (List.mem_of_getElem? (i := 18) rfl) (by decide) dX10_isName_9 ?_
    refine e_v1i (w_isWord b.S b.e2 r (k := 18) (k0 := 0) (by decide) (by decide) rfl) lm_X10_126 dX10_isName_11 (b.S.l 50 rfl) (b.S.k 50 rfl rfl) rfl rfl rfl rfl ?_
    refine g_ifne dX10_isName_14 (fun c14 => ?_) (fun c14 => ?_)
    · refine g_iconst dX10_isName_62 ?_
      exact e_zret rfl (by decide) dX10_isName_63 rfl rfl ((if_pos ((rs_2 _).mp (r.2.1 ▸ c5))).trans (if_neg (by rw [show lsF tx en q = _ from (if_neg c14)]; decide))).symm rfl
    · refine g_aL0 dX10_isName_17 ?_
      refine g_ldcS (tx := "pane") (n := 23) (x := 24) (List.mem_of_getElem? (i := 23) rfl) (by decide) dX10_isName_18 ?_
      refine e_v1i (w_isWord b.S b.e2 r (k := 23) (k0 := 1) (by decide) (by decide) rfl) lm_X10_126 dX10_isName_20 (b.S.l 50 rfl) (b.S.k 50 rfl rfl) rfl rfl rfl rfl ?_
      refine g_ifne dX10_isName_23 (fun c23 => ?_) (fun c23 => ?_)
      · refine g_iconst dX10_isName_62 ?_
        exact e_zret rfl (by decide) dX10_isName_63 rfl rfl ((if_pos ((rs_2 _).mp (r.2.1 ▸ c5))).trans (if_neg (by rw [show lsF tx en q = _ from ((if_pos c14).trans (if_neg c23))]; decide))).symm rfl
      · refine g_aL0 dX10_isName_26 ?_
        refine g_ldcS (tx := "word") (n := 24) (x := 25) (List.mem_of_getElem? (i := 24) rfl) (by decide) dX10_isName_27 ?_
        refine e_v1i (w_isWord b.S b.e2 r (k := 24) (k0 := 2) (by decide) (by decide) rfl) lm_X10_126 dX10_isName_29 (b.S.l 50 rfl) (b.S.k 50 rfl rfl) rfl rfl rfl rfl ?_
        refine g_ifne dX10_isName_32 (fun c32 => ?_) (fun c32 => ?_)
        · refine g_iconst dX10_isName_62 ?_
          exact e_zret rfl (by decide) dX10_isName_63 rfl rfl ((if_pos ((rs_2 _).mp (r.2.1 ▸ c5))).trans (if_neg (by rw [show lsF tx en q = _ from ((if_pos c14).trans ((if_pos c23).trans (if_neg c32)))]; decide))).symm rfl
        · refine g_aL0 dX10_isName_35 ?_
          refine g_ldcS (tx := "view") (n := 25) (x := 26) (List.mem_of_getElem? (i := 25) rfl) (by decide) dX10_isName_36 ?_
          refine e_v1i (w_isWord b.S b.e2 r (k := 25) (k0 := 3) (by decide) (by decide) rfl) lm_X10_126 dX10_isName_38 (b.S.l 50 rfl) (b.S.k 50 rfl rfl) rfl rfl rfl rfl ?_
          refine g_ifne dX10_isName_41 (fun c41 => ?_) (fun c41 => ?_)
          · refine g_iconst dX10_isName_62 ?_
            exact e_zret rfl (by decide) dX10_isName_63 rfl rfl ((if_pos ((rs_2 _).mp (r.2.1 ▸ c5))).trans (if_neg (by rw [show lsF tx en q = _ from ((if_pos c14).trans ((if_pos c23).trans ((if_pos c32).trans (if_neg c41))))]; decide))).symm rfl
          · refine g_aL0 dX10_isName_44 ?_
            refine g_ldcS (tx := "corner") (n := 26) (x := 27) (List.mem_of_getElem? (i := 26) rfl) (by decide) dX10_isName_45 ?_
            refine e_v1i (w_isWord b.S b.e2 r (k := 26) (k0 := 4) (by decide) (by decide) rfl) lm_X10_126 dX10_isName_47 (b.S.l 50 rfl) (b.S.k 50 rfl rfl) rfl rfl rfl rfl ?_
            refine g_ifne dX10_isName_50 (fun c50 => ?_) (fun c50 => ?_)
            · refine g_iconst dX10_isName_62 ?_
              exact e_zret rfl (by decide) dX10_isName_63 rfl rfl ((if_pos ((rs_2 _).mp (r.2.1 ▸ c5))).trans (if_neg (by rw [show lsF tx en q = _ from ((if_pos c14).trans ((if_pos c23).trans ((if_pos c32).trans ((if_pos c41).trans (if_neg c50)))))]; decide))).symm rfl
            · refine g_aL0 dX10_isName_53 ?_
              refine g_ldcS (tx := "street") (n := 27) (x := 28) (List.mem_of_getElem? (i := 27) rfl) (by decide) dX10_isName_54 ?_
              refine e_v1i (w_isWord b.S b.e2 r (k := 27) (k0 := 5) (by decide) (by decide) rfl) lm_X10_126 dX10_isName_56 (b.S.l 50 rfl) (b.S.k 50 rfl rfl) rfl rfl rfl rfl ?_
              refine g_ifeq dX10_isName_59 (fun c59 => ?_) (fun c59 => ?_)
              · refine g_aL0 dX10_isName_64 ?_
                refine g_ldcS (tx := "thief") (n := 28) (x := 29) (List.mem_of_getElem? (i := 28) rfl) (by decide) dX10_isName_65 ?_
                refine e_v1i (w_isWord b.S b.e2 r (k := 28) (k0 := 6) (by decide) (by decide) rfl) lm_X10_126 dX10_isName_67 (b.S.l 50 rfl) (b.S.k 50 rfl rfl) rfl rfl rfl rfl ?_
                refine g_ifne dX10_isName_70 (fun c70 => ?_) (fun c70 => ?_)
                · refine g_iconst dX10_isName_113 ?_
                  exact e_zret rfl (by decide) dX10_isName_114 rfl rfl ((if_pos ((rs_2 _).mp (r.2.1 ▸ c5))).trans (if_neg (by rw [show lsF tx en q = _ from ((if_pos c14).trans ((if_pos c23).trans ((if_pos c32).trans ((if_pos c41).trans ((if_pos c50).trans ((if_pos c59).trans (if_neg c70)))))))]; decide))).symm rfl
                · refine g_aL0 dX10_isName_73 ?_
                  refine g_ldcS (tx := "sent") (n := 29) (x := 30) (List.mem_of_getElem? (i := 29) rfl) (by decide) dX10_isName_74 ?_
                  refine e_v1i (w_isWord b.S b.e2 r (k := 29) (k0 := 7) (by decide) (by decide) rfl) lm_X10_126 dX10_isName_76 (b.S.l 50 rfl) (b.S.k 50 rfl rfl) rfl rfl rfl rfl ?_
                  refine g_ifne dX10_isName_79 (fun c79 => ?_) (fun c79 => ?_)
                  · refine g_iconst dX10_isName_113 ?_
                    exact e_zret rfl (by decide) dX10_isName_114 rfl rfl ((if_pos ((rs_2 _).mp (r.2.1 ▸ c5))).trans (if_neg (by rw [show lsF tx en q = _ from ((if_pos c14).trans ((if_pos c23).trans ((if_pos c32).trans ((if_pos c41).trans ((if_pos c50).trans ((if_pos c59).trans ((if_pos c70).trans (if_neg c79))))))))]; decide))).symm rfl
                  · refine g_aL0 dX10_isName_82 ?_
                    refine g_ldcS (tx := "person") (n := 30) (x := 31) (List.mem_of_getElem? (i := 30) rfl) (by decide) dX10_isName_83 ?_
                    refine e_v1i (w_isWord b.S b.e2 r (k := 30) (k0 := 8) (by decide) (by decide) rfl) lm_X10_126 dX10_isName_85 (b.S.l 50 rfl) (b.S.k 50 rfl rfl) rfl rfl rfl rfl ?_
                    refine g_ifne dX10_isName_88 (fun c88 => ?_) (fun c88 => ?_)
                    · refine g_iconst dX10_isName_113 ?_
                      exact e_zret rfl (by decide) dX10_isName_114 rfl rfl ((if_pos ((rs_2 _).mp (r.2.1 ▸ c5))).trans (if_neg (by rw [show lsF tx en q = _ from ((if_pos c14).trans ((if_pos c23).trans ((if_pos c32).trans ((if_pos c41).trans ((if_pos c50).trans ((if_pos c59).trans ((if_pos c70).trans ((if_pos c79).trans (if_neg c88)))))))))]; decide))).symm rfl
                    · refine g_aL0 dX10_isName_91 ?_
                      refine g_ldcS (tx := "shard") (n := 31) (x := 32) (List.mem_of_getElem? (i := 31) rfl) (by decide) dX10_isName_92 ?_
                      refine e_v1i (w_isWord b.S b.e2 r (k := 31) (k0 := 9) (by decide) (by decide) rfl) lm_X10_126 dX10_isName_94 (b.S.l 50 rfl) (b.S.k 50 rfl rfl) rfl rfl rfl rfl ?_
                      refine g_ifne dX10_isName_97 (fun c97 => ?_) (fun c97 => ?_)
                      · refine g_iconst dX10_isName_113 ?_
                        exact e_zret rfl (by decide) dX10_isName_114 rfl rfl ((if_pos ((rs_2 _).mp (r.2.1 ▸ c5))).trans (if_neg (by rw [show lsF tx en q = _ from ((if_pos c14).trans ((if_pos c23).trans ((if_pos c32).trans ((if_pos c41).trans ((if_pos c50).trans ((if_pos c59).trans ((if_pos c70).trans ((if_pos c79).trans ((if_pos c88).trans (if_neg c97))))))))))]; decide))).symm rfl
                      · refine g_aL0 dX10_isName_100 ?_
                        refine g_ldcS (tx := "shelf") (n := 32) (x := 33) (List.mem_of_getElem? (i := 32) rfl) (by decide) dX10_isName_101 ?_
                        refine e_v1i (w_isWord b.S b.e2 r (k := 32) (k0 := 10) (by decide) (by decide) rfl) lm_X10_126 dX10_isName_103 (b.S.l 50 rfl) (b.S.k 50 rfl rfl) rfl rfl rfl rfl ?_
                        refine g_ifne dX10_isName_106 (fun c106 => ?_) (fun c106 => ?_)
                        · refine g_iconst dX10_isName_113 ?_
                          exact e_zret rfl (by decide) dX10_isName_114 rfl rfl ((if_pos ((rs_2 _).mp (r.2.1 ▸ c5))).trans (if_neg (by rw [show lsF tx en q = _ from ((if_pos c14).trans ((if_pos c23).trans ((if_pos c32).trans ((if_pos c41).trans ((if_pos c50).trans ((if_pos c59).trans ((if_pos c70).trans ((if_pos c79).trans ((if_pos c88).trans ((if_pos c97).trans (if_neg c106)))))))))))]; decide))).symm rfl
                        · refine g_iconst dX10_isName_109 ?_
                          refine g_goto dX10_isName_110 ?_
                          exact e_zret rfl (by decide) dX10_isName_114 rfl rfl ((if_pos ((rs_2 _).mp (r.2.1 ▸ c5))).trans (if_pos ((if_pos c14).trans ((if_pos c23).trans ((if_pos c32).trans ((if_pos c41).trans ((if_pos c50).trans ((if_pos c59).trans ((if_pos c70).trans ((if_pos c79).trans ((if_pos c88).trans ((if_pos c97).trans (if_pos c106))))))))))))).symm rfl
              · refine g_iconst dX10_isName_62 ?_
                exact e_zret rfl (by decide) dX10_isName_63 rfl rfl ((if_pos ((rs_2 _).mp (r.2.1 ▸ c5))).trans (if_neg (by rw [show lsF tx en q = _ from ((if_pos c14).trans ((if_pos c23).trans ((if_pos c32).trans ((if_pos c41).trans ((if_pos c50).trans (if_neg c59))))))]; decide))).symm rfl
theorem d_isName5 {h : Hp} (S : SX h) (hs : gI h 50 9 = 5) : gCi 6 0 0 yX10_isName cX10_isName 1 (some .boolean) [.ref 50] h (some (.int 0)) h := by
  refine g_entry (lv := [.ref 50]) 0 pn_X10 rfl rfl rfl ?_
  refine g_aL0 dX10_isName_0 ?_
  refine g_gI lf_X10_71 (S.l 50 rfl) (S.k 50 rfl rfl) dX10_isName_1 ?_
  refine g_iconst dX10_isName_4 ?_
  refine g_icne dX10_isName_5 (fun c5 => ?_) (fun c5 => absurd (hs.symm.trans c5) (by decide))
  refine g_iconst dX10_isName_62 ?_
  exact e_zret rfl (by decide) dX10_isName_63 rfl rfl rfl rfl
theorem inM_0 {tx : Nat → Int32} {en q : Nat} (h : inM tx en q = 0) : ¬ (tkS tx en q = 1 ∧ lsF tx en q = -1) := by
  intro ⟨a, z⟩
  unfold inM at h
  rw [if_pos a, if_pos z] at h
  exact absurd h (by decide)
theorem inM_1 {tx : Nat → Int32} {en q : Nat} (h : ¬ inM tx en q = 0) : tkS tx en q = 1 ∧ lsF tx en q = -1 := by
  unfold inM at h
  by_cases a : tkS tx en q = 1
  · rw [if_pos a] at h
    by_cases z : lsF tx en q = -1
    · exact ⟨a, z⟩
    · rw [if_neg z] at h; exact absurd rfl h
  · rw [if_neg a] at h; exact absurd rfl h
theorem r_begins {tx : Nat → Int32} {en : Nat} {h : Hp} {c : Nat} {K : List Nm} (b : RB tx en h c K) {o : Ex Nat} (s : RSt h o (RKs tx en)) (h5 : ∀ q, o = .ok q → ¬ tkS tx en q = 5) {wd : Int32} (hw : gI h c 0 = wd) (many most : Int32) : gC 2 0 0 yX10_begins cX10_begins 3 none [.ref 50, .int many, .int most] h (fun v h' => v = none ∧ GQ h' h ∧ RSt h' (o.bind fun q => (if many = most then er tx en 5 q else if wd = 0 then er tx en 6 q else .ok (nx tx en q))) (RKs tx en)) := by
  rcases s with ⟨hL, ⟨e, rfl, f⟩ | ⟨q, rfl, r⟩⟩
  · refine g_entry (lv := [.ref 50, .int many, .int most]) 0 pn_X10 rfl rfl rfl ?_
    refine g_iL1 dX10_begins_0 ?_
    refine g_iL2 dX10_begins_1 ?_
    refine g_icne dX10_begins_2 (fun c2 => ?_) (fun c2 => ?_)
    · refine g_aL0 dX10_begins_10 ?_
      refine g_getR lf_X10_167 (b.S.l 50 rfl) (b.S.k 50 rfl rfl) b.C dX10_begins_11 ?_
      refine g_gI lf_X10_171 (b.M.l 0 rfl) (b.M.k 0 rfl rfl) dX10_begins_14 ?_
      refine g_ifne dX10_begins_17 (fun c17 => ?_) (fun c17 => ?_)
      · refine g_aL0 dX10_begins_26 ?_
        refine e_v0u (d_goesOn5 b.S f.1) lm_X10_123 dX10_begins_27 (b.S.l 50 rfl) (b.S.k 50 rfl rfl) rfl rfl rfl rfl ?_
        exact g_vret rfl dX10_begins_30 rfl rfl ⟨rfl, GQ.refl _, hL, Or.inl ⟨e, rfl, f⟩⟩
      · refine g_aL0 dX10_begins_20 ?_
        refine g_bipush dX10_begins_21 ?_
        refine e_v1u (d_flaw5 b.S f.1 _) lm_X10_130 dX10_begins_23 (b.S.l 50 rfl) (b.S.k 50 rfl rfl) rfl rfl rfl rfl ?_
        refine g_aL0 dX10_begins_26 ?_
        refine e_v0u (d_goesOn5 b.S f.1) lm_X10_123 dX10_begins_27 (b.S.l 50 rfl) (b.S.k 50 rfl rfl) rfl rfl rfl rfl ?_
        exact g_vret rfl dX10_begins_30 rfl rfl ⟨rfl, GQ.refl _, hL, Or.inl ⟨e, rfl, f⟩⟩
    · refine g_aL0 dX10_begins_5 ?_
      refine g_iconst dX10_begins_6 ?_
      refine e_v1u (d_flaw5 b.S f.1 _) lm_X10_130 dX10_begins_7 (b.S.l 50 rfl) (b.S.k 50 rfl rfl) rfl rfl rfl rfl ?_
      refine g_aL0 dX10_begins_10 ?_
      refine g_getR lf_X10_167 (b.S.l 50 rfl) (b.S.k 50 rfl rfl) b.C dX10_begins_11 ?_
      refine g_gI lf_X10_171 (b.M.l 0 rfl) (b.M.k 0 rfl rfl) dX10_begins_14 ?_
      refine g_ifne dX10_begins_17 (fun c17 => ?_) (fun c17 => ?_)
      · refine g_aL0 dX10_begins_26 ?_
        refine e_v0u (d_goesOn5 b.S f.1) lm_X10_123 dX10_begins_27 (b.S.l 50 rfl) (b.S.k 50 rfl rfl) rfl rfl rfl rfl ?_
        exact g_vret rfl dX10_begins_30 rfl rfl ⟨rfl, GQ.refl _, hL, Or.inl ⟨e, rfl, f⟩⟩
      · refine g_aL0 dX10_begins_20 ?_
        refine g_bipush dX10_begins_21 ?_
        refine e_v1u (d_flaw5 b.S f.1 _) lm_X10_130 dX10_begins_23 (b.S.l 50 rfl) (b.S.k 50 rfl rfl) rfl rfl rfl rfl ?_
        refine g_aL0 dX10_begins_26 ?_
        refine e_v0u (d_goesOn5 b.S f.1) lm_X10_123 dX10_begins_27 (b.S.l 50 rfl) (b.S.k 50 rfl rfl) rfl rfl rfl rfl ?_
        exact g_vret rfl dX10_begins_30 rfl rfl ⟨rfl, GQ.refl _, hL, Or.inl ⟨e, rfl, f⟩⟩
  · refine g_entry (lv := [.ref 50, .int many, .int most]) 0 pn_X10 rfl rfl rfl ?_
    refine g_iL1 dX10_begins_0 ?_
    refine g_iL2 dX10_begins_1 ?_
    refine g_icne dX10_begins_2 (fun c2 => ?_) (fun c2 => ?_)
    · refine g_aL0 dX10_begins_10 ?_
      refine g_getR lf_X10_167 (b.S.l 50 rfl) (b.S.k 50 rfl rfl) b.C dX10_begins_11 ?_
      refine g_gI lf_X10_171 (b.M.l 0 rfl) (b.M.k 0 rfl rfl) dX10_begins_14 ?_
      rw [hw]
      refine g_ifne dX10_begins_17 (fun c17 => ?_) (fun c17 => ?_)
      · refine g_aL0 dX10_begins_26 ?_
        refine r_v0u (r_goesOn b (o := .ok q) ⟨hL, Or.inr ⟨q, rfl, r⟩⟩ (fun q' z => by cases z; exact h5 q rfl)) lm_X10_123 dX10_begins_27 (b.S.l 50 rfl) (b.S.k 50 rfl rfl) rfl rfl rfl rfl (fun v h' z => z.1) (fun h1 z => ?_)
        obtain ⟨-, k1, s1⟩ := z
        exact g_vret rfl dX10_begins_30 rfl rfl ⟨rfl, k1, s1.1, s1.2.imp (fun ⟨e, z, _⟩ => by cases z) (fun ⟨a, z, y⟩ => ⟨a, (if_neg c2).trans ((if_neg c17).trans z), y⟩)⟩
      · refine g_aL0 dX10_begins_20 ?_
        refine g_bipush dX10_begins_21 ?_
        refine e_v1u (d_flaw0 b.S r.n5 _) lm_X10_130 dX10_begins_23 (b.S.l 50 rfl) (b.S.k 50 rfl rfl) rfl rfl rfl rfl ?_
        refine g_aL0 dX10_begins_26 ?_
        refine e_v0u (d_goesOn5 ((GQ_fw h _ _).S b.S) (fw5 _ _ _)) lm_X10_123 dX10_begins_27 (b.S.l 50 rfl) (b.S.k 50 rfl rfl) rfl rfl rfl rfl ?_
        exact g_vret rfl dX10_begins_30 rfl rfl ⟨rfl, GQ_fw _ _ _, LB_fw hL _ _, Or.inl ⟨(6, tkP tx en q), (if_neg c2).trans (if_pos c17), RF_fw r (by decide)⟩⟩
    · refine g_aL0 dX10_begins_5 ?_
      refine g_iconst dX10_begins_6 ?_
      refine e_v1u (d_flaw0 b.S r.n5 _) lm_X10_130 dX10_begins_7 (b.S.l 50 rfl) (b.S.k 50 rfl rfl) rfl rfl rfl rfl ?_
      refine g_aL0 dX10_begins_10 ?_
      refine g_getR lf_X10_167 (((GQ_fw h _ _).S b.S).l 50 rfl) (((GQ_fw h _ _).S b.S).k 50 rfl rfl) (b.go (GQ_fw h _ _)).C dX10_begins_11 ?_
      refine g_gI lf_X10_171 ((b.go (GQ_fw h _ _)).M.l 0 rfl) ((b.go (GQ_fw h _ _)).M.k 0 rfl rfl) dX10_begins_14 ?_
      refine g_ifne dX10_begins_17 (fun c17 => ?_) (fun c17 => ?_)
      · refine g_aL0 dX10_begins_26 ?_
        refine e_v0u (d_goesOn5 ((GQ_fw h _ _).S b.S) (fw5 _ _ _)) lm_X10_123 dX10_begins_27 (((GQ_fw h _ _).S b.S).l 50 rfl) (((GQ_fw h _ _).S b.S).k 50 rfl rfl) rfl rfl rfl rfl ?_
        exact g_vret rfl dX10_begins_30 rfl rfl ⟨rfl, GQ_fw _ _ _, LB_fw hL _ _, Or.inl ⟨(5, tkP tx en q), if_pos c2, RF_fw r (by decide)⟩⟩
      · refine g_aL0 dX10_begins_20 ?_
        refine g_bipush dX10_begins_21 ?_
        refine e_v1u (d_flaw5 ((GQ_fw h _ _).S b.S) (fw5 _ _ _) _) lm_X10_130 dX10_begins_23 (((GQ_fw h _ _).S b.S).l 50 rfl) (((GQ_fw h _ _).S b.S).k 50 rfl rfl) rfl rfl rfl rfl ?_
        refine g_aL0 dX10_begins_26 ?_
        refine e_v0u (d_goesOn5 ((GQ_fw h _ _).S b.S) (fw5 _ _ _)) lm_X10_123 dX10_begins_27 (((GQ_fw h _ _).S b.S).l 50 rfl) (((GQ_fw h _ _).S b.S).k 50 rfl rfl) rfl rfl rfl rfl ?_
        exact g_vret rfl dX10_begins_30 rfl rfl ⟨rfl, GQ_fw _ _ _, LB_fw hL _ _, Or.inl ⟨(5, tkP tx en q), if_pos c2, RF_fw r (by decide)⟩⟩
theorem d_find {tx : Nat → Int32} {en : Nat} {h : Hp} {c : Nat} {K : List Nm} (b : RB tx en h c K) (key : Int64) : gCi 0 0 0 yX9_find cX9_find 4 (some .int) [.ref c, .long key] h (some (.int (fnF (gJ h (c + 14)) key K.length 0))) h := by
  have hn2 := b.n2
  refine g_entry (lv := [.ref c, .long key, .retAddr 0, .retAddr 0]) 1 pn_X9 rfl rfl rfl ?_
  have loop : ∀ (n i : Nat) , i + n = K.length → fnF (gJ h (c + 14)) key K.length 0 = fnF (gJ h (c + 14)) key n i → gY 0 0 0 yX9_find cX9_find 4 (some .int) 0 0 (fun v' h' => v' = (some (.int (fnF (gJ h (c + 14)) key K.length 0))) ∧ h' = h) 2 [.ref c, .long key, .retAddr 0, .int (nI i)] [] h := by
    intro n
    induction n with
    | zero =>
      intro i  hi he 
      refine g_iL3 dX9_find_2 ?_
      refine g_aL0 dX9_find_3 ?_
      refine g_gI lf_X9_65 (b.M.l 0 rfl) (b.M.k 0 rfl rfl) dX9_find_4 ?_
      rw [b.n]
      refine g_icge dX9_find_7 (fun c7 => ?_) (fun c7 => absurd (nI_le (by omega) (by omega)) c7)
      refine g_iconst dX9_find_29 ?_
      exact e_iret rfl dX9_find_30 rfl rfl he.symm rfl
    | succ n ih =>
      intro i  hi he 
      refine g_iL3 dX9_find_2 ?_
      refine g_aL0 dX9_find_3 ?_
      refine g_gI lf_X9_65 (b.M.l 0 rfl) (b.M.k 0 rfl rfl) dX9_find_4 ?_
      rw [b.n]
      refine g_icge dX9_find_7 (fun c7 => absurd c7 (nI_ge (by omega) (by omega))) (fun c7 => ?_)
      refine g_aL0 dX9_find_10 ?_
      refine g_getR lf_X9_55 (b.M.l 0 rfl) (b.M.k 0 rfl rfl) (b.M.r 28 (j := 14) rfl) dX9_find_11 ?_
      refine g_iL3 dX9_find_14 ?_
      refine g_laloadN (b.M.l 14 rfl) (b.M.k 14 rfl rfl) (b.M.n 14 (n := 33) rfl rfl) (by omega) (by decide) dX9_find_15 ?_
      refine g_lL1 dX9_find_16 ?_
      refine g_lcmp dX9_find_17 ?_
      refine g_ifne dX9_find_18 (fun c18 => ?_) (fun c18 => ?_)
      · refine g_ii3 dX9_find_23 rfl rfl ?_
        refine g_goto dX9_find_26 ?_
        rw [nI_1]
        exact ih (i + 1)  (by omega) (he.trans (if_neg c18)) 
      · refine g_iL3 dX9_find_21 ?_
        exact e_iret rfl dX9_find_22 rfl rfl (he.trans (if_pos c18)).symm rfl
  refine g_iconst dX9_find_0 ?_
  refine g_iS3 dX9_find_1 rfl rfl ?_
  exact loop K.length 0 (by omega) rfl
theorem fd_R {tx : Nat → Int32} {en : Nat} {h : Hp} {c : Nat} {K : List Nm} (b : RB tx en h c K) (key : Int64) : (fdP key K = none ∧ fnF (gJ h (c + 14)) key K.length 0 = -1) ∨ (∃ j x, K[j]? = some x ∧ fdP key K = some x.2 ∧ fnF (gJ h (c + 14)) key K.length 0 = nI j) := by
  have := fd_fn (gJ h (c + 14)) key K 0 (fun j x e => by rw [Nat.zero_add]; exact (b.k e).1)
  simpa only [Nat.zero_add] using this
def nfP (tx : Nat → Int32) (en q : Nat) (K : List Nm) : Ex (Int64 × Nat) := if tkS tx en q = 1 then (if lsF tx en q = -1 then (if fdP (kyP tx en q) K = none then .ok (kyP tx en q, nx tx en q) else er tx en 3 q) else er tx en 1 q) else er tx en 1 q
theorem nf_1 {tx : Nat → Int32} {en q : Nat} {K : List Nm} (h : inM tx en q = 0) : nfP tx en q K = er tx en 1 q := by
  unfold nfP
  by_cases a : tkS tx en q = 1
  · rw [if_pos a]
    exact if_neg (fun z => inM_0 h ⟨a, z⟩)
  · exact if_neg a
theorem kn_1 {tx : Nat → Int32} {en q : Nat} {K : List Nm} {so : Int32} (h : inM tx en q = 0) : knP tx en q K so = er tx en 1 q := by
  unfold knP
  by_cases a : tkS tx en q = 1
  · rw [if_pos a]
    exact if_neg (fun z => inM_0 h ⟨a, z⟩)
  · exact if_neg a
theorem r_readFresh {tx : Nat → Int32} {en : Nat} {h : Hp} {c : Nat} {K : List Nm} (b : RB tx en h c K) {o : Ex Nat} (s : RSt h o (RKs tx en)) : gC 7 0 0 yX10_readFresh cX10_readFresh 3 (some .long) [.ref 50] h (fun v h' => ∃ x : Int64, v = some (.long x) ∧ GQ h' h ∧ RSt h' (o.bind fun q => nfP tx en q K) (fun y g => RK tx en g y.2 ∧ x = y.1)) := by
  rcases s with ⟨hL, ⟨e, rfl, f⟩ | ⟨q, rfl, r⟩⟩
  · refine g_entry (lv := [.ref 50, .retAddr 0, .retAddr 0]) 2 pn_X10 rfl rfl rfl ?_
    refine g_aL0 dX10_readFresh_0 ?_
    refine e_v0i (d_isName5 b.S f.1) lm_X10_176 dX10_readFresh_1 (b.S.l 50 rfl) (b.S.k 50 rfl rfl) rfl rfl rfl rfl ?_
    refine g_ifne dX10_readFresh_4 (fun c4 => absurd rfl c4) (fun c4 => ?_)
    refine g_aL0 dX10_readFresh_7 ?_
    refine g_iconst dX10_readFresh_8 ?_
    refine e_v1u (d_flaw5 b.S f.1 _) lm_X10_130 dX10_readFresh_9 (b.S.l 50 rfl) (b.S.k 50 rfl rfl) rfl rfl rfl rfl ?_
    refine g_aL0 dX10_readFresh_12 ?_
    refine g_getR lf_X10_167 (b.S.l 50 rfl) (b.S.k 50 rfl rfl) b.C dX10_readFresh_13 ?_
    refine g_aL0 dX10_readFresh_16 ?_
    refine g_getJ lf_X10_90 (b.S.l 50 rfl) (b.S.k 50 rfl rfl) dX10_readFresh_17 ?_
    refine e_v1i (d_find b _) lm_X10_180 dX10_readFresh_20 (b.M.l 0 rfl) (b.M.k 0 rfl rfl) rfl rfl rfl rfl ?_
    refine g_iconst dX10_readFresh_23 ?_
    refine g_iceq dX10_readFresh_24 (fun c24 => ?_) (fun c24 => ?_)
    · refine g_aL0 dX10_readFresh_32 ?_
      refine g_getJ lf_X10_90 (b.S.l 50 rfl) (b.S.k 50 rfl rfl) dX10_readFresh_33 ?_
      refine g_lS1 dX10_readFresh_36 rfl rfl ?_
      refine g_aL0 dX10_readFresh_37 ?_
      refine e_v0u (d_goesOn5 b.S f.1) lm_X10_123 dX10_readFresh_38 (b.S.l 50 rfl) (b.S.k 50 rfl rfl) rfl rfl rfl rfl ?_
      refine g_lL1 dX10_readFresh_41 ?_
      exact g_lret rfl dX10_readFresh_42 rfl rfl ⟨_, rfl, GQ.refl _, hL, Or.inl ⟨e, rfl, f⟩⟩
    · refine g_aL0 dX10_readFresh_27 ?_
      refine g_iconst dX10_readFresh_28 ?_
      refine e_v1u (d_flaw5 b.S f.1 _) lm_X10_130 dX10_readFresh_29 (b.S.l 50 rfl) (b.S.k 50 rfl rfl) rfl rfl rfl rfl ?_
      refine g_aL0 dX10_readFresh_32 ?_
      refine g_getJ lf_X10_90 (b.S.l 50 rfl) (b.S.k 50 rfl rfl) dX10_readFresh_33 ?_
      refine g_lS1 dX10_readFresh_36 rfl rfl ?_
      refine g_aL0 dX10_readFresh_37 ?_
      refine e_v0u (d_goesOn5 b.S f.1) lm_X10_123 dX10_readFresh_38 (b.S.l 50 rfl) (b.S.k 50 rfl rfl) rfl rfl rfl rfl ?_
      refine g_lL1 dX10_readFresh_41 ?_
      exact g_lret rfl dX10_readFresh_42 rfl rfl ⟨_, rfl, GQ.refl _, hL, Or.inl ⟨e, rfl, f⟩⟩
  · refine g_entry (lv := [.ref 50, .retAddr 0, .retAddr 0]) 2 pn_X10 rfl rfl rfl ?_
    refine g_aL0 dX10_readFresh_0 ?_
    refine e_v0i (d_isName b r) lm_X10_176 dX10_readFresh_1 (b.S.l 50 rfl) (b.S.k 50 rfl rfl) rfl rfl rfl rfl ?_
    refine g_ifne dX10_readFresh_4 (fun c4 => ?_) (fun c4 => ?_)
    · obtain ⟨ht1, ht2⟩ := inM_1 c4
      have hkey := (r.2.2.2.2.2.1 ht1).1
      refine g_aL0 dX10_readFresh_12 ?_
      refine g_getR lf_X10_167 (b.S.l 50 rfl) (b.S.k 50 rfl rfl) b.C dX10_readFresh_13 ?_
      refine g_aL0 dX10_readFresh_16 ?_
      refine g_getJ lf_X10_90 (b.S.l 50 rfl) (b.S.k 50 rfl rfl) dX10_readFresh_17 ?_
      rw [hkey]
      refine e_v1i (d_find b _) lm_X10_180 dX10_readFresh_20 (b.M.l 0 rfl) (b.M.k 0 rfl rfl) rfl rfl rfl rfl ?_
      refine g_iconst dX10_readFresh_23 ?_
      refine g_iceq dX10_readFresh_24 (fun c24 => ?_) (fun c24 => ?_)
      · have hfd : fdP (kyP tx en q) K = none := by
          rcases fd_R b (kyP tx en q) with z | ⟨j, x, z1, z2, z3⟩
          · exact z.1
          · have hj := (List.getElem?_eq_some_iff.mp z1).1
            have := b.n2
            exact absurd (z3.symm.trans c24) (nI_n1 (by omega))
        refine g_aL0 dX10_readFresh_32 ?_
        refine g_getJ lf_X10_90 (b.S.l 50 rfl) (b.S.k 50 rfl rfl) dX10_readFresh_33 ?_
        rw [hkey]
        refine g_lS1 dX10_readFresh_36 rfl rfl ?_
        refine g_aL0 dX10_readFresh_37 ?_
        refine r_v0u (r_goesOn b (o := .ok q) ⟨hL, Or.inr ⟨q, rfl, r⟩⟩ (fun q' z => by cases z; exact t5 ht1 (by decide))) lm_X10_123 dX10_readFresh_38 (b.S.l 50 rfl) (b.S.k 50 rfl rfl) rfl rfl rfl rfl (fun v h' z => z.1) (fun h1 z => ?_)
        obtain ⟨-, k1, s1⟩ := z
        refine g_lL1 dX10_readFresh_41 ?_
        exact g_lret rfl dX10_readFresh_42 rfl rfl ⟨_, rfl, k1, s1.1, s1.2.imp (fun ⟨e, z, _⟩ => by cases z) (fun ⟨a, z, y⟩ => ⟨(kyP tx en q, a), by cases z; exact (if_pos ht1).trans ((if_pos ht2).trans (if_pos hfd)), y, rfl⟩)⟩
      · refine g_aL0 dX10_readFresh_27 ?_
        refine g_iconst dX10_readFresh_28 ?_
        refine e_v1u (d_flaw0 b.S r.n5 _) lm_X10_130 dX10_readFresh_29 (b.S.l 50 rfl) (b.S.k 50 rfl rfl) rfl rfl rfl rfl ?_
        have hfd : ¬ fdP (kyP tx en q) K = none := by
          rcases fd_R b (kyP tx en q) with z | ⟨j, x, z1, z2, z3⟩
          · exact absurd z.2 c24
          · rw [z2]; exact fun y => by cases y
        refine g_aL0 dX10_readFresh_32 ?_
        refine g_getJ lf_X10_90 (((GQ_fw h _ _).S b.S).l 50 rfl) (((GQ_fw h _ _).S b.S).k 50 rfl rfl) dX10_readFresh_33 ?_
        refine g_lS1 dX10_readFresh_36 rfl rfl ?_
        refine g_aL0 dX10_readFresh_37 ?_
        refine e_v0u (d_goesOn5 ((GQ_fw h _ _).S b.S) (fw5 _ _ _)) lm_X10_123 dX10_readFresh_38 (((GQ_fw h _ _).S b.S).l 50 rfl) (((GQ_fw h _ _).S b.S).k 50 rfl rfl) rfl rfl rfl rfl ?_
        refine g_lL1 dX10_readFresh_41 ?_
        exact g_lret rfl dX10_readFresh_42 rfl rfl ⟨_, rfl, GQ_fw _ _ _, LB_fw hL _ _, Or.inl ⟨(3, tkP tx en q), (if_pos ht1).trans ((if_pos ht2).trans (if_neg hfd)), RF_fw r (by decide)⟩⟩
    · refine g_aL0 dX10_readFresh_7 ?_
      refine g_iconst dX10_readFresh_8 ?_
      refine e_v1u (d_flaw0 b.S r.n5 _) lm_X10_130 dX10_readFresh_9 (b.S.l 50 rfl) (b.S.k 50 rfl rfl) rfl rfl rfl rfl ?_
      refine g_aL0 dX10_readFresh_12 ?_
      refine g_getR lf_X10_167 (((GQ_fw h _ _).S b.S).l 50 rfl) (((GQ_fw h _ _).S b.S).k 50 rfl rfl) (b.go (GQ_fw h _ _)).C dX10_readFresh_13 ?_
      refine g_aL0 dX10_readFresh_16 ?_
      refine g_getJ lf_X10_90 (((GQ_fw h _ _).S b.S).l 50 rfl) (((GQ_fw h _ _).S b.S).k 50 rfl rfl) dX10_readFresh_17 ?_
      refine e_v1i (d_find (b.go (GQ_fw h _ _)) _) lm_X10_180 dX10_readFresh_20 ((b.go (GQ_fw h _ _)).M.l 0 rfl) ((b.go (GQ_fw h _ _)).M.k 0 rfl rfl) rfl rfl rfl rfl ?_
      refine g_iconst dX10_readFresh_23 ?_
      refine g_iceq dX10_readFresh_24 (fun c24 => ?_) (fun c24 => ?_)
      · refine g_aL0 dX10_readFresh_32 ?_
        refine g_getJ lf_X10_90 (((GQ_fw h _ _).S b.S).l 50 rfl) (((GQ_fw h _ _).S b.S).k 50 rfl rfl) dX10_readFresh_33 ?_
        refine g_lS1 dX10_readFresh_36 rfl rfl ?_
        refine g_aL0 dX10_readFresh_37 ?_
        refine e_v0u (d_goesOn5 ((GQ_fw h _ _).S b.S) (fw5 _ _ _)) lm_X10_123 dX10_readFresh_38 (((GQ_fw h _ _).S b.S).l 50 rfl) (((GQ_fw h _ _).S b.S).k 50 rfl rfl) rfl rfl rfl rfl ?_
        refine g_lL1 dX10_readFresh_41 ?_
        exact g_lret rfl dX10_readFresh_42 rfl rfl ⟨_, rfl, GQ_fw _ _ _, LB_fw hL _ _, Or.inl ⟨(1, tkP tx en q), nf_1 c4, RF_fw r (by decide)⟩⟩
      · refine g_aL0 dX10_readFresh_27 ?_
        refine g_iconst dX10_readFresh_28 ?_
        refine e_v1u (d_flaw5 ((GQ_fw h _ _).S b.S) (fw5 _ _ _) _) lm_X10_130 dX10_readFresh_29 (((GQ_fw h _ _).S b.S).l 50 rfl) (((GQ_fw h _ _).S b.S).k 50 rfl rfl) rfl rfl rfl rfl ?_
        refine g_aL0 dX10_readFresh_32 ?_
        refine g_getJ lf_X10_90 (((GQ_fw h _ _).S b.S).l 50 rfl) (((GQ_fw h _ _).S b.S).k 50 rfl rfl) dX10_readFresh_33 ?_
        refine g_lS1 dX10_readFresh_36 rfl rfl ?_
        refine g_aL0 dX10_readFresh_37 ?_
        refine e_v0u (d_goesOn5 ((GQ_fw h _ _).S b.S) (fw5 _ _ _)) lm_X10_123 dX10_readFresh_38 (((GQ_fw h _ _).S b.S).l 50 rfl) (((GQ_fw h _ _).S b.S).k 50 rfl rfl) rfl rfl rfl rfl ?_
        refine g_lL1 dX10_readFresh_41 ?_
        exact g_lret rfl dX10_readFresh_42 rfl rfl ⟨_, rfl, GQ_fw _ _ _, LB_fw hL _ _, Or.inl ⟨(1, tkP tx en q), nf_1 c4, RF_fw r (by decide)⟩⟩
theorem ns_eq {a so : Int32} (ha : a = 1 ∨ a = 2 ∨ a = 3 ∨ a = 4 ∨ a = 8) (hs : so = 1 ∨ so = 2 ∨ so = 3 ∨ so = 4 ∨ so = 8) : nsM a = nsM so ↔ a = so := by
  rcases ha with rfl | rfl | rfl | rfl | rfl <;> rcases hs with rfl | rfl | rfl | rfl | rfl <;> decide
theorem r_knownOne {tx : Nat → Int32} {en : Nat} {h : Hp} {c : Nat} {K : List Nm} (b : RB tx en h c K) {o : Ex Nat} (s : RSt h o (RKs tx en)) {so : Int32} (hso : so = 1 ∨ so = 2 ∨ so = 3 ∨ so = 4 ∨ so = 8) : gC 7 0 0 yX10_knownOne cX10_knownOne 3 (some .int) [.ref 50, .int (nsM so)] h (fun v h' => ∃ x : Int32, v = some (.int x) ∧ GQ h' h ∧ RSt h' (o.bind fun q => ((knP tx en q K so).bind fun v => .ok (v, q))) (fun y g => RK tx en g y.2 ∧ x = y.1)) := by
  rcases s with ⟨hL, ⟨e, rfl, f⟩ | ⟨q, rfl, r⟩⟩
  · refine g_entry (lv := [.ref 50, .int (nsM so), .retAddr 0]) 1 pn_X10 rfl rfl rfl ?_
    refine g_aL0 dX10_knownOne_0 ?_
    refine e_v0i (d_isName5 b.S f.1) lm_X10_176 dX10_knownOne_1 (b.S.l 50 rfl) (b.S.k 50 rfl rfl) rfl rfl rfl rfl ?_
    refine g_ifne dX10_knownOne_4 (fun c4 => absurd rfl c4) (fun c4 => ?_)
    refine g_aL0 dX10_knownOne_7 ?_
    refine g_iconst dX10_knownOne_8 ?_
    refine e_v1u (d_flaw5 b.S f.1 _) lm_X10_130 dX10_knownOne_9 (b.S.l 50 rfl) (b.S.k 50 rfl rfl) rfl rfl rfl rfl ?_
    refine g_aL0 dX10_knownOne_12 ?_
    refine g_getR lf_X10_167 (b.S.l 50 rfl) (b.S.k 50 rfl rfl) b.C dX10_knownOne_13 ?_
    refine g_aL0 dX10_knownOne_16 ?_
    refine g_getJ lf_X10_90 (b.S.l 50 rfl) (b.S.k 50 rfl rfl) dX10_knownOne_17 ?_
    refine e_v1i (d_find b _) lm_X10_180 dX10_knownOne_20 (b.M.l 0 rfl) (b.M.k 0 rfl rfl) rfl rfl rfl rfl ?_
    rcases fd_R b _ with z | ⟨j, y, z1, z2, z3⟩
    · rw [z.2]
      refine g_iS2 dX10_knownOne_23 rfl rfl ?_
      refine g_iL2 dX10_knownOne_24 ?_
      refine g_iconst dX10_knownOne_25 ?_
      refine g_iceq dX10_knownOne_26 (fun c26 => ?_) (fun c26 => absurd rfl c26)
      refine g_aL0 dX10_knownOne_42 ?_
      refine g_iconst dX10_knownOne_43 ?_
      refine e_v1u (d_flaw5 b.S f.1 _) lm_X10_130 dX10_knownOne_44 (b.S.l 50 rfl) (b.S.k 50 rfl rfl) rfl rfl rfl rfl ?_
      refine g_aL0 dX10_knownOne_47 ?_
      refine g_gI lf_X10_71 (b.S.l 50 rfl) (b.S.k 50 rfl rfl) dX10_knownOne_48 ?_
      refine g_iconst dX10_knownOne_51 ?_
      refine g_icne dX10_knownOne_52 (fun c52 => absurd f.1 c52) (fun c52 => ?_)
      refine g_iconst dX10_knownOne_55 ?_
      refine g_goto dX10_knownOne_56 ?_
      exact g_iret rfl dX10_knownOne_68 rfl rfl ⟨_, rfl, GQ.refl _, hL, Or.inl ⟨e, rfl, f⟩⟩
    · have hj33 : j < 33 := Nat.lt_of_lt_of_le (List.getElem?_eq_some_iff.mp z1).1 b.n2
      rw [z3]
      refine g_iS2 dX10_knownOne_23 rfl rfl ?_
      refine g_iL2 dX10_knownOne_24 ?_
      refine g_iconst dX10_knownOne_25 ?_
      refine g_iceq dX10_knownOne_26 (fun c26 => absurd c26 (nI_n1 (by omega))) (fun c26 => ?_)
      refine g_aL0 dX10_knownOne_29 ?_
      refine g_getR lf_X10_167 (b.S.l 50 rfl) (b.S.k 50 rfl rfl) b.C dX10_knownOne_30 ?_
      refine g_getRn lf_X10_191 (b.M.l 0 rfl) (b.M.k 0 rfl rfl) (b.M.r 29 (j := 15) rfl) dX10_knownOne_33 ?_
      refine g_iL2 dX10_knownOne_36 ?_
      refine g_ialoadN (b.M.l 15 rfl) (b.M.k 15 rfl rfl) (b.M.n 15 (n := 33) rfl rfl) hj33 (by decide) dX10_knownOne_37 ?_
      refine g_iL1 dX10_knownOne_38 ?_
      refine g_iceq dX10_knownOne_39 (fun c39 => ?_) (fun c39 => ?_)
      · refine g_aL0 dX10_knownOne_47 ?_
        refine g_gI lf_X10_71 (b.S.l 50 rfl) (b.S.k 50 rfl rfl) dX10_knownOne_48 ?_
        refine g_iconst dX10_knownOne_51 ?_
        refine g_icne dX10_knownOne_52 (fun c52 => absurd f.1 c52) (fun c52 => ?_)
        refine g_iconst dX10_knownOne_55 ?_
        refine g_goto dX10_knownOne_56 ?_
        exact g_iret rfl dX10_knownOne_68 rfl rfl ⟨_, rfl, GQ.refl _, hL, Or.inl ⟨e, rfl, f⟩⟩
      · refine g_aL0 dX10_knownOne_42 ?_
        refine g_iconst dX10_knownOne_43 ?_
        refine e_v1u (d_flaw5 b.S f.1 _) lm_X10_130 dX10_knownOne_44 (b.S.l 50 rfl) (b.S.k 50 rfl rfl) rfl rfl rfl rfl ?_
        refine g_aL0 dX10_knownOne_47 ?_
        refine g_gI lf_X10_71 (b.S.l 50 rfl) (b.S.k 50 rfl rfl) dX10_knownOne_48 ?_
        refine g_iconst dX10_knownOne_51 ?_
        refine g_icne dX10_knownOne_52 (fun c52 => absurd f.1 c52) (fun c52 => ?_)
        refine g_iconst dX10_knownOne_55 ?_
        refine g_goto dX10_knownOne_56 ?_
        exact g_iret rfl dX10_knownOne_68 rfl rfl ⟨_, rfl, GQ.refl _, hL, Or.inl ⟨e, rfl, f⟩⟩
  · refine g_entry (lv := [.ref 50, .int (nsM so), .retAddr 0]) 1 pn_X10 rfl rfl rfl ?_
    refine g_aL0 dX10_knownOne_0 ?_
    refine e_v0i (d_isName b r) lm_X10_176 dX10_knownOne_1 (b.S.l 50 rfl) (b.S.k 50 rfl rfl) rfl rfl rfl rfl ?_
    refine g_ifne dX10_knownOne_4 (fun c4 => ?_) (fun c4 => ?_)
    · obtain ⟨ht1, ht2⟩ := inM_1 c4
      have hkey := (r.2.2.2.2.2.1 ht1).1
      refine g_aL0 dX10_knownOne_12 ?_
      refine g_getR lf_X10_167 (b.S.l 50 rfl) (b.S.k 50 rfl rfl) b.C dX10_knownOne_13 ?_
      refine g_aL0 dX10_knownOne_16 ?_
      refine g_getJ lf_X10_90 (b.S.l 50 rfl) (b.S.k 50 rfl rfl) dX10_knownOne_17 ?_
      rw [hkey]
      refine e_v1i (d_find b _) lm_X10_180 dX10_knownOne_20 (b.M.l 0 rfl) (b.M.k 0 rfl rfl) rfl rfl rfl rfl ?_
      rcases fd_R b (kyP tx en q) with z | ⟨j, y, z1, z2, z3⟩
      · rw [z.2]
        refine g_iS2 dX10_knownOne_23 rfl rfl ?_
        refine g_iL2 dX10_knownOne_24 ?_
        refine g_iconst dX10_knownOne_25 ?_
        refine g_iceq dX10_knownOne_26 (fun c26 => ?_) (fun c26 => absurd rfl c26)
        refine g_aL0 dX10_knownOne_42 ?_
        refine g_iconst dX10_knownOne_43 ?_
        refine e_v1u (d_flaw0 b.S r.n5 _) lm_X10_130 dX10_knownOne_44 (b.S.l 50 rfl) (b.S.k 50 rfl rfl) rfl rfl rfl rfl ?_
        have hkn : knP tx en q K so = er tx en 2 q := by unfold knP; rw [if_pos ht1, if_pos ht2, z.1]
        refine g_aL0 dX10_knownOne_47 ?_
        refine g_gI lf_X10_71 (((GQ_fw h _ _).S b.S).l 50 rfl) (((GQ_fw h _ _).S b.S).k 50 rfl rfl) dX10_knownOne_48 ?_
        refine g_iconst dX10_knownOne_51 ?_
        refine g_icne dX10_knownOne_52 (fun c52 => absurd (fw5 _ _ _) c52) (fun c52 => ?_)
        refine g_iconst dX10_knownOne_55 ?_
        refine g_goto dX10_knownOne_56 ?_
        exact g_iret rfl dX10_knownOne_68 rfl rfl ⟨_, rfl, GQ_fw _ _ _, LB_fw hL _ _, Or.inl ⟨(2, tkP tx en q), congrArg (fun o : Ex Int32 => Except.bind o fun v => Except.ok (v, q)) hkn, RF_fw r (by decide)⟩⟩
      · have hj33 : j < 33 := Nat.lt_of_lt_of_le (List.getElem?_eq_some_iff.mp z1).1 b.n2
        have hy := b.k z1
        have hys := b.s y (List.mem_of_getElem? z1)
        rw [z3]
        refine g_iS2 dX10_knownOne_23 rfl rfl ?_
        refine g_iL2 dX10_knownOne_24 ?_
        refine g_iconst dX10_knownOne_25 ?_
        refine g_iceq dX10_knownOne_26 (fun c26 => absurd c26 (nI_n1 (by omega))) (fun c26 => ?_)
        refine g_aL0 dX10_knownOne_29 ?_
        refine g_getR lf_X10_167 (b.S.l 50 rfl) (b.S.k 50 rfl rfl) b.C dX10_knownOne_30 ?_
        refine g_getRn lf_X10_191 (b.M.l 0 rfl) (b.M.k 0 rfl rfl) (b.M.r 29 (j := 15) rfl) dX10_knownOne_33 ?_
        refine g_iL2 dX10_knownOne_36 ?_
        refine g_ialoadN (b.M.l 15 rfl) (b.M.k 15 rfl rfl) (b.M.n 15 (n := 33) rfl rfl) hj33 (by decide) dX10_knownOne_37 ?_
        rw [hy.2.1]
        refine g_iL1 dX10_knownOne_38 ?_
        refine g_iceq dX10_knownOne_39 (fun c39 => ?_) (fun c39 => ?_)
        · have hkn : knP tx en q K so = .ok y.2.2 := by
            unfold knP
            rw [if_pos ht1, if_pos ht2, z2]
            exact if_pos ((ns_eq hys hso).mp c39)
          refine g_aL0 dX10_knownOne_47 ?_
          refine g_gI lf_X10_71 (b.S.l 50 rfl) (b.S.k 50 rfl rfl) dX10_knownOne_48 ?_
          refine g_iconst dX10_knownOne_51 ?_
          refine g_icne dX10_knownOne_52 (fun c52 => ?_) (fun c52 => absurd c52 r.n5)
          refine g_aL0 dX10_knownOne_59 ?_
          refine g_getR lf_X10_167 (b.S.l 50 rfl) (b.S.k 50 rfl rfl) b.C dX10_knownOne_60 ?_
          refine g_getRn lf_X10_194 (b.M.l 0 rfl) (b.M.k 0 rfl rfl) (b.M.r 30 (j := 16) rfl) dX10_knownOne_63 ?_
          refine g_iL2 dX10_knownOne_66 ?_
          refine g_ialoadN (b.M.l 16 rfl) (b.M.k 16 rfl rfl) (b.M.n 16 (n := 33) rfl rfl) hj33 (by decide) dX10_knownOne_67 ?_
          rw [hy.2.2]
          exact g_iret rfl dX10_knownOne_68 rfl rfl ⟨_, rfl, GQ.refl _, hL, Or.inr ⟨(y.2.2, q), congrArg (fun o : Ex Int32 => Except.bind o fun v => Except.ok (v, q)) hkn, r, rfl⟩⟩
        · refine g_aL0 dX10_knownOne_42 ?_
          refine g_iconst dX10_knownOne_43 ?_
          refine e_v1u (d_flaw0 b.S r.n5 _) lm_X10_130 dX10_knownOne_44 (b.S.l 50 rfl) (b.S.k 50 rfl rfl) rfl rfl rfl rfl ?_
          have hkn : knP tx en q K so = er tx en 2 q := by
            unfold knP
            rw [if_pos ht1, if_pos ht2, z2]
            exact if_neg (fun z => c39 (by rw [(ns_eq hys hso).mpr z]))
          refine g_aL0 dX10_knownOne_47 ?_
          refine g_gI lf_X10_71 (((GQ_fw h _ _).S b.S).l 50 rfl) (((GQ_fw h _ _).S b.S).k 50 rfl rfl) dX10_knownOne_48 ?_
          refine g_iconst dX10_knownOne_51 ?_
          refine g_icne dX10_knownOne_52 (fun c52 => absurd (fw5 _ _ _) c52) (fun c52 => ?_)
          refine g_iconst dX10_knownOne_55 ?_
          refine g_goto dX10_knownOne_56 ?_
          exact g_iret rfl dX10_knownOne_68 rfl rfl ⟨_, rfl, GQ_fw _ _ _, LB_fw hL _ _, Or.inl ⟨(2, tkP tx en q), congrArg (fun o : Ex Int32 => Except.bind o fun v => Except.ok (v, q)) hkn, RF_fw r (by decide)⟩⟩
    · refine g_aL0 dX10_knownOne_7 ?_
      refine g_iconst dX10_knownOne_8 ?_
      refine e_v1u (d_flaw0 b.S r.n5 _) lm_X10_130 dX10_knownOne_9 (b.S.l 50 rfl) (b.S.k 50 rfl rfl) rfl rfl rfl rfl ?_
      refine g_aL0 dX10_knownOne_12 ?_
      refine g_getR lf_X10_167 (((GQ_fw h _ _).S b.S).l 50 rfl) (((GQ_fw h _ _).S b.S).k 50 rfl rfl) (b.go (GQ_fw h _ _)).C dX10_knownOne_13 ?_
      refine g_aL0 dX10_knownOne_16 ?_
      refine g_getJ lf_X10_90 (((GQ_fw h _ _).S b.S).l 50 rfl) (((GQ_fw h _ _).S b.S).k 50 rfl rfl) dX10_knownOne_17 ?_
      refine e_v1i (d_find (b.go (GQ_fw h _ _)) _) lm_X10_180 dX10_knownOne_20 ((b.go (GQ_fw h _ _)).M.l 0 rfl) ((b.go (GQ_fw h _ _)).M.k 0 rfl rfl) rfl rfl rfl rfl ?_
      rcases fd_R (b.go (GQ_fw h _ _)) _ with z | ⟨j, y, z1, z2, z3⟩
      · rw [z.2]
        refine g_iS2 dX10_knownOne_23 rfl rfl ?_
        refine g_iL2 dX10_knownOne_24 ?_
        refine g_iconst dX10_knownOne_25 ?_
        refine g_iceq dX10_knownOne_26 (fun c26 => ?_) (fun c26 => absurd rfl c26)
        refine g_aL0 dX10_knownOne_42 ?_
        refine g_iconst dX10_knownOne_43 ?_
        refine e_v1u (d_flaw5 ((GQ_fw h _ _).S b.S) (fw5 _ _ _) _) lm_X10_130 dX10_knownOne_44 (((GQ_fw h _ _).S b.S).l 50 rfl) (((GQ_fw h _ _).S b.S).k 50 rfl rfl) rfl rfl rfl rfl ?_
        refine g_aL0 dX10_knownOne_47 ?_
        refine g_gI lf_X10_71 (((GQ_fw h _ _).S b.S).l 50 rfl) (((GQ_fw h _ _).S b.S).k 50 rfl rfl) dX10_knownOne_48 ?_
        refine g_iconst dX10_knownOne_51 ?_
        refine g_icne dX10_knownOne_52 (fun c52 => absurd (fw5 _ _ _) c52) (fun c52 => ?_)
        refine g_iconst dX10_knownOne_55 ?_
        refine g_goto dX10_knownOne_56 ?_
        exact g_iret rfl dX10_knownOne_68 rfl rfl ⟨_, rfl, GQ_fw _ _ _, LB_fw hL _ _, Or.inl ⟨(1, tkP tx en q), congrArg (fun o : Ex Int32 => Except.bind o fun v => Except.ok (v, q)) (kn_1 c4), RF_fw r (by decide)⟩⟩
      · have hj33 : j < 33 := Nat.lt_of_lt_of_le (List.getElem?_eq_some_iff.mp z1).1 b.n2
        rw [z3]
        refine g_iS2 dX10_knownOne_23 rfl rfl ?_
        refine g_iL2 dX10_knownOne_24 ?_
        refine g_iconst dX10_knownOne_25 ?_
        refine g_iceq dX10_knownOne_26 (fun c26 => absurd c26 (nI_n1 (by omega))) (fun c26 => ?_)
        refine g_aL0 dX10_knownOne_29 ?_
        refine g_getR lf_X10_167 (((GQ_fw h _ _).S b.S).l 50 rfl) (((GQ_fw h _ _).S b.S).k 50 rfl rfl) (b.go (GQ_fw h _ _)).C dX10_knownOne_30 ?_
        refine g_getRn lf_X10_191 ((b.go (GQ_fw h _ _)).M.l 0 rfl) ((b.go (GQ_fw h _ _)).M.k 0 rfl rfl) ((b.go (GQ_fw h _ _)).M.r 29 (j := 15) rfl) dX10_knownOne_33 ?_
        refine g_iL2 dX10_knownOne_36 ?_
        refine g_ialoadN ((b.go (GQ_fw h _ _)).M.l 15 rfl) ((b.go (GQ_fw h _ _)).M.k 15 rfl rfl) ((b.go (GQ_fw h _ _)).M.n 15 (n := 33) rfl rfl) hj33 (by decide) dX10_knownOne_37 ?_
        refine g_iL1 dX10_knownOne_38 ?_
        refine g_iceq dX10_knownOne_39 (fun c39 => ?_) (fun c39 => ?_)
        · refine g_aL0 dX10_knownOne_47 ?_
          refine g_gI lf_X10_71 (((GQ_fw h _ _).S b.S).l 50 rfl) (((GQ_fw h _ _).S b.S).k 50 rfl rfl) dX10_knownOne_48 ?_
          refine g_iconst dX10_knownOne_51 ?_
          refine g_icne dX10_knownOne_52 (fun c52 => absurd (fw5 _ _ _) c52) (fun c52 => ?_)
          refine g_iconst dX10_knownOne_55 ?_
          refine g_goto dX10_knownOne_56 ?_
          exact g_iret rfl dX10_knownOne_68 rfl rfl ⟨_, rfl, GQ_fw _ _ _, LB_fw hL _ _, Or.inl ⟨(1, tkP tx en q), congrArg (fun o : Ex Int32 => Except.bind o fun v => Except.ok (v, q)) (kn_1 c4), RF_fw r (by decide)⟩⟩
        · refine g_aL0 dX10_knownOne_42 ?_
          refine g_iconst dX10_knownOne_43 ?_
          refine e_v1u (d_flaw5 ((GQ_fw h _ _).S b.S) (fw5 _ _ _) _) lm_X10_130 dX10_knownOne_44 (((GQ_fw h _ _).S b.S).l 50 rfl) (((GQ_fw h _ _).S b.S).k 50 rfl rfl) rfl rfl rfl rfl ?_
          refine g_aL0 dX10_knownOne_47 ?_
          refine g_gI lf_X10_71 (((GQ_fw h _ _).S b.S).l 50 rfl) (((GQ_fw h _ _).S b.S).k 50 rfl rfl) dX10_knownOne_48 ?_
          refine g_iconst dX10_knownOne_51 ?_
          refine g_icne dX10_knownOne_52 (fun c52 => absurd (fw5 _ _ _) c52) (fun c52 => ?_)
          refine g_iconst dX10_knownOne_55 ?_
          refine g_goto dX10_knownOne_56 ?_
          exact g_iret rfl dX10_knownOne_68 rfl rfl ⟨_, rfl, GQ_fw _ _ _, LB_fw hL _ _, Or.inl ⟨(1, tkP tx en q), congrArg (fun o : Ex Int32 => Except.bind o fun v => Except.ok (v, q)) (kn_1 c4), RF_fw r (by decide)⟩⟩
theorem kn_t5 {tx : Nat → Int32} {en q : Nat} {K : List Nm} {so : Int32} {y : Int32 × Nat} (h : ((knP tx en q K so).bind fun v => .ok (v, q)) = .ok y) : tkS tx en q = 1 ∧ y.2 = q := by
  by_cases a : tkS tx en q = 1
  · refine ⟨a, ?_⟩
    cases hk : knP tx en q K so with
    | error e => rw [hk] at h; cases h
    | ok v => rw [hk] at h; cases h; rfl
  · rw [show knP tx en q K so = er tx en 1 q from if_neg a] at h
    cases h
theorem r_readKnown {tx : Nat → Int32} {en : Nat} {h : Hp} {c : Nat} {K : List Nm} (b : RB tx en h c K) {o : Ex Nat} (s : RSt h o (RKs tx en)) {so : Int32} (hso : so = 1 ∨ so = 2 ∨ so = 3 ∨ so = 4 ∨ so = 8) : gC 8 0 0 yX10_readKnown cX10_readKnown 3 (some .int) [.ref 50, .int (nsM so)] h (fun v h' => ∃ x : Int32, v = some (.int x) ∧ GQ h' h ∧ RSt h' (o.bind fun q => ((knP tx en q K so).bind fun v => .ok (v, nx tx en q))) (fun y g => RK tx en g y.2 ∧ x = y.1)) := by
  refine g_entry (lv := [.ref 50, .int (nsM so), .retAddr 0]) 1 pn_X10 rfl rfl rfl ?_
  refine g_aL0 dX10_readKnown_0 ?_
  refine g_iL1 dX10_readKnown_1 ?_
  refine r_v1i (r_knownOne b s hso) lm_X10_197 dX10_readKnown_2 (b.S.l 50 rfl) (b.S.k 50 rfl rfl) rfl rfl rfl rfl (fun v h' z => ⟨_, z.choose_spec.1⟩) (fun rv h1 z => ?_)
  obtain ⟨xv, z0, k1, s1⟩ := z
  obtain rfl := Value.int.inj (Option.some.inj z0)
  have b1 := b.go k1
  have s2 : RSt h1 ((o.bind fun q => ((knP tx en q K so).bind fun v => .ok (v, q))).bind fun y => .ok y.2) (RKs tx en) := by
    refine ⟨s1.1, s1.2.imp (fun ⟨e, z, y⟩ => ⟨e, by rw [z]; rfl, y⟩) (fun ⟨a, z, y⟩ => ⟨a.2, by rw [z]; rfl, y.1⟩)⟩
  have ht : ∀ q', ((o.bind fun q => ((knP tx en q K so).bind fun v => .ok (v, q))).bind fun y => .ok y.2) = .ok q' → ¬ tkS tx en q' = 5 := by
    intro q' z
    cases o with
    | error e => cases z
    | ok q =>
      cases hk : ((knP tx en q K so).bind fun v => .ok (v, q)) with
      | error e => rw [show (Except.bind (.ok q) fun q => ((knP tx en q K so).bind fun v => .ok (v, q))) = .error e from hk] at z; cases z
      | ok y =>
        rw [show (Except.bind (.ok q) fun q => ((knP tx en q K so).bind fun v => .ok (v, q))) = .ok y from hk] at z
        cases z
        rw [(kn_t5 hk).2, (kn_t5 hk).1]
        decide
  refine g_iS2 dX10_readKnown_5 rfl rfl ?_
  refine g_aL0 dX10_readKnown_6 ?_
  refine r_v0u (r_goesOn b1 s2 ht) lm_X10_123 dX10_readKnown_7 (b1.S.l 50 rfl) (b1.S.k 50 rfl rfl) rfl rfl rfl rfl (fun v h' z => z.1) (fun h1 z => ?_)
  obtain ⟨-, k2, s3⟩ := z
  refine g_iL2 dX10_readKnown_10 ?_
  refine g_iret rfl dX10_readKnown_11 rfl rfl ⟨_, rfl, k2.trans k1, s3.1, ?_⟩
  cases o with
  | error e =>
    rcases s3.2 with ⟨e2, z, y⟩ | ⟨a, z, y⟩
    · cases z; exact Or.inl ⟨_, rfl, y⟩
    · cases z
  | ok q =>
    cases hk : knP tx en q K so with
    | error e =>
      rcases s3.2 with ⟨e2, z, y⟩ | ⟨a, z, y⟩
      · refine Or.inl ⟨e2, ?_, y⟩
        show Except.bind (knP tx en q K so) _ = _
        change Except.bind (Except.bind (Except.bind (knP tx en q K so) _) _) _ = _ at z
        rw [hk] at z ⊢
        cases z; rfl
      · change Except.bind (Except.bind (Except.bind (knP tx en q K so) _) _) _ = _ at z
        rw [hk] at z
        cases z
    | ok v =>
      rcases s3.2 with ⟨e2, z, y⟩ | ⟨a, z, y⟩
      · change Except.bind (Except.bind (Except.bind (knP tx en q K so) _) _) _ = _ at z
        rw [hk] at z
        cases z
      · refine Or.inr ⟨(v, nx tx en q), ?_, ?_, ?_⟩
        · show Except.bind (knP tx en q K so) _ = _
          rw [hk]; rfl
        · change Except.bind (Except.bind (Except.bind (knP tx en q K so) _) _) _ = _ at z
          rw [hk] at z
          cases z
          exact y
        · rcases s1.2 with ⟨e3, z3, _⟩ | ⟨a3, z3, y3⟩
          · change Except.bind (knP tx en q K so) _ = _ at z3
            rw [hk] at z3
            cases z3
          · change Except.bind (knP tx en q K so) _ = _ at z3
            rw [hk] at z3
            cases z3
            exact y3.2

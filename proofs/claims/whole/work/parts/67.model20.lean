/-! THE REFERENCE: the least putty; left, hails -/
/-- the cells of b from i on -/
def ceF (b : Int32) : Nat → Nat → List Nat
  | 0, _ => []
  | n + 1, i => if thF b (nI i) = 0 then ceF b n (i + 1) else i :: ceF b n (i + 1)
abbrev b1 (x : Nat) : Int32 := (1 : Int32) <<< (nI x &&& 31)
/-- the first choice of k cells of a list without which nothing is read -/
def cbF (fw : Int32 → Int32) : Nat → Int32 → List Nat → Option Int32
  | 0, b, _ => if fw b = -2 then some 0 else none
  | _ + 1, _, [] => none
  | k + 1, b, x :: l => match cbF fw k (b &&& (b1 x ^^^ (-1))) l with
    | some o => some (o ||| b1 x)
    | none => cbF fw (k + 1) b l
theorem cb_0 (fw : Int32 → Int32) (b : Int32) (l : List Nat) : cbF fw 0 b l = if fw b = -2 then some 0 else none := by cases l <;> rfl
theorem cb_less (fw : Int32 → Int32) : ∀ (l : List Nat) (k : Nat) (b : Int32), l.length < k → cbF fw k b l = none
  | _, 0, _, h => by omega
  | [], k + 1, _, _ => rfl
  | x :: l, k + 1, b, h => by
    have hl : (x :: l).length = l.length + 1 := rfl
    show (match cbF fw k (b &&& (b1 x ^^^ (-1))) l with | some o => some (o ||| b1 x) | none => cbF fw (k + 1) b l) = none
    rw [cb_less fw l k _ (by omega)]
    exact cb_less fw l (k + 1) b (by omega)
def seT (cl : List Nat) : List Nat → Int32 → Int32
  | [], a => a
  | q :: l, a => seT cl l (a ||| b1 (cl.getD q 0))
theorem se_app (cl : List Nat) (i : Nat) : ∀ (l : List Nat) (a : Int32), seT cl (l ++ [i]) a = seT cl l a ||| b1 (cl.getD i 0)
  | [], _ => rfl
  | q :: l, a => se_app cl i l _
theorem or_asc (a b c : Int32) : (a ||| b) ||| c = a ||| (b ||| c) := bt_ext fun j _ => by rw [bt_or, bt_or, bt_or, bt_or, Bool.or_assoc]
theorem or_com (a b : Int32) : a ||| b = b ||| a := bt_ext fun j _ => by rw [bt_or, bt_or, Bool.or_comm]
theorem and_nor (b s x : Int32) : (b &&& (s ^^^ (-1))) &&& (x ^^^ (-1)) = b &&& ((s ||| x) ^^^ (-1)) := bt_ext fun j hj => by
  rw [bt_and, bt_and, bt_not _ hj, bt_not _ hj, bt_and, bt_not _ hj, bt_or]
  cases bt b j <;> cases bt s j <;> cases bt x j <;> rfl
theorem lv_all {N : Nat} {cl : List Nat} (hN : cl.length = N) (fw : Int32 → Int32) (b R : Int32) (Re : List Nat → Prop) (EX : Prop) (many : Nat)
    (step : ∀ qs, qs.length = many → (∀ k x, qs[k]? = some x → x + (qs.length - k) ≤ N) → (fw (b &&& (seT cl qs 0 ^^^ (-1))) = -2 → R = seT cl qs 0) → (¬ fw (b &&& (seT cl qs 0 ^^^ (-1))) = -2 → (match nxF N qs with | none => EX | some q' => Re q')) → Re qs) :
    ∀ (m : Nat) (pre : List Nat), pre.length + m = many → ∀ (d i : Nat), i + m + d = N → (∀ k x, pre[k]? = some x → x + (pre.length - k) ≤ i) → (∀ o, cbF fw m (b &&& (seT cl pre 0 ^^^ (-1))) (cl.drop i) = some o → R = seT cl pre 0 ||| o) → (cbF fw m (b &&& (seT cl pre 0 ^^^ (-1))) (cl.drop i) = none → (match nxF N (pre ++ upF (N - m) m) with | none => EX | some q' => Re q')) → Re (pre ++ upF i m) := by
  intro m
  induction m with
  | zero =>
    intro pre hp d i hi hv h1 h2
    rw [show upF i 0 = [] from rfl, List.append_nil]
    rw [show upF (N - 0) 0 = [] from rfl, List.append_nil] at h2
    refine step pre hp (fun k x e => by have := hv k x e; omega) (fun z => ?_) (fun z => h2 ((cb_0 _ _ _).trans (if_neg z)))
    have := h1 0 ((cb_0 _ _ _).trans (if_pos z))
    rw [this]
    exact or_0 _
  | succ m ih =>
    intro pre hp d
    induction d with
    | zero =>
      intro i hi hv h1 h2
      have hiN : i < cl.length := by omega
      have hdr : cl.drop i = cl[i] :: cl.drop (i + 1) := List.drop_eq_getElem_cons hiN
      have hgd : cl.getD i 0 = cl[i] := by rw [List.getD_eq_getElem?_getD, List.getElem?_eq_getElem hiN]; rfl
      have e1 : pre ++ upF i (m + 1) = (pre ++ [i]) ++ upF (i + 1) m := by rw [List.append_assoc]; rfl
      rw [e1]
      have hl1 : (pre ++ [i]).length = pre.length + 1 := List.length_append
      refine ih (pre ++ [i]) (by omega) 0 (i + 1) (by omega) (fun k x e => ?_) (fun o ho => ?_) (fun hn => ?_)
      · by_cases z : k < pre.length
        · rw [List.getElem?_append_left z] at e
          have := hv k x e
          omega
        · have hk := (List.getElem?_eq_some_iff.mp e).1
          rw [List.getElem?_append_right (by omega), show k - pre.length = 0 by omega] at e
          cases e
          omega
      · rw [se_app, hgd, ← and_nor] at ho
        have := h1 (o ||| b1 cl[i]) (by rw [hdr]; show (match cbF fw m _ _ with | some o => some (o ||| b1 cl[i]) | none => _) = _; rw [ho])
        rw [this, se_app, hgd, or_asc, or_com o]
      · rw [se_app, hgd, ← and_nor] at hn
        have h3 := h2 (by
          rw [hdr]
          show (match cbF fw m _ _ with | some o => some (o ||| b1 cl[i]) | none => cbF fw (m + 1) _ _) = _
          rw [hn]
          exact cb_less fw _ _ _ (by rw [List.length_drop]; omega))
        rw [show N - (m + 1) = i by omega, e1, show i + 1 = N - m by omega] at h3
        exact h3
    | succ d ihd =>
      intro i hi hv h1 h2
      have hiN : i < cl.length := by omega
      have hdr : cl.drop i = cl[i] :: cl.drop (i + 1) := List.drop_eq_getElem_cons hiN
      have hgd : cl.getD i 0 = cl[i] := by rw [List.getD_eq_getElem?_getD, List.getElem?_eq_getElem hiN]; rfl
      have e1 : pre ++ upF i (m + 1) = (pre ++ [i]) ++ upF (i + 1) m := by rw [List.append_assoc]; rfl
      rw [e1]
      have hl1 : (pre ++ [i]).length = pre.length + 1 := List.length_append
      refine ih (pre ++ [i]) (by omega) (d + 1) (i + 1) (by omega) (fun k x e => ?_) (fun o ho => ?_) (fun hn => ?_)
      · by_cases z : k < pre.length
        · rw [List.getElem?_append_left z] at e
          have := hv k x e
          omega
        · have hk := (List.getElem?_eq_some_iff.mp e).1
          rw [List.getElem?_append_right (by omega), show k - pre.length = 0 by omega] at e
          cases e
          omega
      · rw [se_app, hgd, ← and_nor] at ho
        have := h1 (o ||| b1 cl[i]) (by rw [hdr]; show (match cbF fw m _ _ with | some o => some (o ||| b1 cl[i]) | none => _) = _; rw [ho])
        rw [this, se_app, hgd, or_asc, or_com o]
      · rw [se_app, hgd, ← and_nor] at hn
        have e2 : cbF fw (m + 1) (b &&& (seT cl pre 0 ^^^ (-1))) (cl.drop i) = cbF fw (m + 1) (b &&& (seT cl pre 0 ^^^ (-1))) (cl.drop (i + 1)) := by
          rw [hdr]
          show (match cbF fw m _ _ with | some o => some (o ||| b1 cl[i]) | none => cbF fw (m + 1) _ _) = _
          rw [hn]
        rw [e2] at h1 h2
        have h3 := ihd (i + 1) (by omega) (fun k x e => by have := hv k x e; omega) h1 h2
        rw [List.append_assoc, show [i] ++ upF (N - m) m = i :: upF (N - m) m from rfl, nx_pre (nx_x (n := N) (x := i) (m := m) (by omega)) pre]
        exact h3
/-- the least putty, as the reference finds it: -1 if there is none -/
def ptF (fw : Int32 → Int32) (b : Int32) (cl : List Nat) : Nat → Nat → Int32
  | 0, _ => -1
  | n + 1, i => match cbF fw i b cl with
    | some o => o
    | none => ptF fw b cl n (i + 1)
theorem pt_less (fw : Int32 → Int32) (b : Int32) (cl : List Nat) : ∀ (n i : Nat), cl.length < i → ptF fw b cl n i = -1
  | 0, _, _ => rfl
  | n + 1, i, h => by
    show (match cbF fw i b cl with | some o => o | none => ptF fw b cl n (i + 1)) = -1
    rw [cb_less fw cl i b h]
    exact pt_less fw b cl n (i + 1) (by omega)
theorem pI_pk {h : Hp} {cs : List Nat} (r : PK h 57 cs) (x : Nat) : PK (pI h 57 cs.length (nI x)) 57 (cs ++ [x]) := fun k y e => by
  by_cases z : k < cs.length
  · rw [List.getElem?_append_left z] at e
    exact (gIk (by omega)).trans (r k y e)
  · have hk := (List.getElem?_eq_some_iff.mp e).1
    have hl : (cs ++ [x]).length = cs.length + 1 := List.length_append
    obtain rfl : k = cs.length := by omega
    rw [List.getElem?_append_right (Nat.le_refl _), Nat.sub_self] at e
    cases e
    exact gIs _ _ _ _
theorem ce_lt (b : Int32) : ∀ (n i : Nat) (x : Nat), x ∈ ceF b n i → x < i + n
  | 0, _, x, h => by cases h
  | n + 1, i, x, h => by
    rw [ceF] at h
    split at h
    · have := ce_lt b n (i + 1) x h; omega
    · rcases List.mem_cons.mp h with z | z
      · omega
      · have := ce_lt b n (i + 1) x z; omega
theorem ce_len (b : Int32) : ∀ (n i : Nat), (ceF b n i).length ≤ n
  | 0, _ => Nat.le_refl 0
  | n + 1, i => by
    rw [ceF]
    have := ce_len b n (i + 1)
    split
    · omega
    · rw [List.length_cons]; omega
theorem and_n0 (b : Int32) : b &&& (0 ^^^ (-1)) = b := bt_ext fun j hj => by rw [bt_and, bt_not _ hj, bt_0]; cases bt b j <;> rfl
theorem d_putties {h : Hp} {c : Nat} {cn : Nat → Nat} (X : MX h c cn) (b : Int32) : gC 1 0 0 yX10_putties cX10_putties 7 (some .int) [.ref 50, .int b] h (fun v h' => v = some (.int (ptF (fun b => fwF (gI h (c + 3)) b (cn 2) 0) b (ceF b 20 0) 5 0)) ∧ mF h' h) := by
  have hc6 := X.M.1
  generalize hcl : ceF b 20 0 = cl
  have hN20 : cl.length ≤ 20 := by rw [← hcl]; exact ce_len b 20 0
  have hx20 : ∀ x ∈ cl, x < 20 := fun x hx => by have := ce_lt b 20 0 x (by rw [hcl]; exact hx); omega
  generalize hfw : (fun b => fwF (gI h (c + 3)) b (cn 2) 0) = fw
  refine g_entry (lv := [.ref 50, .int b, .retAddr 0, .retAddr 0, .retAddr 0, .retAddr 0, .retAddr 0]) 5 pn_X10 rfl rfl rfl ?_
  have outer : ∀ (d i : Nat) (hh : Hp) (v4 v5 v6 : Value), i + d = 5 → ptF fw b cl 5 0 = ptF fw b cl d i → PK hh 57 cl → mF hh h → gY 1 0 0 yX10_putties cX10_putties 7 (some .int) 0 0 (fun v h' => v = some (.int (ptF fw b cl 5 0)) ∧ mF h' h) 39 [.ref 50, .int b, .int (nI cl.length), .int (nI i), v4, v5, v6] [] hh := by
    intro d
    induction d with
    | zero =>
      intro i hh v4 v5 v6 hi he hc hk
      have Y := X.mf hk
      refine g_iL3 dX10_putties_39 ?_
      refine g_iconst dX10_putties_40 ?_
      rw [show (4 : Int32) = nI 4 from rfl]
      refine g_icgt dX10_putties_41 (fun c41 => ?_) (fun c41 => absurd (nI_lt (by omega) (by omega)) c41)
      refine g_iconst dX10_putties_153 ?_
      exact g_iret rfl dX10_putties_154 rfl rfl ⟨by rw [he]; rfl, hk⟩
    | succ d ihd =>
      intro i hh v4 v5 v6 hi he hc hk
      have Y := X.mf hk
      refine g_iL3 dX10_putties_39 ?_
      refine g_iconst dX10_putties_40 ?_
      rw [show (4 : Int32) = nI 4 from rfl]
      refine g_icgt dX10_putties_41 (fun c41 => absurd c41 (nI_nlt (by omega) (by omega))) (fun c41 => ?_)
      refine g_iL3 dX10_putties_44 ?_
      refine g_iL2 dX10_putties_45 ?_
      refine g_icgt dX10_putties_46 (fun c46 => ?_) (fun c46 => ?_)
      · refine g_iconst dX10_putties_153 ?_
        have hl : cl.length < i := (nI_ltI (by omega) (by omega)).mp c46
        exact g_iret rfl dX10_putties_154 rfl rfl ⟨by rw [he, pt_less fw b cl _ _ hl], hk⟩
      · refine g_iconst dX10_putties_49 ?_
        refine g_iS4 dX10_putties_50 rfl rfl ?_
        have hiN : i ≤ cl.length := by
          rcases Nat.lt_or_ge cl.length i with z | z
          · exact absurd (nI_lt z (by omega)) c46
          · exact z
        have step : ∀ qs : List Nat, qs.length = i → (∀ k x, qs[k]? = some x → x + (qs.length - k) ≤ cl.length) → (fw (b &&& (seT cl qs 0 ^^^ (-1))) = -2 → ptF fw b cl 5 0 = seT cl qs 0) → (¬ fw (b &&& (seT cl qs 0 ^^^ (-1))) = -2 → (match nxF cl.length qs with | none => (∀ (hh : Hp) (v4 v5 v6 : Value), PK hh 57 cl → mF hh h → gY 1 0 0 yX10_putties cX10_putties 7 (some .int) 0 0 (fun v h' => v = some (.int (ptF fw b cl 5 0)) ∧ mF h' h) 147 [.ref 50, .int b, .int (nI cl.length), .int (nI i), v4, v5, v6] [] hh) | some q' => (∀ (hh : Hp) (v5 v6 : Value), PK hh 58 q' → PK hh 57 cl → mF hh h → gY 1 0 0 yX10_putties cX10_putties 7 (some .int) 0 0 (fun v h' => v = some (.int (ptF fw b cl 5 0)) ∧ mF h' h) 81 [.ref 50, .int b, .int (nI cl.length), .int (nI i), .int 1, v5, v6] [] hh))) → (∀ (hh : Hp) (v5 v6 : Value), PK hh 58 qs → PK hh 57 cl → mF hh h → gY 1 0 0 yX10_putties cX10_putties 7 (some .int) 0 0 (fun v h' => v = some (.int (ptF fw b cl 5 0)) ∧ mF h' h) 81 [.ref 50, .int b, .int (nI cl.length), .int (nI i), .int 1, v5, v6] [] hh) := by
          intro qs hqs hvq hok hno hh v5 v6 hp hc hk
          have Y := X.mf hk
          have lp : ∀ (l : List Nat) (k : Nat) (a : Int32), k + l.length = i → qs.drop k = l → seT cl l a = seT cl qs 0 → gY 1 0 0 yX10_putties cX10_putties 7 (some .int) 0 0 (fun v h' => v = some (.int (ptF fw b cl 5 0)) ∧ mF h' h) 87 [.ref 50, .int b, .int (nI cl.length), .int (nI i), .int 1, .int a, .int (nI k)] [] hh := by
            intro l
            induction l with
            | nil =>
              intro k a hki hd he
              have hk2 : k = i := hki
              have he : a = seT cl qs 0 := he
              refine g_iL6 dX10_putties_87 ?_
              refine g_iL3 dX10_putties_89 ?_
              refine g_icge dX10_putties_90 (fun c90 => ?_) (fun c90 => absurd (nI_le (by omega) (by omega)) c90)
              refine g_aL0 dX10_putties_118 ?_
              refine g_iL1 dX10_putties_119 ?_
              refine g_iL5 dX10_putties_120 ?_
              refine g_iconst dX10_putties_122 ?_
              refine g_ixor dX10_putties_123 ?_
              refine g_iand dX10_putties_124 ?_
              refine e_v1i (d_readOf Y _) lm_X10_404 dX10_putties_125 (Y.S.l 50 rfl) (Y.S.k 50 rfl rfl) rfl rfl rfl rfl ?_
              rw [show fwF (gI hh (c + 3)) (b &&& (a ^^^ (-1))) (cn 2) 0 = fw (b &&& (a ^^^ (-1))) from by rw [← hfw, hk.f (b := c + 3) (by omega) (by omega) (by omega) (by omega) (by omega)]]
              refine g_bipush dX10_putties_128 ?_
              refine g_icne dX10_putties_130 (fun c130 => ?_) (fun c130 => ?_)
              · refine g_aL0 dX10_putties_136 ?_
                refine g_iL3 dX10_putties_137 ?_
                refine g_iL2 dX10_putties_138 ?_
                have W := d_nextPick Y.S (n := cl.length) (qs := qs) hN20 (by omega) (by omega) hvq hp
                rw [hqs] at W
                refine r_v2i W lm_X10_471 dX10_putties_139 (Y.S.l 50 rfl) (Y.S.k 50 rfl rfl) rfl rfl rfl rfl (fun v h' e => by cases hx : nxF cl.length qs with
                  | none => rw [hx] at e; exact ⟨_, e.1⟩
                  | some q' => rw [hx] at e; exact ⟨_, e.1⟩) (fun r h1 e => ?_)
                have hno2 := hno (by rw [← he]; exact c130)
                cases hx : nxF cl.length qs with
                | none =>
                  rw [hx] at e hno2
                  obtain ⟨e1, rfl⟩ := e
                  obtain rfl := Value.int.inj (Option.some.inj e1)
                  refine g_iS4 dX10_putties_142 rfl rfl ?_
                  refine g_goto dX10_putties_144 ?_
                  refine g_iL4 dX10_putties_76 ?_
                  refine g_ifeq dX10_putties_78 (fun c78 => ?_) (fun c78 => absurd rfl c78)
                  exact hno2 _ _ _ _ hc hk
                | some q' =>
                  rw [hx] at e hno2
                  obtain ⟨e1, p1, k1⟩ := e
                  obtain rfl := Value.int.inj (Option.some.inj e1)
                  have Y := X.mf (k1.m.trans hk)
                  refine g_iS4 dX10_putties_142 rfl rfl ?_
                  refine g_goto dX10_putties_144 ?_
                  refine g_iL4 dX10_putties_76 ?_
                  refine g_ifeq dX10_putties_78 (fun c78 => absurd c78 (by decide)) (fun c78 => ?_)
                  exact hno2 _ _ _ p1 (fun k x e => (k1.2.2.2.2.1 57 k (by decide)).trans (hc k x e)) (k1.m.trans hk)
              · refine g_iL5 dX10_putties_133 ?_
                exact g_iret rfl dX10_putties_135 rfl rfl ⟨by rw [hok (by rw [← he]; exact c130), he], hk⟩
            | cons x l ih =>
              intro k a hki hd he
              have hll : (x :: l).length = l.length + 1 := rfl
              have hx : qs[k]? = some x := by
                have : (qs.drop k)[0]? = some x := by rw [hd]; rfl
                rwa [List.getElem?_drop, Nat.add_zero] at this
              have hd2 : qs.drop (k + 1) = l := by rw [← List.drop_drop, hd]; rfl
              have hkx := hp k x hx
              have hvx := hvq k x hx
              have hxN : x < cl.length := by omega
              have hcx := hc x (cl.getD x 0) (by rw [List.getD_eq_getElem?_getD, List.getElem?_eq_getElem hxN]; rfl)
              refine g_iL6 dX10_putties_87 ?_
              refine g_iL3 dX10_putties_89 ?_
              refine g_icge dX10_putties_90 (fun c90 => absurd c90 (nI_ge (by omega) (by omega))) (fun c90 => ?_)
              refine g_iL5 dX10_putties_93 ?_
              refine g_iconst dX10_putties_95 ?_
              refine g_aL0 dX10_putties_96 ?_
              refine g_getR lf_X10_33 (Y.S.l 50 rfl) (Y.S.k 50 rfl rfl) (Y.S.r 50 32 (b := 57) rfl rfl) dX10_putties_97 ?_
              refine g_aL0 dX10_putties_100 ?_
              refine g_getR lf_X10_36 (Y.S.l 50 rfl) (Y.S.k 50 rfl rfl) (Y.S.r 50 33 (b := 58) rfl rfl) dX10_putties_101 ?_
              refine g_iL6 dX10_putties_104 ?_
              refine g_ialoadN (Y.S.l 58 rfl) (Y.S.k 58 rfl rfl) (Y.S.n 58 (n := 4) rfl rfl) (by omega) (by decide) dX10_putties_106 ?_
              rw [hkx]
              refine g_ialoadN (Y.S.l 57 rfl) (Y.S.k 57 rfl rfl) (Y.S.n 57 (n := 20) rfl rfl) (by omega) (by decide) dX10_putties_107 ?_
              rw [hcx]
              refine g_ishl dX10_putties_108 ?_
              refine g_ior dX10_putties_109 ?_
              refine g_iS5 dX10_putties_110 rfl rfl ?_
              refine g_ii6 dX10_putties_112 rfl rfl ?_
              refine g_goto dX10_putties_115 ?_
              rw [nI_1]
              exact ih (k + 1) _ (by omega) hd2 he
          refine g_iconst dX10_putties_81 ?_
          refine g_iS5 dX10_putties_82 rfl rfl ?_
          refine g_iconst dX10_putties_84 ?_
          refine g_iS6 dX10_putties_85 rfl rfl ?_
          exact lp qs 0 _ (by omega) rfl rfl
        have all : (∀ (hh : Hp) (v5 v6 : Value), PK hh 58 (upF 0 i) → PK hh 57 cl → mF hh h → gY 1 0 0 yX10_putties cX10_putties 7 (some .int) 0 0 (fun v h' => v = some (.int (ptF fw b cl 5 0)) ∧ mF h' h) 81 [.ref 50, .int b, .int (nI cl.length), .int (nI i), .int 1, v5, v6] [] hh) := by
          refine lv_all (N := cl.length) rfl fw b (ptF fw b cl 5 0) (fun q => (∀ (hh : Hp) (v5 v6 : Value), PK hh 58 q → PK hh 57 cl → mF hh h → gY 1 0 0 yX10_putties cX10_putties 7 (some .int) 0 0 (fun v h' => v = some (.int (ptF fw b cl 5 0)) ∧ mF h' h) 81 [.ref 50, .int b, .int (nI cl.length), .int (nI i), .int 1, v5, v6] [] hh)) (∀ (hh : Hp) (v4 v5 v6 : Value), PK hh 57 cl → mF hh h → gY 1 0 0 yX10_putties cX10_putties 7 (some .int) 0 0 (fun v h' => v = some (.int (ptF fw b cl 5 0)) ∧ mF h' h) 147 [.ref 50, .int b, .int (nI cl.length), .int (nI i), v4, v5, v6] [] hh) i step i [] (Nat.zero_add i) (cl.length - i) 0 (by omega) (fun k x e => by cases e) (fun o ho => ?_) (fun hn => ?_)
          · rw [show b &&& (seT cl [] 0 ^^^ (-1)) = b from and_n0 b, List.drop_zero] at ho
            rw [he, show seT cl [] 0 = 0 from rfl, or_com, or_0]
            show (match cbF fw i b cl with | some o => o | none => ptF fw b cl d (i + 1)) = o
            rw [ho]
          · rw [show b &&& (seT cl [] 0 ^^^ (-1)) = b from and_n0 b, List.drop_zero] at hn
            rw [show [] ++ upF (cl.length - i) i = upF (cl.length - i) i from rfl, nx_up cl.length i (cl.length - i) (by omega)]
            intro hh v4 v5 v6 hc hk
            have Y := X.mf hk
            refine g_ii3 dX10_putties_147 rfl rfl ?_
            refine g_goto dX10_putties_150 ?_
            rw [nI_1]
            exact ihd (i + 1) hh _ _ _ (by omega) (he.trans (show (match cbF fw i b cl with | some o => o | none => ptF fw b cl d (i + 1)) = _ by rw [hn])) hc hk
        have first : ∀ (nn j : Nat) (hh : Hp), j + nn = i → True → SX hh → (∀ k, k < j → gI hh 58 k = nI k) → PK hh 57 cl → mF hh h → gY 1 0 0 yX10_putties cX10_putties 7 (some .int) 0 0 (fun v h' => v = some (.int (ptF fw b cl 5 0)) ∧ mF h' h) 52 [.ref 50, .int b, .int (nI cl.length), .int (nI i), .int (nI j), v5, v6] [] hh := by
          intro nn
          induction nn with
          | zero =>
            intro j hh hiz hez S hj hc hk
            refine g_iL4 dX10_putties_52 ?_
            refine g_iL3 dX10_putties_54 ?_
            refine g_icge dX10_putties_55 (fun c55 => ?_) (fun c55 => absurd (nI_le (by omega) (by omega)) c55)
            refine g_iconst dX10_putties_73 ?_
            refine g_iS4 dX10_putties_74 rfl rfl ?_
            refine g_iL4 dX10_putties_76 ?_
            refine g_ifeq dX10_putties_78 (fun c78 => absurd c78 (by decide)) (fun c78 => ?_)
            refine all hh _ _ (fun k x e => ?_) hc hk
            have hkl := (List.getElem?_eq_some_iff.mp e).1
            rw [up_len] at hkl
            rw [up_get _ _ _ hkl, Nat.zero_add] at e
            rw [hj k (by omega), Option.some.inj e]
          | succ nn ihz =>
            intro j hh hiz hez S hj hc hk
            refine g_iL4 dX10_putties_52 ?_
            refine g_iL3 dX10_putties_54 ?_
            refine g_icge dX10_putties_55 (fun c55 => absurd c55 (nI_ge (by omega) (by omega))) (fun c55 => ?_)
            refine g_aL0 dX10_putties_58 ?_
            refine g_getR lf_X10_36 (S.l 50 rfl) (S.k 50 rfl rfl) (S.r 50 33 (b := 58) rfl rfl) dX10_putties_59 ?_
            refine g_iL4 dX10_putties_62 ?_
            refine g_iL4 dX10_putties_64 ?_
            refine g_iastoreN (S.l 58 rfl) (S.k 58 rfl rfl) (S.n 58 (n := 4) rfl rfl) (by omega) (by decide) dX10_putties_66 ?_
            refine g_ii4 dX10_putties_67 rfl rfl ?_
            refine g_goto dX10_putties_70 ?_
            rw [nI_1]
            exact ihz (j + 1) _ (by omega) trivial S (fun k hk2 => by
              by_cases z : k = j
              · subst z; exact gIs _ _ _ _
              · exact (gIk z).trans (hj k (by omega))) (fun k x e => (gIq (by decide)).trans (hc k x e)) ((mF_58 _ _ _).trans hk)
        exact first i 0 hh (by omega) trivial Y.S (fun k hk2 => by omega) hc hk
  have cells : ∀ (n i : Nat) (cs : List Nat) (hh : Hp), i + n = 20 → cl = cs ++ ceF b n i → SX hh → PK hh 57 cs → mF hh h → cs.length ≤ i → gY 1 0 0 yX10_putties cX10_putties 7 (some .int) 0 0 (fun v h' => v = some (.int (ptF fw b cl 5 0)) ∧ mF h' h) 4 [.ref 50, .int b, .int (nI cs.length), .int (nI i), .retAddr 0, .retAddr 0, .retAddr 0] [] hh := by
    intro n
    induction n with
    | zero =>
      intro i cs hh hi he S hc hk hcl3
      refine g_iL3 dX10_putties_4 ?_
      refine g_bipush dX10_putties_5 ?_
      rw [show (20 : Int32) = nI 20 from rfl]
      have hcl2 : cs.length ≤ i := hcl3
      refine g_icge dX10_putties_7 (fun c7 => ?_) (fun c7 => absurd (nI_le (by omega) (by omega)) c7)
      refine g_iconst dX10_putties_37 ?_
      refine g_iS3 dX10_putties_38 rfl rfl ?_
      rw [show cs = cl from by rw [he]; exact (List.append_nil cs).symm] at hc ⊢
      exact outer 5 0 hh _ _ _ (by omega) rfl hc hk
    | succ n ih =>
      intro i cs hh hi he S hc hk hcl3
      refine g_iL3 dX10_putties_4 ?_
      refine g_bipush dX10_putties_5 ?_
      rw [show (20 : Int32) = nI 20 from rfl]
      have hcl2 : cs.length ≤ i := hcl3
      refine g_icge dX10_putties_7 (fun c7 => absurd c7 (nI_ge (by omega) (by omega))) (fun c7 => ?_)
      refine g_iL1 dX10_putties_10 ?_
      refine g_iL3 dX10_putties_11 ?_
      refine e_s2i (d_bit _ _) lm_X10_367 dX10_putties_12 rfl rfl rfl rfl ?_
      refine g_ifne dX10_putties_15 (fun c15 => ?_) (fun c15 => ?_)
      · refine g_aL0 dX10_putties_21 ?_
        refine g_getR lf_X10_33 (S.l 50 rfl) (S.k 50 rfl rfl) (S.r 50 32 (b := 57) rfl rfl) dX10_putties_22 ?_
        refine g_iL2 dX10_putties_25 ?_
        refine g_iL3 dX10_putties_26 ?_
        refine g_iastoreN (S.l 57 rfl) (S.k 57 rfl rfl) (S.n 57 (n := 20) rfl rfl) (by omega) (by decide) dX10_putties_27 ?_
        refine g_ii2 dX10_putties_28 rfl rfl ?_
        refine g_ii3 dX10_putties_31 rfl rfl ?_
        refine g_goto dX10_putties_34 ?_
        rw [nI_1, nI_1, show cs.length + 1 = (cs ++ [i]).length from by rw [List.length_append]; rfl]
        exact ih (i + 1) _ _ (by omega) (he.trans (by rw [ceF, if_neg c15, List.append_assoc]; rfl)) S (pI_pk hc i) ((mF_57 _ _ _).trans hk) (by rw [List.length_append]; exact Nat.succ_le_succ hcl2)
      · refine g_goto dX10_putties_18 ?_
        refine g_ii3 dX10_putties_31 rfl rfl ?_
        refine g_goto dX10_putties_34 ?_
        rw [nI_1]
        exact ih (i + 1) _ _ (by omega) (he.trans (by rw [ceF, if_pos c15])) S hc hk (by omega)
  refine g_iconst dX10_putties_0 ?_
  refine g_iS2 dX10_putties_1 rfl rfl ?_
  refine g_iconst dX10_putties_2 ?_
  refine g_iS3 dX10_putties_3 rfl rfl ?_
  exact cells 20 0 [] h (by omega) hcl.symm X.S (fun k x e => by cases e) (mF.refl h) (Nat.le_refl 0)
theorem n_putty {h : Hp} {c : Nat} {cn : Nat → Nat} (X : MX (mT h) c cn) (p v : Int32) : gC 3 0 0 yX10_putty cX10_putty 5 (some .int) [.ref 50, .int p, .int v] h (mQ2 (mT h) (.int (if (wnF (ipF p (nI (cn 1))) (siF v (nI (cn 3))) (thF (gI (mT h) 52 16) p)) = 0 then (if (ptF (fun b => fwF (gI (mT h) (c + 3)) b (cn 2) 0) (seM (mT h) c (pn p) v) (ceF (seM (mT h) c (pn p) v) 20 0) 5 0) = -1 then -2 else pcI (ptF (fun b => fwF (gI (mT h) (c + 3)) b (cn 2) 0) (seM (mT h) c (pn p) v) (ceF (seM (mT h) c (pn p) v) 20 0) 5 0)) else -1)) (wnF (ipF p (nI (cn 1))) (siF v (nI (cn 3))) (thF (gI (mT h) 52 16) p))) := by
  refine g_entry (lv := [.ref 50, .int p, .int v, .retAddr 0, .retAddr 0]) 2 pn_X10 rfl rfl rfl ?_
  refine g_aL0 dX10_putty_0 ?_
  refine g_iconst dX10_putty_1 ?_
  refine g_pI0 lf_X10_39 (X.S.l 50 rfl) (X.S.k 50 rfl rfl) dX10_putty_2 ?_
  show gY _ _ _ _ _ _ _ _ _ _ _ _ _ (mT h)
  generalize mT h = h at X ⊢
  refine g_aL0 dX10_putty_5 ?_
  refine g_iL1 dX10_putty_6 ?_
  refine g_iL2 dX10_putty_7 ?_
  refine e_v2i (d_refusesSeen X _ _) lm_X10_398 dX10_putty_8 (X.S.l 50 rfl) (X.S.k 50 rfl rfl) rfl rfl rfl rfl ?_
  refine g_iS3 dX10_putty_11 rfl rfl ?_
  refine g_iL3 dX10_putty_12 ?_
  refine g_ifle dX10_putty_13 (fun c13 => ?_) (fun c13 => ?_)
  · obtain ⟨P, hP, rfl⟩ := ip1 (by have := X.b1; omega) (wn0 (wn_le c13)).1
    have hP8 : P < 8 := by have := X.b1; omega
    have qP := pn_nI (n := P) (by omega)
    have hsv := (wn0 (wn_le c13)).2.1
    refine g_aL0 dX10_putty_22 ?_
    refine g_aL0 dX10_putty_23 ?_
    refine g_iL1 dX10_putty_24 ?_
    refine g_iL2 dX10_putty_25 ?_
    refine e_v2i (d_seenOf X hP8 hsv) lm_X10_401 dX10_putty_26 (X.S.l 50 rfl) (X.S.k 50 rfl rfl) rfl rfl rfl rfl ?_
    refine r_v1i (d_putties X _) lm_X10_474 dX10_putty_29 (X.S.l 50 rfl) (X.S.k 50 rfl rfl) rfl rfl rfl rfl (fun v h' e => ⟨_, e.1⟩) (fun r h1 e => ?_)
    obtain ⟨e1, k1⟩ := e
    obtain rfl := Value.int.inj (Option.some.inj e1)
    have Sk := k1.S X.S
    refine g_iS4 dX10_putty_32 rfl rfl ?_
    refine g_aL0 dX10_putty_34 ?_
    refine g_iL4 dX10_putty_35 ?_
    refine g_iconst dX10_putty_37 ?_
    refine g_icne dX10_putty_38 (fun c38 => ?_) (fun c38 => ?_)
    · refine g_iL4 dX10_putty_46 ?_
      refine e_s1i (d_bits _) lm_X10_392 dX10_putty_48 rfl rfl rfl rfl ?_
      refine e_v1i (d_good Sk _) lm_X10_49 dX10_putty_51 (Sk.l 50 rfl) (Sk.k 50 rfl rfl) rfl rfl rfl rfl ?_
      exact g_iret rfl dX10_putty_54 rfl rfl ⟨by rw [if_pos (wn_le c13), qP, if_neg c38], h1, k1, by rw [wn_le c13]⟩
    · refine g_bipush dX10_putty_41 ?_
      refine g_goto dX10_putty_43 ?_
      refine e_v1i (d_good Sk _) lm_X10_49 dX10_putty_51 (Sk.l 50 rfl) (Sk.k 50 rfl rfl) rfl rfl rfl rfl ?_
      exact g_iret rfl dX10_putty_54 rfl rfl ⟨by rw [if_pos (wn_le c13), qP, if_pos c38], h1, k1, by rw [wn_le c13]⟩
  · refine g_aL0 dX10_putty_16 ?_
    refine g_iL3 dX10_putty_17 ?_
    refine e_v1i (d_refused X.S _) lm_X10_45 dX10_putty_18 (X.S.l 50 rfl) (X.S.k 50 rfl rfl) rfl rfl rfl rfl ?_
    exact g_iret rfl dX10_putty_21 rfl rfl ⟨by rw [if_neg (wn_gt c13)], h, mF.refl h, rfl⟩
theorem n_puttyOf {h : Hp} {c : Nat} {cn : Nat → Nat} (X : MX (mT h) c cn) (p v : Int32) : gC 3 0 0 yX10_puttyOf cX10_puttyOf 5 (some .int) [.ref 50, .int p, .int v] h (mQ2 (mT h) (.int (if (wnF (ipF p (nI (cn 1))) (siF v (nI (cn 3))) (thF (gI (mT h) 52 16) p)) = 0 then (if (ptF (fun b => fwF (gI (mT h) (c + 3)) b (cn 2) 0) (seM (mT h) c (pn p) v) (ceF (seM (mT h) c (pn p) v) 20 0) 5 0) = -1 then 0 else (ptF (fun b => fwF (gI (mT h) (c + 3)) b (cn 2) 0) (seM (mT h) c (pn p) v) (ceF (seM (mT h) c (pn p) v) 20 0) 5 0)) else -1)) (wnF (ipF p (nI (cn 1))) (siF v (nI (cn 3))) (thF (gI (mT h) 52 16) p))) := by
  refine g_entry (lv := [.ref 50, .int p, .int v, .retAddr 0, .retAddr 0]) 2 pn_X10 rfl rfl rfl ?_
  refine g_aL0 dX10_puttyOf_0 ?_
  refine g_iconst dX10_puttyOf_1 ?_
  refine g_pI0 lf_X10_39 (X.S.l 50 rfl) (X.S.k 50 rfl rfl) dX10_puttyOf_2 ?_
  show gY _ _ _ _ _ _ _ _ _ _ _ _ _ (mT h)
  generalize mT h = h at X ⊢
  refine g_aL0 dX10_puttyOf_5 ?_
  refine g_iL1 dX10_puttyOf_6 ?_
  refine g_iL2 dX10_puttyOf_7 ?_
  refine e_v2i (d_refusesSeen X _ _) lm_X10_398 dX10_puttyOf_8 (X.S.l 50 rfl) (X.S.k 50 rfl rfl) rfl rfl rfl rfl ?_
  refine g_iS3 dX10_puttyOf_11 rfl rfl ?_
  refine g_iL3 dX10_puttyOf_12 ?_
  refine g_ifle dX10_puttyOf_13 (fun c13 => ?_) (fun c13 => ?_)
  · obtain ⟨P, hP, rfl⟩ := ip1 (by have := X.b1; omega) (wn0 (wn_le c13)).1
    have hP8 : P < 8 := by have := X.b1; omega
    have qP := pn_nI (n := P) (by omega)
    have hsv := (wn0 (wn_le c13)).2.1
    refine g_aL0 dX10_puttyOf_22 ?_
    refine g_aL0 dX10_puttyOf_23 ?_
    refine g_iL1 dX10_puttyOf_24 ?_
    refine g_iL2 dX10_puttyOf_25 ?_
    refine e_v2i (d_seenOf X hP8 hsv) lm_X10_401 dX10_puttyOf_26 (X.S.l 50 rfl) (X.S.k 50 rfl rfl) rfl rfl rfl rfl ?_
    refine r_v1i (d_putties X _) lm_X10_474 dX10_puttyOf_29 (X.S.l 50 rfl) (X.S.k 50 rfl rfl) rfl rfl rfl rfl (fun v h' e => ⟨_, e.1⟩) (fun r h1 e => ?_)
    obtain ⟨e1, k1⟩ := e
    obtain rfl := Value.int.inj (Option.some.inj e1)
    have Sk := k1.S X.S
    refine g_iS4 dX10_puttyOf_32 rfl rfl ?_
    refine g_aL0 dX10_puttyOf_34 ?_
    refine g_iL4 dX10_puttyOf_35 ?_
    refine g_iconst dX10_puttyOf_37 ?_
    refine g_icne dX10_puttyOf_38 (fun c38 => ?_) (fun c38 => ?_)
    · refine g_iL4 dX10_puttyOf_45 ?_
      refine e_v1i (d_good Sk _) lm_X10_49 dX10_puttyOf_47 (Sk.l 50 rfl) (Sk.k 50 rfl rfl) rfl rfl rfl rfl ?_
      exact g_iret rfl dX10_puttyOf_50 rfl rfl ⟨by rw [if_pos (wn_le c13), qP, if_neg c38], h1, k1, by rw [wn_le c13]⟩
    · refine g_iconst dX10_puttyOf_41 ?_
      refine g_goto dX10_puttyOf_42 ?_
      refine e_v1i (d_good Sk _) lm_X10_49 dX10_puttyOf_47 (Sk.l 50 rfl) (Sk.k 50 rfl rfl) rfl rfl rfl rfl ?_
      exact g_iret rfl dX10_puttyOf_50 rfl rfl ⟨by rw [if_pos (wn_le c13), qP, if_pos c38], h1, k1, by rw [wn_le c13]⟩
  · refine g_aL0 dX10_puttyOf_16 ?_
    refine g_iL3 dX10_puttyOf_17 ?_
    refine e_v1i (d_refused X.S _) lm_X10_45 dX10_puttyOf_18 (X.S.l 50 rfl) (X.S.k 50 rfl rfl) rfl rfl rfl rfl ?_
    exact g_iret rfl dX10_puttyOf_21 rfl rfl ⟨by rw [if_neg (wn_gt c13)], h, mF.refl h, rfl⟩
theorem rd_le {s d : Int32} (z : rdD s d ≤ 0) : rdD s d = 0 ∧ ∃ S D, S ≤ 65536 ∧ D ≤ 99 ∧ s = nI S ∧ d = nI D := by
  have key : ∀ {x b : Int32} {B : Nat}, b = nI B → B < 2147483648 → ¬ inF x 0 b = 0 → ∃ S, S ≤ B ∧ x = nI S := by
    intro x b B hb hB hx
    have h1 := in_t hx
    rw [hb, nI_toInt hB, show (0 : Int32).toInt = 0 from rfl] at h1
    refine ⟨x.toInt.toNat, by omega, ?_⟩
    apply Int32.toInt_inj.mp
    rw [nI_toInt (by omega)]
    omega
  unfold rdD at z ⊢
  by_cases x1 : inF s 0 65536 = 0
  · rw [if_pos x1] at z; exact absurd z (by decide)
  · by_cases x2 : inF d 0 99 = 0
    · rw [if_neg x1, if_pos x2] at z; exact absurd z (by decide)
    · rw [if_neg x1, if_neg x2]
      obtain ⟨S, hS, e1⟩ := key (b := 65536) (B := 65536) rfl (by decide) x1
      obtain ⟨D, hD, e2⟩ := key (b := 99) (B := 99) rfl (by decide) x2
      exact ⟨rfl, S, D, hS, hD, e1, e2⟩
theorem rd_gt {s d : Int32} (z : ¬ rdD s d ≤ 0) : ¬ rdD s d = 0 := fun e => z (by rw [e]; decide)
theorem n_left {h : Hp} {c : Nat} {cn : Nat → Nat} (X : MX (mT h) c cn) (hN : 0 < cn 1) (s d : Int32) : gCi 3 0 0 yX10_left cX10_left 4 (some .int) [.ref 50, .int s, .int d] h (some (.int (if rdD s d = 0 then (paF (gI (mT h) c 2) (gI (mT h) c 3) (gI (mT h) (c + 1)) (cn 1) (pn d) 1 (pn s) (ubF (nI (cn 1)) (gI (mT h) 52 16)) 0).2.1 else -1))) (mR (if rdD s d = 0 then pI (mT h) 50 34 (paF (gI (mT h) c 2) (gI (mT h) c 3) (gI (mT h) (c + 1)) (cn 1) (pn d) 1 (pn s) (ubF (nI (cn 1)) (gI (mT h) 52 16)) 0).2.2 else (mT h)) (rdD s d)) := by
  refine g_entry (lv := [.ref 50, .int s, .int d, .retAddr 0]) 1 pn_X10 rfl rfl rfl ?_
  refine g_aL0 dX10_left_0 ?_
  refine g_iconst dX10_left_1 ?_
  refine g_pI0 lf_X10_39 (X.S.l 50 rfl) (X.S.k 50 rfl rfl) dX10_left_2 ?_
  show gY _ _ _ _ _ _ _ _ _ _ _ _ _ (mT h)
  generalize mT h = h at X ⊢
  refine g_aL0 dX10_left_5 ?_
  refine g_iL1 dX10_left_6 ?_
  refine g_iL2 dX10_left_7 ?_
  refine e_v2i (d_refusesDays X _ _) lm_X10_520 dX10_left_8 (X.S.l 50 rfl) (X.S.k 50 rfl rfl) rfl rfl rfl rfl ?_
  refine g_iS3 dX10_left_11 rfl rfl ?_
  refine g_iL3 dX10_left_12 ?_
  refine g_ifle dX10_left_13 (fun c13 => ?_) (fun c13 => ?_)
  · obtain ⟨hr0, S0, D0, hS0, hD0, rfl, rfl⟩ := rd_le c13
    have qS := pn_nI (n := S0) (by omega)
    have qD := pn_nI (n := D0) (by omega)
    refine g_aL0 dX10_left_24 ?_
    refine g_aL0 dX10_left_25 ?_
    refine g_iL1 dX10_left_26 ?_
    refine g_iL2 dX10_left_27 ?_
    refine e_v2i (d_daysOf X hN hS0 hD0) lm_X10_523 dX10_left_28 (X.S.l 50 rfl) (X.S.k 50 rfl rfl) rfl rfl rfl rfl ?_
    refine e_v1i (d_good (h := pI h 50 34 _) X.S _) lm_X10_49 dX10_left_31 (X.S.l 50 rfl) (X.S.k 50 rfl rfl) rfl rfl rfl rfl ?_
    exact e_iret rfl dX10_left_34 rfl rfl (by rw [if_pos hr0, qS, qD]) (by rw [if_pos hr0, qS, qD, hr0])
  · refine g_aL0 dX10_left_16 ?_
    refine g_iL3 dX10_left_17 ?_
    refine e_v1i (d_refused X.S _) lm_X10_45 dX10_left_18 (X.S.l 50 rfl) (X.S.k 50 rfl rfl) rfl rfl rfl rfl ?_
    refine g_goto dX10_left_21 ?_
    exact e_iret rfl dX10_left_34 rfl rfl (by rw [if_neg (rd_gt c13)]) (by rw [if_neg (rd_gt c13)])
theorem n_hails {h : Hp} {c : Nat} {cn : Nat → Nat} (X : MX (mT h) c cn) (hN : 0 < cn 1) (s d : Int32) : gCi 3 0 0 yX10_hails cX10_hails 4 (some .int) [.ref 50, .int s, .int d] h (some (.int (if rdD s d = 0 then (paF (gI (mT h) c 2) (gI (mT h) c 3) (gI (mT h) (c + 1)) (cn 1) (pn d) 1 (pn s) (ubF (nI (cn 1)) (gI (mT h) 52 16)) 0).2.2 else -1))) (mR (if rdD s d = 0 then pI (mT h) 50 34 (paF (gI (mT h) c 2) (gI (mT h) c 3) (gI (mT h) (c + 1)) (cn 1) (pn d) 1 (pn s) (ubF (nI (cn 1)) (gI (mT h) 52 16)) 0).2.2 else (mT h)) (rdD s d)) := by
  refine g_entry (lv := [.ref 50, .int s, .int d, .retAddr 0]) 1 pn_X10 rfl rfl rfl ?_
  refine g_aL0 dX10_hails_0 ?_
  refine g_iconst dX10_hails_1 ?_
  refine g_pI0 lf_X10_39 (X.S.l 50 rfl) (X.S.k 50 rfl rfl) dX10_hails_2 ?_
  show gY _ _ _ _ _ _ _ _ _ _ _ _ _ (mT h)
  generalize mT h = h at X ⊢
  refine g_aL0 dX10_hails_5 ?_
  refine g_iL1 dX10_hails_6 ?_
  refine g_iL2 dX10_hails_7 ?_
  refine e_v2i (d_refusesDays X _ _) lm_X10_520 dX10_hails_8 (X.S.l 50 rfl) (X.S.k 50 rfl rfl) rfl rfl rfl rfl ?_
  refine g_iS3 dX10_hails_11 rfl rfl ?_
  refine g_iL3 dX10_hails_12 ?_
  refine g_ifle dX10_hails_13 (fun c13 => ?_) (fun c13 => ?_)
  · obtain ⟨hr0, S0, D0, hS0, hD0, rfl, rfl⟩ := rd_le c13
    have qS := pn_nI (n := S0) (by omega)
    have qD := pn_nI (n := D0) (by omega)
    refine g_aL0 dX10_hails_22 ?_
    refine g_iL1 dX10_hails_23 ?_
    refine g_iL2 dX10_hails_24 ?_
    refine e_v2i (d_daysOf X hN hS0 hD0) lm_X10_523 dX10_hails_25 (X.S.l 50 rfl) (X.S.k 50 rfl rfl) rfl rfl rfl rfl ?_
    refine g_pop dX10_hails_28 rfl ?_
    refine g_aL0 dX10_hails_29 ?_
    refine g_aL0 dX10_hails_30 ?_
    refine g_gI lf_X10_510 (X.S.l 50 rfl) (X.S.k 50 rfl rfl) dX10_hails_31 ?_
    refine e_v1i (d_good (h := pI h 50 34 _) X.S _) lm_X10_49 dX10_hails_34 (X.S.l 50 rfl) (X.S.k 50 rfl rfl) rfl rfl rfl rfl ?_
    exact e_iret rfl dX10_hails_37 rfl rfl (by rw [if_pos hr0, qS, qD]; rfl) (by rw [if_pos hr0, qS, qD, hr0])
  · refine g_aL0 dX10_hails_16 ?_
    refine g_iL3 dX10_hails_17 ?_
    refine e_v1i (d_refused X.S _) lm_X10_45 dX10_hails_18 (X.S.l 50 rfl) (X.S.k 50 rfl rfl) rfl rfl rfl rfl ?_
    exact e_iret rfl dX10_hails_21 rfl rfl (by rw [if_neg (rd_gt c13)]) (by rw [if_neg (rd_gt c13)])

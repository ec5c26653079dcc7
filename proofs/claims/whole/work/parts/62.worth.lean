/-! what a way is worth, by lists; the reference's worth is the class's -/
def smS (mi : Nat → Int32) : Nat → List Nat → Int64
  | _, [] => 0
  | x, y :: l => (mi (7 * x + y)).toInt64 + smS mi y l
def prS (rn : Nat → Nat) : Nat → List Nat → Nat
  | _, [] => 1
  | x, y :: l => (100 - rn (7 * x + y)) * prS rn y l
def laF : Nat → List Nat → Nat
  | x, [] => x
  | _, y :: l => laF y l
theorem la_get : ∀ (l : List Nat) (x : Nat), (x :: l)[(x :: l).length - 1]? = some (laF x l)
  | [], _ => rfl
  | y :: l, x => by
    have := la_get l y
    show (x :: y :: l)[l.length + 1]? = _
    rw [List.getElem?_cons_succ]
    exact this
theorem sm_app (mi : Nat → Int32) (i : Nat) : ∀ (l : List Nat) (x : Nat), smS mi x (l ++ [i]) = smS mi x l + (mi (7 * laF x l + i)).toInt64
  | [], x => by
    show (mi (7 * x + i)).toInt64 + 0 = 0 + _
    rw [Int64.add_zero, Int64.zero_add]; rfl
  | y :: l, x => by
    show (mi (7 * x + y)).toInt64 + smS mi y (l ++ [i]) = (mi (7 * x + y)).toInt64 + smS mi y l + _
    rw [sm_app mi i l y, Int64.add_assoc]; rfl
theorem pr_app (rn : Nat → Nat) (i : Nat) : ∀ (l : List Nat) (x : Nat), prS rn x (l ++ [i]) = prS rn x l * (100 - rn (7 * laF x l + i))
  | [], x => by
    show (100 - rn (7 * x + i)) * 1 = 1 * _
    rw [Nat.mul_one, Nat.one_mul]; rfl
  | y :: l, x => by
    show (100 - rn (7 * x + y)) * prS rn y (l ++ [i]) = (100 - rn (7 * x + y)) * prS rn y l * _
    rw [pr_app rn i l y, Nat.mul_assoc]; rfl
theorem pr_le (rn : Nat → Nat) : ∀ (l : List Nat) (x : Nat), prS rn x l ≤ 100 ^ l.length
  | [], _ => Nat.le_refl 1
  | y :: l, x => by
    show (100 - rn (7 * x + y)) * prS rn y l ≤ 100 ^ (l.length + 1)
    rw [Nat.pow_succ, Nat.mul_comm (100 ^ l.length)]
    exact Nat.mul_le_mul (by omega) (pr_le rn l y)
theorem se_1 (mi ri : Nat → Int32) : ∀ (n x : Nat) (l : List Nat) (q : Int64 × Int64), l.length ≤ n → (seA mi ri n x l q).1 = q.1 + smS mi x l
  | 0, _, [], q, _ => (Int64.add_zero q.1).symm
  | 0, _, _ :: _, _, h => by cases h
  | n + 1, x, [], q, h => by
    rw [seA, se_1 mi ri n x [] _ (Nat.zero_le n)]
    show q.1 + 0 + 0 = q.1 + 0
    rw [Int64.add_zero]
  | n + 1, x, y :: l, q, h => by
    rw [seA, se_1 mi ri n y l _ (Nat.le_of_succ_le_succ h)]
    show q.1 + (mi (7 * x + y)).toInt64 + smS mi y l = q.1 + ((mi (7 * x + y)).toInt64 + smS mi y l)
    rw [Int64.add_assoc]
theorem ri_l {ri : Nat → Int32} {j r : Nat} (e : ri j = nI r) (h : r ≤ 50) : (100 : Int64) - (ri j).toInt64 = lN (100 - r) ∧ ((100 : Int32) - ri j).toInt64 = lN (100 - r) := by
  rw [e]
  constructor
  · rw [nI_l (by omega), show (100 : Int64) = lN 100 from rfl, lN_sub (by omega)]
  · rw [show (100 : Int32) = nI 100 from rfl, pk_sub (by omega), nI_l (by omega)]
theorem se_2 (mi ri : Nat → Int32) (rn : Nat → Nat) (hr : ∀ j, j < 49 → ri j = nI (rn j) ∧ rn j ≤ 50) : ∀ (n x : Nat) (l : List Nat) (q1 : Int64) (Q : Nat), l.length ≤ n → (∀ y ∈ x :: l, y < 7) → (seA mi ri n x l (q1, lN Q)).2 = lN (Q * prS rn x l * 100 ^ (n - l.length))
  | 0, _, [], q1, Q, _, _ => by
    show lN Q = lN (Q * 1 * 1)
    rw [Nat.mul_one, Nat.mul_one]
  | 0, _, _ :: _, _, _, h, _ => by cases h
  | n + 1, x, [], q1, Q, h, hy => by
    have e : seA mi ri (n + 1) x [] (q1, lN Q) = seA mi ri n x [] (q1 + 0, lN (Q * 100)) := by
      rw [← lN_mul]; rfl
    rw [e, se_2 mi ri rn hr n x [] _ _ (Nat.zero_le n) hy]
    show lN (Q * 100 * 1 * 100 ^ n) = lN (Q * 1 * 100 ^ (n + 1))
    rw [Nat.pow_succ, Nat.mul_one, Nat.mul_one, Nat.mul_assoc, Nat.mul_comm 100]
  | n + 1, x, y :: l, q1, Q, h, hy => by
    have h0 := hy x (List.mem_cons_self ..)
    have h1 := hy y (List.mem_cons_of_mem _ (List.mem_cons_self ..))
    have hj : 7 * x + y < 49 := by omega
    have e : seA mi ri (n + 1) x (y :: l) (q1, lN Q) = seA mi ri n y l (q1 + (mi (7 * x + y)).toInt64, lN (Q * (100 - rn (7 * x + y)))) := by
      rw [← lN_mul, ← (ri_l (hr _ hj).1 (hr _ hj).2).1]; rfl
    rw [e, se_2 mi ri rn hr n y l _ _ (Nat.le_of_succ_le_succ h) (fun z hz => hy z (List.mem_cons_of_mem _ hz))]
    show lN (Q * (100 - rn (7 * x + y)) * prS rn y l * 100 ^ (n - l.length)) = lN (Q * ((100 - rn (7 * x + y)) * prS rn y l) * 100 ^ (n + 1 - (l.length + 1)))
    rw [Nat.add_sub_add_right, Nat.mul_assoc Q]
/-- the worth of a way, as the reference counts it -/
def wtM (so kd : Int32) (mi ri : Nat → Int32) : List Nat → Int64
  | [] => 0
  | x :: l => woR so kd (seA mi ri 6 x l (0, 1))
theorem wt_so {so kd : Int32} {mi ri : Nat → Int32} (hs : ¬ so = 2) (p : List Nat) (a i : Nat) (hpa : p[p.length - 1]? = some a) (hl : p.length < 7) : wtM so kd mi ri (p ++ [i]) = wbF 0 0 (mi (a * 7 + i)) (ri (a * 7 + i)) (wtM so kd mi ri p) := by
  cases p with
  | nil => cases hpa
  | cons x l =>
    have hla : a = laF x l := by rw [la_get] at hpa; exact (Option.some.inj hpa).symm
    have hl2 : l.length ≤ 5 := by have : (x :: l).length = l.length + 1 := rfl; omega
    show woR so kd (seA mi ri 6 x (l ++ [i]) (0, 1)) = wbF 0 0 _ _ (woR so kd (seA mi ri 6 x l (0, 1)))
    unfold woR wbF
    rw [if_neg hs, if_neg hs, if_pos rfl, se_1 mi ri 6 x _ _ (by rw [List.length_append]; have : [i].length = 1 := rfl; omega), se_1 mi ri 6 x l _ (by omega), sm_app, hla, Nat.mul_comm]
    show -(0 + (smS mi x l + _)) = -(0 + smS mi x l) - _
    rw [Int64.zero_add, Int64.zero_add, Int64.neg_add, Int64.sub_eq_add_neg]
theorem wt_sa {mi ri : Nat → Int32} {kd : Int32} {rn : Nat → Nat} (hr : ∀ j, j < 49 → ri j = nI (rn j) ∧ rn j ≤ 50) (p : List Nat) (a i : Nat) (hpa : p[p.length - 1]? = some a) (hl : p.length < 7) (hp7 : ∀ x ∈ p, x < 7) (hi : i < 7) : wtM 2 kd mi ri (p ++ [i]) = wbF 1 (tkF kd) (mi (a * 7 + i)) (ri (a * 7 + i)) (wtM 2 kd mi ri p) := by
  cases p with
  | nil => cases hpa
  | cons x l =>
    have hla : a = laF x l := by rw [la_get] at hpa; exact (Option.some.inj hpa).symm
    have ha7 : a < 7 := hp7 a (List.mem_of_getElem? hpa)
    have hl2 : l.length ≤ 5 := by have : (x :: l).length = l.length + 1 := rfl; omega
    show woR 2 kd (seA mi ri 6 x (l ++ [i]) (0, 1)) = wbF 1 (tkF kd) _ _ (woR 2 kd (seA mi ri 6 x l (0, 1)))
    unfold woR wbF tkF
    rw [if_pos rfl, if_pos rfl, if_neg (show ¬ (1 : Int32) = 0 by decide)]
    by_cases z : kd = 1
    · simp only [if_pos z, if_neg (show ¬ (1 : Int32) = 0 by decide)]
    · simp only [if_neg z, ↓reduceIte]
      have hle : (l ++ [i]).length = l.length + 1 := by rw [List.length_append]; rfl
      have hj : a * 7 + i < 49 := by omega
      rw [show (1 : Int64) = lN 1 from rfl, se_2 mi ri rn hr 6 x _ 0 1 (by omega) (fun y hy => by
        rcases List.mem_cons.mp hy with q | q
        · exact hp7 y (by rw [q]; exact List.mem_cons_self ..)
        · rcases List.mem_append.mp q with q | q
          · exact hp7 y (List.mem_cons_of_mem _ q)
          · rw [List.mem_singleton.mp q]; exact hi), se_2 mi ri rn hr 6 x l 0 1 (by omega) hp7, pr_app, hle, (ri_l (hr _ hj).1 (hr _ hj).2).2, ← hla, Nat.mul_comm 7 a]
      have h1 := pr_le rn l x
      have h6 : 6 - l.length = (5 - l.length) + 1 := by omega
      have hb : 1 * prS rn x l * 100 ^ (6 - l.length) ≤ 100 ^ 6 := by
        rw [Nat.one_mul]
        refine Nat.le_trans (Nat.mul_le_mul_right _ h1) ?_
        rw [← Nat.pow_add]
        exact Nat.pow_le_pow_right (by decide) (by omega)
      have hd : 1 * prS rn x l * 100 ^ (6 - l.length) / 100 = prS rn x l * 100 ^ (5 - l.length) := by
        rw [h6, Nat.pow_succ, Nat.one_mul, ← Nat.mul_assoc, Nat.mul_div_cancel _ (by decide)]
      rw [show (100 : Int64) = lN 100 from rfl, pk_lDiv (Nat.lt_of_le_of_lt hb (by decide)) (by decide) (by decide), hd, lN_mul, show 6 - (l.length + 1) = 5 - l.length by omega]
      refine congrArg lN ?_
      rw [Nat.one_mul, Nat.mul_right_comm]
theorem wt_1 {mi ri : Nat → Int32} {so kd : Int32} (x : Nat) : wtM so kd mi ri [x] = if so = 2 then 1000000000000 else 0 := by
  have e : seA mi ri 6 x [] (0, 1) = (0, 1000000000000) := by
    show (((((((0 : Int64) + 0) + 0) + 0) + 0) + 0) + 0, (((((((1 : Int64) * 100) * 100) * 100) * 100) * 100) * 100)) = _
    decide
  show woR so kd (seA mi ri 6 x [] (0, 1)) = _
  rw [e]
  unfold woR
  by_cases z : so = 2
  · rw [if_pos z, if_pos z]; split <;> rfl
  · rw [if_neg z, if_neg z]; decide
theorem pwL_c {mi : Nat → Int32} {wb : Nat → Int64 → Int64} {C a : Nat} {rc : PW → Nat → (Nat → Bool) → Int64 → PW} {bl bl' : Nat → Bool} (hb : ∀ q, q < C → bl q = bl' q) (hrc : ∀ s i b b' w, (∀ q, q < C → b q = b' q) → rc s i b w = rc s i b' w) (w : Int64) : ∀ (n i : Nat) (s : PW), i + n ≤ C → pwL mi wb rc a bl w n i s = pwL mi wb rc a bl' w n i s
  | 0, _, _, _ => rfl
  | n + 1, i, s, h => by
    rw [pwL, pwL, hb i (by omega), hrc s i _ (fun j => bl' j || decide (j = i)) _ (fun q hq => by rw [hb q hq]), pwL_c hb hrc w n (i + 1) _ (by omega), pwL_c hb hrc w n (i + 1) _ (by omega)]
theorem pwF_c {mi : Nat → Int32} {wb : Nat → Int64 → Int64} {C : Nat} {to : Int32} : ∀ (f : Nat) (s : PW) (a : Nat) (p : List Nat) (bl bl' : Nat → Bool) (w : Int64), (∀ q, q < C → bl q = bl' q) → pwF mi wb to C f s a p bl w = pwF mi wb to C f s a p bl' w
  | 0, _, _, _, _, _, _, _ => rfl
  | f + 1, s, a, p, bl, bl', w, hb => by
    rw [pwF, pwF, pwL_c hb (fun s i b b' w hq => pwF_c f s i (p ++ [a]) b b' w hq) w C 0 s (by omega)]
theorem wy_c {mi ri : Nat → Int32} {bc nb : Int32} {C F : Nat} (hF : F < C) {to : Int32} {sh sh' : Nat → Bool} (hs : ∀ q, q < C → sh q = sh' q) : wyF mi ri bc nb C F to sh = wyF mi ri bc nb C F to sh' := by
  unfold wyF
  rw [hs F hF, pwF_c 7 _ F [] (fun j => sh j || decide (j = F)) (fun j => sh' j || decide (j = F)) _ (fun q hq => by rw [hs q hq])]

/-! CONGRUENCES: what a loop sees of its rows -/
theorem fwF_c {b : Int32} {f f' : Nat → Int32} : ∀ (n i : Nat), (∀ j, i ≤ j → j < i + n → f j = f' j) → fwF f b n i = fwF f' b n i
  | 0, _, _ => rfl
  | n + 1, i, hh0 => by
    have ih := fun (_ : Unit) => fwF_c (b := b) n (i + 1) (fun j h1 h2 => hh0 j (by omega) (by omega))
    have ih := ih ()
    simp only [fwF, ih, hh0 i (Nat.le_refl i) (by omega)]
theorem iwF_c {s al : Int32} {f f' : Nat → Int32} : ∀ (n i : Nat) (m : Int32), (∀ j, i ≤ j → j < i + n → f j = f' j) → iwF f s al n i m = iwF f' s al n i m
  | 0, _, _, _ => rfl
  | n + 1, i, m, hh0 => by
    have ih := fun (m : Int32) => iwF_c (s := s) (al := al) n (i + 1) m (fun j h1 h2 => hh0 j (by omega) (by omega))
    simp only [iwF, ih, hh0 i (Nat.le_refl i) (by omega)]
theorem orF_c {s : Int32} {f f' : Nat → Int32} : ∀ (n i : Nat) (m : Int32), (∀ j, i ≤ j → j < i + n → f j = f' j) → orF f s n i m = orF f' s n i m
  | 0, _, _, _ => rfl
  | n + 1, i, m, hh0 => by
    have ih := fun (m : Int32) => orF_c (s := s) n (i + 1) m (fun j h1 h2 => hh0 j (by omega) (by omega))
    simp only [orF, ih, hh0 i (Nat.le_refl i) (by omega)]
theorem oaF_c  {f f' : Nat → Int32} : ∀ (n i : Nat) (m : Int32), (∀ j, i ≤ j → j < i + n → f j = f' j) → oaF f n i m = oaF f' n i m
  | 0, _, _, _ => rfl
  | n + 1, i, m, hh0 => by
    have ih := fun (m : Int32) => oaF_c  n (i + 1) m (fun j h1 h2 => hh0 j (by omega) (by omega))
    simp only [oaF, ih, hh0 i (Nat.le_refl i) (by omega)]
theorem cpF_c {s p : Int32} {f f' : Nat → Int32} {g g' : Nat → Int32} : ∀ (n i : Nat) (m : Int32), (∀ j, i ≤ j → j < i + n → f j = f' j) → (∀ j, i ≤ j → j < i + n → g j = g' j) → cpF f g s p n i m = cpF f' g' s p n i m
  | 0, _, _, _, _ => rfl
  | n + 1, i, m, hh0, hh1 => by
    have ih := fun (m : Int32) => cpF_c (s := s) (p := p) n (i + 1) m (fun j h1 h2 => hh0 j (by omega) (by omega)) (fun j h1 h2 => hh1 j (by omega) (by omega))
    simp only [cpF, ih, hh0 i (Nat.le_refl i) (by omega), hh1 i (Nat.le_refl i) (by omega)]
theorem vfF_c {b : Int32} {f f' : Nat → Int32} : ∀ (n i : Nat) (m : Int32), (∀ j, i ≤ j → j < i + n → f j = f' j) → vfF f b n i m = vfF f' b n i m
  | 0, _, _, _ => rfl
  | n + 1, i, m, hh0 => by
    have ih := fun (m : Int32) => vfF_c (b := b) n (i + 1) m (fun j h1 h2 => hh0 j (by omega) (by omega))
    simp only [vfF, ih, hh0 i (Nat.le_refl i) (by omega)]
theorem rcF_c {th : Int32} {f f' : Nat → Int32} : ∀ (n i : Nat) (m : Int32), (∀ j, i ≤ j → j < i + n → f j = f' j) → rcF th f n i m = rcF th f' n i m
  | 0, _, _, _ => rfl
  | n + 1, i, m, hh0 => by
    have ih := fun (m : Int32) => rcF_c (th := th) n (i + 1) m (fun j h1 h2 => hh0 j (by omega) (by omega))
    simp only [rcF, ih, hh0 i (Nat.le_refl i) (by omega)]
theorem irB_c {x : Int32} {f f' : Nat → Int32} : ∀ (n i : Nat), (∀ j, i ≤ j → j < i + n → f j = f' j) → irB f x n i = irB f' x n i
  | 0, _, _ => rfl
  | n + 1, i, hh0 => by
    have ih := fun (_ : Unit) => irB_c (x := x) n (i + 1) (fun j h1 h2 => hh0 j (by omega) (by omega))
    have ih := ih ()
    simp only [irB, ih, hh0 i (Nat.le_refl i) (by omega)]
theorem irA_c {x y : Int32} {f f' : Nat → Int32} {g g' : Nat → Int32} : ∀ (n i : Nat), (∀ j, i ≤ j → j < i + n → f j = f' j) → (∀ j, i ≤ j → j < i + n → g j = g' j) → irA f g x y n i = irA f' g' x y n i
  | 0, _, _, _ => rfl
  | n + 1, i, hh0, hh1 => by
    have ih := fun (_ : Unit) => irA_c (x := x) (y := y) n (i + 1) (fun j h1 h2 => hh0 j (by omega) (by omega)) (fun j h1 h2 => hh1 j (by omega) (by omega))
    have ih := ih ()
    simp only [irA, ih, hh0 i (Nat.le_refl i) (by omega), hh1 i (Nat.le_refl i) (by omega)]
theorem cdF_c  {f f' : Nat → Int32} : ∀ (n i : Nat) (m : Int32), (∀ j, i ≤ j → j < i + n → f j = f' j) → cdF f n i m = cdF f' n i m
  | 0, _, _, _ => rfl
  | n + 1, i, m, hh0 => by
    have ih := fun (m : Int32) => cdF_c  n (i + 1) m (fun j h1 h2 => hh0 j (by omega) (by omega))
    simp only [cdF, ih, hh0 i (Nat.le_refl i) (by omega)]
theorem loF_c {s : Int32} {f f' : Nat → Int32} : ∀ (n i : Nat) (m : Int32), (∀ j, i ≤ j → j < i + n → f j = f' j) → loF f s n i m = loF f' s n i m
  | 0, _, _, _ => rfl
  | n + 1, i, m, hh0 => by
    have ih := fun (m : Int32) => loF_c (s := s) n (i + 1) m (fun j h1 h2 => hh0 j (by omega) (by omega))
    simp only [loF, ih, hh0 i (Nat.le_refl i) (by omega)]
theorem ldF_c {k : Int32} {f f' : Nat → Int32} {g g' : Nat → Int32} : ∀ (n i : Nat) (m : Int32), (∀ j, i ≤ j → j < i + n → f j = f' j) → (∀ j, i ≤ j → j < i + n → g j = g' j) → ldF f g k n i m = ldF f' g' k n i m
  | 0, _, _, _, _ => rfl
  | n + 1, i, m, hh0, hh1 => by
    have ih := fun (m : Int32) => ldF_c (k := k) n (i + 1) m (fun j h1 h2 => hh0 j (by omega) (by omega)) (fun j h1 h2 => hh1 j (by omega) (by omega))
    simp only [ldF, ih, hh0 i (Nat.le_refl i) (by omega), hh1 i (Nat.le_refl i) (by omega)]
theorem meF_c  {f f' : Nat → Int32} : ∀ (n i : Nat) (m : Int32), (∀ j, i ≤ j → j < i + n → f j = f' j) → meF f n i m = meF f' n i m
  | 0, _, _, _ => rfl
  | n + 1, i, m, hh0 => by
    have ih := fun (m : Int32) => meF_c  n (i + 1) m (fun j h1 h2 => hh0 j (by omega) (by omega))
    simp only [meF, ih, hh0 i (Nat.le_refl i) (by omega)]
theorem ohF_c {s : Int32} {f f' : Nat → Int32} : ∀ (n i : Nat) (m : Int32), (∀ j, i ≤ j → j < i + n → f j = f' j) → ohF s f n i m = ohF s f' n i m
  | 0, _, _, _ => rfl
  | n + 1, i, m, hh0 => by
    have ih := fun (m : Int32) => ohF_c (s := s) n (i + 1) m (fun j h1 h2 => hh0 j (by omega) (by omega))
    simp only [ohF, ih, hh0 i (Nat.le_refl i) (by omega)]
theorem unF_c  {f f' : Nat → Int32} : ∀ (n i : Nat) (m : Int32), (∀ j, i ≤ j → j < i + n → f j = f' j) → unF f n i m = unF f' n i m
  | 0, _, _, _ => rfl
  | n + 1, i, m, hh0 => by
    have ih := fun (m : Int32) => unF_c  n (i + 1) m (fun j h1 h2 => hh0 j (by omega) (by omega))
    simp only [unF, ih, hh0 i (Nat.le_refl i) (by omega)]
theorem dkF_c {f f' : Nat → Int32} {V : Nat} (hV : V ≤ 6) {v : Int32} (hv : ¬ siF v (nI V) = 0) (h : ∀ j, j < V → f j = f' j) : dkF f v = dkF f' v := by
  rcases si1 (by omega) hv with rfl | ⟨x, hx, rfl⟩
  · rfl
  · rw [dk_in f (by omega), dk_in f' (by omega), h x hx]
theorem stF_c {f f' : Nat → Int32} {N s : Nat} (hN : 0 < N) (h : ∀ j, j < N → f j = f' j) (r : Int32) : stF f N s r = stF f' N s r := by
  unfold stF
  rw [h _ (Nat.mod_lt s hN)]
theorem paF_c {f f' : Nat → Int32} {hl ic : Int32} {N : Nat} (hN : 0 < N) (h : ∀ j, j < N → f j = f' j) : ∀ (n i s : Nat) (r m : Int32), paF hl ic f N n i s r m = paF hl ic f' N n i s r m
  | 0, _, _, _, _ => rfl
  | n + 1, i, s, r, m => by
    have ih := paF_c (hl := hl) (ic := ic) hN h n (i + 1)
    have e1 := fun r => meF_c (f := f) (f' := f') N 0 r (fun j _ h2 => h j (by omega))
    have e2 := fun s r => stF_c (s := s) hN h r
    simp only [paF, ih, e1, e2]
theorem fpI_c {br br' : Nat → Int32} {lt lt' : Nat → Nat → Int32} {b x p : Int32} : True := trivial
theorem fpI_d {br br' : Nat → Int32} {lt lt' : Nat → Nat → Int32} {b x : Int32} {p N : Nat} (hp : p < N) (h1 : ∀ j, j < N → br j = br' j) (h2 : ∀ j k, j < N → k < N → lt j k = lt' j k) : ∀ (m q : Nat), q + m ≤ N → fpI br lt b x p m q = fpI br' lt' b x p m q
  | 0, _, _ => rfl
  | m + 1, q, hq => by
    have ih := fpI_d (b := b) (x := x) hp h1 h2 m (q + 1) (by omega)
    simp only [fpI, ih, h1 p hp, h1 q (by omega), h2 p q hp (by omega)]
theorem fpO_c {br br' : Nat → Int32} {lt lt' : Nat → Nat → Int32} {b : Int32} {N : Nat} (h1 : ∀ j, j < N → br j = br' j) (h2 : ∀ j k, j < N → k < N → lt j k = lt' j k) : ∀ (n p : Nat), p + n ≤ N → fpO br lt b N n p = fpO br' lt' b N n p
  | 0, _, _ => rfl
  | n + 1, p, hp => by
    have ih := fpO_c (b := b) h1 h2 n (p + 1) (by omega)
    simp only [fpO, ih]
    exact fpI_d (by omega) h1 h2 _ _ (by omega)
theorem irF_c {br br' : Nat → Int32} {wh wh' : Nat → Int32 → Int32} {P V p k : Nat} (hp : p < P) (hk : k ≤ V) (h1 : ∀ j, j < P → br j = br' j) (h2 : ∀ q j, q < P → j ≤ V → wh q (voF (nI j)) = wh' q (voF (nI j))) : irF br wh P V p (nI k) = irF br' wh' P V p (nI k) := by
  unfold irF
  rw [h1 p hp, h2 p k hp hk, irB_c (f := fun j => wh p (voF (nI j))) (f' := fun j => wh' p (voF (nI j))) (V + 1) 0 (fun j _ hj => h2 p j hp (by omega)), irA_c (f := br) (f' := br') (g := fun q => wh q (voF (nI k))) (g' := fun q => wh' q (voF (nI k))) P 0 (fun j _ hj => h1 j (by omega)) (fun j _ hj => h2 j k (by omega) hk)]
theorem rtB_c {ir ir' : Nat → Nat → Int32} {p : Nat} : ∀ (n j : Nat) (m : Int32), (∀ x, j ≤ x → x < j + n → ir p x = ir' p x) → rtB ir p n j m = rtB ir' p n j m
  | 0, _, _, _ => rfl
  | n + 1, j, m, h => by
    have ih := fun m => rtB_c (ir := ir) (ir' := ir') (p := p) n (j + 1) m (fun x h1 h2 => h x (by omega) (by omega))
    simp only [rtB, ih, h j (Nat.le_refl j) (by omega)]
theorem rtA_c {ir ir' : Nat → Nat → Int32} {V : Nat} : ∀ (n i : Nat) (m : Int32), (∀ p x, i ≤ p → p < i + n → x ≤ V → ir p x = ir' p x) → rtA ir V n i m = rtA ir' V n i m
  | 0, _, _, _ => rfl
  | n + 1, i, m, h => by
    have ih := fun m => rtA_c (ir := ir) (ir' := ir') (V := V) n (i + 1) m (fun p x h1 h2 h3 => h p x (by omega) (by omega) h3)
    simp only [rtA, ih]
    rw [rtB_c (ir := ir) (ir' := ir') (V + 1) 0 m (fun x _ h2 => h i x (Nat.le_refl i) (by omega) (by omega))]
theorem rfB_c {ir ir' : Nat → Nat → Int32} {p : Nat} : ∀ (n j : Nat), (∀ x, j ≤ x → x < j + n → ir p x = ir' p x) → rfB ir p n j = rfB ir' p n j
  | 0, _, _ => rfl
  | n + 1, j, h => by
    have ih := rfB_c (ir := ir) (ir' := ir') (p := p) n (j + 1) (fun x h1 h2 => h x (by omega) (by omega))
    simp only [rfB, ih, h j (Nat.le_refl j) (by omega)]
theorem rfA_c {ir ir' : Nat → Nat → Int32} {V : Nat} : ∀ (n i : Nat), (∀ p x, i ≤ p → p < i + n → x ≤ V → ir p x = ir' p x) → rfA ir V n i = rfA ir' V n i
  | 0, _, _ => rfl
  | n + 1, i, h => by
    have ih := rfA_c (ir := ir) (ir' := ir') (V := V) n (i + 1) (fun p x h1 h2 h3 => h p x (by omega) (by omega) h3)
    simp only [rfA, ih]
    rw [rfB_c (ir := ir) (ir' := ir') (V + 1) 0 (fun x _ h2 => h i x (Nat.le_refl i) (by omega) (by omega))]
theorem rsM_c {th : Int32} {f f' : Nat → Int32} : ∀ (l : List Nat) (s e : Int32), (∀ x ∈ l, f x = f' x) → rsM th f l s e = rsM th f' l s e
  | [], _, _, _ => rfl
  | x :: l, s, e, h => by
    have ih := fun s e => rsM_c (th := th) (f := f) (f' := f') l s e (fun y hy => h y (List.mem_cons_of_mem x hy))
    simp only [rsM, ih, h x List.mem_cons_self]
theorem pwL_d {mi mi' : Nat → Int32} {wb wb' : Nat → Int64 → Int64} {C a : Nat} {rc rc' : PW → Nat → (Nat → Bool) → Int64 → PW} (ha : a < C) (hC : C ≤ 7) (h1 : ∀ j, j < 49 → mi j = mi' j) (h2 : ∀ j w, j < 49 → wb j w = wb' j w) (hrc : ∀ s i b w, i < C → rc s i b w = rc' s i b w) (bl : Nat → Bool) (w : Int64) : ∀ (n i : Nat) (s : PW), i + n ≤ C → pwL mi wb rc a bl w n i s = pwL mi' wb' rc' a bl w n i s
  | 0, _, _, _ => rfl
  | n + 1, i, s, hi => by
    have ih := fun s => pwL_d ha hC h1 h2 hrc bl w n (i + 1) s (by omega)
    simp only [pwL, ih, h1 (a * 7 + i) (by omega), h2 (a * 7 + i) w (by omega), hrc s i _ _ (show i < C by omega)]
theorem pwF_d {mi mi' : Nat → Int32} {wb wb' : Nat → Int64 → Int64} {C : Nat} {to : Int32} (hC : C ≤ 7) (h1 : ∀ j, j < 49 → mi j = mi' j) (h2 : ∀ j w, j < 49 → wb j w = wb' j w) : ∀ (f : Nat) (s : PW) (a : Nat) (p : List Nat) (bl : Nat → Bool) (w : Int64), a < C → pwF mi wb to C f s a p bl w = pwF mi' wb' to C f s a p bl w
  | 0, _, _, _, _, _, _ => rfl
  | f + 1, s, a, p, bl, w, ha => by
    have ih := pwF_d (to := to) hC h1 h2 f
    simp only [pwF]
    rw [pwL_d ha hC h1 h2 (rc := fun s i bl w => pwF mi wb to C f s i (p ++ [a]) bl w) (rc' := fun s i bl w => pwF mi' wb' to C f s i (p ++ [a]) bl w) (fun s i b w hi => ih s i (p ++ [a]) b w hi) bl w C 0 s (by omega)]
theorem wyF_d {mi mi' ri ri' : Nat → Int32} {bc nb : Int32} {C F : Nat} (hC : C ≤ 7) (hF : F < C) {to : Int32} {sh sh' : Nat → Bool} (h1 : ∀ j, j < 49 → mi j = mi' j) (h2 : ∀ j, j < 49 → ri j = ri' j) (hs : ∀ q, q < C → sh q = sh' q) : wyF mi ri bc nb C F to sh = wyF mi' ri' bc nb C F to sh' := by
  rw [wy_c hF hs]
  unfold wyF
  rw [pwF_d (wb := fun j w => wbF bc nb (mi j) (ri j) w) (wb' := fun j w => wbF bc nb (mi' j) (ri' j) w) hC h1 (fun j w hj => by show wbF bc nb (mi j) (ri j) w = wbF bc nb (mi' j) (ri' j) w; rw [h1 j hj, h2 j hj]) 7 ([], 0) F [] _ _ hF]

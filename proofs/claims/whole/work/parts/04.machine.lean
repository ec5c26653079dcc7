/-! THE SYSTEM'S HEAP AS A VALUE: cells by logical addresses; ints, longs, references as functions -/
abbrev Hp : Type := (List Nat × Nat) × (Nat → Nat) × (Nat → Nat) × (Nat → Nat → Option Nat) × (Nat → Nat → Int32) × (Nat → Nat → Int64)
abbrev gL (h : Hp) : List Nat := h.1.1
abbrev gn (h : Hp) : Nat := h.1.2
abbrev gK (h : Hp) : Nat → Nat := h.2.1
abbrev gN (h : Hp) : Nat → Nat := h.2.2.1
abbrev gR (h : Hp) : Nat → Nat → Option Nat := h.2.2.2.1
abbrev gI (h : Hp) : Nat → Nat → Int32 := h.2.2.2.2.1
abbrev gJ (h : Hp) : Nat → Nat → Int64 := h.2.2.2.2.2
def u2 {α : Type} (f : Nat → Nat → α) (a k : Nat) (v : α) : Nat → Nat → α := fun b j => if b = a ∧ j = k then v else f b j
def u1 {α : Type} (f : Nat → α) (a : Nat) (v : α) : Nat → α := fun b => if b = a then v else f b
def pI (h : Hp) (a k : Nat) (v : Int32) : Hp := (h.1, h.2.1, h.2.2.1, h.2.2.2.1, u2 h.2.2.2.2.1 a k v, h.2.2.2.2.2)
def pJ (h : Hp) (a k : Nat) (v : Int64) : Hp := (h.1, h.2.1, h.2.2.1, h.2.2.2.1, h.2.2.2.2.1, u2 h.2.2.2.2.2 a k v)
def pR (h : Hp) (a k : Nat) (v : Option Nat) : Hp := (h.1, h.2.1, h.2.2.1, u2 h.2.2.2.1 a k v, h.2.2.2.2.1, h.2.2.2.2.2)
/-- a new cell of a kind and a length, all of it 0 and null -/
def pN (h : Hp) (k n : Nat) : Hp := ((gL h ++ [gn h], gn h + 1), u1 h.2.1 (gn h) k, u1 h.2.2.1 (gn h) n, u1 h.2.2.2.1 (gn h) (fun _ => none), u1 h.2.2.2.2.1 (gn h) (fun _ => 0), u1 h.2.2.2.2.2 (gn h) (fun _ => 0))
theorem u2_s {α : Type} (f : Nat → Nat → α) (a k : Nat) (v : α) : u2 f a k v a k = v := by simp [u2]
theorem u2_n {α : Type} (f : Nat → Nat → α) {a k : Nat} (v : α) {b j : Nat} (h : ¬ (b = a ∧ j = k)) : u2 f a k v b j = f b j := by simp only [u2, if_neg h]
theorem u2_na {α : Type} (f : Nat → Nat → α) {a : Nat} (k : Nat) (v : α) {b : Nat} (h : ¬ b = a) : u2 f a k v b = f b := by funext j; simp only [u2, if_neg (fun z : b = a ∧ j = k => h z.1)]
theorem u1_n {α : Type} (f : Nat → α) {a : Nat} (v : α) {b : Nat} (h : ¬ b = a) : u1 f a v b = f b := by simp only [u1, if_neg h]
theorem u1_s {α : Type} (f : Nat → α) (a : Nat) (v : α) : u1 f a v a = v := by simp [u1]
/-- what a run doesn't choose: the base address, the String constants' cells, class numbers and slots, the array classes, the script -/
abbrev Gp : Type := Nat × (Nat → Nat) × (Nat → Nat) × va_G × (ClassId × ClassId × ClassId) × Nat × Nat × (Nat → Int32)
abbrev gB (G : Gp) : Nat := G.1
abbrev gAK (G : Gp) : Nat → Nat := G.2.1
abbrev gAV (G : Gp) : Nat → Nat := G.2.2.1
abbrev gD (G : Gp) : va_G := G.2.2.2.1
abbrev gcB (G : Gp) : ClassId := G.2.2.2.2.1.1
abbrev gcI (G : Gp) : ClassId := G.2.2.2.2.1.2.1
abbrev gcJ (G : Gp) : ClassId := G.2.2.2.2.1.2.2
abbrev gsb (G : Gp) : Nat := G.2.2.2.2.2.1
abbrev gsn (G : Gp) : Nat := G.2.2.2.2.2.2.1
abbrev gsx (G : Gp) : Nat → Int32 := G.2.2.2.2.2.2.2
/-- a value of the picture as the machine has it: a cell by its logical address, the script (.float 0), a String constant (.float k + 1) -/
def gtr (G : Gp) : Value → Value
  | .ref a => .ref (gB G + a)
  | .float k => .ref (if k = 0 then gsb G else gAK G (k.toNat - 1))
  | .int x => .int x
  | .long x => .long x
  | .null => .null
  | .double x => .double x
  | .retAddr n => .retAddr n
theorem gtr_cat (G : Gp) (v : Value) : (gtr G v).category = v.category := by cases v <;> rfl
/-- the classes, in the order of their numbers, and their fields' kinds: 0 int, 1 long, 2 a reference, 3 boolean -/
abbrev gcl : List vw_C := [(RX0, TX0, 20), (RX1, TX1, 3), (RX2, TX2, 10), (RX3, TX3, 12), (RX4, TX4, 2), (RX5, TX5, 5), (RX6, TX6, 2), (RX7, TX7, 8), (RX8, TX8, 11), (RX9, TX9, 31), (RX10, TX10, 35)]
def gty : Nat → List Nat
  | 0 => [2, 0, 0, 0, 0, 0, 2, 2, 2, 2, 2, 2, 2, 0, 2, 2, 2, 2, 2, 2]
  | 1 => [0, 0, 0]
  | 2 => [2, 2, 2, 0, 2, 2, 2, 0, 2, 0]
  | 3 => [2, 2, 2, 2, 0, 2, 0, 0, 0, 0, 0, 0]
  | 4 => [2, 0]
  | 5 => [2, 0, 0, 0, 0]
  | 6 => [0, 0]
  | 7 => [2, 0, 3, 3, 2, 2, 0, 1]
  | 8 => [2, 2, 2, 2, 2, 2, 2, 2, 0, 0, 0]
  | 9 => [0, 0, 0, 0, 0, 0, 0, 0, 0, 0, 0, 0, 0, 0, 0, 2, 2, 2, 2, 2, 2, 2, 2, 2, 2, 2, 2, 2, 2, 2, 2]
  | 10 => [0, 0, 0, 2, 2, 2, 0, 0, 0, 0, 0, 0, 0, 0, 0, 0, 0, 1, 0, 0, 2, 2, 2, 0, 0, 2, 2, 0, 1, 0, 0, 0, 2, 2, 0]
  | _ => []
/-- a field's value in the picture -/
def gfp (h : Hp) (a j c : Nat) : Value := if c = 1 then .long (gJ h a j) else if c = 2 then va_rf (gR h a j) else .int (gI h a j)
def gfs (G : Gp) (h : Hp) (a : Nat) : List Nat → Nat → List Value
  | [], _ => []
  | c :: cs, j => gtr G (gfp h a j c) :: gfs G h a cs (j + 1)
/-- a cell as the machine has it -/
def gen (G : Gp) (h : Hp) (a : Nat) : va_E :=
  if gK h a = 11 then .inl (gcB G, gN h a, .inl (gI h a)) else if gK h a = 12 then .inl (gcI G, gN h a, .inl (gI h a)) else if gK h a = 13 then .inl (gcJ G, gN h a, .inr (.inl (gJ h a))) else .inr (gK h a, gfs G h a (gty (gK h a)) 0)
def gwl (G : Gp) (h : Hp) : va_W := (gL h).map (fun a => (gB G + a, gen G h a))
abbrev gA (G : Gp) : Nat → Prop := fun q => gB G ≤ q
/-- the heap holds the picture -/
def gWh (G : Gp) (h : Hp) (H : Heap) : Prop := H.size = gB G + gn h ∧ (∀ a ∈ gL h, a < gn h) ∧ va_P (gD G) gcl (gwl G h) H ∧ va_D (gA G) (gwl G h)
theorem gfs_get (G : Gp) (h : Hp) (a : Nat) : ∀ (cs : List Nat) (j k c : Nat), cs[k]? = some c → (gfs G h a cs j)[k]? = some (gtr G (gfp h a (j + k) c)) := by
  intro cs
  induction cs with
  | nil => intro j k c hc; simp at hc
  | cons c0 cs ih =>
    intro j k c hc
    cases k with
    | zero => simp at hc; subst hc; rfl
    | succ k =>
      rw [List.getElem?_cons_succ] at hc
      show (gfs G h a cs (j + 1))[k]? = _
      rw [ih (j + 1) k c hc, show j + 1 + k = j + (k + 1) by omega]
theorem gfs_len (G : Gp) (h : Hp) (a : Nat) : ∀ (cs : List Nat) (j : Nat), (gfs G h a cs j).length = cs.length := by
  intro cs
  induction cs with
  | nil => intro j; rfl
  | cons c0 cs ih => intro j; show (gfs G h a cs (j + 1)).length + 1 = cs.length + 1; rw [ih]
theorem gfs_congr (G : Gp) {h h' : Hp} {a : Nat} : ∀ (cs : List Nat) (j : Nat), (∀ k c, cs[k]? = some c → gfp h' a (j + k) c = gfp h a (j + k) c) → gfs G h' a cs j = gfs G h a cs j := by
  intro cs
  induction cs with
  | nil => intro j _; rfl
  | cons c0 cs ih =>
    intro j hh
    show gtr G (gfp h' a j c0) :: gfs G h' a cs (j + 1) = gtr G (gfp h a j c0) :: gfs G h a cs (j + 1)
    rw [show gfp h' a j c0 = gfp h a j c0 from hh 0 c0 rfl, ih (j + 1) (fun k c hc => by have := hh (k + 1) c hc; rwa [show j + (k + 1) = j + 1 + k by omega] at this)]
theorem gfs_set (G : Gp) {h h' : Hp} {a k c : Nat} {v : Value} (cs : List Nat) (hc : cs[k]? = some c) (hv : gfp h' a k c = v) (ho : ∀ k' c', cs[k']? = some c' → k' ≠ k → gfp h' a k' c' = gfp h a k' c') : (gfs G h a cs 0).set k (gtr G v) = gfs G h' a cs 0 := by
  apply List.ext_getElem?
  intro i
  by_cases hik : i = k
  · subst hik
    have hl : i < (gfs G h a cs 0).length := by rw [gfs_len]; exact (List.getElem?_eq_some_iff.mp hc).1
    rw [List.getElem?_set_self hl, gfs_get G h' a cs 0 i c hc, Nat.zero_add, hv]
  · rw [List.getElem?_set_ne (Ne.symm hik)]
    cases hci : cs[i]? with
    | none =>
      have hl : cs.length ≤ i := by simpa using hci
      have e1 : (gfs G h a cs 0)[i]? = none := by simp [gfs_len, hl]
      have e2 : (gfs G h' a cs 0)[i]? = none := by simp [gfs_len, hl]
      rw [e1, e2]
    | some c' => rw [gfs_get G h a cs 0 i c' hci, gfs_get G h' a cs 0 i c' hci, Nat.zero_add, ho i c' hci hik]
theorem gwl_get {G : Gp} {h : Hp} {a : Nat} (ha : a ∈ gL h) : ∃ k : Nat, (gwl G h)[k]? = some (gB G + a, gen G h a) := by
  obtain ⟨k, hk⟩ := List.getElem?_of_mem ha
  exact ⟨k, by unfold gwl; rw [List.getElem?_map, hk]; rfl⟩
theorem gwl_set {G : Gp} {h h' : Hp} {a k : Nat} {e : va_E} {A : Nat → Prop} (hD : va_D A (gwl G h)) (hk : (gwl G h)[k]? = some (gB G + a, gen G h a)) (hL : gL h' = gL h) (he : gen G h' a = e) (ho : ∀ b, b ≠ a → gen G h' b = gen G h b) : (gwl G h).set k (gB G + a, e) = gwl G h' := by
  have hl : k < (gwl G h).length := (List.getElem?_eq_some_iff.mp hk).1
  apply List.ext_getElem?
  intro i
  by_cases hik : i = k
  · subst hik
    rw [List.getElem?_set_self hl]
    have e1 : (gL h)[i]? = some a := by
      unfold gwl at hk
      rw [List.getElem?_map] at hk
      cases hq : (gL h)[i]? with
      | none => rw [hq] at hk; cases hk
      | some b =>
        rw [hq] at hk
        have := Option.some.inj hk
        have h1 : gB G + b = gB G + a := congrArg Prod.fst this
        rw [Nat.add_left_cancel h1]
    unfold gwl
    rw [hL, List.getElem?_map, e1]
    show _ = some (gB G + a, gen G h' a)
    rw [he]
  · rw [List.getElem?_set_ne (Ne.symm hik)]
    unfold gwl
    rw [hL, List.getElem?_map, List.getElem?_map]
    cases hq : (gL h)[i]? with
    | none => rfl
    | some b =>
      show some (gB G + b, gen G h b) = some (gB G + b, gen G h' b)
      have hb : b ≠ a := by
        intro z
        subst z
        have hi : (gwl G h)[i]? = some (gB G + b, gen G h b) := by unfold gwl; rw [List.getElem?_map, hq]; rfl
        exact hik (hD.1 i k _ _ hi hk rfl)
      rw [ho b hb]
theorem gwl_push {G : Gp} {h h' : Hp} {n : Nat} {e : va_E} (hL : gL h' = gL h ++ [n]) (he : gen G h' n = e) (ho : ∀ b ∈ gL h, gen G h' b = gen G h b) : gwl G h ++ [(gB G + n, e)] = gwl G h' := by
  unfold gwl
  rw [hL, List.map_append, ← he]
  have : List.map (fun a => (gB G + a, gen G h a)) (gL h) = List.map (fun a => (gB G + a, gen G h' a)) (gL h) := List.map_congr_left (fun b hb => by rw [ho b hb])
  rw [this]
  rfl
/-- the words that stay good in every later state, and those of nest mates -/
def gtb : List Cond := lw_tbl.filter goodWord
def gisN : Cond → Bool
  | .fieldLinkNest .. => true
  | .methodLinkNest .. => true
  | .declares .. => true
  | .castable .. => true
  | _ => false
def gnw : List Cond := tables_1.filter gisN
theorem g_in {w : Cond} (i : Nat) (h : tables_1[i]? = some w) (hg : goodWord w = true) : w ∈ gtb := List.mem_filter.mpr ⟨List.mem_append_right _ (List.mem_of_getElem? h), hg⟩
theorem g_inS {w : Cond} (i : Nat) (h : (k2_sels lw_privs)[i]? = some w) (hg : goodWord w = true) : w ∈ gtb := List.mem_filter.mpr ⟨List.mem_append_left _ (List.mem_of_getElem? h), hg⟩
theorem g_inN {w : Cond} (i : Nat) (h : tables_1[i]? = some w) (hg : gisN w = true) : w ∈ gnw := List.mem_filter.mpr ⟨List.mem_of_getElem? h, hg⟩
theorem g_good : GoodIn gtb gtb := fun w h => ⟨h, good_of_word (List.mem_filter.mp h).2⟩
theorem g_goodC {w : Cond} (h : w ∈ gtb) : GoodIn gtb (w :: gtb) := fun v hv => (List.mem_cons.mp hv).elim (fun e => by rw [e]; exact g_good w h) (g_good v)

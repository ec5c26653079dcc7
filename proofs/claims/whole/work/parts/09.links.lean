/-! CLASS FACTS AND LINKS, by program -/
section GFN
variable {d RC RS nL cells slots pc q t : Nat} {y : MethodName} {cc : ByteArray} {ret : Option FieldType} {Q : Option Value → Hp → Prop} {lv st : List Value} {h : Hp}
/-- a nest mate's final field, to be read -/
def gFn (own : String) (idx ci k fk : Nat) : Prop := ∃ (C : String) (T : u_T) (N : Nat) (ty0 : Nat → FieldType), gCls ci C T N ty0 ∧ k < N ∧ gco (ty0 k) = fk ∧ (gty ci)[k]? = some fk ∧ ∃ host, Cond.fieldLinkNest own idx (T k).1 (T k).2.1 (T k).2.2.1 host ∈ gnw
theorem g_getRn {a b idx ci fi : Nat} (hf : gFn y.cls idx ci fi 2) (ha : a ∈ gL h) (hk : gK h a = ci) (hr : gR h a fi = some b) (hd : gd cc pc (.getfield idx) 3 q) (k : gY d RC RS y cc nL ret cells slots Q q lv (.ref b :: st) h) : gY d RC RS y cc nL ret cells slots Q pc lv (.ref a :: st) h := by
  obtain ⟨hd, rfl⟩ := hd
  obtain ⟨C0, T, N, ty0, ⟨hcl, hty, hnm, hin, hlen, h11⟩, hkN, hco, hc, host, hl1⟩ := hf
  intro p l e s m args below meth c G C ls H locs hl hw hS
  obtain ⟨hx, hb, hml, hown, hts, -, -, -, hKo⟩ := id C
  obtain ⟨hsz, hlt, hP, hD⟩ := id hw
  obtain ⟨q0, hq0⟩ := gwl_get (G := G) ha
  rw [gen_obj hk h11] at hq0
  have hv : (gfs G h a (gty ci) 0)[fi]? = some (.ref (gB G + b)) := by
    rw [gfs_get G h a (gty ci) 0 fi 2 hc, Nat.zero_add]
    show some (gtr G (va_rf (gR h a fi))) = _
    rw [hr]; rfl
  exact va_getN hx hb hts hin hown hKo.2.1 hP q0 hq0 hcl fi hkN (va_Nw.use rfl (hKo.2.2.1 _ hl1)) (fun _ z => z) hv hd (k p l e s m args below meth c G C ls H locs hl hw hS)
end GFN
theorem gk1 {w : Cond} (j : Nat) (h : tables_1_1[j]? = some w) (hg : goodWord w = true) : w ∈ gtb := by
  have hm : w ∈ tables_1_1 := List.mem_of_getElem? h
  exact List.mem_filter.mpr ⟨List.mem_append_right _ (show w ∈ tables_1 from List.mem_append_left _ hm), hg⟩
theorem gkN1 {w : Cond} (j : Nat) (h : tables_1_1[j]? = some w) (hg : gisN w = true) : w ∈ gnw := by
  have hm : w ∈ tables_1_1 := List.mem_of_getElem? h
  exact List.mem_filter.mpr ⟨(show w ∈ tables_1 from List.mem_append_left _ hm), hg⟩
theorem gk2 {w : Cond} (j : Nat) (h : tables_1_2[j]? = some w) (hg : goodWord w = true) : w ∈ gtb := by
  have hm : w ∈ tables_1_2 := List.mem_of_getElem? h
  exact List.mem_filter.mpr ⟨List.mem_append_right _ (show w ∈ tables_1 from List.mem_append_right _ (List.mem_append_left _ hm)), hg⟩
theorem gkN2 {w : Cond} (j : Nat) (h : tables_1_2[j]? = some w) (hg : gisN w = true) : w ∈ gnw := by
  have hm : w ∈ tables_1_2 := List.mem_of_getElem? h
  exact List.mem_filter.mpr ⟨(show w ∈ tables_1 from List.mem_append_right _ (List.mem_append_left _ hm)), hg⟩
theorem gk3 {w : Cond} (j : Nat) (h : tables_1_3[j]? = some w) (hg : goodWord w = true) : w ∈ gtb := by
  have hm : w ∈ tables_1_3 := List.mem_of_getElem? h
  exact List.mem_filter.mpr ⟨List.mem_append_right _ (show w ∈ tables_1 from List.mem_append_right _ (List.mem_append_right _ (List.mem_append_left _ hm))), hg⟩
theorem gkN3 {w : Cond} (j : Nat) (h : tables_1_3[j]? = some w) (hg : gisN w = true) : w ∈ gnw := by
  have hm : w ∈ tables_1_3 := List.mem_of_getElem? h
  exact List.mem_filter.mpr ⟨(show w ∈ tables_1 from List.mem_append_right _ (List.mem_append_right _ (List.mem_append_left _ hm))), hg⟩
theorem gk4 {w : Cond} (j : Nat) (h : tables_1_4[j]? = some w) (hg : goodWord w = true) : w ∈ gtb := by
  have hm : w ∈ tables_1_4 := List.mem_of_getElem? h
  exact List.mem_filter.mpr ⟨List.mem_append_right _ (show w ∈ tables_1 from List.mem_append_right _ (List.mem_append_right _ (List.mem_append_right _ (List.mem_append_left _ hm)))), hg⟩
theorem gkN4 {w : Cond} (j : Nat) (h : tables_1_4[j]? = some w) (hg : gisN w = true) : w ∈ gnw := by
  have hm : w ∈ tables_1_4 := List.mem_of_getElem? h
  exact List.mem_filter.mpr ⟨(show w ∈ tables_1 from List.mem_append_right _ (List.mem_append_right _ (List.mem_append_right _ (List.mem_append_left _ hm)))), hg⟩
theorem gk5 {w : Cond} (j : Nat) (h : tables_1_5[j]? = some w) (hg : goodWord w = true) : w ∈ gtb := by
  have hm : w ∈ tables_1_5 := List.mem_of_getElem? h
  exact List.mem_filter.mpr ⟨List.mem_append_right _ (show w ∈ tables_1 from List.mem_append_right _ (List.mem_append_right _ (List.mem_append_right _ (List.mem_append_right _ (List.mem_append_left _ hm))))), hg⟩
theorem gkN5 {w : Cond} (j : Nat) (h : tables_1_5[j]? = some w) (hg : gisN w = true) : w ∈ gnw := by
  have hm : w ∈ tables_1_5 := List.mem_of_getElem? h
  exact List.mem_filter.mpr ⟨(show w ∈ tables_1 from List.mem_append_right _ (List.mem_append_right _ (List.mem_append_right _ (List.mem_append_right _ (List.mem_append_left _ hm))))), hg⟩
theorem gk6 {w : Cond} (j : Nat) (h : tables_1_6[j]? = some w) (hg : goodWord w = true) : w ∈ gtb := by
  have hm : w ∈ tables_1_6 := List.mem_of_getElem? h
  exact List.mem_filter.mpr ⟨List.mem_append_right _ (show w ∈ tables_1 from List.mem_append_right _ (List.mem_append_right _ (List.mem_append_right _ (List.mem_append_right _ (List.mem_append_right _ (List.mem_append_left _ hm)))))), hg⟩
theorem gkN6 {w : Cond} (j : Nat) (h : tables_1_6[j]? = some w) (hg : gisN w = true) : w ∈ gnw := by
  have hm : w ∈ tables_1_6 := List.mem_of_getElem? h
  exact List.mem_filter.mpr ⟨(show w ∈ tables_1 from List.mem_append_right _ (List.mem_append_right _ (List.mem_append_right _ (List.mem_append_right _ (List.mem_append_right _ (List.mem_append_left _ hm)))))), hg⟩
theorem gk7 {w : Cond} (j : Nat) (h : tables_1_7[j]? = some w) (hg : goodWord w = true) : w ∈ gtb := by
  have hm : w ∈ tables_1_7 := List.mem_of_getElem? h
  exact List.mem_filter.mpr ⟨List.mem_append_right _ (show w ∈ tables_1 from List.mem_append_right _ (List.mem_append_right _ (List.mem_append_right _ (List.mem_append_right _ (List.mem_append_right _ (List.mem_append_right _ (List.mem_append_left _ hm))))))), hg⟩
theorem gkN7 {w : Cond} (j : Nat) (h : tables_1_7[j]? = some w) (hg : gisN w = true) : w ∈ gnw := by
  have hm : w ∈ tables_1_7 := List.mem_of_getElem? h
  exact List.mem_filter.mpr ⟨(show w ∈ tables_1 from List.mem_append_right _ (List.mem_append_right _ (List.mem_append_right _ (List.mem_append_right _ (List.mem_append_right _ (List.mem_append_right _ (List.mem_append_left _ hm))))))), hg⟩
theorem gk8 {w : Cond} (j : Nat) (h : tables_1_8[j]? = some w) (hg : goodWord w = true) : w ∈ gtb := by
  have hm : w ∈ tables_1_8 := List.mem_of_getElem? h
  exact List.mem_filter.mpr ⟨List.mem_append_right _ (show w ∈ tables_1 from List.mem_append_right _ (List.mem_append_right _ (List.mem_append_right _ (List.mem_append_right _ (List.mem_append_right _ (List.mem_append_right _ (List.mem_append_right _ (List.mem_append_left _ hm)))))))), hg⟩
theorem gkN8 {w : Cond} (j : Nat) (h : tables_1_8[j]? = some w) (hg : gisN w = true) : w ∈ gnw := by
  have hm : w ∈ tables_1_8 := List.mem_of_getElem? h
  exact List.mem_filter.mpr ⟨(show w ∈ tables_1 from List.mem_append_right _ (List.mem_append_right _ (List.mem_append_right _ (List.mem_append_right _ (List.mem_append_right _ (List.mem_append_right _ (List.mem_append_right _ (List.mem_append_left _ hm)))))))), hg⟩
theorem gk9 {w : Cond} (j : Nat) (h : tables_1_9[j]? = some w) (hg : goodWord w = true) : w ∈ gtb := by
  have hm : w ∈ tables_1_9 := List.mem_of_getElem? h
  exact List.mem_filter.mpr ⟨List.mem_append_right _ (show w ∈ tables_1 from List.mem_append_right _ (List.mem_append_right _ (List.mem_append_right _ (List.mem_append_right _ (List.mem_append_right _ (List.mem_append_right _ (List.mem_append_right _ (List.mem_append_right _ (hm))))))))), hg⟩
theorem gkN9 {w : Cond} (j : Nat) (h : tables_1_9[j]? = some w) (hg : gisN w = true) : w ∈ gnw := by
  have hm : w ∈ tables_1_9 := List.mem_of_getElem? h
  exact List.mem_filter.mpr ⟨(show w ∈ tables_1 from List.mem_append_right _ (List.mem_append_right _ (List.mem_append_right _ (List.mem_append_right _ (List.mem_append_right _ (List.mem_append_right _ (List.mem_append_right _ (List.mem_append_right _ (hm))))))))), hg⟩
theorem g_priv {w : Cond} (q : MethodName × Nat) (hq : q ∈ lw_privs) (hw : Cond.selects q.1.cls q.1 q.1 = w) (hg : goodWord w = true) : w ∈ gtb := List.mem_filter.mpr ⟨List.mem_append_left _ (List.mem_map.mpr ⟨q, hq, hw⟩), hg⟩
theorem in_L : Cond.initialized RL ∈ gtb := gk1 0 rfl rfl
theorem in_X8 : Cond.initialized RX8 ∈ gtb := gk1 1 rfl rfl
theorem in_X4 : Cond.initialized RX4 ∈ gtb := gk1 2 rfl rfl
theorem in_X0 : Cond.initialized RX0 ∈ gtb := gk1 3 rfl rfl
theorem in_X3 : Cond.initialized RX3 ∈ gtb := gk1 4 rfl rfl
theorem in_X5 : Cond.initialized RX5 ∈ gtb := gk1 5 rfl rfl
theorem in_X2 : Cond.initialized RX2 ∈ gtb := gk1 6 rfl rfl
theorem in_X7 : Cond.initialized RX7 ∈ gtb := gk1 7 rfl rfl
theorem in_X6 : Cond.initialized RX6 ∈ gtb := gk1 8 rfl rfl
theorem in_X1 : Cond.initialized RX1 ∈ gtb := gk1 9 rfl rfl
theorem in_X10 : Cond.initialized RX10 ∈ gtb := gk1 10 rfl rfl
theorem in_J9 : Cond.initialized RJ9 ∈ gtb := gk1 11 rfl rfl
theorem in_J0 : Cond.initialized RJ0 ∈ gtb := gk1 12 rfl rfl
theorem in_J1 : Cond.initialized RJ1 ∈ gtb := gk1 13 rfl rfl
theorem in_J3 : Cond.initialized RJ3 ∈ gtb := gk1 14 rfl rfl
theorem in_J2 : Cond.initialized RJ2 ∈ gtb := gk1 15 rfl rfl
theorem in_X9 : Cond.initialized RX9 ∈ gtb := gk1 16 rfl rfl
theorem in_J6 : Cond.initialized RJ6 ∈ gtb := gk1 17 rfl rfl
theorem ar_byte : Cond.arrayClass .byte ∈ gtb := gk1 45 rfl rfl
theorem ar_int : Cond.arrayClass .int ∈ gtb := gk1 157 rfl rfl
theorem ar_long : Cond.arrayClass .long ∈ gtb := gk1 228 rfl rfl
theorem im_obj : Cond.instanceMethod Lib.objectInit ∈ gtb := gk1 28 rfl rfl
theorem co_obj : Cond.code Lib.objectInit ⟨#[0xb1]⟩ 1 none ∈ gtb := gk1 29 rfl rfl
theorem lay_X0 : ∀ w ∈ u_ws RX0 TX0 20, w ∈ gtb := by
  intro w hw
  obtain ⟨k, hk, rfl⟩ := List.mem_map.mp hw
  have hk : k < 20 := List.mem_range.mp hk
  match k, hk with
  | 0, _ => exact gk1 116 rfl rfl
  | 1, _ => exact gk1 118 rfl rfl
  | 2, _ => exact gk1 120 rfl rfl
  | 3, _ => exact gk1 122 rfl rfl
  | 4, _ => exact gk1 124 rfl rfl
  | 5, _ => exact gk1 126 rfl rfl
  | 6, _ => exact gk1 128 rfl rfl
  | 7, _ => exact gk1 130 rfl rfl
  | 8, _ => exact gk1 132 rfl rfl
  | 9, _ => exact gk1 134 rfl rfl
  | 10, _ => exact gk1 136 rfl rfl
  | 11, _ => exact gk1 138 rfl rfl
  | 12, _ => exact gk1 140 rfl rfl
  | 13, _ => exact gk1 142 rfl rfl
  | 14, _ => exact gk1 144 rfl rfl
  | 15, _ => exact gk1 146 rfl rfl
  | 16, _ => exact gk1 148 rfl rfl
  | 17, _ => exact gk1 150 rfl rfl
  | 18, _ => exact gk1 152 rfl rfl
  | 19, _ => exact gk1 154 rfl rfl
  | k + 20, hk => exact absurd hk (by omega)
theorem cls_X0 : gCls 0 RX0 TX0 20 tyX0 := ⟨rfl, tyX0_ok, nmX0, lay_X0, rfl, by decide⟩
theorem cty_X0 : ∀ j, j < 20 → gco (tyX0 j) = (gty 0).getD j 9 ∧ gco (tyX0 j) ≠ 9 := by decide
theorem lay_X1 : ∀ w ∈ u_ws RX1 TX1 3, w ∈ gtb := by
  intro w hw
  obtain ⟨k, hk, rfl⟩ := List.mem_map.mp hw
  have hk : k < 3 := List.mem_range.mp hk
  match k, hk with
  | 0, _ => exact gk2 90 rfl rfl
  | 1, _ => exact gk2 92 rfl rfl
  | 2, _ => exact gk2 94 rfl rfl
  | k + 3, hk => exact absurd hk (by omega)
theorem cls_X1 : gCls 1 RX1 TX1 3 tyX1 := ⟨rfl, tyX1_ok, nmX1, lay_X1, rfl, by decide⟩
theorem cty_X1 : ∀ j, j < 3 → gco (tyX1 j) = (gty 1).getD j 9 ∧ gco (tyX1 j) ≠ 9 := by decide
theorem lay_X2 : ∀ w ∈ u_ws RX2 TX2 10, w ∈ gtb := by
  intro w hw
  obtain ⟨k, hk, rfl⟩ := List.mem_map.mp hw
  have hk : k < 10 := List.mem_range.mp hk
  match k, hk with
  | 0, _ => exact gk2 9 rfl rfl
  | 1, _ => exact gk2 11 rfl rfl
  | 2, _ => exact gk2 13 rfl rfl
  | 3, _ => exact gk2 15 rfl rfl
  | 4, _ => exact gk2 17 rfl rfl
  | 5, _ => exact gk2 19 rfl rfl
  | 6, _ => exact gk2 21 rfl rfl
  | 7, _ => exact gk2 23 rfl rfl
  | 8, _ => exact gk2 25 rfl rfl
  | 9, _ => exact gk2 27 rfl rfl
  | k + 10, hk => exact absurd hk (by omega)
theorem cls_X2 : gCls 2 RX2 TX2 10 tyX2 := ⟨rfl, tyX2_ok, nmX2, lay_X2, rfl, by decide⟩
theorem cty_X2 : ∀ j, j < 10 → gco (tyX2 j) = (gty 2).getD j 9 ∧ gco (tyX2 j) ≠ 9 := by decide
theorem lay_X3 : ∀ w ∈ u_ws RX3 TX3 12, w ∈ gtb := by
  intro w hw
  obtain ⟨k, hk, rfl⟩ := List.mem_map.mp hw
  have hk : k < 12 := List.mem_range.mp hk
  match k, hk with
  | 0, _ => exact gk1 203 rfl rfl
  | 1, _ => exact gk1 205 rfl rfl
  | 2, _ => exact gk1 207 rfl rfl
  | 3, _ => exact gk1 209 rfl rfl
  | 4, _ => exact gk1 211 rfl rfl
  | 5, _ => exact gk1 213 rfl rfl
  | 6, _ => exact gk1 215 rfl rfl
  | 7, _ => exact gk1 217 rfl rfl
  | 8, _ => exact gk1 219 rfl rfl
  | 9, _ => exact gk1 221 rfl rfl
  | 10, _ => exact gk1 223 rfl rfl
  | 11, _ => exact gk1 225 rfl rfl
  | k + 12, hk => exact absurd hk (by omega)
theorem cls_X3 : gCls 3 RX3 TX3 12 tyX3 := ⟨rfl, tyX3_ok, nmX3, lay_X3, rfl, by decide⟩
theorem cty_X3 : ∀ j, j < 12 → gco (tyX3 j) = (gty 3).getD j 9 ∧ gco (tyX3 j) ≠ 9 := by decide
theorem lay_X4 : ∀ w ∈ u_ws RX4 TX4 2, w ∈ gtb := by
  intro w hw
  obtain ⟨k, hk, rfl⟩ := List.mem_map.mp hw
  have hk : k < 2 := List.mem_range.mp hk
  match k, hk with
  | 0, _ => exact gk1 40 rfl rfl
  | 1, _ => exact gk1 42 rfl rfl
  | k + 2, hk => exact absurd hk (by omega)
theorem cls_X4 : gCls 4 RX4 TX4 2 tyX4 := ⟨rfl, tyX4_ok, nmX4, lay_X4, rfl, by decide⟩
theorem cty_X4 : ∀ j, j < 2 → gco (tyX4 j) = (gty 4).getD j 9 ∧ gco (tyX4 j) ≠ 9 := by decide
theorem lay_X5 : ∀ w ∈ u_ws RX5 TX5 5, w ∈ gtb := by
  intro w hw
  obtain ⟨k, hk, rfl⟩ := List.mem_map.mp hw
  have hk : k < 5 := List.mem_range.mp hk
  match k, hk with
  | 0, _ => exact gk1 178 rfl rfl
  | 1, _ => exact gk1 180 rfl rfl
  | 2, _ => exact gk1 182 rfl rfl
  | 3, _ => exact gk1 184 rfl rfl
  | 4, _ => exact gk1 186 rfl rfl
  | k + 5, hk => exact absurd hk (by omega)
theorem cls_X5 : gCls 5 RX5 TX5 5 tyX5 := ⟨rfl, tyX5_ok, nmX5, lay_X5, rfl, by decide⟩
theorem cty_X5 : ∀ j, j < 5 → gco (tyX5 j) = (gty 5).getD j 9 ∧ gco (tyX5 j) ≠ 9 := by decide
theorem lay_X6 : ∀ w ∈ u_ws RX6 TX6 2, w ∈ gtb := by
  intro w hw
  obtain ⟨k, hk, rfl⟩ := List.mem_map.mp hw
  have hk : k < 2 := List.mem_range.mp hk
  match k, hk with
  | 0, _ => exact gk2 74 rfl rfl
  | 1, _ => exact gk2 76 rfl rfl
  | k + 2, hk => exact absurd hk (by omega)
theorem cls_X6 : gCls 6 RX6 TX6 2 tyX6 := ⟨rfl, tyX6_ok, nmX6, lay_X6, rfl, by decide⟩
theorem cty_X6 : ∀ j, j < 2 → gco (tyX6 j) = (gty 6).getD j 9 ∧ gco (tyX6 j) ≠ 9 := by decide
theorem lay_X7 : ∀ w ∈ u_ws RX7 TX7 8, w ∈ gtb := by
  intro w hw
  obtain ⟨k, hk, rfl⟩ := List.mem_map.mp hw
  have hk : k < 8 := List.mem_range.mp hk
  match k, hk with
  | 0, _ => exact gk2 47 rfl rfl
  | 1, _ => exact gk2 49 rfl rfl
  | 2, _ => exact gk2 51 rfl rfl
  | 3, _ => exact gk2 53 rfl rfl
  | 4, _ => exact gk2 55 rfl rfl
  | 5, _ => exact gk2 57 rfl rfl
  | 6, _ => exact gk2 59 rfl rfl
  | 7, _ => exact gk2 61 rfl rfl
  | k + 8, hk => exact absurd hk (by omega)
theorem cls_X7 : gCls 7 RX7 TX7 8 tyX7 := ⟨rfl, tyX7_ok, nmX7, lay_X7, rfl, by decide⟩
theorem cty_X7 : ∀ j, j < 8 → gco (tyX7 j) = (gty 7).getD j 9 ∧ gco (tyX7 j) ≠ 9 := by decide
theorem lay_X8 : ∀ w ∈ u_ws RX8 TX8 11, w ∈ gtb := by
  intro w hw
  obtain ⟨k, hk, rfl⟩ := List.mem_map.mp hw
  have hk : k < 11 := List.mem_range.mp hk
  match k, hk with
  | 0, _ => exact gk2 108 rfl rfl
  | 1, _ => exact gk2 110 rfl rfl
  | 2, _ => exact gk2 112 rfl rfl
  | 3, _ => exact gk2 114 rfl rfl
  | 4, _ => exact gk2 116 rfl rfl
  | 5, _ => exact gk2 118 rfl rfl
  | 6, _ => exact gk2 120 rfl rfl
  | 7, _ => exact gk2 122 rfl rfl
  | 8, _ => exact gk2 124 rfl rfl
  | 9, _ => exact gk2 126 rfl rfl
  | 10, _ => exact gk2 128 rfl rfl
  | k + 11, hk => exact absurd hk (by omega)
theorem cls_X8 : gCls 8 RX8 TX8 11 tyX8 := ⟨rfl, tyX8_ok, nmX8, lay_X8, rfl, by decide⟩
theorem cty_X8 : ∀ j, j < 11 → gco (tyX8 j) = (gty 8).getD j 9 ∧ gco (tyX8 j) ≠ 9 := by decide
theorem lay_X9 : ∀ w ∈ u_ws RX9 TX9 31, w ∈ gtb := by
  intro w hw
  obtain ⟨k, hk, rfl⟩ := List.mem_map.mp hw
  have hk : k < 31 := List.mem_range.mp hk
  match k, hk with
  | 0, _ => exact gk6 127 rfl rfl
  | 1, _ => exact gk6 129 rfl rfl
  | 2, _ => exact gk6 131 rfl rfl
  | 3, _ => exact gk6 133 rfl rfl
  | 4, _ => exact gk6 135 rfl rfl
  | 5, _ => exact gk6 137 rfl rfl
  | 6, _ => exact gk6 139 rfl rfl
  | 7, _ => exact gk6 141 rfl rfl
  | 8, _ => exact gk6 143 rfl rfl
  | 9, _ => exact gk6 145 rfl rfl
  | 10, _ => exact gk6 147 rfl rfl
  | 11, _ => exact gk6 149 rfl rfl
  | 12, _ => exact gk6 151 rfl rfl
  | 13, _ => exact gk6 153 rfl rfl
  | 14, _ => exact gk6 155 rfl rfl
  | 15, _ => exact gk6 157 rfl rfl
  | 16, _ => exact gk6 159 rfl rfl
  | 17, _ => exact gk6 161 rfl rfl
  | 18, _ => exact gk6 163 rfl rfl
  | 19, _ => exact gk6 165 rfl rfl
  | 20, _ => exact gk6 167 rfl rfl
  | 21, _ => exact gk6 169 rfl rfl
  | 22, _ => exact gk6 171 rfl rfl
  | 23, _ => exact gk6 173 rfl rfl
  | 24, _ => exact gk6 175 rfl rfl
  | 25, _ => exact gk6 177 rfl rfl
  | 26, _ => exact gk6 179 rfl rfl
  | 27, _ => exact gk6 181 rfl rfl
  | 28, _ => exact gk6 183 rfl rfl
  | 29, _ => exact gk6 185 rfl rfl
  | 30, _ => exact gk6 187 rfl rfl
  | k + 31, hk => exact absurd hk (by omega)
theorem cls_X9 : gCls 9 RX9 TX9 31 tyX9 := ⟨rfl, tyX9_ok, nmX9, lay_X9, rfl, by decide⟩
theorem cty_X9 : ∀ j, j < 31 → gco (tyX9 j) = (gty 9).getD j 9 ∧ gco (tyX9 j) ≠ 9 := by decide
theorem lay_X10 : ∀ w ∈ u_ws RX10 TX10 35, w ∈ gtb := by
  intro w hw
  obtain ⟨k, hk, rfl⟩ := List.mem_map.mp hw
  have hk : k < 35 := List.mem_range.mp hk
  match k, hk with
  | 0, _ => exact gk5 222 rfl rfl
  | 1, _ => exact gk5 224 rfl rfl
  | 2, _ => exact gk5 226 rfl rfl
  | 3, _ => exact gk5 228 rfl rfl
  | 4, _ => exact gk5 230 rfl rfl
  | 5, _ => exact gk5 232 rfl rfl
  | 6, _ => exact gk5 234 rfl rfl
  | 7, _ => exact gk5 236 rfl rfl
  | 8, _ => exact gk5 238 rfl rfl
  | 9, _ => exact gk6 0 rfl rfl
  | 10, _ => exact gk6 2 rfl rfl
  | 11, _ => exact gk6 4 rfl rfl
  | 12, _ => exact gk6 6 rfl rfl
  | 13, _ => exact gk6 8 rfl rfl
  | 14, _ => exact gk6 10 rfl rfl
  | 15, _ => exact gk6 12 rfl rfl
  | 16, _ => exact gk6 14 rfl rfl
  | 17, _ => exact gk6 16 rfl rfl
  | 18, _ => exact gk6 18 rfl rfl
  | 19, _ => exact gk6 20 rfl rfl
  | 20, _ => exact gk6 22 rfl rfl
  | 21, _ => exact gk6 24 rfl rfl
  | 22, _ => exact gk6 26 rfl rfl
  | 23, _ => exact gk6 28 rfl rfl
  | 24, _ => exact gk6 30 rfl rfl
  | 25, _ => exact gk6 32 rfl rfl
  | 26, _ => exact gk6 34 rfl rfl
  | 27, _ => exact gk6 36 rfl rfl
  | 28, _ => exact gk6 38 rfl rfl
  | 29, _ => exact gk6 40 rfl rfl
  | 30, _ => exact gk6 42 rfl rfl
  | 31, _ => exact gk6 44 rfl rfl
  | 32, _ => exact gk6 46 rfl rfl
  | 33, _ => exact gk6 48 rfl rfl
  | 34, _ => exact gk6 50 rfl rfl
  | k + 35, hk => exact absurd hk (by omega)
theorem cls_X10 : gCls 10 RX10 TX10 35 tyX10 := ⟨rfl, tyX10_ok, nmX10, lay_X10, rfl, by decide⟩
theorem cty_X10 : ∀ j, j < 35 → gco (tyX10 j) = (gty 10).getD j 9 ∧ gco (tyX10 j) ≠ 9 := by decide
theorem lf_X5_7 : gF RX5 7 4 0 2 2 := ⟨RX4, TX4, 2, tyX4, cls_X4, by decide, rfl, rfl, Or.inr (Or.inr ⟨rfl, gk1 36 rfl rfl, rfl⟩)⟩
theorem lf_X4_9 : gF RX4 9 4 0 2 2 := ⟨RX4, TX4, 2, tyX4, cls_X4, by decide, rfl, rfl, Or.inr (Or.inr ⟨rfl, gk1 37 rfl rfl, rfl⟩)⟩
theorem lf_X4_13 : gF RX4 13 4 1 0 0 := ⟨RX4, TX4, 2, tyX4, cls_X4, by decide, rfl, rfl, Or.inl ⟨rfl, gk1 38 rfl rfl, rfl⟩⟩
theorem lf_X8_83 : gF RX8 83 4 1 0 0 := ⟨RX4, TX4, 2, tyX4, cls_X4, by decide, rfl, rfl, Or.inl ⟨rfl, gk1 39 rfl rfl, rfl⟩⟩
theorem lf_X0_11 : gF RX0 11 0 0 2 2 := ⟨RX0, TX0, 20, tyX0, cls_X0, by decide, rfl, rfl, Or.inr (Or.inr ⟨rfl, gk1 52 rfl rfl, rfl⟩)⟩
theorem lf_X3_63 : gF RX3 63 0 0 2 2 := ⟨RX0, TX0, 20, tyX0, cls_X0, by decide, rfl, rfl, Or.inr (Or.inr ⟨rfl, gk1 53 rfl rfl, rfl⟩)⟩
theorem lf_X8_103 : gF RX8 103 0 0 2 2 := ⟨RX0, TX0, 20, tyX0, cls_X0, by decide, rfl, rfl, Or.inr (Or.inr ⟨rfl, gk1 54 rfl rfl, rfl⟩)⟩
theorem lf_X1_39 : gF RX1 39 0 0 2 2 := ⟨RX0, TX0, 20, tyX0, cls_X0, by decide, rfl, rfl, Or.inr (Or.inr ⟨rfl, gk1 55 rfl rfl, rfl⟩)⟩
theorem lf_X2_47 : gF RX2 47 0 0 2 2 := ⟨RX0, TX0, 20, tyX0, cls_X0, by decide, rfl, rfl, Or.inr (Or.inr ⟨rfl, gk1 56 rfl rfl, rfl⟩)⟩
theorem lf_X7_54 : gF RX7 54 0 0 2 2 := ⟨RX0, TX0, 20, tyX0, cls_X0, by decide, rfl, rfl, Or.inr (Or.inr ⟨rfl, gk1 57 rfl rfl, rfl⟩)⟩
theorem lf_X0_54 : gF RX0 54 0 1 0 0 := ⟨RX0, TX0, 20, tyX0, cls_X0, by decide, rfl, rfl, Or.inl ⟨rfl, gk1 58 rfl rfl, rfl⟩⟩
theorem lf_X3_120 : gF RX3 120 0 1 0 0 := ⟨RX0, TX0, 20, tyX0, cls_X0, by decide, rfl, rfl, Or.inl ⟨rfl, gk1 59 rfl rfl, rfl⟩⟩
theorem lf_X8_304 : gF RX8 304 0 1 0 0 := ⟨RX0, TX0, 20, tyX0, cls_X0, by decide, rfl, rfl, Or.inl ⟨rfl, gk1 60 rfl rfl, rfl⟩⟩
theorem lf_X0_58 : gF RX0 58 0 2 0 0 := ⟨RX0, TX0, 20, tyX0, cls_X0, by decide, rfl, rfl, Or.inl ⟨rfl, gk1 61 rfl rfl, rfl⟩⟩
theorem lf_X3_124 : gF RX3 124 0 2 0 0 := ⟨RX0, TX0, 20, tyX0, cls_X0, by decide, rfl, rfl, Or.inl ⟨rfl, gk1 62 rfl rfl, rfl⟩⟩
theorem lf_X8_307 : gF RX8 307 0 2 0 0 := ⟨RX0, TX0, 20, tyX0, cls_X0, by decide, rfl, rfl, Or.inl ⟨rfl, gk1 63 rfl rfl, rfl⟩⟩
theorem lf_X1_23 : gF RX1 23 0 3 0 0 := ⟨RX0, TX0, 20, tyX0, cls_X0, by decide, rfl, rfl, Or.inl ⟨rfl, gk1 64 rfl rfl, rfl⟩⟩
theorem lf_X0_61 : gF RX0 61 0 3 0 0 := ⟨RX0, TX0, 20, tyX0, cls_X0, by decide, rfl, rfl, Or.inl ⟨rfl, gk1 65 rfl rfl, rfl⟩⟩
theorem lf_X3_128 : gF RX3 128 0 3 0 0 := ⟨RX0, TX0, 20, tyX0, cls_X0, by decide, rfl, rfl, Or.inl ⟨rfl, gk1 66 rfl rfl, rfl⟩⟩
theorem lf_X8_310 : gF RX8 310 0 3 0 0 := ⟨RX0, TX0, 20, tyX0, cls_X0, by decide, rfl, rfl, Or.inl ⟨rfl, gk1 67 rfl rfl, rfl⟩⟩
theorem lf_X1_32 : gF RX1 32 0 4 0 0 := ⟨RX0, TX0, 20, tyX0, cls_X0, by decide, rfl, rfl, Or.inl ⟨rfl, gk1 68 rfl rfl, rfl⟩⟩
theorem lf_X0_64 : gF RX0 64 0 4 0 0 := ⟨RX0, TX0, 20, tyX0, cls_X0, by decide, rfl, rfl, Or.inl ⟨rfl, gk1 69 rfl rfl, rfl⟩⟩
theorem lf_X3_132 : gF RX3 132 0 4 0 0 := ⟨RX0, TX0, 20, tyX0, cls_X0, by decide, rfl, rfl, Or.inl ⟨rfl, gk1 70 rfl rfl, rfl⟩⟩
theorem lf_X8_313 : gF RX8 313 0 4 0 0 := ⟨RX0, TX0, 20, tyX0, cls_X0, by decide, rfl, rfl, Or.inl ⟨rfl, gk1 71 rfl rfl, rfl⟩⟩
theorem lf_X0_67 : gF RX0 67 0 5 0 0 := ⟨RX0, TX0, 20, tyX0, cls_X0, by decide, rfl, rfl, Or.inl ⟨rfl, gk1 72 rfl rfl, rfl⟩⟩
theorem lf_X2_99 : gF RX2 99 0 5 0 0 := ⟨RX0, TX0, 20, tyX0, cls_X0, by decide, rfl, rfl, Or.inl ⟨rfl, gk1 73 rfl rfl, rfl⟩⟩
theorem lf_X3_240 : gF RX3 240 0 5 0 0 := ⟨RX0, TX0, 20, tyX0, cls_X0, by decide, rfl, rfl, Or.inl ⟨rfl, gk1 74 rfl rfl, rfl⟩⟩
theorem lf_X0_15 : gF RX0 15 0 6 2 2 := ⟨RX0, TX0, 20, tyX0, cls_X0, by decide, rfl, rfl, Or.inr (Or.inr ⟨rfl, gk1 75 rfl rfl, rfl⟩)⟩
theorem lf_X1_43 : gF RX1 43 0 6 2 2 := ⟨RX0, TX0, 20, tyX0, cls_X0, by decide, rfl, rfl, Or.inr (Or.inr ⟨rfl, gk1 76 rfl rfl, rfl⟩)⟩
theorem lf_X8_114 : gF RX8 114 0 6 2 2 := ⟨RX0, TX0, 20, tyX0, cls_X0, by decide, rfl, rfl, Or.inr (Or.inr ⟨rfl, gk1 77 rfl rfl, rfl⟩)⟩
theorem lf_X3_188 : gF RX3 188 0 6 2 2 := ⟨RX0, TX0, 20, tyX0, cls_X0, by decide, rfl, rfl, Or.inr (Or.inr ⟨rfl, gk1 78 rfl rfl, rfl⟩)⟩
theorem lf_X0_18 : gF RX0 18 0 7 2 2 := ⟨RX0, TX0, 20, tyX0, cls_X0, by decide, rfl, rfl, Or.inr (Or.inr ⟨rfl, gk1 79 rfl rfl, rfl⟩)⟩
theorem lf_X2_36 : gF RX2 36 0 7 2 2 := ⟨RX0, TX0, 20, tyX0, cls_X0, by decide, rfl, rfl, Or.inr (Or.inr ⟨rfl, gk1 80 rfl rfl, rfl⟩)⟩
theorem lf_X3_178 : gF RX3 178 0 7 2 2 := ⟨RX0, TX0, 20, tyX0, cls_X0, by decide, rfl, rfl, Or.inr (Or.inr ⟨rfl, gk1 81 rfl rfl, rfl⟩)⟩
theorem lf_X0_21 : gF RX0 21 0 8 2 2 := ⟨RX0, TX0, 20, tyX0, cls_X0, by decide, rfl, rfl, Or.inr (Or.inr ⟨rfl, gk1 82 rfl rfl, rfl⟩)⟩
theorem lf_X8_132 : gF RX8 132 0 8 2 2 := ⟨RX0, TX0, 20, tyX0, cls_X0, by decide, rfl, rfl, Or.inr (Or.inr ⟨rfl, gk1 83 rfl rfl, rfl⟩)⟩
theorem lf_X3_191 : gF RX3 191 0 8 2 2 := ⟨RX0, TX0, 20, tyX0, cls_X0, by decide, rfl, rfl, Or.inr (Or.inr ⟨rfl, gk1 84 rfl rfl, rfl⟩)⟩
theorem lf_X2_90 : gF RX2 90 0 8 2 2 := ⟨RX0, TX0, 20, tyX0, cls_X0, by decide, rfl, rfl, Or.inr (Or.inr ⟨rfl, gk1 85 rfl rfl, rfl⟩)⟩
theorem lf_X0_24 : gF RX0 24 0 9 2 2 := ⟨RX0, TX0, 20, tyX0, cls_X0, by decide, rfl, rfl, Or.inr (Or.inr ⟨rfl, gk1 86 rfl rfl, rfl⟩)⟩
theorem lf_X8_138 : gF RX8 138 0 9 2 2 := ⟨RX0, TX0, 20, tyX0, cls_X0, by decide, rfl, rfl, Or.inr (Or.inr ⟨rfl, gk1 87 rfl rfl, rfl⟩)⟩
theorem lf_X3_193 : gF RX3 193 0 9 2 2 := ⟨RX0, TX0, 20, tyX0, cls_X0, by decide, rfl, rfl, Or.inr (Or.inr ⟨rfl, gk1 88 rfl rfl, rfl⟩)⟩
theorem lf_X0_27 : gF RX0 27 0 10 2 2 := ⟨RX0, TX0, 20, tyX0, cls_X0, by decide, rfl, rfl, Or.inr (Or.inr ⟨rfl, gk1 89 rfl rfl, rfl⟩)⟩
theorem lf_X2_80 : gF RX2 80 0 10 2 2 := ⟨RX0, TX0, 20, tyX0, cls_X0, by decide, rfl, rfl, Or.inr (Or.inr ⟨rfl, gk1 90 rfl rfl, rfl⟩)⟩
theorem lf_X3_199 : gF RX3 199 0 10 2 2 := ⟨RX0, TX0, 20, tyX0, cls_X0, by decide, rfl, rfl, Or.inr (Or.inr ⟨rfl, gk1 91 rfl rfl, rfl⟩)⟩
theorem lf_X8_212 : gF RX8 212 0 10 2 2 := ⟨RX0, TX0, 20, tyX0, cls_X0, by decide, rfl, rfl, Or.inr (Or.inr ⟨rfl, gk1 92 rfl rfl, rfl⟩)⟩
theorem lf_X0_30 : gF RX0 30 0 11 2 2 := ⟨RX0, TX0, 20, tyX0, cls_X0, by decide, rfl, rfl, Or.inr (Or.inr ⟨rfl, gk1 93 rfl rfl, rfl⟩)⟩
theorem lf_X7_61 : gF RX7 61 0 11 2 2 := ⟨RX0, TX0, 20, tyX0, cls_X0, by decide, rfl, rfl, Or.inr (Or.inr ⟨rfl, gk1 94 rfl rfl, rfl⟩)⟩
theorem lf_X3_202 : gF RX3 202 0 11 2 2 := ⟨RX0, TX0, 20, tyX0, cls_X0, by decide, rfl, rfl, Or.inr (Or.inr ⟨rfl, gk1 95 rfl rfl, rfl⟩)⟩
theorem lf_X0_33 : gF RX0 33 0 12 2 2 := ⟨RX0, TX0, 20, tyX0, cls_X0, by decide, rfl, rfl, Or.inr (Or.inr ⟨rfl, gk1 96 rfl rfl, rfl⟩)⟩
theorem lf_X7_70 : gF RX7 70 0 12 2 2 := ⟨RX0, TX0, 20, tyX0, cls_X0, by decide, rfl, rfl, Or.inr (Or.inr ⟨rfl, gk1 97 rfl rfl, rfl⟩)⟩
theorem lf_X3_210 : gF RX3 210 0 12 2 2 := ⟨RX0, TX0, 20, tyX0, cls_X0, by decide, rfl, rfl, Or.inr (Or.inr ⟨rfl, gk1 98 rfl rfl, rfl⟩)⟩
theorem lf_X0_70 : gF RX0 70 0 13 0 0 := ⟨RX0, TX0, 20, tyX0, cls_X0, by decide, rfl, rfl, Or.inl ⟨rfl, gk1 99 rfl rfl, rfl⟩⟩
theorem lf_X3_216 : gF RX3 216 0 13 0 0 := ⟨RX0, TX0, 20, tyX0, cls_X0, by decide, rfl, rfl, Or.inl ⟨rfl, gk1 100 rfl rfl, rfl⟩⟩
theorem lf_X0_36 : gF RX0 36 0 14 2 2 := ⟨RX0, TX0, 20, tyX0, cls_X0, by decide, rfl, rfl, Or.inr (Or.inr ⟨rfl, gk1 101 rfl rfl, rfl⟩)⟩
theorem lf_X3_219 : gF RX3 219 0 14 2 2 := ⟨RX0, TX0, 20, tyX0, cls_X0, by decide, rfl, rfl, Or.inr (Or.inr ⟨rfl, gk1 102 rfl rfl, rfl⟩)⟩
theorem lf_X8_200 : gF RX8 200 0 14 2 2 := ⟨RX0, TX0, 20, tyX0, cls_X0, by decide, rfl, rfl, Or.inr (Or.inr ⟨rfl, gk1 103 rfl rfl, rfl⟩)⟩
theorem lf_X0_39 : gF RX0 39 0 15 2 2 := ⟨RX0, TX0, 20, tyX0, cls_X0, by decide, rfl, rfl, Or.inr (Or.inr ⟨rfl, gk1 104 rfl rfl, rfl⟩)⟩
theorem lf_X3_222 : gF RX3 222 0 15 2 2 := ⟨RX0, TX0, 20, tyX0, cls_X0, by decide, rfl, rfl, Or.inr (Or.inr ⟨rfl, gk1 105 rfl rfl, rfl⟩)⟩
theorem lf_X8_203 : gF RX8 203 0 15 2 2 := ⟨RX0, TX0, 20, tyX0, cls_X0, by decide, rfl, rfl, Or.inr (Or.inr ⟨rfl, gk1 106 rfl rfl, rfl⟩)⟩
theorem lf_X0_42 : gF RX0 42 0 16 2 2 := ⟨RX0, TX0, 20, tyX0, cls_X0, by decide, rfl, rfl, Or.inr (Or.inr ⟨rfl, gk1 107 rfl rfl, rfl⟩)⟩
theorem lf_X3_225 : gF RX3 225 0 16 2 2 := ⟨RX0, TX0, 20, tyX0, cls_X0, by decide, rfl, rfl, Or.inr (Or.inr ⟨rfl, gk1 108 rfl rfl, rfl⟩)⟩
theorem lf_X8_206 : gF RX8 206 0 16 2 2 := ⟨RX0, TX0, 20, tyX0, cls_X0, by decide, rfl, rfl, Or.inr (Or.inr ⟨rfl, gk1 109 rfl rfl, rfl⟩)⟩
theorem lf_X0_45 : gF RX0 45 0 17 2 2 := ⟨RX0, TX0, 20, tyX0, cls_X0, by decide, rfl, rfl, Or.inr (Or.inr ⟨rfl, gk1 110 rfl rfl, rfl⟩)⟩
theorem lf_X3_228 : gF RX3 228 0 17 2 2 := ⟨RX0, TX0, 20, tyX0, cls_X0, by decide, rfl, rfl, Or.inr (Or.inr ⟨rfl, gk1 111 rfl rfl, rfl⟩)⟩
theorem lf_X0_48 : gF RX0 48 0 18 2 2 := ⟨RX0, TX0, 20, tyX0, cls_X0, by decide, rfl, rfl, Or.inr (Or.inr ⟨rfl, gk1 112 rfl rfl, rfl⟩)⟩
theorem lf_X3_234 : gF RX3 234 0 18 2 2 := ⟨RX0, TX0, 20, tyX0, cls_X0, by decide, rfl, rfl, Or.inr (Or.inr ⟨rfl, gk1 113 rfl rfl, rfl⟩)⟩
theorem lf_X0_51 : gF RX0 51 0 19 2 2 := ⟨RX0, TX0, 20, tyX0, cls_X0, by decide, rfl, rfl, Or.inr (Or.inr ⟨rfl, gk1 114 rfl rfl, rfl⟩)⟩
theorem lf_X3_237 : gF RX3 237 0 19 2 2 := ⟨RX0, TX0, 20, tyX0, cls_X0, by decide, rfl, rfl, Or.inr (Or.inr ⟨rfl, gk1 115 rfl rfl, rfl⟩)⟩
theorem lf_X5_13 : gF RX5 13 5 0 2 2 := ⟨RX5, TX5, 5, tyX5, cls_X5, by decide, rfl, rfl, Or.inr (Or.inr ⟨rfl, gk1 170 rfl rfl, rfl⟩)⟩
theorem lf_X5_16 : gF RX5 16 5 1 0 0 := ⟨RX5, TX5, 5, tyX5, cls_X5, by decide, rfl, rfl, Or.inl ⟨rfl, gk1 171 rfl rfl, rfl⟩⟩
theorem lf_X5_20 : gF RX5 20 5 2 0 0 := ⟨RX5, TX5, 5, tyX5, cls_X5, by decide, rfl, rfl, Or.inl ⟨rfl, gk1 172 rfl rfl, rfl⟩⟩
theorem lf_X3_60 : gF RX3 60 5 2 0 0 := ⟨RX5, TX5, 5, tyX5, cls_X5, by decide, rfl, rfl, Or.inl ⟨rfl, gk1 173 rfl rfl, rfl⟩⟩
theorem lf_X5_23 : gF RX5 23 5 3 0 0 := ⟨RX5, TX5, 5, tyX5, cls_X5, by decide, rfl, rfl, Or.inl ⟨rfl, gk1 174 rfl rfl, rfl⟩⟩
theorem lf_X3_76 : gF RX3 76 5 3 0 0 := ⟨RX5, TX5, 5, tyX5, cls_X5, by decide, rfl, rfl, Or.inl ⟨rfl, gk1 175 rfl rfl, rfl⟩⟩
theorem lf_X5_26 : gF RX5 26 5 4 0 0 := ⟨RX5, TX5, 5, tyX5, cls_X5, by decide, rfl, rfl, Or.inl ⟨rfl, gk1 176 rfl rfl, rfl⟩⟩
theorem lf_X3_258 : gF RX3 258 5 4 0 0 := ⟨RX5, TX5, 5, tyX5, cls_X5, by decide, rfl, rfl, Or.inl ⟨rfl, gk1 177 rfl rfl, rfl⟩⟩
theorem lf_X3_16 : gF RX3 16 3 0 2 2 := ⟨RX3, TX3, 12, tyX3, cls_X3, by decide, rfl, rfl, Or.inr (Or.inr ⟨rfl, gk1 189 rfl rfl, rfl⟩)⟩
theorem lf_X3_30 : gF RX3 30 3 1 2 2 := ⟨RX3, TX3, 12, tyX3, cls_X3, by decide, rfl, rfl, Or.inr (Or.inr ⟨rfl, gk1 190 rfl rfl, rfl⟩)⟩
theorem lf_X3_34 : gF RX3 34 3 2 2 2 := ⟨RX3, TX3, 12, tyX3, cls_X3, by decide, rfl, rfl, Or.inr (Or.inr ⟨rfl, gk1 191 rfl rfl, rfl⟩)⟩
theorem lf_X3_38 : gF RX3 38 3 3 2 2 := ⟨RX3, TX3, 12, tyX3, cls_X3, by decide, rfl, rfl, Or.inr (Or.inr ⟨rfl, gk1 192 rfl rfl, rfl⟩)⟩
theorem lf_X3_44 : gF RX3 44 3 4 0 0 := ⟨RX3, TX3, 12, tyX3, cls_X3, by decide, rfl, rfl, Or.inl ⟨rfl, gk1 193 rfl rfl, rfl⟩⟩
theorem lf_X3_22 : gF RX3 22 3 5 2 0 := ⟨RX3, TX3, 12, tyX3, cls_X3, by decide, rfl, rfl, Or.inl ⟨rfl, gk1 194 rfl rfl, rfl⟩⟩
theorem lf_X3_138 : gF RX3 138 3 6 0 0 := ⟨RX3, TX3, 12, tyX3, cls_X3, by decide, rfl, rfl, Or.inl ⟨rfl, gk1 195 rfl rfl, rfl⟩⟩
theorem lf_X3_117 : gF RX3 117 3 7 0 0 := ⟨RX3, TX3, 12, tyX3, cls_X3, by decide, rfl, rfl, Or.inl ⟨rfl, gk1 196 rfl rfl, rfl⟩⟩
theorem lf_X3_181 : gF RX3 181 3 8 0 0 := ⟨RX3, TX3, 12, tyX3, cls_X3, by decide, rfl, rfl, Or.inl ⟨rfl, gk1 197 rfl rfl, rfl⟩⟩
theorem lf_X3_231 : gF RX3 231 3 9 0 0 := ⟨RX3, TX3, 12, tyX3, cls_X3, by decide, rfl, rfl, Or.inl ⟨rfl, gk1 198 rfl rfl, rfl⟩⟩
theorem lf_X3_47 : gF RX3 47 3 10 0 0 := ⟨RX3, TX3, 12, tyX3, cls_X3, by decide, rfl, rfl, Or.inl ⟨rfl, gk1 199 rfl rfl, rfl⟩⟩
theorem lf_X8_94 : gF RX8 94 3 10 0 0 := ⟨RX3, TX3, 12, tyX3, cls_X3, by decide, rfl, rfl, Or.inl ⟨rfl, gk1 200 rfl rfl, rfl⟩⟩
theorem lf_X3_26 : gF RX3 26 3 11 0 0 := ⟨RX3, TX3, 12, tyX3, cls_X3, by decide, rfl, rfl, Or.inl ⟨rfl, gk1 201 rfl rfl, rfl⟩⟩
theorem lf_X8_97 : gF RX8 97 3 11 0 0 := ⟨RX3, TX3, 12, tyX3, cls_X3, by decide, rfl, rfl, Or.inl ⟨rfl, gk1 202 rfl rfl, rfl⟩⟩
theorem lf_X2_11 : gF RX2 11 2 0 2 0 := ⟨RX2, TX2, 10, tyX2, cls_X2, by decide, rfl, rfl, Or.inl ⟨rfl, gk1 235 rfl rfl, rfl⟩⟩
theorem lf_X2_17 : gF RX2 17 2 1 2 2 := ⟨RX2, TX2, 10, tyX2, cls_X2, by decide, rfl, rfl, Or.inr (Or.inr ⟨rfl, gk1 236 rfl rfl, rfl⟩)⟩
theorem lf_X8_117 : gF RX8 117 2 1 2 2 := ⟨RX2, TX2, 10, tyX2, cls_X2, by decide, rfl, rfl, Or.inr (Or.inr ⟨rfl, gk1 237 rfl rfl, rfl⟩)⟩
theorem lf_X2_21 : gF RX2 21 2 2 2 2 := ⟨RX2, TX2, 10, tyX2, cls_X2, by decide, rfl, rfl, Or.inr (Or.inr ⟨rfl, gk1 238 rfl rfl, rfl⟩)⟩
theorem lf_X8_120 : gF RX8 120 2 2 2 2 := ⟨RX2, TX2, 10, tyX2, cls_X2, by decide, rfl, rfl, Or.inr (Or.inr ⟨rfl, gk1 239 rfl rfl, rfl⟩)⟩
theorem lf_X2_37 : gF RX2 37 2 3 0 0 := ⟨RX2, TX2, 10, tyX2, cls_X2, by decide, rfl, rfl, Or.inl ⟨rfl, gk2 0 rfl rfl, rfl⟩⟩
theorem lf_X2_24 : gF RX2 24 2 4 2 2 := ⟨RX2, TX2, 10, tyX2, cls_X2, by decide, rfl, rfl, Or.inr (Or.inr ⟨rfl, gk2 1 rfl rfl, rfl⟩)⟩
theorem lf_X2_27 : gF RX2 27 2 5 2 2 := ⟨RX2, TX2, 10, tyX2, cls_X2, by decide, rfl, rfl, Or.inr (Or.inr ⟨rfl, gk2 2 rfl rfl, rfl⟩)⟩
theorem lf_X2_30 : gF RX2 30 2 6 2 2 := ⟨RX2, TX2, 10, tyX2, cls_X2, by decide, rfl, rfl, Or.inr (Or.inr ⟨rfl, gk2 3 rfl rfl, rfl⟩)⟩
theorem lf_X2_41 : gF RX2 41 2 7 0 0 := ⟨RX2, TX2, 10, tyX2, cls_X2, by decide, rfl, rfl, Or.inl ⟨rfl, gk2 4 rfl rfl, rfl⟩⟩
theorem lf_X8_316 : gF RX8 316 2 7 0 0 := ⟨RX2, TX2, 10, tyX2, cls_X2, by decide, rfl, rfl, Or.inl ⟨rfl, gk2 5 rfl rfl, rfl⟩⟩
theorem lf_X2_33 : gF RX2 33 2 8 2 2 := ⟨RX2, TX2, 10, tyX2, cls_X2, by decide, rfl, rfl, Or.inr (Or.inr ⟨rfl, gk2 6 rfl rfl, rfl⟩)⟩
theorem lf_X2_44 : gF RX2 44 2 9 0 0 := ⟨RX2, TX2, 10, tyX2, cls_X2, by decide, rfl, rfl, Or.inl ⟨rfl, gk2 7 rfl rfl, rfl⟩⟩
theorem lf_X8_295 : gF RX8 295 2 9 0 0 := ⟨RX2, TX2, 10, tyX2, cls_X2, by decide, rfl, rfl, Or.inl ⟨rfl, gk2 8 rfl rfl, rfl⟩⟩
theorem lf_X7_7 : gF RX7 7 7 0 2 0 := ⟨RX7, TX7, 8, tyX7, cls_X7, by decide, rfl, rfl, Or.inl ⟨rfl, gk2 36 rfl rfl, rfl⟩⟩
theorem lf_X7_41 : gF RX7 41 7 1 0 0 := ⟨RX7, TX7, 8, tyX7, cls_X7, by decide, rfl, rfl, Or.inl ⟨rfl, gk2 37 rfl rfl, rfl⟩⟩
theorem lf_X7_22 : gF RX7 22 7 2 3 0 := ⟨RX7, TX7, 8, tyX7, cls_X7, by decide, rfl, rfl, Or.inl ⟨rfl, gk2 38 rfl rfl, rfl⟩⟩
theorem lf_X7_26 : gF RX7 26 7 3 3 0 := ⟨RX7, TX7, 8, tyX7, cls_X7, by decide, rfl, rfl, Or.inl ⟨rfl, gk2 39 rfl rfl, rfl⟩⟩
theorem lf_X7_15 : gF RX7 15 7 4 2 2 := ⟨RX7, TX7, 8, tyX7, cls_X7, by decide, rfl, rfl, Or.inr (Or.inr ⟨rfl, gk2 40 rfl rfl, rfl⟩)⟩
theorem lf_X7_19 : gF RX7 19 7 5 2 2 := ⟨RX7, TX7, 8, tyX7, cls_X7, by decide, rfl, rfl, Or.inr (Or.inr ⟨rfl, gk2 41 rfl rfl, rfl⟩)⟩
theorem lf_X8_342 : gF RX8 342 7 5 2 2 := ⟨RX7, TX7, 8, tyX7, cls_X7, by decide, rfl, rfl, Or.inr (Or.inr ⟨rfl, gk2 42 rfl rfl, rfl⟩)⟩
theorem lf_X7_37 : gF RX7 37 7 6 0 0 := ⟨RX7, TX7, 8, tyX7, cls_X7, by decide, rfl, rfl, Or.inl ⟨rfl, gk2 43 rfl rfl, rfl⟩⟩
theorem lf_X8_326 : gF RX8 326 7 6 0 0 := ⟨RX7, TX7, 8, tyX7, cls_X7, by decide, rfl, rfl, Or.inl ⟨rfl, gk2 44 rfl rfl, rfl⟩⟩
theorem lf_X7_33 : gF RX7 33 7 7 1 0 := ⟨RX7, TX7, 8, tyX7, cls_X7, by decide, rfl, rfl, Or.inl ⟨rfl, gk2 45 rfl rfl, rfl⟩⟩
theorem lf_X8_187 : gF RX8 187 7 7 1 0 := ⟨RX7, TX7, 8, tyX7, cls_X7, by decide, rfl, rfl, Or.inl ⟨rfl, gk2 46 rfl rfl, rfl⟩⟩
theorem lf_X6_7 : gF RX6 7 6 0 0 0 := ⟨RX6, TX6, 2, tyX6, cls_X6, by decide, rfl, rfl, Or.inl ⟨rfl, gk2 70 rfl rfl, rfl⟩⟩
theorem lf_X8_228 : gF RX8 228 6 0 0 0 := ⟨RX6, TX6, 2, tyX6, cls_X6, by decide, rfl, rfl, Or.inl ⟨rfl, gk2 71 rfl rfl, rfl⟩⟩
theorem lf_X6_13 : gF RX6 13 6 1 0 0 := ⟨RX6, TX6, 2, tyX6, cls_X6, by decide, rfl, rfl, Or.inl ⟨rfl, gk2 72 rfl rfl, rfl⟩⟩
theorem lf_X8_225 : gF RX8 225 6 1 0 0 := ⟨RX6, TX6, 2, tyX6, cls_X6, by decide, rfl, rfl, Or.inl ⟨rfl, gk2 73 rfl rfl, rfl⟩⟩
theorem lf_X1_7 : gF RX1 7 1 0 0 0 := ⟨RX1, TX1, 3, tyX1, cls_X1, by decide, rfl, rfl, Or.inl ⟨rfl, gk2 85 rfl rfl, rfl⟩⟩
theorem lf_X1_13 : gF RX1 13 1 1 0 0 := ⟨RX1, TX1, 3, tyX1, cls_X1, by decide, rfl, rfl, Or.inl ⟨rfl, gk2 86 rfl rfl, rfl⟩⟩
theorem lf_X8_276 : gF RX8 276 1 1 0 0 := ⟨RX1, TX1, 3, tyX1, cls_X1, by decide, rfl, rfl, Or.inl ⟨rfl, gk2 87 rfl rfl, rfl⟩⟩
theorem lf_X1_16 : gF RX1 16 1 2 0 0 := ⟨RX1, TX1, 3, tyX1, cls_X1, by decide, rfl, rfl, Or.inl ⟨rfl, gk2 88 rfl rfl, rfl⟩⟩
theorem lf_X8_279 : gF RX8 279 1 2 0 0 := ⟨RX1, TX1, 3, tyX1, cls_X1, by decide, rfl, rfl, Or.inl ⟨rfl, gk2 89 rfl rfl, rfl⟩⟩
theorem lf_X8_10 : gF RX8 10 8 0 2 2 := ⟨RX8, TX8, 11, tyX8, cls_X8, by decide, rfl, rfl, Or.inr (Or.inr ⟨rfl, gk2 97 rfl rfl, rfl⟩)⟩
theorem lf_X8_31 : gF RX8 31 8 1 2 2 := ⟨RX8, TX8, 11, tyX8, cls_X8, by decide, rfl, rfl, Or.inr (Or.inr ⟨rfl, gk2 98 rfl rfl, rfl⟩)⟩
theorem lf_X8_40 : gF RX8 40 8 2 2 2 := ⟨RX8, TX8, 11, tyX8, cls_X8, by decide, rfl, rfl, Or.inr (Or.inr ⟨rfl, gk2 99 rfl rfl, rfl⟩)⟩
theorem lf_X8_47 : gF RX8 47 8 3 2 2 := ⟨RX8, TX8, 11, tyX8, cls_X8, by decide, rfl, rfl, Or.inr (Or.inr ⟨rfl, gk2 100 rfl rfl, rfl⟩)⟩
theorem lf_X8_54 : gF RX8 54 8 4 2 2 := ⟨RX8, TX8, 11, tyX8, cls_X8, by decide, rfl, rfl, Or.inr (Or.inr ⟨rfl, gk2 101 rfl rfl, rfl⟩)⟩
theorem lf_X8_61 : gF RX8 61 8 5 2 2 := ⟨RX8, TX8, 11, tyX8, cls_X8, by decide, rfl, rfl, Or.inr (Or.inr ⟨rfl, gk2 102 rfl rfl, rfl⟩)⟩
theorem lf_X8_19 : gF RX8 19 8 6 2 0 := ⟨RX8, TX8, 11, tyX8, cls_X8, by decide, rfl, rfl, Or.inl ⟨rfl, gk2 103 rfl rfl, rfl⟩⟩
theorem lf_X8_23 : gF RX8 23 8 7 2 0 := ⟨RX8, TX8, 11, tyX8, cls_X8, by decide, rfl, rfl, Or.inl ⟨rfl, gk2 104 rfl rfl, rfl⟩⟩
theorem lf_X8_65 : gF RX8 65 8 8 0 0 := ⟨RX8, TX8, 11, tyX8, cls_X8, by decide, rfl, rfl, Or.inl ⟨rfl, gk2 105 rfl rfl, rfl⟩⟩
theorem lf_X8_69 : gF RX8 69 8 9 0 0 := ⟨RX8, TX8, 11, tyX8, cls_X8, by decide, rfl, rfl, Or.inl ⟨rfl, gk2 106 rfl rfl, rfl⟩⟩
theorem lf_X8_72 : gF RX8 72 8 10 0 0 := ⟨RX8, TX8, 11, tyX8, cls_X8, by decide, rfl, rfl, Or.inl ⟨rfl, gk2 107 rfl rfl, rfl⟩⟩
theorem lf_X10_39 : gF RX10 39 10 0 0 0 := ⟨RX10, TX10, 35, tyX10, cls_X10, by decide, rfl, rfl, Or.inl ⟨rfl, gk5 187 rfl rfl, rfl⟩⟩
theorem lf_X10_42 : gF RX10 42 10 1 0 0 := ⟨RX10, TX10, 35, tyX10, cls_X10, by decide, rfl, rfl, Or.inl ⟨rfl, gk5 188 rfl rfl, rfl⟩⟩
theorem lf_X10_9 : gF RX10 9 10 2 0 0 := ⟨RX10, TX10, 35, tyX10, cls_X10, by decide, rfl, rfl, Or.inl ⟨rfl, gk5 189 rfl rfl, rfl⟩⟩
theorem lf_X10_359 : gF RX10 359 10 3 2 0 := ⟨RX10, TX10, 35, tyX10, cls_X10, by decide, rfl, rfl, Or.inl ⟨rfl, gk5 190 rfl rfl, rfl⟩⟩
theorem lf_X10_167 : gF RX10 167 10 4 2 0 := ⟨RX10, TX10, 35, tyX10, cls_X10, by decide, rfl, rfl, Or.inl ⟨rfl, gk5 191 rfl rfl, rfl⟩⟩
theorem lf_X10_13 : gF RX10 13 10 5 2 2 := ⟨RX10, TX10, 35, tyX10, cls_X10, by decide, rfl, rfl, Or.inr (Or.inr ⟨rfl, gk5 192 rfl rfl, rfl⟩)⟩
theorem lf_X10_352 : gF RX10 352 10 6 0 0 := ⟨RX10, TX10, 35, tyX10, cls_X10, by decide, rfl, rfl, Or.inl ⟨rfl, gk5 193 rfl rfl, rfl⟩⟩
theorem lf_X10_56 : gF RX10 56 10 7 0 0 := ⟨RX10, TX10, 35, tyX10, cls_X10, by decide, rfl, rfl, Or.inl ⟨rfl, gk5 194 rfl rfl, rfl⟩⟩
theorem lf_X10_74 : gF RX10 74 10 8 0 0 := ⟨RX10, TX10, 35, tyX10, cls_X10, by decide, rfl, rfl, Or.inl ⟨rfl, gk5 195 rfl rfl, rfl⟩⟩
theorem lf_X10_71 : gF RX10 71 10 9 0 0 := ⟨RX10, TX10, 35, tyX10, cls_X10, by decide, rfl, rfl, Or.inl ⟨rfl, gk5 196 rfl rfl, rfl⟩⟩
theorem lf_X10_80 : gF RX10 80 10 10 0 0 := ⟨RX10, TX10, 35, tyX10, cls_X10, by decide, rfl, rfl, Or.inl ⟨rfl, gk5 197 rfl rfl, rfl⟩⟩
theorem lf_X10_83 : gF RX10 83 10 11 0 0 := ⟨RX10, TX10, 35, tyX10, cls_X10, by decide, rfl, rfl, Or.inl ⟨rfl, gk5 198 rfl rfl, rfl⟩⟩
theorem lf_X10_103 : gF RX10 103 10 12 0 0 := ⟨RX10, TX10, 35, tyX10, cls_X10, by decide, rfl, rfl, Or.inl ⟨rfl, gk5 199 rfl rfl, rfl⟩⟩
theorem lf_X10_110 : gF RX10 110 10 13 0 0 := ⟨RX10, TX10, 35, tyX10, cls_X10, by decide, rfl, rfl, Or.inl ⟨rfl, gk5 200 rfl rfl, rfl⟩⟩
theorem lf_X10_113 : gF RX10 113 10 14 0 0 := ⟨RX10, TX10, 35, tyX10, cls_X10, by decide, rfl, rfl, Or.inl ⟨rfl, gk5 201 rfl rfl, rfl⟩⟩
theorem lf_X10_97 : gF RX10 97 10 15 0 0 := ⟨RX10, TX10, 35, tyX10, cls_X10, by decide, rfl, rfl, Or.inl ⟨rfl, gk5 202 rfl rfl, rfl⟩⟩
theorem lf_X10_94 : gF RX10 94 10 16 0 0 := ⟨RX10, TX10, 35, tyX10, cls_X10, by decide, rfl, rfl, Or.inl ⟨rfl, gk5 203 rfl rfl, rfl⟩⟩
theorem lf_X10_90 : gF RX10 90 10 17 1 0 := ⟨RX10, TX10, 35, tyX10, cls_X10, by decide, rfl, rfl, Or.inl ⟨rfl, gk5 204 rfl rfl, rfl⟩⟩
theorem lf_X10_200 : gF RX10 200 10 18 0 0 := ⟨RX10, TX10, 35, tyX10, cls_X10, by decide, rfl, rfl, Or.inl ⟨rfl, gk5 205 rfl rfl, rfl⟩⟩
theorem lf_X10_203 : gF RX10 203 10 19 0 0 := ⟨RX10, TX10, 35, tyX10, cls_X10, by decide, rfl, rfl, Or.inl ⟨rfl, gk5 206 rfl rfl, rfl⟩⟩
theorem lf_X10_17 : gF RX10 17 10 20 2 2 := ⟨RX10, TX10, 35, tyX10, cls_X10, by decide, rfl, rfl, Or.inr (Or.inr ⟨rfl, gk5 207 rfl rfl, rfl⟩)⟩
theorem lf_X10_21 : gF RX10 21 10 21 2 2 := ⟨RX10, TX10, 35, tyX10, cls_X10, by decide, rfl, rfl, Or.inr (Or.inr ⟨rfl, gk5 208 rfl rfl, rfl⟩)⟩
theorem lf_X10_24 : gF RX10 24 10 22 2 2 := ⟨RX10, TX10, 35, tyX10, cls_X10, by decide, rfl, rfl, Or.inr (Or.inr ⟨rfl, gk5 209 rfl rfl, rfl⟩)⟩
theorem lf_X10_361 : gF RX10 361 10 23 0 0 := ⟨RX10, TX10, 35, tyX10, cls_X10, by decide, rfl, rfl, Or.inl ⟨rfl, gk5 210 rfl rfl, rfl⟩⟩
theorem lf_X10_364 : gF RX10 364 10 24 0 0 := ⟨RX10, TX10, 35, tyX10, cls_X10, by decide, rfl, rfl, Or.inl ⟨rfl, gk5 211 rfl rfl, rfl⟩⟩
theorem lf_X10_27 : gF RX10 27 10 25 2 2 := ⟨RX10, TX10, 35, tyX10, cls_X10, by decide, rfl, rfl, Or.inr (Or.inr ⟨rfl, gk5 212 rfl rfl, rfl⟩)⟩
theorem lf_X10_30 : gF RX10 30 10 26 2 2 := ⟨RX10, TX10, 35, tyX10, cls_X10, by decide, rfl, rfl, Or.inr (Or.inr ⟨rfl, gk5 213 rfl rfl, rfl⟩)⟩
theorem lf_X10_414 : gF RX10 414 10 27 0 0 := ⟨RX10, TX10, 35, tyX10, cls_X10, by decide, rfl, rfl, Or.inl ⟨rfl, gk5 214 rfl rfl, rfl⟩⟩
theorem lf_X10_428 : gF RX10 428 10 28 1 0 := ⟨RX10, TX10, 35, tyX10, cls_X10, by decide, rfl, rfl, Or.inl ⟨rfl, gk5 215 rfl rfl, rfl⟩⟩
theorem lf_X10_452 : gF RX10 452 10 29 0 0 := ⟨RX10, TX10, 35, tyX10, cls_X10, by decide, rfl, rfl, Or.inl ⟨rfl, gk5 216 rfl rfl, rfl⟩⟩
theorem lf_X10_458 : gF RX10 458 10 30 0 0 := ⟨RX10, TX10, 35, tyX10, cls_X10, by decide, rfl, rfl, Or.inl ⟨rfl, gk5 217 rfl rfl, rfl⟩⟩
theorem lf_X10_461 : gF RX10 461 10 31 0 0 := ⟨RX10, TX10, 35, tyX10, cls_X10, by decide, rfl, rfl, Or.inl ⟨rfl, gk5 218 rfl rfl, rfl⟩⟩
theorem lf_X10_33 : gF RX10 33 10 32 2 2 := ⟨RX10, TX10, 35, tyX10, cls_X10, by decide, rfl, rfl, Or.inr (Or.inr ⟨rfl, gk5 219 rfl rfl, rfl⟩)⟩
theorem lf_X10_36 : gF RX10 36 10 33 2 2 := ⟨RX10, TX10, 35, tyX10, cls_X10, by decide, rfl, rfl, Or.inr (Or.inr ⟨rfl, gk5 220 rfl rfl, rfl⟩)⟩
theorem lf_X10_510 : gF RX10 510 10 34 0 0 := ⟨RX10, TX10, 35, tyX10, cls_X10, by decide, rfl, rfl, Or.inl ⟨rfl, gk5 221 rfl rfl, rfl⟩⟩
theorem lf_X9_68 : gF RX9 68 9 0 0 0 := ⟨RX9, TX9, 31, tyX9, cls_X9, by decide, rfl, rfl, Or.inl ⟨rfl, gk6 75 rfl rfl, rfl⟩⟩
theorem lf_X10_171 : gF RX10 171 9 0 0 1 := ⟨RX9, TX9, 31, tyX9, cls_X9, by decide, rfl, rfl, Or.inr (Or.inl ⟨rfl, "GlassPostModel", gkN6 76 rfl rfl, rfl⟩)⟩
theorem lf_X9_71 : gF RX9 71 9 1 0 0 := ⟨RX9, TX9, 31, tyX9, cls_X9, by decide, rfl, rfl, Or.inl ⟨rfl, gk6 77 rfl rfl, rfl⟩⟩
theorem lf_X10_206 : gF RX10 206 9 1 0 1 := ⟨RX9, TX9, 31, tyX9, cls_X9, by decide, rfl, rfl, Or.inr (Or.inl ⟨rfl, "GlassPostModel", gkN6 78 rfl rfl, rfl⟩)⟩
theorem lf_X10_261 : gF RX10 261 9 2 0 1 := ⟨RX9, TX9, 31, tyX9, cls_X9, by decide, rfl, rfl, Or.inr (Or.inl ⟨rfl, "GlassPostModel", gkN6 79 rfl rfl, rfl⟩)⟩
theorem lf_X10_263 : gF RX10 263 9 3 0 1 := ⟨RX9, TX9, 31, tyX9, cls_X9, by decide, rfl, rfl, Or.inr (Or.inl ⟨rfl, "GlassPostModel", gkN6 80 rfl rfl, rfl⟩)⟩
theorem lf_X10_215 : gF RX10 215 9 4 0 1 := ⟨RX9, TX9, 31, tyX9, cls_X9, by decide, rfl, rfl, Or.inr (Or.inl ⟨rfl, "GlassPostModel", gkN6 81 rfl rfl, rfl⟩)⟩
theorem lf_X10_289 : gF RX10 289 9 5 0 1 := ⟨RX9, TX9, 31, tyX9, cls_X9, by decide, rfl, rfl, Or.inr (Or.inl ⟨rfl, "GlassPostModel", gkN6 82 rfl rfl, rfl⟩)⟩
theorem lf_X10_294 : gF RX10 294 9 6 0 1 := ⟨RX9, TX9, 31, tyX9, cls_X9, by decide, rfl, rfl, Or.inr (Or.inl ⟨rfl, "GlassPostModel", gkN6 83 rfl rfl, rfl⟩)⟩
theorem lf_X10_300 : gF RX10 300 9 7 0 1 := ⟨RX9, TX9, 31, tyX9, cls_X9, by decide, rfl, rfl, Or.inr (Or.inl ⟨rfl, "GlassPostModel", gkN6 84 rfl rfl, rfl⟩)⟩
theorem lf_X10_309 : gF RX10 309 9 8 0 1 := ⟨RX9, TX9, 31, tyX9, cls_X9, by decide, rfl, rfl, Or.inr (Or.inl ⟨rfl, "GlassPostModel", gkN6 85 rfl rfl, rfl⟩)⟩
theorem lf_X9_74 : gF RX9 74 9 9 0 0 := ⟨RX9, TX9, 31, tyX9, cls_X9, by decide, rfl, rfl, Or.inl ⟨rfl, gk6 86 rfl rfl, rfl⟩⟩
theorem lf_X10_322 : gF RX10 322 9 9 0 1 := ⟨RX9, TX9, 31, tyX9, cls_X9, by decide, rfl, rfl, Or.inr (Or.inl ⟨rfl, "GlassPostModel", gkN6 87 rfl rfl, rfl⟩)⟩
theorem lf_X10_325 : gF RX10 325 9 10 0 1 := ⟨RX9, TX9, 31, tyX9, cls_X9, by decide, rfl, rfl, Or.inr (Or.inl ⟨rfl, "GlassPostModel", gkN6 88 rfl rfl, rfl⟩)⟩
theorem lf_X10_335 : gF RX10 335 9 11 0 1 := ⟨RX9, TX9, 31, tyX9, cls_X9, by decide, rfl, rfl, Or.inr (Or.inl ⟨rfl, "GlassPostModel", gkN6 89 rfl rfl, rfl⟩)⟩
theorem lf_X10_338 : gF RX10 338 9 12 0 1 := ⟨RX9, TX9, 31, tyX9, cls_X9, by decide, rfl, rfl, Or.inr (Or.inl ⟨rfl, "GlassPostModel", gkN6 90 rfl rfl, rfl⟩)⟩
theorem lf_X9_9 : gF RX9 9 9 13 0 0 := ⟨RX9, TX9, 31, tyX9, cls_X9, by decide, rfl, rfl, Or.inl ⟨rfl, gk6 91 rfl rfl, rfl⟩⟩
theorem lf_X10_350 : gF RX10 350 9 13 0 1 := ⟨RX9, TX9, 31, tyX9, cls_X9, by decide, rfl, rfl, Or.inr (Or.inl ⟨rfl, "GlassPostModel", gkN6 92 rfl rfl, rfl⟩)⟩
theorem lf_X9_65 : gF RX9 65 9 14 0 0 := ⟨RX9, TX9, 31, tyX9, cls_X9, by decide, rfl, rfl, Or.inl ⟨rfl, gk6 93 rfl rfl, rfl⟩⟩
theorem lf_X10_188 : gF RX10 188 9 14 0 1 := ⟨RX9, TX9, 31, tyX9, cls_X9, by decide, rfl, rfl, Or.inr (Or.inl ⟨rfl, "GlassPostModel", gkN6 94 rfl rfl, rfl⟩)⟩
theorem lf_X9_15 : gF RX9 15 9 15 2 2 := ⟨RX9, TX9, 31, tyX9, cls_X9, by decide, rfl, rfl, Or.inr (Or.inr ⟨rfl, gk6 95 rfl rfl, rfl⟩)⟩
theorem lf_X10_283 : gFn RX10 283 9 15 2 := ⟨RX9, TX9, 31, tyX9, cls_X9, by decide, rfl, rfl, "GlassPostModel", gkN6 96 rfl rfl⟩
theorem lf_X9_19 : gF RX9 19 9 16 2 2 := ⟨RX9, TX9, 31, tyX9, cls_X9, by decide, rfl, rfl, Or.inr (Or.inr ⟨rfl, gk6 97 rfl rfl, rfl⟩)⟩
theorem lf_X10_286 : gFn RX10 286 9 16 2 := ⟨RX9, TX9, 31, tyX9, cls_X9, by decide, rfl, rfl, "GlassPostModel", gkN6 98 rfl rfl⟩
theorem lf_X9_22 : gF RX9 22 9 17 2 2 := ⟨RX9, TX9, 31, tyX9, cls_X9, by decide, rfl, rfl, Or.inr (Or.inr ⟨rfl, gk6 99 rfl rfl, rfl⟩)⟩
theorem lf_X10_292 : gFn RX10 292 9 17 2 := ⟨RX9, TX9, 31, tyX9, cls_X9, by decide, rfl, rfl, "GlassPostModel", gkN6 100 rfl rfl⟩
theorem lf_X9_25 : gF RX9 25 9 18 2 2 := ⟨RX9, TX9, 31, tyX9, cls_X9, by decide, rfl, rfl, Or.inr (Or.inr ⟨rfl, gk6 101 rfl rfl, rfl⟩)⟩
theorem lf_X10_297 : gFn RX10 297 9 18 2 := ⟨RX9, TX9, 31, tyX9, cls_X9, by decide, rfl, rfl, "GlassPostModel", gkN6 102 rfl rfl⟩
theorem lf_X9_28 : gF RX9 28 9 19 2 2 := ⟨RX9, TX9, 31, tyX9, cls_X9, by decide, rfl, rfl, Or.inr (Or.inr ⟨rfl, gk6 103 rfl rfl, rfl⟩)⟩
theorem lf_X10_306 : gFn RX10 306 9 19 2 := ⟨RX9, TX9, 31, tyX9, cls_X9, by decide, rfl, rfl, "GlassPostModel", gkN6 104 rfl rfl⟩
theorem lf_X9_31 : gF RX9 31 9 20 2 2 := ⟨RX9, TX9, 31, tyX9, cls_X9, by decide, rfl, rfl, Or.inr (Or.inr ⟨rfl, gk6 105 rfl rfl, rfl⟩)⟩
theorem lf_X10_312 : gFn RX10 312 9 20 2 := ⟨RX9, TX9, 31, tyX9, cls_X9, by decide, rfl, rfl, "GlassPostModel", gkN6 106 rfl rfl⟩
theorem lf_X9_34 : gF RX9 34 9 21 2 2 := ⟨RX9, TX9, 31, tyX9, cls_X9, by decide, rfl, rfl, Or.inr (Or.inr ⟨rfl, gk6 107 rfl rfl, rfl⟩)⟩
theorem lf_X10_317 : gFn RX10 317 9 21 2 := ⟨RX9, TX9, 31, tyX9, cls_X9, by decide, rfl, rfl, "GlassPostModel", gkN6 108 rfl rfl⟩
theorem lf_X9_37 : gF RX9 37 9 22 2 2 := ⟨RX9, TX9, 31, tyX9, cls_X9, by decide, rfl, rfl, Or.inr (Or.inr ⟨rfl, gk6 109 rfl rfl, rfl⟩)⟩
theorem lf_X10_326 : gFn RX10 326 9 22 2 := ⟨RX9, TX9, 31, tyX9, cls_X9, by decide, rfl, rfl, "GlassPostModel", gkN6 110 rfl rfl⟩
theorem lf_X9_40 : gF RX9 40 9 23 2 2 := ⟨RX9, TX9, 31, tyX9, cls_X9, by decide, rfl, rfl, Or.inr (Or.inr ⟨rfl, gk6 111 rfl rfl, rfl⟩)⟩
theorem lf_X10_329 : gFn RX10 329 9 23 2 := ⟨RX9, TX9, 31, tyX9, cls_X9, by decide, rfl, rfl, "GlassPostModel", gkN6 112 rfl rfl⟩
theorem lf_X9_43 : gF RX9 43 9 24 2 2 := ⟨RX9, TX9, 31, tyX9, cls_X9, by decide, rfl, rfl, Or.inr (Or.inr ⟨rfl, gk6 113 rfl rfl, rfl⟩)⟩
theorem lf_X10_332 : gFn RX10 332 9 24 2 := ⟨RX9, TX9, 31, tyX9, cls_X9, by decide, rfl, rfl, "GlassPostModel", gkN6 114 rfl rfl⟩
theorem lf_X9_46 : gF RX9 46 9 25 2 2 := ⟨RX9, TX9, 31, tyX9, cls_X9, by decide, rfl, rfl, Or.inr (Or.inr ⟨rfl, gk6 115 rfl rfl, rfl⟩)⟩
theorem lf_X10_341 : gFn RX10 341 9 25 2 := ⟨RX9, TX9, 31, tyX9, cls_X9, by decide, rfl, rfl, "GlassPostModel", gkN6 116 rfl rfl⟩
theorem lf_X9_49 : gF RX9 49 9 26 2 2 := ⟨RX9, TX9, 31, tyX9, cls_X9, by decide, rfl, rfl, Or.inr (Or.inr ⟨rfl, gk6 117 rfl rfl, rfl⟩)⟩
theorem lf_X10_344 : gFn RX10 344 9 26 2 := ⟨RX9, TX9, 31, tyX9, cls_X9, by decide, rfl, rfl, "GlassPostModel", gkN6 118 rfl rfl⟩
theorem lf_X9_52 : gF RX9 52 9 27 2 2 := ⟨RX9, TX9, 31, tyX9, cls_X9, by decide, rfl, rfl, Or.inr (Or.inr ⟨rfl, gk6 119 rfl rfl, rfl⟩)⟩
theorem lf_X10_347 : gFn RX10 347 9 27 2 := ⟨RX9, TX9, 31, tyX9, cls_X9, by decide, rfl, rfl, "GlassPostModel", gkN6 120 rfl rfl⟩
theorem lf_X9_55 : gF RX9 55 9 28 2 2 := ⟨RX9, TX9, 31, tyX9, cls_X9, by decide, rfl, rfl, Or.inr (Or.inr ⟨rfl, gk6 121 rfl rfl, rfl⟩)⟩
theorem lf_X10_184 : gFn RX10 184 9 28 2 := ⟨RX9, TX9, 31, tyX9, cls_X9, by decide, rfl, rfl, "GlassPostModel", gkN6 122 rfl rfl⟩
theorem lf_X9_59 : gF RX9 59 9 29 2 2 := ⟨RX9, TX9, 31, tyX9, cls_X9, by decide, rfl, rfl, Or.inr (Or.inr ⟨rfl, gk6 123 rfl rfl, rfl⟩)⟩
theorem lf_X10_191 : gFn RX10 191 9 29 2 := ⟨RX9, TX9, 31, tyX9, cls_X9, by decide, rfl, rfl, "GlassPostModel", gkN6 124 rfl rfl⟩
theorem lf_X9_62 : gF RX9 62 9 30 2 2 := ⟨RX9, TX9, 31, tyX9, cls_X9, by decide, rfl, rfl, Or.inr (Or.inr ⟨rfl, gk6 125 rfl rfl, rfl⟩)⟩
theorem lf_X10_194 : gFn RX10 194 9 30 2 := ⟨RX9, TX9, 31, tyX9, cls_X9, by decide, rfl, rfl, "GlassPostModel", gkN6 126 rfl rfl⟩
theorem lk_L_8 : Cond.classLink RL 8 RX8 ∈ gtb := gk1 22 rfl rfl
theorem ins_X8 : Cond.instantiable RX8 11 ∈ gtb := gk1 23 rfl rfl
theorem lk_X8_7 : Cond.classLink RX8 7 RX4 ∈ gtb := gk1 30 rfl rfl
theorem ins_X4 : Cond.instantiable RX4 2 ∈ gtb := gk1 31 rfl rfl
theorem lk_X8_16 : Cond.classLink RX8 16 RX0 ∈ gtb := gk1 46 rfl rfl
theorem ins_X0 : Cond.instantiable RX0 20 ∈ gtb := gk1 47 rfl rfl
theorem lk_X8_26 : Cond.classLink RX8 26 RX3 ∈ gtb := gk1 158 rfl rfl
theorem ins_X3 : Cond.instantiable RX3 12 ∈ gtb := gk1 159 rfl rfl
theorem lk_X3_11 : Cond.classLink RX3 11 RX5 ∈ gtb := gk1 164 rfl rfl
theorem ins_X5 : Cond.instantiable RX5 5 ∈ gtb := gk1 165 rfl rfl
theorem lk_X8_35 : Cond.classLink RX8 35 RX2 ∈ gtb := gk1 229 rfl rfl
theorem ins_X2 : Cond.instantiable RX2 10 ∈ gtb := gk1 230 rfl rfl
theorem lk_X8_44 : Cond.classLink RX8 44 RX7 ∈ gtb := gk2 30 rfl rfl
theorem ins_X7 : Cond.instantiable RX7 8 ∈ gtb := gk2 31 rfl rfl
theorem lk_X8_51 : Cond.classLink RX8 51 RX6 ∈ gtb := gk2 64 rfl rfl
theorem ins_X6 : Cond.instantiable RX6 2 ∈ gtb := gk2 65 rfl rfl
theorem lk_X8_58 : Cond.classLink RX8 58 RX1 ∈ gtb := gk2 79 rfl rfl
theorem ins_X1 : Cond.instantiable RX1 3 ∈ gtb := gk2 80 rfl rfl
theorem lc_J6_265 : Cond.constant RJ6 265 (1431655765) ∈ gtb := gk3 150 rfl rfl
theorem lc_J6_266 : Cond.constant RJ6 266 (858993459) ∈ gtb := gk3 151 rfl rfl
theorem lc_J6_267 : Cond.constant RJ6 267 (252645135) ∈ gtb := gk3 152 rfl rfl
theorem lc_X7_44 : Cond.constantLong RX7 44 (1000000000000) ∈ gtb := gk4 13 rfl rfl
theorem lc_X7_68 : Cond.constantLong RX7 68 (100) ∈ gtb := gk4 27 rfl rfl
theorem lc_X8_191 : Cond.constantLong RX8 191 (1000000000000) ∈ gtb := gk4 66 rfl rfl
theorem lc_X8_334 : Cond.constant RX8 334 (65536) ∈ gtb := gk5 24 rfl rfl
theorem lc_X1_38 : Cond.constant RX1 38 (65537) ∈ gtb := gk5 34 rfl rfl
theorem lk_L_16 : Cond.classLink RL 16 RX10 ∈ gtb := gk5 181 rfl rfl
theorem ins_X10 : Cond.instantiable RX10 35 ∈ gtb := gk5 182 rfl rfl
theorem lk_X10_172 : Cond.classLink RX10 172 RX9 ∈ gtb := gk6 69 rfl rfl
theorem ins_X9 : Cond.instantiable RX9 31 ∈ gtb := gk6 70 rfl rfl
theorem lc_X10_65 : Cond.constantLong RX10 65 (32) ∈ gtb := gk6 201 rfl rfl
theorem lc_X10_410 : Cond.constantLong RX10 410 (100) ∈ gtb := gk8 1 rfl rfl
theorem lc_X10_412 : Cond.constantLong RX10 412 (1000000000000) ∈ gtb := gk8 2 rfl rfl
theorem lc_X10_519 : Cond.constant RX10 519 (65536) ∈ gtb := gk8 189 rfl rfl
theorem lc_X10_513 : Cond.constantLong RX10 513 (75) ∈ gtb := gk8 194 rfl rfl
theorem lc_X10_515 : Cond.constantLong RX10 515 (74) ∈ gtb := gk8 195 rfl rfl
theorem lc_X10_517 : Cond.constantLong RX10 517 (65537) ∈ gtb := gk8 196 rfl rfl

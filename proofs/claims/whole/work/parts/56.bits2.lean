/-! TWINS: bitCount is the number of bits -/
theorem q4_lt {a b c d : Nat} (ha : a < 256) (hb : b < 256) (hc : c < 256) (hd : d < 256) : q4 a b c d < 2 ^ 32 := by unfold q4; rw [show (2 : Nat) ^ 32 = 4294967296 from rfl]; omega
theorem pc_q4 {a b c d : Nat} (ha : a < 256) (hb : b < 256) (hc : c < 256) : pcn 32 (q4 a b c d) = pcn 8 a + pcn 8 b + pcn 8 c + pcn 8 d := by
  have e1 := pcn_cat 8 24 a (b + 256 * (c + 256 * d)) ha
  have e2 := pcn_cat 8 16 b (c + 256 * d) hb
  have e3 := pcn_cat 8 8 c d hc
  have f1 : pcn 32 (q4 a b c d) = pcn 8 a + pcn 24 (b + 256 * (c + 256 * d)) := e1
  have f2 : pcn 24 (b + 256 * (c + 256 * d)) = pcn 8 b + pcn 16 (c + 256 * d) := e2
  have f3 : pcn 16 (c + 256 * d) = pcn 8 c + pcn 8 d := e3
  omega
theorem bc_q4 {a b c d : Nat} (ha : a < 256) (hb : b < 256) (hc : c < 256) (hd : d < 256) {x : Int32} (hx : nN x = q4 a b c d) : nN (bcF x) = pcn 8 a + pcn 8 b + pcn 8 c + pcn 8 d := by
  obtain ⟨ra, -, la, ma, na, oa⟩ := y_pc ⟨a, ha⟩
  obtain ⟨rb, -, lb, mb, nb, ob⟩ := y_pc ⟨b, hb⟩
  obtain ⟨rc, -, lc, mc, nc, oc⟩ := y_pc ⟨c, hc⟩
  obtain ⟨rd, -, ld, md, nd, od⟩ := y_pc ⟨d, hd⟩
  dsimp only at ra rb rc rd la lb lc ld ma mb mc md na nb nc nd oa ob oc od
  have n1 : nN (x - (us x 1 &&& 1431655765)) = q4 (y1 a) (y1 b) (y1 c) (y1 d) := by
    have e : nN (us x 1 &&& 1431655765) = nN x / 2 &&& 1431655765 := by rw [nN_and, us_n x 1 (j := 1) (by decide)]; rfl
    rw [nN_sub _ _ (by rw [e]; exact Nat.le_trans Nat.and_le_left (Nat.div_le_self _ _)), e, hx, sw1 ha hb hc hd]
  generalize hA : x - (us x 1 &&& 1431655765) = A at n1
  have n2 : nN ((A &&& 858993459) + (us A 2 &&& 858993459)) = q4 (y2 (y1 a)) (y2 (y1 b)) (y2 (y1 c)) (y2 (y1 d)) := by
    have e : nN (us A 2 &&& 858993459) = nN A / 4 &&& 858993459 := by rw [nN_and, us_n A 2 (j := 2) (by decide)]; rfl
    have f : nN (A &&& 858993459) = nN A &&& 858993459 := by rw [nN_and]; rfl
    have g := sw2 (d := y1 d) la lb lc
    rw [nN_add _ _ (by rw [e, f, n1, g]; exact q4_lt ma mb mc md), e, f, n1, g]
  have key : bcF x = (((((A &&& 858993459) + (us A 2 &&& 858993459)) + us ((A &&& 858993459) + (us A 2 &&& 858993459)) 4 &&& 252645135) + us (((A &&& 858993459) + (us A 2 &&& 858993459)) + us ((A &&& 858993459) + (us A 2 &&& 858993459)) 4 &&& 252645135) 8) + us ((((A &&& 858993459) + (us A 2 &&& 858993459)) + us ((A &&& 858993459) + (us A 2 &&& 858993459)) 4 &&& 252645135) + us (((A &&& 858993459) + (us A 2 &&& 858993459)) + us ((A &&& 858993459) + (us A 2 &&& 858993459)) 4 &&& 252645135) 8) 16) &&& 63 := by rw [← hA]; rfl
  rw [key]
  generalize (A &&& 858993459) + (us A 2 &&& 858993459) = B at n2 ⊢
  have n3 : nN (B + us B 4 &&& 252645135) = q4 (pcn 8 a) (pcn 8 b) (pcn 8 c) (pcn 8 d) := by
    have e : nN (us B 4) = nN B / 16 := us_n B 4 (j := 4) (by decide)
    have g := sw3 na oa nb ob nc oc nd od
    rw [nN_and, nN_add _ _ (by rw [e, n2]; unfold q4; rw [show (2 : Nat) ^ 32 = 4294967296 from rfl]; omega), e, n2]
    rw [ra, rb, rc, rd] at g
    exact g
  generalize B + us B 4 &&& 252645135 = C at n3 ⊢
  have pa : pcn 8 a ≤ 8 := by rw [← ra]; unfold y3; omega
  have pb : pcn 8 b ≤ 8 := by rw [← rb]; unfold y3; omega
  have pc : pcn 8 c ≤ 8 := by rw [← rc]; unfold y3; omega
  have pd : pcn 8 d ≤ 8 := by rw [← rd]; unfold y3; omega
  have n4 : nN (C + us C 8) = nN C + nN C / 256 := by
    have e : nN (us C 8) = nN C / 256 := us_n C 8 (j := 8) (by decide)
    rw [nN_add _ _ (by rw [e, n3]; unfold q4; rw [show (2 : Nat) ^ 32 = 4294967296 from rfl]; omega), e]
  generalize C + us C 8 = D at n4 ⊢
  have n5 : nN (D + us D 16) = nN D + nN D / 65536 := by
    have e : nN (us D 16) = nN D / 65536 := us_n D 16 (j := 16) (by decide)
    rw [nN_add _ _ (by rw [e, n4, n3]; unfold q4; rw [show (2 : Nat) ^ 32 = 4294967296 from rfl]; omega), e]
  rw [nN_and, n5, n4, n3]
  exact sw4 pa pb pc pd

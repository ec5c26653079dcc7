/-! THE LAW'S TURNS, 4 -/
section LWS4
variable {PQ : Gp → List Frame → Array Value → State → State → Prop} {L RC RS cells slots i pc : Nat} {f : Nat → Int32} {v5 v6 : Value} {st : List Value} {h : Hp}
theorem w_rest (j : J h) (hi : i + 7 ≤ L) (hL : L ≤ 3584) (hc : Nat.ble (cells + 17) RC = true) (hs : Nat.ble (slots + 307) RS = true) (x : ∀ h2, J h2 → lwF PQ L f RC RS (cells + 17) (slots + 307) 1968 i v5 v6 [] h2) : lwF PQ L f RC RS cells slots 1637 i v5 v6 [] h := by
  refine p_wide (cells + 17) (slots + 307) (by omega) (by omega) ?_
  obtain ⟨r, h1, m1, S1, n1⟩ := q_rest j 
  refine p_aL1 dL_law_1637 ?_
  refine pe_v0i m1 lm_L_178 dL_law_1638 j.1.1.1.i0 j.1.1.1.k0 rfl rfl hc hs ?_
  refine p_aL2 dL_law_1641 ?_
  refine p_v0 n1 lm_L_181 dL_law_1642 S1.i50 S1.k50 rfl rfl hc hs (fun v h2 e => ?_)
  obtain ⟨rfl, j2⟩ := e
  show lwF PQ L f RC RS (cells + 17) (slots + 307) 1645 i v5 v6 [.int r, .int r] h2
  exact p_iceq dL_law_1645 (fun _ => x h2 j2) (fun z => absurd rfl z)
theorem w_left (j : J h) (hi : i + 7 ≤ L) (hL : L ≤ 3584) (hc : Nat.ble (cells + 17) RC = true) (hs : Nat.ble (slots + 307) RS = true) (x : ∀ h2, J h2 → lwF PQ L f RC RS (cells + 17) (slots + 307) 1968 i v5 v6 [] h2) : lwF PQ L f RC RS cells slots 1650 i v5 v6 [] h := by
  refine p_wide (cells + 17) (slots + 307) (by omega) (by omega) ?_
  obtain ⟨r, h1, m1, S1, n1⟩ := q_left j (f (i + 1)) (f (i + 2))
  refine p_aL1 dL_law_1650 ?_
  refine w_arg 1 hi hL (by decide) rfl dL_law_1651 dL_law_1652 dL_law_1654 dL_law_1655 dL_law_1656 ?_
  refine w_arg 2 hi hL (by decide) rfl dL_law_1657 dL_law_1658 dL_law_1660 dL_law_1661 dL_law_1662 ?_
  refine pe_v2i m1 lm_L_182 dL_law_1663 j.1.1.1.i0 j.1.1.1.k0 rfl rfl hc hs ?_
  refine p_aL2 dL_law_1666 ?_
  refine w_arg 1 hi hL (by decide) rfl dL_law_1667 dL_law_1668 dL_law_1670 dL_law_1671 dL_law_1672 ?_
  refine w_arg 2 hi hL (by decide) rfl dL_law_1673 dL_law_1674 dL_law_1676 dL_law_1677 dL_law_1678 ?_
  refine p_v2 n1 lm_L_185 dL_law_1679 S1.i50 S1.k50 rfl rfl hc hs (fun v h2 e => ?_)
  obtain ⟨rfl, j2⟩ := e
  show lwF PQ L f RC RS (cells + 17) (slots + 307) 1682 i v5 v6 [.int r, .int r] h2
  exact p_iceq dL_law_1682 (fun _ => x h2 j2) (fun z => absurd rfl z)
theorem w_hails (j : J h) (hi : i + 7 ≤ L) (hL : L ≤ 3584) (hc : Nat.ble (cells + 17) RC = true) (hs : Nat.ble (slots + 307) RS = true) (x : ∀ h2, J h2 → lwF PQ L f RC RS (cells + 17) (slots + 307) 1968 i v5 v6 [] h2) : lwF PQ L f RC RS cells slots 1687 i v5 v6 [] h := by
  refine p_wide (cells + 17) (slots + 307) (by omega) (by omega) ?_
  obtain ⟨r, h1, m1, S1, n1⟩ := q_hails j (f (i + 1)) (f (i + 2))
  refine p_aL1 dL_law_1687 ?_
  refine w_arg 1 hi hL (by decide) rfl dL_law_1688 dL_law_1689 dL_law_1691 dL_law_1692 dL_law_1693 ?_
  refine w_arg 2 hi hL (by decide) rfl dL_law_1694 dL_law_1695 dL_law_1697 dL_law_1698 dL_law_1699 ?_
  refine pe_v2i m1 lm_L_186 dL_law_1700 j.1.1.1.i0 j.1.1.1.k0 rfl rfl hc hs ?_
  refine p_aL2 dL_law_1703 ?_
  refine w_arg 1 hi hL (by decide) rfl dL_law_1704 dL_law_1705 dL_law_1707 dL_law_1708 dL_law_1709 ?_
  refine w_arg 2 hi hL (by decide) rfl dL_law_1710 dL_law_1711 dL_law_1713 dL_law_1714 dL_law_1715 ?_
  refine p_v2 n1 lm_L_189 dL_law_1716 S1.i50 S1.k50 rfl rfl hc hs (fun v h2 e => ?_)
  obtain ⟨rfl, j2⟩ := e
  show lwF PQ L f RC RS (cells + 17) (slots + 307) 1719 i v5 v6 [.int r, .int r] h2
  exact p_iceq dL_law_1719 (fun _ => x h2 j2) (fun z => absurd rfl z)
theorem w_scratch (j : J h) (hi : i + 7 ≤ L) (hL : L ≤ 3584) (hc : Nat.ble (cells + 17) RC = true) (hs : Nat.ble (slots + 307) RS = true) (x : ∀ h2, J h2 → lwF PQ L f RC RS (cells + 17) (slots + 307) 1968 i v5 v6 [] h2) : lwF PQ L f RC RS cells slots 1724 i v5 v6 [] h := by
  refine p_wide (cells + 17) (slots + 307) (by omega) (by omega) ?_
  obtain ⟨r, h1, m1, S1, n1⟩ := q_scratch j (f (i + 1)) (f (i + 2))
  refine p_aL1 dL_law_1724 ?_
  refine w_arg 1 hi hL (by decide) rfl dL_law_1725 dL_law_1726 dL_law_1728 dL_law_1729 dL_law_1730 ?_
  refine w_arg 2 hi hL (by decide) rfl dL_law_1731 dL_law_1732 dL_law_1734 dL_law_1735 dL_law_1736 ?_
  refine pe_v2i m1 lm_L_190 dL_law_1737 j.1.1.1.i0 j.1.1.1.k0 rfl rfl hc hs ?_
  refine p_aL2 dL_law_1740 ?_
  refine w_arg 1 hi hL (by decide) rfl dL_law_1741 dL_law_1742 dL_law_1744 dL_law_1745 dL_law_1746 ?_
  refine w_arg 2 hi hL (by decide) rfl dL_law_1747 dL_law_1748 dL_law_1750 dL_law_1751 dL_law_1752 ?_
  refine p_v2 n1 lm_L_194 dL_law_1753 S1.i50 S1.k50 rfl rfl hc hs (fun v h2 e => ?_)
  obtain ⟨rfl, j2⟩ := e
  show lwF PQ L f RC RS (cells + 17) (slots + 307) 1756 i v5 v6 [.int r, .int r] h2
  exact p_iceq dL_law_1756 (fun _ => x h2 j2) (fun z => absurd rfl z)
theorem w_cover (j : J h) (hi : i + 7 ≤ L) (hL : L ≤ 3584) (hc : Nat.ble (cells + 17) RC = true) (hs : Nat.ble (slots + 307) RS = true) (x : ∀ h2, J h2 → lwF PQ L f RC RS (cells + 17) (slots + 307) 1968 i v5 v6 [] h2) : lwF PQ L f RC RS cells slots 1761 i v5 v6 [] h := by
  refine p_wide (cells + 17) (slots + 307) (by omega) (by omega) ?_
  obtain ⟨r, h1, m1, S1, n1⟩ := q_cover j (f (i + 1)) (f (i + 2))
  refine p_aL1 dL_law_1761 ?_
  refine w_arg 1 hi hL (by decide) rfl dL_law_1762 dL_law_1763 dL_law_1765 dL_law_1766 dL_law_1767 ?_
  refine w_arg 2 hi hL (by decide) rfl dL_law_1768 dL_law_1769 dL_law_1771 dL_law_1772 dL_law_1773 ?_
  refine pe_v2i m1 lm_L_195 dL_law_1774 j.1.1.1.i0 j.1.1.1.k0 rfl rfl hc hs ?_
  refine p_aL2 dL_law_1777 ?_
  refine w_arg 1 hi hL (by decide) rfl dL_law_1778 dL_law_1779 dL_law_1781 dL_law_1782 dL_law_1783 ?_
  refine w_arg 2 hi hL (by decide) rfl dL_law_1784 dL_law_1785 dL_law_1787 dL_law_1788 dL_law_1789 ?_
  refine p_v2 n1 lm_L_198 dL_law_1790 S1.i50 S1.k50 rfl rfl hc hs (fun v h2 e => ?_)
  obtain ⟨rfl, j2⟩ := e
  show lwF PQ L f RC RS (cells + 17) (slots + 307) 1793 i v5 v6 [.int r, .int r] h2
  exact p_iceq dL_law_1793 (fun _ => x h2 j2) (fun z => absurd rfl z)
theorem w_breaks (j : J h) (hi : i + 7 ≤ L) (hL : L ≤ 3584) (hc : Nat.ble (cells + 17) RC = true) (hs : Nat.ble (slots + 307) RS = true) (x : ∀ h2, J h2 → lwF PQ L f RC RS (cells + 17) (slots + 307) 1968 i v5 v6 [] h2) : lwF PQ L f RC RS cells slots 1798 i v5 v6 [] h := by
  refine p_wide (cells + 17) (slots + 307) (by omega) (by omega) ?_
  obtain ⟨r, h1, m1, S1, n1⟩ := q_breaks j (f (i + 1))
  refine p_aL1 dL_law_1798 ?_
  refine w_arg 1 hi hL (by decide) rfl dL_law_1799 dL_law_1800 dL_law_1802 dL_law_1803 dL_law_1804 ?_
  refine pe_v1i m1 lm_L_199 dL_law_1805 j.1.1.1.i0 j.1.1.1.k0 rfl rfl hc hs ?_
  refine p_aL2 dL_law_1808 ?_
  refine w_arg 1 hi hL (by decide) rfl dL_law_1809 dL_law_1810 dL_law_1812 dL_law_1813 dL_law_1814 ?_
  refine p_v1 n1 lm_L_203 dL_law_1815 S1.i50 S1.k50 rfl rfl hc hs (fun v h2 e => ?_)
  obtain ⟨rfl, j2⟩ := e
  show lwF PQ L f RC RS (cells + 17) (slots + 307) 1818 i v5 v6 [.int r, .int r] h2
  exact p_iceq dL_law_1818 (fun _ => x h2 j2) (fun z => absurd rfl z)
theorem w_undo (j : J h) (hi : i + 7 ≤ L) (hL : L ≤ 3584) (hc : Nat.ble (cells + 17) RC = true) (hs : Nat.ble (slots + 307) RS = true) (x : ∀ h2, J h2 → lwF PQ L f RC RS (cells + 17) (slots + 307) 1968 i v5 v6 [] h2) : lwF PQ L f RC RS cells slots 1823 i v5 v6 [] h := by
  refine p_wide (cells + 17) (slots + 307) (by omega) (by omega) ?_
  obtain ⟨r, h1, m1, S1, n1⟩ := q_undo j 
  refine p_aL1 dL_law_1823 ?_
  refine pe_v0i m1 lm_L_204 dL_law_1824 j.1.1.1.i0 j.1.1.1.k0 rfl rfl hc hs ?_
  refine p_aL2 dL_law_1827 ?_
  refine p_v0 n1 lm_L_208 dL_law_1828 S1.i50 S1.k50 rfl rfl hc hs (fun v h2 e => ?_)
  obtain ⟨rfl, j2⟩ := e
  show lwF PQ L f RC RS (cells + 17) (slots + 307) 1831 i v5 v6 [.int r, .int r] h2
  exact p_iceq dL_law_1831 (fun _ => x h2 j2) (fun z => absurd rfl z)
theorem w_mark (j : J h) (hi : i + 7 ≤ L) (hL : L ≤ 3584) (hc : Nat.ble (cells + 17) RC = true) (hs : Nat.ble (slots + 307) RS = true) (x : ∀ h2, J h2 → lwF PQ L f RC RS (cells + 17) (slots + 307) 1968 i v5 v6 [] h2) : lwF PQ L f RC RS cells slots 1836 i v5 v6 [] h := by
  refine p_wide (cells + 17) (slots + 307) (by omega) (by omega) ?_
  obtain ⟨r, h1, m1, S1, n1⟩ := q_mark j 
  refine p_aL1 dL_law_1836 ?_
  refine pe_v0i m1 lm_L_209 dL_law_1837 j.1.1.1.i0 j.1.1.1.k0 rfl rfl hc hs ?_
  refine p_aL2 dL_law_1840 ?_
  refine p_v0 n1 lm_L_212 dL_law_1841 S1.i50 S1.k50 rfl rfl hc hs (fun v h2 e => ?_)
  obtain ⟨rfl, j2⟩ := e
  show lwF PQ L f RC RS (cells + 17) (slots + 307) 1844 i v5 v6 [.int r, .int r] h2
  exact p_iceq dL_law_1844 (fun _ => x h2 j2) (fun z => absurd rfl z)
theorem w_back (j : J h) (hi : i + 7 ≤ L) (hL : L ≤ 3584) (hc : Nat.ble (cells + 17) RC = true) (hs : Nat.ble (slots + 307) RS = true) (x : ∀ h2, J h2 → lwF PQ L f RC RS (cells + 17) (slots + 307) 1968 i v5 v6 [] h2) : lwF PQ L f RC RS cells slots 1849 i v5 v6 [] h := by
  refine p_wide (cells + 17) (slots + 307) (by omega) (by omega) ?_
  obtain ⟨r, h1, m1, S1, n1⟩ := q_back j (f (i + 1))
  refine p_aL1 dL_law_1849 ?_
  refine w_arg 1 hi hL (by decide) rfl dL_law_1850 dL_law_1851 dL_law_1853 dL_law_1854 dL_law_1855 ?_
  refine pe_v1i m1 lm_L_213 dL_law_1856 j.1.1.1.i0 j.1.1.1.k0 rfl rfl hc hs ?_
  refine p_aL2 dL_law_1859 ?_
  refine w_arg 1 hi hL (by decide) rfl dL_law_1860 dL_law_1861 dL_law_1863 dL_law_1864 dL_law_1865 ?_
  refine p_v1 n1 lm_L_216 dL_law_1866 S1.i50 S1.k50 rfl rfl hc hs (fun v h2 e => ?_)
  obtain ⟨rfl, j2⟩ := e
  show lwF PQ L f RC RS (cells + 17) (slots + 307) 1869 i v5 v6 [.int r, .int r] h2
  exact p_iceq dL_law_1869 (fun _ => x h2 j2) (fun z => absurd rfl z)
theorem w_size (j : J h) (hi : i + 7 ≤ L) (hL : L ≤ 3584) (hc : Nat.ble (cells + 17) RC = true) (hs : Nat.ble (slots + 307) RS = true) (x : ∀ h2, J h2 → lwF PQ L f RC RS (cells + 17) (slots + 307) 1968 i v5 v6 [] h2) : lwF PQ L f RC RS cells slots 1930 i v5 v6 [] h := by
  refine p_wide (cells + 17) (slots + 307) (by omega) (by omega) ?_
  obtain ⟨r, h1, m1, S1, n1⟩ := q_size j (f (i + 1))
  refine p_aL1 dL_law_1930 ?_
  refine w_arg 1 hi hL (by decide) rfl dL_law_1931 dL_law_1932 dL_law_1934 dL_law_1935 dL_law_1936 ?_
  refine pe_v1i m1 lm_L_226 dL_law_1937 j.1.1.1.i0 j.1.1.1.k0 rfl rfl hc hs ?_
  refine p_aL2 dL_law_1940 ?_
  refine w_arg 1 hi hL (by decide) rfl dL_law_1941 dL_law_1942 dL_law_1944 dL_law_1945 dL_law_1946 ?_
  refine p_v1 n1 lm_L_229 dL_law_1947 S1.i50 S1.k50 rfl rfl hc hs (fun v h2 e => ?_)
  obtain ⟨rfl, j2⟩ := e
  show lwF PQ L f RC RS (cells + 17) (slots + 307) 1950 i v5 v6 [.int r, .int r] h2
  exact p_iceq dL_law_1950 (fun _ => x h2 j2) (fun z => absurd rfl z)
theorem w_trouble (j : J h) (hi : i + 7 ≤ L) (hL : L ≤ 3584) (hc : Nat.ble (cells + 17) RC = true) (hs : Nat.ble (slots + 307) RS = true) (x : ∀ h2, J h2 → lwF PQ L f RC RS (cells + 17) (slots + 307) 1968 i v5 v6 [] h2) : lwF PQ L f RC RS cells slots 1955 i v5 v6 [] h := by
  refine p_wide (cells + 17) (slots + 307) (by omega) (by omega) ?_
  obtain ⟨r, h1, m1, S1, n1⟩ := q_trouble j 
  refine p_aL1 dL_law_1955 ?_
  refine pe_v0i m1 lm_L_230 dL_law_1956 j.1.1.1.i0 j.1.1.1.k0 rfl rfl hc hs ?_
  refine p_aL2 dL_law_1959 ?_
  refine p_v0 n1 lm_L_233 dL_law_1960 S1.i50 S1.k50 rfl rfl hc hs (fun v h2 e => ?_)
  obtain ⟨rfl, j2⟩ := e
  show lwF PQ L f RC RS (cells + 17) (slots + 307) 1963 i v5 v6 [.int r, .int r] h2
  exact p_iceq dL_law_1963 (fun _ => x h2 j2) (fun z => absurd rfl z)
end LWS4

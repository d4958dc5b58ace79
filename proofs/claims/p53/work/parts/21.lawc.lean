section RKM
def ps_l36 : List Nat := [1796, 1797, 1798, 1800, 1801, 1802, 1803, 1804, 1807, 1809, 1810, 1811, 1813, 1814, 1815, 1816, 1819, 1821, 2450]
def tb_l36 (L : Nat) (xs : Nat → Int32) (i : Int32) (g1 : Bool) (v1 : Int32) (g2 : Bool) (v2 : Int32) (g3 : Bool) (v3 : Int32) (g4 : Bool) (v4 : Int32) (z2 z3 z4 : Bool) : List RT := [tq_al 1, tq_al 0, tq_il 4, tq_ic 1, tq_i2 (fun x y => x + y), tq_isc L xs g1 v1, tq_al 3, tq_callH m_w_greatest 3 1 1171 [], tq_is 7 5, tq_al 2, tq_al 0, tq_il 4, tq_ic 1, tq_i2 (fun x y => x + y), tq_isc L xs g1 v1, tq_callH (rV 1 m_d_greatest) 2 0 1171 [], tq_is 7 6, tq_go 18, tq_stop i]
set_option maxHeartbeats 4000000 in
set_option maxRecDepth 20000 in
theorem ok_l36 (L : Nat) (xs : Nat → Int32) (i : Int32) (g1 : Bool) (v1 : Int32) (g2 : Bool) (v2 : Int32) (g3 : Bool) (v3 : Int32) (g4 : Bool) (v4 : Int32) (z2 z3 z4 : Bool) : rAll (rOk (fun G => rSc G = (L, xs)) code "RingdaysLaw" 7 rTL room_1 [] 1171 (.inr (2450, i)) (fun o => ps_l36.getD o 0)) ps_l36 (tb_l36 L xs i g1 v1 g2 v2 g3 v3 g4 v4 z2 z3 z4) := by
  refine rcons (ro_aload_n (k := 1) rfl (by decide +kernel) rfl) ?_
  refine rcons (ro_aload_n (k := 0) rfl (by decide +kernel) rfl) ?_
  refine rcons (ro_iload (by decide +kernel) rfl) ?_
  refine rcons (ro_iconst (n := 1) (by decide +kernel) rfl rfl) ?_
  refine rcons (ro_iadd (by decide +kernel) rfl) ?_
  refine rcons (ro_isc (fun _ h => h) (by decide +kernel) rfl) ?_
  refine rcons (ro_aload_n (k := 3) rfl (by decide +kernel) rfl) ?_
  refine rcons (ro_callSX ok_w_greatest (by decide +kernel) rfl (fun s args ht => vx_cwSW 3 ht (rgoodS (fun w h => List.mem_cons_of_mem _ h) q_869 q_870 q_12 q_871) rfl rfl rfl hy_w_greatest ⟨Nat.le_of_ble_eq_true rfl, Nat.le_of_ble_eq_true rfl⟩) rfl) ?_
  refine rcons (ro_istore (by decide +kernel) rfl) ?_
  refine rcons (ro_aload_n (k := 2) rfl (by decide +kernel) rfl) ?_
  refine rcons (ro_aload_n (k := 0) rfl (by decide +kernel) rfl) ?_
  refine rcons (ro_iload (by decide +kernel) rfl) ?_
  refine rcons (ro_iconst (n := 1) (by decide +kernel) rfl rfl) ?_
  refine rcons (ro_iadd (by decide +kernel) rfl) ?_
  refine rcons (ro_isc (fun _ h => h) (by decide +kernel) rfl) ?_
  refine rcons (ro_callVH (C := rN1) (T := rF1) (N := 7) rfl ok_d_greatest (by decide +kernel) trivial (by decide) (fun s args ht => cwV (C := rN1) 1 ht (rgoodV (C := rN1) (fun w h => List.mem_cons_of_mem _ h) q_1192 q_1193 q_1194 q_14 q_1195) rfl rfl rfl hv_d_greatest ⟨Nat.le_of_ble_eq_true rfl, Nat.le_of_ble_eq_true rfl⟩) rfl) ?_
  refine rcons (ro_istore (by decide +kernel) rfl) ?_
  refine rcons (ro_goto (off := 629) (by decide +kernel) rfl) ?_
  refine rcons (ro_stop) ?_
  exact rnil
def ps_l37 : List Nat := [1824, 1825, 1826, 1828, 1829, 1830, 1831, 1832, 1834, 1835, 1836, 1837, 1840, 1841, 1844, 1845, 1846, 1849, 1851, 1852, 1853, 1855, 1856, 1857, 1858, 1859, 1861, 1862, 1863, 1864, 1867, 1868, 1871, 1872, 1875, 1877, 2450]
def tb_l37 (L : Nat) (xs : Nat → Int32) (i : Int32) (g1 : Bool) (v1 : Int32) (g2 : Bool) (v2 : Int32) (g3 : Bool) (v3 : Int32) (g4 : Bool) (v4 : Int32) (z2 z3 z4 : Bool) : List RT := [tq_al 1, tq_al 0, tq_il 4, tq_ic 1, tq_i2 (fun x y => x + y), tq_isc L xs g1 v1, tq_al 0, tq_il 4, tq_ic 2, tq_i2 (fun x y => x + y), tq_isc L xs g2 v2, tq_sv (fun x => decide (x = 0)) z2 1 0 15, tq_ic 1, tq_go 15, tq_ic 0, tq_al 3, tq_callH m_w_first 4 1 1171 [], tq_is 7 5, tq_al 2, tq_al 0, tq_il 4, tq_ic 1, tq_i2 (fun x y => x + y), tq_isc L xs g1 v1, tq_al 0, tq_il 4, tq_ic 2, tq_i2 (fun x y => x + y), tq_isc L xs g2 v2, tq_sv (fun x => decide (x = 0)) z2 1 0 33, tq_ic 1, tq_go 33, tq_ic 0, tq_callH (rV 1 m_d_first) 3 0 1171 [], tq_is 7 6, tq_go 36, tq_stop i]
set_option maxHeartbeats 4000000 in
set_option maxRecDepth 20000 in
theorem ok_l37 (L : Nat) (xs : Nat → Int32) (i : Int32) (g1 : Bool) (v1 : Int32) (g2 : Bool) (v2 : Int32) (g3 : Bool) (v3 : Int32) (g4 : Bool) (v4 : Int32) (z2 z3 z4 : Bool) : rAll (rOk (fun G => rSc G = (L, xs)) code "RingdaysLaw" 7 rTL room_1 [] 1171 (.inr (2450, i)) (fun o => ps_l37.getD o 0)) ps_l37 (tb_l37 L xs i g1 v1 g2 v2 g3 v3 g4 v4 z2 z3 z4) := by
  refine rcons (ro_aload_n (k := 1) rfl (by decide +kernel) rfl) ?_
  refine rcons (ro_aload_n (k := 0) rfl (by decide +kernel) rfl) ?_
  refine rcons (ro_iload (by decide +kernel) rfl) ?_
  refine rcons (ro_iconst (n := 1) (by decide +kernel) rfl rfl) ?_
  refine rcons (ro_iadd (by decide +kernel) rfl) ?_
  refine rcons (ro_isc (fun _ h => h) (by decide +kernel) rfl) ?_
  refine rcons (ro_aload_n (k := 0) rfl (by decide +kernel) rfl) ?_
  refine rcons (ro_iload (by decide +kernel) rfl) ?_
  refine rcons (ro_iconst (n := 2) (by decide +kernel) rfl rfl) ?_
  refine rcons (ro_iadd (by decide +kernel) rfl) ?_
  refine rcons (ro_isc (fun _ h => h) (by decide +kernel) rfl) ?_
  refine rcons (ro_sv (ro_s1_eq (off := 7) (off2 := 4) (n1 := 1) (n2 := 0) (by decide +kernel) (by decide +kernel) rfl (by decide +kernel) (by decide +kernel) rfl rfl rfl rfl)) ?_
  refine rcons (ro_iconst (n := 1) (by decide +kernel) rfl rfl) ?_
  refine rcons (ro_goto (off := 4) (by decide +kernel) rfl) ?_
  refine rcons (ro_iconst (n := 0) (by decide +kernel) rfl rfl) ?_
  refine rcons (ro_aload_n (k := 3) rfl (by decide +kernel) rfl) ?_
  refine rcons (ro_callSX ok_w_first (by decide +kernel) rfl (fun s args ht => vx_cwSW 4 ht (rgoodS (fun w h => List.mem_cons_of_mem _ h) q_876 q_877 q_12 q_878) rfl rfl rfl hy_w_first ⟨Nat.le_of_ble_eq_true rfl, Nat.le_of_ble_eq_true rfl⟩) rfl) ?_
  refine rcons (ro_istore (by decide +kernel) rfl) ?_
  refine rcons (ro_aload_n (k := 2) rfl (by decide +kernel) rfl) ?_
  refine rcons (ro_aload_n (k := 0) rfl (by decide +kernel) rfl) ?_
  refine rcons (ro_iload (by decide +kernel) rfl) ?_
  refine rcons (ro_iconst (n := 1) (by decide +kernel) rfl rfl) ?_
  refine rcons (ro_iadd (by decide +kernel) rfl) ?_
  refine rcons (ro_isc (fun _ h => h) (by decide +kernel) rfl) ?_
  refine rcons (ro_aload_n (k := 0) rfl (by decide +kernel) rfl) ?_
  refine rcons (ro_iload (by decide +kernel) rfl) ?_
  refine rcons (ro_iconst (n := 2) (by decide +kernel) rfl rfl) ?_
  refine rcons (ro_iadd (by decide +kernel) rfl) ?_
  refine rcons (ro_isc (fun _ h => h) (by decide +kernel) rfl) ?_
  refine rcons (ro_sv (ro_s1_eq (off := 7) (off2 := 4) (n1 := 1) (n2 := 0) (by decide +kernel) (by decide +kernel) rfl (by decide +kernel) (by decide +kernel) rfl rfl rfl rfl)) ?_
  refine rcons (ro_iconst (n := 1) (by decide +kernel) rfl rfl) ?_
  refine rcons (ro_goto (off := 4) (by decide +kernel) rfl) ?_
  refine rcons (ro_iconst (n := 0) (by decide +kernel) rfl rfl) ?_
  refine rcons (ro_callVH (C := rN1) (T := rF1) (N := 7) rfl ok_d_first (by decide +kernel) trivial (by decide) (fun s args ht => cwV (C := rN1) 2 ht (rgoodV (C := rN1) (fun w h => List.mem_cons_of_mem _ h) q_1196 q_1197 q_1198 q_14 q_1199) rfl rfl rfl hv_d_first ⟨Nat.le_of_ble_eq_true rfl, Nat.le_of_ble_eq_true rfl⟩) rfl) ?_
  refine rcons (ro_istore (by decide +kernel) rfl) ?_
  refine rcons (ro_goto (off := 573) (by decide +kernel) rfl) ?_
  refine rcons (ro_stop) ?_
  exact rnil
def ps_l38 : List Nat := [1880, 1881, 1882, 1884, 1885, 1886, 1887, 1888, 1891, 1893, 1894, 1895, 1897, 1898, 1899, 1900, 1903, 1905, 2450]
def tb_l38 (L : Nat) (xs : Nat → Int32) (i : Int32) (g1 : Bool) (v1 : Int32) (g2 : Bool) (v2 : Int32) (g3 : Bool) (v3 : Int32) (g4 : Bool) (v4 : Int32) (z2 z3 z4 : Bool) : List RT := [tq_al 1, tq_al 0, tq_il 4, tq_ic 1, tq_i2 (fun x y => x + y), tq_isc L xs g1 v1, tq_al 3, tq_callH m_w_quarter 3 1 1171 [], tq_is 7 5, tq_al 2, tq_al 0, tq_il 4, tq_ic 1, tq_i2 (fun x y => x + y), tq_isc L xs g1 v1, tq_callH (rV 1 m_d_quarter) 2 0 1171 [], tq_is 7 6, tq_go 18, tq_stop i]
set_option maxHeartbeats 4000000 in
set_option maxRecDepth 20000 in
theorem ok_l38 (L : Nat) (xs : Nat → Int32) (i : Int32) (g1 : Bool) (v1 : Int32) (g2 : Bool) (v2 : Int32) (g3 : Bool) (v3 : Int32) (g4 : Bool) (v4 : Int32) (z2 z3 z4 : Bool) : rAll (rOk (fun G => rSc G = (L, xs)) code "RingdaysLaw" 7 rTL room_1 [] 1171 (.inr (2450, i)) (fun o => ps_l38.getD o 0)) ps_l38 (tb_l38 L xs i g1 v1 g2 v2 g3 v3 g4 v4 z2 z3 z4) := by
  refine rcons (ro_aload_n (k := 1) rfl (by decide +kernel) rfl) ?_
  refine rcons (ro_aload_n (k := 0) rfl (by decide +kernel) rfl) ?_
  refine rcons (ro_iload (by decide +kernel) rfl) ?_
  refine rcons (ro_iconst (n := 1) (by decide +kernel) rfl rfl) ?_
  refine rcons (ro_iadd (by decide +kernel) rfl) ?_
  refine rcons (ro_isc (fun _ h => h) (by decide +kernel) rfl) ?_
  refine rcons (ro_aload_n (k := 3) rfl (by decide +kernel) rfl) ?_
  refine rcons (ro_callSX ok_w_quarter (by decide +kernel) rfl (fun s args ht => vx_cwSW 3 ht (rgoodS (fun w h => List.mem_cons_of_mem _ h) q_883 q_884 q_12 q_885) rfl rfl rfl hy_w_quarter ⟨Nat.le_of_ble_eq_true rfl, Nat.le_of_ble_eq_true rfl⟩) rfl) ?_
  refine rcons (ro_istore (by decide +kernel) rfl) ?_
  refine rcons (ro_aload_n (k := 2) rfl (by decide +kernel) rfl) ?_
  refine rcons (ro_aload_n (k := 0) rfl (by decide +kernel) rfl) ?_
  refine rcons (ro_iload (by decide +kernel) rfl) ?_
  refine rcons (ro_iconst (n := 1) (by decide +kernel) rfl rfl) ?_
  refine rcons (ro_iadd (by decide +kernel) rfl) ?_
  refine rcons (ro_isc (fun _ h => h) (by decide +kernel) rfl) ?_
  refine rcons (ro_callVH (C := rN1) (T := rF1) (N := 7) rfl ok_d_quarter (by decide +kernel) trivial (by decide) (fun s args ht => cwV (C := rN1) 1 ht (rgoodV (C := rN1) (fun w h => List.mem_cons_of_mem _ h) q_1203 q_1204 q_1205 q_14 q_1206) rfl rfl rfl hv_d_quarter ⟨Nat.le_of_ble_eq_true rfl, Nat.le_of_ble_eq_true rfl⟩) rfl) ?_
  refine rcons (ro_istore (by decide +kernel) rfl) ?_
  refine rcons (ro_goto (off := 545) (by decide +kernel) rfl) ?_
  refine rcons (ro_stop) ?_
  exact rnil
def ps_l39 : List Nat := [1908, 1909, 1910, 1912, 1913, 1914, 1915, 1916, 1919, 1921, 1922, 1923, 1925, 1926, 1927, 1928, 1931, 1933, 2450]
def tb_l39 (L : Nat) (xs : Nat → Int32) (i : Int32) (g1 : Bool) (v1 : Int32) (g2 : Bool) (v2 : Int32) (g3 : Bool) (v3 : Int32) (g4 : Bool) (v4 : Int32) (z2 z3 z4 : Bool) : List RT := [tq_al 1, tq_al 0, tq_il 4, tq_ic 1, tq_i2 (fun x y => x + y), tq_isc L xs g1 v1, tq_al 3, tq_callH m_w_toQuarter 3 2 1171 [], tq_is 7 5, tq_al 2, tq_al 0, tq_il 4, tq_ic 1, tq_i2 (fun x y => x + y), tq_isc L xs g1 v1, tq_callH (rV 1 m_d_toQuarter) 2 0 1171 [], tq_is 7 6, tq_go 18, tq_stop i]
set_option maxHeartbeats 4000000 in
set_option maxRecDepth 20000 in
theorem ok_l39 (L : Nat) (xs : Nat → Int32) (i : Int32) (g1 : Bool) (v1 : Int32) (g2 : Bool) (v2 : Int32) (g3 : Bool) (v3 : Int32) (g4 : Bool) (v4 : Int32) (z2 z3 z4 : Bool) : rAll (rOk (fun G => rSc G = (L, xs)) code "RingdaysLaw" 7 rTL room_1 [] 1171 (.inr (2450, i)) (fun o => ps_l39.getD o 0)) ps_l39 (tb_l39 L xs i g1 v1 g2 v2 g3 v3 g4 v4 z2 z3 z4) := by
  refine rcons (ro_aload_n (k := 1) rfl (by decide +kernel) rfl) ?_
  refine rcons (ro_aload_n (k := 0) rfl (by decide +kernel) rfl) ?_
  refine rcons (ro_iload (by decide +kernel) rfl) ?_
  refine rcons (ro_iconst (n := 1) (by decide +kernel) rfl rfl) ?_
  refine rcons (ro_iadd (by decide +kernel) rfl) ?_
  refine rcons (ro_isc (fun _ h => h) (by decide +kernel) rfl) ?_
  refine rcons (ro_aload_n (k := 3) rfl (by decide +kernel) rfl) ?_
  refine rcons (ro_callSX ok_w_toQuarter (by decide +kernel) rfl (fun s args ht => vx_cwSW 3 ht (rgoodS (fun w h => List.mem_cons_of_mem _ h) q_890 q_891 q_12 q_892) rfl rfl rfl hy_w_toQuarter ⟨Nat.le_of_ble_eq_true rfl, Nat.le_of_ble_eq_true rfl⟩) rfl) ?_
  refine rcons (ro_istore (by decide +kernel) rfl) ?_
  refine rcons (ro_aload_n (k := 2) rfl (by decide +kernel) rfl) ?_
  refine rcons (ro_aload_n (k := 0) rfl (by decide +kernel) rfl) ?_
  refine rcons (ro_iload (by decide +kernel) rfl) ?_
  refine rcons (ro_iconst (n := 1) (by decide +kernel) rfl rfl) ?_
  refine rcons (ro_iadd (by decide +kernel) rfl) ?_
  refine rcons (ro_isc (fun _ h => h) (by decide +kernel) rfl) ?_
  refine rcons (ro_callVH (C := rN1) (T := rF1) (N := 7) rfl ok_d_toQuarter (by decide +kernel) trivial (by decide) (fun s args ht => cwV (C := rN1) 1 ht (rgoodV (C := rN1) (fun w h => List.mem_cons_of_mem _ h) q_1210 q_1211 q_1212 q_14 q_1213) rfl rfl rfl hv_d_toQuarter ⟨Nat.le_of_ble_eq_true rfl, Nat.le_of_ble_eq_true rfl⟩) rfl) ?_
  refine rcons (ro_istore (by decide +kernel) rfl) ?_
  refine rcons (ro_goto (off := 517) (by decide +kernel) rfl) ?_
  refine rcons (ro_stop) ?_
  exact rnil
def ps_l40 : List Nat := [1936, 1937, 1938, 1940, 1941, 1942, 1943, 1944, 1946, 1947, 1948, 1949, 1950, 1952, 1953, 1954, 1955, 1958, 1959, 1962, 1963, 1964, 1967, 1969, 1970, 1971, 1973, 1974, 1975, 1976, 1977, 1979, 1980, 1981, 1982, 1983, 1985, 1986, 1987, 1988, 1991, 1992, 1995, 1996, 1999, 2001, 2450]
def tb_l40 (L : Nat) (xs : Nat → Int32) (i : Int32) (g1 : Bool) (v1 : Int32) (g2 : Bool) (v2 : Int32) (g3 : Bool) (v3 : Int32) (g4 : Bool) (v4 : Int32) (z2 z3 z4 : Bool) : List RT := [tq_al 1, tq_al 0, tq_il 4, tq_ic 1, tq_i2 (fun x y => x + y), tq_isc L xs g1 v1, tq_al 0, tq_il 4, tq_ic 2, tq_i2 (fun x y => x + y), tq_isc L xs g2 v2, tq_al 0, tq_il 4, tq_ic 3, tq_i2 (fun x y => x + y), tq_isc L xs g3 v3, tq_sv (fun x => decide (x = 0)) z3 1 0 20, tq_ic 1, tq_go 20, tq_ic 0, tq_al 3, tq_callH m_w_step 5 4 1171 [], tq_is 7 5, tq_al 2, tq_al 0, tq_il 4, tq_ic 1, tq_i2 (fun x y => x + y), tq_isc L xs g1 v1, tq_al 0, tq_il 4, tq_ic 2, tq_i2 (fun x y => x + y), tq_isc L xs g2 v2, tq_al 0, tq_il 4, tq_ic 3, tq_i2 (fun x y => x + y), tq_isc L xs g3 v3, tq_sv (fun x => decide (x = 0)) z3 1 0 43, tq_ic 1, tq_go 43, tq_ic 0, tq_callH (rV 1 m_d_step) 4 0 1171 [], tq_is 7 6, tq_go 46, tq_stop i]
set_option maxHeartbeats 4000000 in
set_option maxRecDepth 20000 in
theorem ok_l40 (L : Nat) (xs : Nat → Int32) (i : Int32) (g1 : Bool) (v1 : Int32) (g2 : Bool) (v2 : Int32) (g3 : Bool) (v3 : Int32) (g4 : Bool) (v4 : Int32) (z2 z3 z4 : Bool) : rAll (rOk (fun G => rSc G = (L, xs)) code "RingdaysLaw" 7 rTL room_1 [] 1171 (.inr (2450, i)) (fun o => ps_l40.getD o 0)) ps_l40 (tb_l40 L xs i g1 v1 g2 v2 g3 v3 g4 v4 z2 z3 z4) := by
  refine rcons (ro_aload_n (k := 1) rfl (by decide +kernel) rfl) ?_
  refine rcons (ro_aload_n (k := 0) rfl (by decide +kernel) rfl) ?_
  refine rcons (ro_iload (by decide +kernel) rfl) ?_
  refine rcons (ro_iconst (n := 1) (by decide +kernel) rfl rfl) ?_
  refine rcons (ro_iadd (by decide +kernel) rfl) ?_
  refine rcons (ro_isc (fun _ h => h) (by decide +kernel) rfl) ?_
  refine rcons (ro_aload_n (k := 0) rfl (by decide +kernel) rfl) ?_
  refine rcons (ro_iload (by decide +kernel) rfl) ?_
  refine rcons (ro_iconst (n := 2) (by decide +kernel) rfl rfl) ?_
  refine rcons (ro_iadd (by decide +kernel) rfl) ?_
  refine rcons (ro_isc (fun _ h => h) (by decide +kernel) rfl) ?_
  refine rcons (ro_aload_n (k := 0) rfl (by decide +kernel) rfl) ?_
  refine rcons (ro_iload (by decide +kernel) rfl) ?_
  refine rcons (ro_iconst (n := 3) (by decide +kernel) rfl rfl) ?_
  refine rcons (ro_iadd (by decide +kernel) rfl) ?_
  refine rcons (ro_isc (fun _ h => h) (by decide +kernel) rfl) ?_
  refine rcons (ro_sv (ro_s1_eq (off := 7) (off2 := 4) (n1 := 1) (n2 := 0) (by decide +kernel) (by decide +kernel) rfl (by decide +kernel) (by decide +kernel) rfl rfl rfl rfl)) ?_
  refine rcons (ro_iconst (n := 1) (by decide +kernel) rfl rfl) ?_
  refine rcons (ro_goto (off := 4) (by decide +kernel) rfl) ?_
  refine rcons (ro_iconst (n := 0) (by decide +kernel) rfl rfl) ?_
  refine rcons (ro_aload_n (k := 3) rfl (by decide +kernel) rfl) ?_
  refine rcons (ro_callSX ok_w_step (by decide +kernel) rfl (fun s args ht => vx_cwSW 5 ht (rgoodS (fun w h => List.mem_cons_of_mem _ h) q_897 q_898 q_12 q_899) rfl rfl rfl hy_w_step ⟨Nat.le_of_ble_eq_true rfl, Nat.le_of_ble_eq_true rfl⟩) rfl) ?_
  refine rcons (ro_istore (by decide +kernel) rfl) ?_
  refine rcons (ro_aload_n (k := 2) rfl (by decide +kernel) rfl) ?_
  refine rcons (ro_aload_n (k := 0) rfl (by decide +kernel) rfl) ?_
  refine rcons (ro_iload (by decide +kernel) rfl) ?_
  refine rcons (ro_iconst (n := 1) (by decide +kernel) rfl rfl) ?_
  refine rcons (ro_iadd (by decide +kernel) rfl) ?_
  refine rcons (ro_isc (fun _ h => h) (by decide +kernel) rfl) ?_
  refine rcons (ro_aload_n (k := 0) rfl (by decide +kernel) rfl) ?_
  refine rcons (ro_iload (by decide +kernel) rfl) ?_
  refine rcons (ro_iconst (n := 2) (by decide +kernel) rfl rfl) ?_
  refine rcons (ro_iadd (by decide +kernel) rfl) ?_
  refine rcons (ro_isc (fun _ h => h) (by decide +kernel) rfl) ?_
  refine rcons (ro_aload_n (k := 0) rfl (by decide +kernel) rfl) ?_
  refine rcons (ro_iload (by decide +kernel) rfl) ?_
  refine rcons (ro_iconst (n := 3) (by decide +kernel) rfl rfl) ?_
  refine rcons (ro_iadd (by decide +kernel) rfl) ?_
  refine rcons (ro_isc (fun _ h => h) (by decide +kernel) rfl) ?_
  refine rcons (ro_sv (ro_s1_eq (off := 7) (off2 := 4) (n1 := 1) (n2 := 0) (by decide +kernel) (by decide +kernel) rfl (by decide +kernel) (by decide +kernel) rfl rfl rfl rfl)) ?_
  refine rcons (ro_iconst (n := 1) (by decide +kernel) rfl rfl) ?_
  refine rcons (ro_goto (off := 4) (by decide +kernel) rfl) ?_
  refine rcons (ro_iconst (n := 0) (by decide +kernel) rfl rfl) ?_
  refine rcons (ro_callVH (C := rN1) (T := rF1) (N := 7) rfl ok_d_step (by decide +kernel) trivial (by decide) (fun s args ht => cwV (C := rN1) 3 ht (rgoodV (C := rN1) (fun w h => List.mem_cons_of_mem _ h) q_1214 q_1215 q_1216 q_14 q_1217) rfl rfl rfl hv_d_step ⟨Nat.le_of_ble_eq_true rfl, Nat.le_of_ble_eq_true rfl⟩) rfl) ?_
  refine rcons (ro_istore (by decide +kernel) rfl) ?_
  refine rcons (ro_goto (off := 449) (by decide +kernel) rfl) ?_
  refine rcons (ro_stop) ?_
  exact rnil
def ps_l41 : List Nat := [2004, 2005, 2006, 2008, 2009, 2010, 2011, 2012, 2014, 2015, 2016, 2017, 2018, 2020, 2021, 2022, 2023, 2026, 2027, 2030, 2031, 2032, 2035, 2037, 2038, 2039, 2041, 2042, 2043, 2044, 2045, 2047, 2048, 2049, 2050, 2051, 2053, 2054, 2055, 2056, 2059, 2060, 2063, 2064, 2067, 2069, 2450]
def tb_l41 (L : Nat) (xs : Nat → Int32) (i : Int32) (g1 : Bool) (v1 : Int32) (g2 : Bool) (v2 : Int32) (g3 : Bool) (v3 : Int32) (g4 : Bool) (v4 : Int32) (z2 z3 z4 : Bool) : List RT := [tq_al 1, tq_al 0, tq_il 4, tq_ic 1, tq_i2 (fun x y => x + y), tq_isc L xs g1 v1, tq_al 0, tq_il 4, tq_ic 2, tq_i2 (fun x y => x + y), tq_isc L xs g2 v2, tq_al 0, tq_il 4, tq_ic 3, tq_i2 (fun x y => x + y), tq_isc L xs g3 v3, tq_sv (fun x => decide (x = 0)) z3 1 0 20, tq_ic 1, tq_go 20, tq_ic 0, tq_al 3, tq_callH m_w_stepBack 5 4 1171 [], tq_is 7 5, tq_al 2, tq_al 0, tq_il 4, tq_ic 1, tq_i2 (fun x y => x + y), tq_isc L xs g1 v1, tq_al 0, tq_il 4, tq_ic 2, tq_i2 (fun x y => x + y), tq_isc L xs g2 v2, tq_al 0, tq_il 4, tq_ic 3, tq_i2 (fun x y => x + y), tq_isc L xs g3 v3, tq_sv (fun x => decide (x = 0)) z3 1 0 43, tq_ic 1, tq_go 43, tq_ic 0, tq_callH (rV 1 m_d_stepBack) 4 0 1171 [], tq_is 7 6, tq_go 46, tq_stop i]
set_option maxHeartbeats 4000000 in
set_option maxRecDepth 20000 in
theorem ok_l41 (L : Nat) (xs : Nat → Int32) (i : Int32) (g1 : Bool) (v1 : Int32) (g2 : Bool) (v2 : Int32) (g3 : Bool) (v3 : Int32) (g4 : Bool) (v4 : Int32) (z2 z3 z4 : Bool) : rAll (rOk (fun G => rSc G = (L, xs)) code "RingdaysLaw" 7 rTL room_1 [] 1171 (.inr (2450, i)) (fun o => ps_l41.getD o 0)) ps_l41 (tb_l41 L xs i g1 v1 g2 v2 g3 v3 g4 v4 z2 z3 z4) := by
  refine rcons (ro_aload_n (k := 1) rfl (by decide +kernel) rfl) ?_
  refine rcons (ro_aload_n (k := 0) rfl (by decide +kernel) rfl) ?_
  refine rcons (ro_iload (by decide +kernel) rfl) ?_
  refine rcons (ro_iconst (n := 1) (by decide +kernel) rfl rfl) ?_
  refine rcons (ro_iadd (by decide +kernel) rfl) ?_
  refine rcons (ro_isc (fun _ h => h) (by decide +kernel) rfl) ?_
  refine rcons (ro_aload_n (k := 0) rfl (by decide +kernel) rfl) ?_
  refine rcons (ro_iload (by decide +kernel) rfl) ?_
  refine rcons (ro_iconst (n := 2) (by decide +kernel) rfl rfl) ?_
  refine rcons (ro_iadd (by decide +kernel) rfl) ?_
  refine rcons (ro_isc (fun _ h => h) (by decide +kernel) rfl) ?_
  refine rcons (ro_aload_n (k := 0) rfl (by decide +kernel) rfl) ?_
  refine rcons (ro_iload (by decide +kernel) rfl) ?_
  refine rcons (ro_iconst (n := 3) (by decide +kernel) rfl rfl) ?_
  refine rcons (ro_iadd (by decide +kernel) rfl) ?_
  refine rcons (ro_isc (fun _ h => h) (by decide +kernel) rfl) ?_
  refine rcons (ro_sv (ro_s1_eq (off := 7) (off2 := 4) (n1 := 1) (n2 := 0) (by decide +kernel) (by decide +kernel) rfl (by decide +kernel) (by decide +kernel) rfl rfl rfl rfl)) ?_
  refine rcons (ro_iconst (n := 1) (by decide +kernel) rfl rfl) ?_
  refine rcons (ro_goto (off := 4) (by decide +kernel) rfl) ?_
  refine rcons (ro_iconst (n := 0) (by decide +kernel) rfl rfl) ?_
  refine rcons (ro_aload_n (k := 3) rfl (by decide +kernel) rfl) ?_
  refine rcons (ro_callSX ok_w_stepBack (by decide +kernel) rfl (fun s args ht => vx_cwSW 5 ht (rgoodS (fun w h => List.mem_cons_of_mem _ h) q_908 q_909 q_12 q_910) rfl rfl rfl hy_w_stepBack ⟨Nat.le_of_ble_eq_true rfl, Nat.le_of_ble_eq_true rfl⟩) rfl) ?_
  refine rcons (ro_istore (by decide +kernel) rfl) ?_
  refine rcons (ro_aload_n (k := 2) rfl (by decide +kernel) rfl) ?_
  refine rcons (ro_aload_n (k := 0) rfl (by decide +kernel) rfl) ?_
  refine rcons (ro_iload (by decide +kernel) rfl) ?_
  refine rcons (ro_iconst (n := 1) (by decide +kernel) rfl rfl) ?_
  refine rcons (ro_iadd (by decide +kernel) rfl) ?_
  refine rcons (ro_isc (fun _ h => h) (by decide +kernel) rfl) ?_
  refine rcons (ro_aload_n (k := 0) rfl (by decide +kernel) rfl) ?_
  refine rcons (ro_iload (by decide +kernel) rfl) ?_
  refine rcons (ro_iconst (n := 2) (by decide +kernel) rfl rfl) ?_
  refine rcons (ro_iadd (by decide +kernel) rfl) ?_
  refine rcons (ro_isc (fun _ h => h) (by decide +kernel) rfl) ?_
  refine rcons (ro_aload_n (k := 0) rfl (by decide +kernel) rfl) ?_
  refine rcons (ro_iload (by decide +kernel) rfl) ?_
  refine rcons (ro_iconst (n := 3) (by decide +kernel) rfl rfl) ?_
  refine rcons (ro_iadd (by decide +kernel) rfl) ?_
  refine rcons (ro_isc (fun _ h => h) (by decide +kernel) rfl) ?_
  refine rcons (ro_sv (ro_s1_eq (off := 7) (off2 := 4) (n1 := 1) (n2 := 0) (by decide +kernel) (by decide +kernel) rfl (by decide +kernel) (by decide +kernel) rfl rfl rfl rfl)) ?_
  refine rcons (ro_iconst (n := 1) (by decide +kernel) rfl rfl) ?_
  refine rcons (ro_goto (off := 4) (by decide +kernel) rfl) ?_
  refine rcons (ro_iconst (n := 0) (by decide +kernel) rfl rfl) ?_
  refine rcons (ro_callVH (C := rN1) (T := rF1) (N := 7) rfl ok_d_stepBack (by decide +kernel) trivial (by decide) (fun s args ht => cwV (C := rN1) 3 ht (rgoodV (C := rN1) (fun w h => List.mem_cons_of_mem _ h) q_1218 q_1219 q_1220 q_14 q_1221) rfl rfl rfl hv_d_stepBack ⟨Nat.le_of_ble_eq_true rfl, Nat.le_of_ble_eq_true rfl⟩) rfl) ?_
  refine rcons (ro_istore (by decide +kernel) rfl) ?_
  refine rcons (ro_goto (off := 381) (by decide +kernel) rfl) ?_
  refine rcons (ro_stop) ?_
  exact rnil
def ps_l42 : List Nat := [2072, 2073, 2074, 2076, 2077, 2078, 2079, 2080, 2082, 2083, 2084, 2085, 2086, 2088, 2089, 2090, 2091, 2094, 2095, 2098, 2099, 2100, 2103, 2105, 2106, 2107, 2109, 2110, 2111, 2112, 2113, 2115, 2116, 2117, 2118, 2119, 2121, 2122, 2123, 2124, 2127, 2128, 2131, 2132, 2135, 2137, 2450]
def tb_l42 (L : Nat) (xs : Nat → Int32) (i : Int32) (g1 : Bool) (v1 : Int32) (g2 : Bool) (v2 : Int32) (g3 : Bool) (v3 : Int32) (g4 : Bool) (v4 : Int32) (z2 z3 z4 : Bool) : List RT := [tq_al 1, tq_al 0, tq_il 4, tq_ic 1, tq_i2 (fun x y => x + y), tq_isc L xs g1 v1, tq_al 0, tq_il 4, tq_ic 2, tq_i2 (fun x y => x + y), tq_isc L xs g2 v2, tq_al 0, tq_il 4, tq_ic 3, tq_i2 (fun x y => x + y), tq_isc L xs g3 v3, tq_sv (fun x => decide (x = 0)) z3 1 0 20, tq_ic 1, tq_go 20, tq_ic 0, tq_al 3, tq_callH m_w_begins 5 2 1171 [], tq_is 7 5, tq_al 2, tq_al 0, tq_il 4, tq_ic 1, tq_i2 (fun x y => x + y), tq_isc L xs g1 v1, tq_al 0, tq_il 4, tq_ic 2, tq_i2 (fun x y => x + y), tq_isc L xs g2 v2, tq_al 0, tq_il 4, tq_ic 3, tq_i2 (fun x y => x + y), tq_isc L xs g3 v3, tq_sv (fun x => decide (x = 0)) z3 1 0 43, tq_ic 1, tq_go 43, tq_ic 0, tq_callH (rV 1 m_d_begins) 4 0 1171 [], tq_is 7 6, tq_go 46, tq_stop i]
set_option maxHeartbeats 4000000 in
set_option maxRecDepth 20000 in
theorem ok_l42 (L : Nat) (xs : Nat → Int32) (i : Int32) (g1 : Bool) (v1 : Int32) (g2 : Bool) (v2 : Int32) (g3 : Bool) (v3 : Int32) (g4 : Bool) (v4 : Int32) (z2 z3 z4 : Bool) : rAll (rOk (fun G => rSc G = (L, xs)) code "RingdaysLaw" 7 rTL room_1 [] 1171 (.inr (2450, i)) (fun o => ps_l42.getD o 0)) ps_l42 (tb_l42 L xs i g1 v1 g2 v2 g3 v3 g4 v4 z2 z3 z4) := by
  refine rcons (ro_aload_n (k := 1) rfl (by decide +kernel) rfl) ?_
  refine rcons (ro_aload_n (k := 0) rfl (by decide +kernel) rfl) ?_
  refine rcons (ro_iload (by decide +kernel) rfl) ?_
  refine rcons (ro_iconst (n := 1) (by decide +kernel) rfl rfl) ?_
  refine rcons (ro_iadd (by decide +kernel) rfl) ?_
  refine rcons (ro_isc (fun _ h => h) (by decide +kernel) rfl) ?_
  refine rcons (ro_aload_n (k := 0) rfl (by decide +kernel) rfl) ?_
  refine rcons (ro_iload (by decide +kernel) rfl) ?_
  refine rcons (ro_iconst (n := 2) (by decide +kernel) rfl rfl) ?_
  refine rcons (ro_iadd (by decide +kernel) rfl) ?_
  refine rcons (ro_isc (fun _ h => h) (by decide +kernel) rfl) ?_
  refine rcons (ro_aload_n (k := 0) rfl (by decide +kernel) rfl) ?_
  refine rcons (ro_iload (by decide +kernel) rfl) ?_
  refine rcons (ro_iconst (n := 3) (by decide +kernel) rfl rfl) ?_
  refine rcons (ro_iadd (by decide +kernel) rfl) ?_
  refine rcons (ro_isc (fun _ h => h) (by decide +kernel) rfl) ?_
  refine rcons (ro_sv (ro_s1_eq (off := 7) (off2 := 4) (n1 := 1) (n2 := 0) (by decide +kernel) (by decide +kernel) rfl (by decide +kernel) (by decide +kernel) rfl rfl rfl rfl)) ?_
  refine rcons (ro_iconst (n := 1) (by decide +kernel) rfl rfl) ?_
  refine rcons (ro_goto (off := 4) (by decide +kernel) rfl) ?_
  refine rcons (ro_iconst (n := 0) (by decide +kernel) rfl rfl) ?_
  refine rcons (ro_aload_n (k := 3) rfl (by decide +kernel) rfl) ?_
  refine rcons (ro_callSX ok_w_begins (by decide +kernel) rfl (fun s args ht => vx_cwSW 5 ht (rgoodS (fun w h => List.mem_cons_of_mem _ h) q_915 q_916 q_12 q_917) rfl rfl rfl hy_w_begins ⟨Nat.le_of_ble_eq_true rfl, Nat.le_of_ble_eq_true rfl⟩) rfl) ?_
  refine rcons (ro_istore (by decide +kernel) rfl) ?_
  refine rcons (ro_aload_n (k := 2) rfl (by decide +kernel) rfl) ?_
  refine rcons (ro_aload_n (k := 0) rfl (by decide +kernel) rfl) ?_
  refine rcons (ro_iload (by decide +kernel) rfl) ?_
  refine rcons (ro_iconst (n := 1) (by decide +kernel) rfl rfl) ?_
  refine rcons (ro_iadd (by decide +kernel) rfl) ?_
  refine rcons (ro_isc (fun _ h => h) (by decide +kernel) rfl) ?_
  refine rcons (ro_aload_n (k := 0) rfl (by decide +kernel) rfl) ?_
  refine rcons (ro_iload (by decide +kernel) rfl) ?_
  refine rcons (ro_iconst (n := 2) (by decide +kernel) rfl rfl) ?_
  refine rcons (ro_iadd (by decide +kernel) rfl) ?_
  refine rcons (ro_isc (fun _ h => h) (by decide +kernel) rfl) ?_
  refine rcons (ro_aload_n (k := 0) rfl (by decide +kernel) rfl) ?_
  refine rcons (ro_iload (by decide +kernel) rfl) ?_
  refine rcons (ro_iconst (n := 3) (by decide +kernel) rfl rfl) ?_
  refine rcons (ro_iadd (by decide +kernel) rfl) ?_
  refine rcons (ro_isc (fun _ h => h) (by decide +kernel) rfl) ?_
  refine rcons (ro_sv (ro_s1_eq (off := 7) (off2 := 4) (n1 := 1) (n2 := 0) (by decide +kernel) (by decide +kernel) rfl (by decide +kernel) (by decide +kernel) rfl rfl rfl rfl)) ?_
  refine rcons (ro_iconst (n := 1) (by decide +kernel) rfl rfl) ?_
  refine rcons (ro_goto (off := 4) (by decide +kernel) rfl) ?_
  refine rcons (ro_iconst (n := 0) (by decide +kernel) rfl rfl) ?_
  refine rcons (ro_callVH (C := rN1) (T := rF1) (N := 7) rfl ok_d_begins (by decide +kernel) trivial (by decide) (fun s args ht => cwV (C := rN1) 3 ht (rgoodV (C := rN1) (fun w h => List.mem_cons_of_mem _ h) q_1222 q_1223 q_1224 q_14 q_1225) rfl rfl rfl hv_d_begins ⟨Nat.le_of_ble_eq_true rfl, Nat.le_of_ble_eq_true rfl⟩) rfl) ?_
  refine rcons (ro_istore (by decide +kernel) rfl) ?_
  refine rcons (ro_goto (off := 313) (by decide +kernel) rfl) ?_
  refine rcons (ro_stop) ?_
  exact rnil
def ps_l43 : List Nat := [2140, 2141, 2142, 2144, 2145, 2146, 2147, 2148, 2150, 2151, 2152, 2153, 2154, 2156, 2157, 2158, 2159, 2162, 2163, 2166, 2167, 2168, 2170, 2171, 2172, 2173, 2174, 2177, 2179, 2180, 2181, 2183, 2184, 2185, 2186, 2187, 2189, 2190, 2191, 2192, 2193, 2195, 2196, 2197, 2198, 2201, 2202, 2205, 2206, 2207, 2209, 2210, 2211, 2212, 2215, 2217, 2450]
def tb_l43 (L : Nat) (xs : Nat → Int32) (i : Int32) (g1 : Bool) (v1 : Int32) (g2 : Bool) (v2 : Int32) (g3 : Bool) (v3 : Int32) (g4 : Bool) (v4 : Int32) (z2 z3 z4 : Bool) : List RT := [tq_al 1, tq_al 0, tq_il 4, tq_ic 1, tq_i2 (fun x y => x + y), tq_isc L xs g1 v1, tq_al 0, tq_il 4, tq_ic 2, tq_i2 (fun x y => x + y), tq_isc L xs g2 v2, tq_al 0, tq_il 4, tq_ic 3, tq_i2 (fun x y => x + y), tq_isc L xs g3 v3, tq_sv (fun x => decide (x = 0)) z3 1 0 20, tq_ic 1, tq_go 20, tq_ic 0, tq_al 0, tq_il 4, tq_ic 4, tq_i2 (fun x y => x + y), tq_isc L xs g4 v4, tq_al 3, tq_callH m_w_date 6 3 1171 [], tq_is 7 5, tq_al 2, tq_al 0, tq_il 4, tq_ic 1, tq_i2 (fun x y => x + y), tq_isc L xs g1 v1, tq_al 0, tq_il 4, tq_ic 2, tq_i2 (fun x y => x + y), tq_isc L xs g2 v2, tq_al 0, tq_il 4, tq_ic 3, tq_i2 (fun x y => x + y), tq_isc L xs g3 v3, tq_sv (fun x => decide (x = 0)) z3 1 0 48, tq_ic 1, tq_go 48, tq_ic 0, tq_al 0, tq_il 4, tq_ic 4, tq_i2 (fun x y => x + y), tq_isc L xs g4 v4, tq_callH (rV 1 m_d_date) 5 0 1171 [], tq_is 7 6, tq_go 56, tq_stop i]
set_option maxHeartbeats 4000000 in
set_option maxRecDepth 20000 in
theorem ok_l43 (L : Nat) (xs : Nat → Int32) (i : Int32) (g1 : Bool) (v1 : Int32) (g2 : Bool) (v2 : Int32) (g3 : Bool) (v3 : Int32) (g4 : Bool) (v4 : Int32) (z2 z3 z4 : Bool) : rAll (rOk (fun G => rSc G = (L, xs)) code "RingdaysLaw" 7 rTL room_1 [] 1171 (.inr (2450, i)) (fun o => ps_l43.getD o 0)) ps_l43 (tb_l43 L xs i g1 v1 g2 v2 g3 v3 g4 v4 z2 z3 z4) := by
  refine rcons (ro_aload_n (k := 1) rfl (by decide +kernel) rfl) ?_
  refine rcons (ro_aload_n (k := 0) rfl (by decide +kernel) rfl) ?_
  refine rcons (ro_iload (by decide +kernel) rfl) ?_
  refine rcons (ro_iconst (n := 1) (by decide +kernel) rfl rfl) ?_
  refine rcons (ro_iadd (by decide +kernel) rfl) ?_
  refine rcons (ro_isc (fun _ h => h) (by decide +kernel) rfl) ?_
  refine rcons (ro_aload_n (k := 0) rfl (by decide +kernel) rfl) ?_
  refine rcons (ro_iload (by decide +kernel) rfl) ?_
  refine rcons (ro_iconst (n := 2) (by decide +kernel) rfl rfl) ?_
  refine rcons (ro_iadd (by decide +kernel) rfl) ?_
  refine rcons (ro_isc (fun _ h => h) (by decide +kernel) rfl) ?_
  refine rcons (ro_aload_n (k := 0) rfl (by decide +kernel) rfl) ?_
  refine rcons (ro_iload (by decide +kernel) rfl) ?_
  refine rcons (ro_iconst (n := 3) (by decide +kernel) rfl rfl) ?_
  refine rcons (ro_iadd (by decide +kernel) rfl) ?_
  refine rcons (ro_isc (fun _ h => h) (by decide +kernel) rfl) ?_
  refine rcons (ro_sv (ro_s1_eq (off := 7) (off2 := 4) (n1 := 1) (n2 := 0) (by decide +kernel) (by decide +kernel) rfl (by decide +kernel) (by decide +kernel) rfl rfl rfl rfl)) ?_
  refine rcons (ro_iconst (n := 1) (by decide +kernel) rfl rfl) ?_
  refine rcons (ro_goto (off := 4) (by decide +kernel) rfl) ?_
  refine rcons (ro_iconst (n := 0) (by decide +kernel) rfl rfl) ?_
  refine rcons (ro_aload_n (k := 0) rfl (by decide +kernel) rfl) ?_
  refine rcons (ro_iload (by decide +kernel) rfl) ?_
  refine rcons (ro_iconst (n := 4) (by decide +kernel) rfl rfl) ?_
  refine rcons (ro_iadd (by decide +kernel) rfl) ?_
  refine rcons (ro_isc (fun _ h => h) (by decide +kernel) rfl) ?_
  refine rcons (ro_aload_n (k := 3) rfl (by decide +kernel) rfl) ?_
  refine rcons (ro_callSX ok_w_date (by decide +kernel) rfl (fun s args ht => vx_cwSW 6 ht (rgoodS (fun w h => List.mem_cons_of_mem _ h) q_925 q_926 q_12 q_927) rfl rfl rfl hy_w_date ⟨Nat.le_of_ble_eq_true rfl, Nat.le_of_ble_eq_true rfl⟩) rfl) ?_
  refine rcons (ro_istore (by decide +kernel) rfl) ?_
  refine rcons (ro_aload_n (k := 2) rfl (by decide +kernel) rfl) ?_
  refine rcons (ro_aload_n (k := 0) rfl (by decide +kernel) rfl) ?_
  refine rcons (ro_iload (by decide +kernel) rfl) ?_
  refine rcons (ro_iconst (n := 1) (by decide +kernel) rfl rfl) ?_
  refine rcons (ro_iadd (by decide +kernel) rfl) ?_
  refine rcons (ro_isc (fun _ h => h) (by decide +kernel) rfl) ?_
  refine rcons (ro_aload_n (k := 0) rfl (by decide +kernel) rfl) ?_
  refine rcons (ro_iload (by decide +kernel) rfl) ?_
  refine rcons (ro_iconst (n := 2) (by decide +kernel) rfl rfl) ?_
  refine rcons (ro_iadd (by decide +kernel) rfl) ?_
  refine rcons (ro_isc (fun _ h => h) (by decide +kernel) rfl) ?_
  refine rcons (ro_aload_n (k := 0) rfl (by decide +kernel) rfl) ?_
  refine rcons (ro_iload (by decide +kernel) rfl) ?_
  refine rcons (ro_iconst (n := 3) (by decide +kernel) rfl rfl) ?_
  refine rcons (ro_iadd (by decide +kernel) rfl) ?_
  refine rcons (ro_isc (fun _ h => h) (by decide +kernel) rfl) ?_
  refine rcons (ro_sv (ro_s1_eq (off := 7) (off2 := 4) (n1 := 1) (n2 := 0) (by decide +kernel) (by decide +kernel) rfl (by decide +kernel) (by decide +kernel) rfl rfl rfl rfl)) ?_
  refine rcons (ro_iconst (n := 1) (by decide +kernel) rfl rfl) ?_
  refine rcons (ro_goto (off := 4) (by decide +kernel) rfl) ?_
  refine rcons (ro_iconst (n := 0) (by decide +kernel) rfl rfl) ?_
  refine rcons (ro_aload_n (k := 0) rfl (by decide +kernel) rfl) ?_
  refine rcons (ro_iload (by decide +kernel) rfl) ?_
  refine rcons (ro_iconst (n := 4) (by decide +kernel) rfl rfl) ?_
  refine rcons (ro_iadd (by decide +kernel) rfl) ?_
  refine rcons (ro_isc (fun _ h => h) (by decide +kernel) rfl) ?_
  refine rcons (ro_callVH (C := rN1) (T := rF1) (N := 7) rfl ok_d_date (by decide +kernel) trivial (by decide) (fun s args ht => cwV (C := rN1) 4 ht (rgoodV (C := rN1) (fun w h => List.mem_cons_of_mem _ h) q_1226 q_1227 q_1228 q_14 q_1229) rfl rfl rfl hv_d_date ⟨Nat.le_of_ble_eq_true rfl, Nat.le_of_ble_eq_true rfl⟩) rfl) ?_
  refine rcons (ro_istore (by decide +kernel) rfl) ?_
  refine rcons (ro_goto (off := 233) (by decide +kernel) rfl) ?_
  refine rcons (ro_stop) ?_
  exact rnil
def ps_l44 : List Nat := [2220, 2221, 2222, 2224, 2225, 2226, 2227, 2228, 2230, 2231, 2232, 2233, 2234, 2236, 2237, 2238, 2239, 2242, 2243, 2246, 2247, 2248, 2251, 2253, 2254, 2255, 2257, 2258, 2259, 2260, 2261, 2263, 2264, 2265, 2266, 2267, 2269, 2270, 2271, 2272, 2275, 2276, 2279, 2280, 2283, 2285, 2450]
def tb_l44 (L : Nat) (xs : Nat → Int32) (i : Int32) (g1 : Bool) (v1 : Int32) (g2 : Bool) (v2 : Int32) (g3 : Bool) (v3 : Int32) (g4 : Bool) (v4 : Int32) (z2 z3 z4 : Bool) : List RT := [tq_al 1, tq_al 0, tq_il 4, tq_ic 1, tq_i2 (fun x y => x + y), tq_isc L xs g1 v1, tq_al 0, tq_il 4, tq_ic 2, tq_i2 (fun x y => x + y), tq_isc L xs g2 v2, tq_al 0, tq_il 4, tq_ic 3, tq_i2 (fun x y => x + y), tq_isc L xs g3 v3, tq_sv (fun x => decide (x = 0)) z3 1 0 20, tq_ic 1, tq_go 20, tq_ic 0, tq_al 3, tq_callH m_w_areAlike 5 2 1171 [], tq_is 7 5, tq_al 2, tq_al 0, tq_il 4, tq_ic 1, tq_i2 (fun x y => x + y), tq_isc L xs g1 v1, tq_al 0, tq_il 4, tq_ic 2, tq_i2 (fun x y => x + y), tq_isc L xs g2 v2, tq_al 0, tq_il 4, tq_ic 3, tq_i2 (fun x y => x + y), tq_isc L xs g3 v3, tq_sv (fun x => decide (x = 0)) z3 1 0 43, tq_ic 1, tq_go 43, tq_ic 0, tq_callH (rV 1 m_d_areAlike) 4 0 1171 [], tq_is 7 6, tq_go 46, tq_stop i]
set_option maxHeartbeats 4000000 in
set_option maxRecDepth 20000 in
theorem ok_l44 (L : Nat) (xs : Nat → Int32) (i : Int32) (g1 : Bool) (v1 : Int32) (g2 : Bool) (v2 : Int32) (g3 : Bool) (v3 : Int32) (g4 : Bool) (v4 : Int32) (z2 z3 z4 : Bool) : rAll (rOk (fun G => rSc G = (L, xs)) code "RingdaysLaw" 7 rTL room_1 [] 1171 (.inr (2450, i)) (fun o => ps_l44.getD o 0)) ps_l44 (tb_l44 L xs i g1 v1 g2 v2 g3 v3 g4 v4 z2 z3 z4) := by
  refine rcons (ro_aload_n (k := 1) rfl (by decide +kernel) rfl) ?_
  refine rcons (ro_aload_n (k := 0) rfl (by decide +kernel) rfl) ?_
  refine rcons (ro_iload (by decide +kernel) rfl) ?_
  refine rcons (ro_iconst (n := 1) (by decide +kernel) rfl rfl) ?_
  refine rcons (ro_iadd (by decide +kernel) rfl) ?_
  refine rcons (ro_isc (fun _ h => h) (by decide +kernel) rfl) ?_
  refine rcons (ro_aload_n (k := 0) rfl (by decide +kernel) rfl) ?_
  refine rcons (ro_iload (by decide +kernel) rfl) ?_
  refine rcons (ro_iconst (n := 2) (by decide +kernel) rfl rfl) ?_
  refine rcons (ro_iadd (by decide +kernel) rfl) ?_
  refine rcons (ro_isc (fun _ h => h) (by decide +kernel) rfl) ?_
  refine rcons (ro_aload_n (k := 0) rfl (by decide +kernel) rfl) ?_
  refine rcons (ro_iload (by decide +kernel) rfl) ?_
  refine rcons (ro_iconst (n := 3) (by decide +kernel) rfl rfl) ?_
  refine rcons (ro_iadd (by decide +kernel) rfl) ?_
  refine rcons (ro_isc (fun _ h => h) (by decide +kernel) rfl) ?_
  refine rcons (ro_sv (ro_s1_eq (off := 7) (off2 := 4) (n1 := 1) (n2 := 0) (by decide +kernel) (by decide +kernel) rfl (by decide +kernel) (by decide +kernel) rfl rfl rfl rfl)) ?_
  refine rcons (ro_iconst (n := 1) (by decide +kernel) rfl rfl) ?_
  refine rcons (ro_goto (off := 4) (by decide +kernel) rfl) ?_
  refine rcons (ro_iconst (n := 0) (by decide +kernel) rfl rfl) ?_
  refine rcons (ro_aload_n (k := 3) rfl (by decide +kernel) rfl) ?_
  refine rcons (ro_callSX ok_w_areAlike (by decide +kernel) rfl (fun s args ht => vx_cwSW 5 ht (rgoodS (fun w h => List.mem_cons_of_mem _ h) q_932 q_933 q_12 q_934) rfl rfl rfl hy_w_areAlike ⟨Nat.le_of_ble_eq_true rfl, Nat.le_of_ble_eq_true rfl⟩) rfl) ?_
  refine rcons (ro_istore (by decide +kernel) rfl) ?_
  refine rcons (ro_aload_n (k := 2) rfl (by decide +kernel) rfl) ?_
  refine rcons (ro_aload_n (k := 0) rfl (by decide +kernel) rfl) ?_
  refine rcons (ro_iload (by decide +kernel) rfl) ?_
  refine rcons (ro_iconst (n := 1) (by decide +kernel) rfl rfl) ?_
  refine rcons (ro_iadd (by decide +kernel) rfl) ?_
  refine rcons (ro_isc (fun _ h => h) (by decide +kernel) rfl) ?_
  refine rcons (ro_aload_n (k := 0) rfl (by decide +kernel) rfl) ?_
  refine rcons (ro_iload (by decide +kernel) rfl) ?_
  refine rcons (ro_iconst (n := 2) (by decide +kernel) rfl rfl) ?_
  refine rcons (ro_iadd (by decide +kernel) rfl) ?_
  refine rcons (ro_isc (fun _ h => h) (by decide +kernel) rfl) ?_
  refine rcons (ro_aload_n (k := 0) rfl (by decide +kernel) rfl) ?_
  refine rcons (ro_iload (by decide +kernel) rfl) ?_
  refine rcons (ro_iconst (n := 3) (by decide +kernel) rfl rfl) ?_
  refine rcons (ro_iadd (by decide +kernel) rfl) ?_
  refine rcons (ro_isc (fun _ h => h) (by decide +kernel) rfl) ?_
  refine rcons (ro_sv (ro_s1_eq (off := 7) (off2 := 4) (n1 := 1) (n2 := 0) (by decide +kernel) (by decide +kernel) rfl (by decide +kernel) (by decide +kernel) rfl rfl rfl rfl)) ?_
  refine rcons (ro_iconst (n := 1) (by decide +kernel) rfl rfl) ?_
  refine rcons (ro_goto (off := 4) (by decide +kernel) rfl) ?_
  refine rcons (ro_iconst (n := 0) (by decide +kernel) rfl rfl) ?_
  refine rcons (ro_callVH (C := rN1) (T := rF1) (N := 7) rfl ok_d_areAlike (by decide +kernel) trivial (by decide) (fun s args ht => cwV (C := rN1) 3 ht (rgoodV (C := rN1) (fun w h => List.mem_cons_of_mem _ h) q_1230 q_1231 q_1232 q_14 q_1233) rfl rfl rfl hv_d_areAlike ⟨Nat.le_of_ble_eq_true rfl, Nat.le_of_ble_eq_true rfl⟩) rfl) ?_
  refine rcons (ro_istore (by decide +kernel) rfl) ?_
  refine rcons (ro_goto (off := 165) (by decide +kernel) rfl) ?_
  refine rcons (ro_stop) ?_
  exact rnil
def ps_l45 : List Nat := [2288, 2289, 2290, 2292, 2293, 2294, 2295, 2296, 2299, 2301, 2302, 2303, 2305, 2306, 2307, 2308, 2311, 2313, 2450]
def tb_l45 (L : Nat) (xs : Nat → Int32) (i : Int32) (g1 : Bool) (v1 : Int32) (g2 : Bool) (v2 : Int32) (g3 : Bool) (v3 : Int32) (g4 : Bool) (v4 : Int32) (z2 z3 z4 : Bool) : List RT := [tq_al 1, tq_al 0, tq_il 4, tq_ic 1, tq_i2 (fun x y => x + y), tq_isc L xs g1 v1, tq_al 3, tq_callH m_w_keep 3 1 1171 [], tq_is 7 5, tq_al 2, tq_al 0, tq_il 4, tq_ic 1, tq_i2 (fun x y => x + y), tq_isc L xs g1 v1, tq_callH (rV 1 m_d_keep) 2 0 1171 [], tq_is 7 6, tq_go 18, tq_stop i]
set_option maxHeartbeats 4000000 in
set_option maxRecDepth 20000 in
theorem ok_l45 (L : Nat) (xs : Nat → Int32) (i : Int32) (g1 : Bool) (v1 : Int32) (g2 : Bool) (v2 : Int32) (g3 : Bool) (v3 : Int32) (g4 : Bool) (v4 : Int32) (z2 z3 z4 : Bool) : rAll (rOk (fun G => rSc G = (L, xs)) code "RingdaysLaw" 7 rTL room_1 [] 1171 (.inr (2450, i)) (fun o => ps_l45.getD o 0)) ps_l45 (tb_l45 L xs i g1 v1 g2 v2 g3 v3 g4 v4 z2 z3 z4) := by
  refine rcons (ro_aload_n (k := 1) rfl (by decide +kernel) rfl) ?_
  refine rcons (ro_aload_n (k := 0) rfl (by decide +kernel) rfl) ?_
  refine rcons (ro_iload (by decide +kernel) rfl) ?_
  refine rcons (ro_iconst (n := 1) (by decide +kernel) rfl rfl) ?_
  refine rcons (ro_iadd (by decide +kernel) rfl) ?_
  refine rcons (ro_isc (fun _ h => h) (by decide +kernel) rfl) ?_
  refine rcons (ro_aload_n (k := 3) rfl (by decide +kernel) rfl) ?_
  refine rcons (ro_callSX ok_w_keep (by decide +kernel) rfl (fun s args ht => vx_cwSW 3 ht (rgoodS (fun w h => List.mem_cons_of_mem _ h) q_936 q_937 q_12 q_938) rfl rfl rfl hy_w_keep ⟨Nat.le_of_ble_eq_true rfl, Nat.le_of_ble_eq_true rfl⟩) rfl) ?_
  refine rcons (ro_istore (by decide +kernel) rfl) ?_
  refine rcons (ro_aload_n (k := 2) rfl (by decide +kernel) rfl) ?_
  refine rcons (ro_aload_n (k := 0) rfl (by decide +kernel) rfl) ?_
  refine rcons (ro_iload (by decide +kernel) rfl) ?_
  refine rcons (ro_iconst (n := 1) (by decide +kernel) rfl rfl) ?_
  refine rcons (ro_iadd (by decide +kernel) rfl) ?_
  refine rcons (ro_isc (fun _ h => h) (by decide +kernel) rfl) ?_
  refine rcons (ro_callVH (C := rN1) (T := rF1) (N := 7) rfl ok_d_keep (by decide +kernel) trivial (by decide) (fun s args ht => cwV (C := rN1) 1 ht (rgoodV (C := rN1) (fun w h => List.mem_cons_of_mem _ h) q_1237 q_1238 q_1239 q_14 q_1240) rfl rfl rfl hv_d_keep ⟨Nat.le_of_ble_eq_true rfl, Nat.le_of_ble_eq_true rfl⟩) rfl) ?_
  refine rcons (ro_istore (by decide +kernel) rfl) ?_
  refine rcons (ro_goto (off := 137) (by decide +kernel) rfl) ?_
  refine rcons (ro_stop) ?_
  exact rnil
def ps_l46 : List Nat := [2316, 2317, 2318, 2320, 2321, 2322, 2323, 2324, 2327, 2329, 2330, 2331, 2333, 2334, 2335, 2336, 2339, 2341, 2450]
def tb_l46 (L : Nat) (xs : Nat → Int32) (i : Int32) (g1 : Bool) (v1 : Int32) (g2 : Bool) (v2 : Int32) (g3 : Bool) (v3 : Int32) (g4 : Bool) (v4 : Int32) (z2 z3 z4 : Bool) : List RT := [tq_al 1, tq_al 0, tq_il 4, tq_ic 1, tq_i2 (fun x y => x + y), tq_isc L xs g1 v1, tq_al 3, tq_callH m_w_back 3 2 1171 [], tq_is 7 5, tq_al 2, tq_al 0, tq_il 4, tq_ic 1, tq_i2 (fun x y => x + y), tq_isc L xs g1 v1, tq_callH (rV 1 m_d_back) 2 0 1171 [], tq_is 7 6, tq_go 18, tq_stop i]
set_option maxHeartbeats 4000000 in
set_option maxRecDepth 20000 in
theorem ok_l46 (L : Nat) (xs : Nat → Int32) (i : Int32) (g1 : Bool) (v1 : Int32) (g2 : Bool) (v2 : Int32) (g3 : Bool) (v3 : Int32) (g4 : Bool) (v4 : Int32) (z2 z3 z4 : Bool) : rAll (rOk (fun G => rSc G = (L, xs)) code "RingdaysLaw" 7 rTL room_1 [] 1171 (.inr (2450, i)) (fun o => ps_l46.getD o 0)) ps_l46 (tb_l46 L xs i g1 v1 g2 v2 g3 v3 g4 v4 z2 z3 z4) := by
  refine rcons (ro_aload_n (k := 1) rfl (by decide +kernel) rfl) ?_
  refine rcons (ro_aload_n (k := 0) rfl (by decide +kernel) rfl) ?_
  refine rcons (ro_iload (by decide +kernel) rfl) ?_
  refine rcons (ro_iconst (n := 1) (by decide +kernel) rfl rfl) ?_
  refine rcons (ro_iadd (by decide +kernel) rfl) ?_
  refine rcons (ro_isc (fun _ h => h) (by decide +kernel) rfl) ?_
  refine rcons (ro_aload_n (k := 3) rfl (by decide +kernel) rfl) ?_
  refine rcons (ro_callSX ok_w_back (by decide +kernel) rfl (fun s args ht => vx_cwSW 3 ht (rgoodS (fun w h => List.mem_cons_of_mem _ h) q_946 q_947 q_12 q_948) rfl rfl rfl hy_w_back ⟨Nat.le_of_ble_eq_true rfl, Nat.le_of_ble_eq_true rfl⟩) rfl) ?_
  refine rcons (ro_istore (by decide +kernel) rfl) ?_
  refine rcons (ro_aload_n (k := 2) rfl (by decide +kernel) rfl) ?_
  refine rcons (ro_aload_n (k := 0) rfl (by decide +kernel) rfl) ?_
  refine rcons (ro_iload (by decide +kernel) rfl) ?_
  refine rcons (ro_iconst (n := 1) (by decide +kernel) rfl rfl) ?_
  refine rcons (ro_iadd (by decide +kernel) rfl) ?_
  refine rcons (ro_isc (fun _ h => h) (by decide +kernel) rfl) ?_
  refine rcons (ro_callVH (C := rN1) (T := rF1) (N := 7) rfl ok_d_back (by decide +kernel) trivial (by decide) (fun s args ht => cwV (C := rN1) 1 ht (rgoodV (C := rN1) (fun w h => List.mem_cons_of_mem _ h) q_1244 q_1245 q_1246 q_14 q_1247) rfl rfl rfl hv_d_back ⟨Nat.le_of_ble_eq_true rfl, Nat.le_of_ble_eq_true rfl⟩) rfl) ?_
  refine rcons (ro_istore (by decide +kernel) rfl) ?_
  refine rcons (ro_goto (off := 109) (by decide +kernel) rfl) ?_
  refine rcons (ro_stop) ?_
  exact rnil
def ps_l47 : List Nat := [2344, 2345, 2346, 2348, 2349, 2350, 2351, 2352, 2355, 2357, 2358, 2359, 2361, 2362, 2363, 2364, 2367, 2369, 2450]
def tb_l47 (L : Nat) (xs : Nat → Int32) (i : Int32) (g1 : Bool) (v1 : Int32) (g2 : Bool) (v2 : Int32) (g3 : Bool) (v3 : Int32) (g4 : Bool) (v4 : Int32) (z2 z3 z4 : Bool) : List RT := [tq_al 1, tq_al 0, tq_il 4, tq_ic 1, tq_i2 (fun x y => x + y), tq_isc L xs g1 v1, tq_al 3, tq_callH m_w_isKept 3 1 1171 [], tq_is 7 5, tq_al 2, tq_al 0, tq_il 4, tq_ic 1, tq_i2 (fun x y => x + y), tq_isc L xs g1 v1, tq_callH (rV 1 m_d_isKept) 2 0 1171 [], tq_is 7 6, tq_go 18, tq_stop i]
set_option maxHeartbeats 4000000 in
set_option maxRecDepth 20000 in
theorem ok_l47 (L : Nat) (xs : Nat → Int32) (i : Int32) (g1 : Bool) (v1 : Int32) (g2 : Bool) (v2 : Int32) (g3 : Bool) (v3 : Int32) (g4 : Bool) (v4 : Int32) (z2 z3 z4 : Bool) : rAll (rOk (fun G => rSc G = (L, xs)) code "RingdaysLaw" 7 rTL room_1 [] 1171 (.inr (2450, i)) (fun o => ps_l47.getD o 0)) ps_l47 (tb_l47 L xs i g1 v1 g2 v2 g3 v3 g4 v4 z2 z3 z4) := by
  refine rcons (ro_aload_n (k := 1) rfl (by decide +kernel) rfl) ?_
  refine rcons (ro_aload_n (k := 0) rfl (by decide +kernel) rfl) ?_
  refine rcons (ro_iload (by decide +kernel) rfl) ?_
  refine rcons (ro_iconst (n := 1) (by decide +kernel) rfl rfl) ?_
  refine rcons (ro_iadd (by decide +kernel) rfl) ?_
  refine rcons (ro_isc (fun _ h => h) (by decide +kernel) rfl) ?_
  refine rcons (ro_aload_n (k := 3) rfl (by decide +kernel) rfl) ?_
  refine rcons (ro_callSX ok_w_isKept (by decide +kernel) rfl (fun s args ht => vx_cwSW 3 ht (rgoodS (fun w h => List.mem_cons_of_mem _ h) q_973 q_974 q_12 q_975) rfl rfl rfl hy_w_isKept ⟨Nat.le_of_ble_eq_true rfl, Nat.le_of_ble_eq_true rfl⟩) rfl) ?_
  refine rcons (ro_istore (by decide +kernel) rfl) ?_
  refine rcons (ro_aload_n (k := 2) rfl (by decide +kernel) rfl) ?_
  refine rcons (ro_aload_n (k := 0) rfl (by decide +kernel) rfl) ?_
  refine rcons (ro_iload (by decide +kernel) rfl) ?_
  refine rcons (ro_iconst (n := 1) (by decide +kernel) rfl rfl) ?_
  refine rcons (ro_iadd (by decide +kernel) rfl) ?_
  refine rcons (ro_isc (fun _ h => h) (by decide +kernel) rfl) ?_
  refine rcons (ro_callVH (C := rN1) (T := rF1) (N := 7) rfl ok_d_isKept (by decide +kernel) trivial (by decide) (fun s args ht => cwV (C := rN1) 1 ht (rgoodV (C := rN1) (fun w h => List.mem_cons_of_mem _ h) q_1248 q_1249 q_1250 q_14 q_1251) rfl rfl rfl hv_d_isKept ⟨Nat.le_of_ble_eq_true rfl, Nat.le_of_ble_eq_true rfl⟩) rfl) ?_
  refine rcons (ro_istore (by decide +kernel) rfl) ?_
  refine rcons (ro_goto (off := 81) (by decide +kernel) rfl) ?_
  refine rcons (ro_stop) ?_
  exact rnil
def ps_l50 : List Nat := [2398, 2399, 2402, 2403, 2404, 2407, 2408, 2450]
def tb_l50 (L : Nat) (xs : Nat → Int32) (i : Int32) (g1 : Bool) (v1 : Int32) (g2 : Bool) (v2 : Int32) (g3 : Bool) (v3 : Int32) (g4 : Bool) (v4 : Int32) (z2 z3 z4 : Bool) : List RT := [tq_al 1, tq_callH (rV 0 m_c_acts) 1 0 1171 [], tq_pop, tq_al 2, tq_callH (rV 1 m_d_acts) 1 0 1171 [], tq_pop, tq_go 7, tq_stop i]
set_option maxHeartbeats 4000000 in
set_option maxRecDepth 20000 in
theorem ok_l50 (L : Nat) (xs : Nat → Int32) (i : Int32) (g1 : Bool) (v1 : Int32) (g2 : Bool) (v2 : Int32) (g3 : Bool) (v3 : Int32) (g4 : Bool) (v4 : Int32) (z2 z3 z4 : Bool) : rAll (rOk (fun G => rSc G = (L, xs)) code "RingdaysLaw" 7 rTL room_1 [] 1171 (.inr (2450, i)) (fun o => ps_l50.getD o 0)) ps_l50 (tb_l50 L xs i g1 v1 g2 v2 g3 v3 g4 v4 z2 z3 z4) := by
  refine rcons (ro_aload_n (k := 1) rfl (by decide +kernel) rfl) ?_
  refine rcons (ro_callVH (C := rN0) (T := rF0) (N := 7) rfl ok_c_acts (by decide +kernel) trivial (by decide) (fun s args ht => cwV (C := rN0) 0 ht (rgoodV (C := rN0) (fun w h => List.mem_cons_of_mem _ h) q_430 q_431 q_432 q_13 q_433) rfl rfl rfl hv_c_acts ⟨Nat.le_of_ble_eq_true rfl, Nat.le_of_ble_eq_true rfl⟩) rfl) ?_
  refine rcons (ro_pop (by decide +kernel) rfl) ?_
  refine rcons (ro_aload_n (k := 2) rfl (by decide +kernel) rfl) ?_
  refine rcons (ro_callVH (C := rN1) (T := rF1) (N := 7) rfl ok_d_acts (by decide +kernel) trivial (by decide) (fun s args ht => cwV (C := rN1) 0 ht (rgoodV (C := rN1) (fun w h => List.mem_cons_of_mem _ h) q_1265 q_1266 q_1267 q_14 q_1268) rfl rfl rfl hv_d_acts ⟨Nat.le_of_ble_eq_true rfl, Nat.le_of_ble_eq_true rfl⟩) rfl) ?_
  refine rcons (ro_pop (by decide +kernel) rfl) ?_
  refine rcons (ro_goto (off := 42) (by decide +kernel) rfl) ?_
  refine rcons (ro_stop) ?_
  exact rnil
def ps_l51 : List Nat := [2411, 2412, 2415, 2416, 2419, 2422, 2423, 2450]
def tb_l51 (L : Nat) (xs : Nat → Int32) (i : Int32) (g1 : Bool) (v1 : Int32) (g2 : Bool) (v2 : Int32) (g3 : Bool) (v3 : Int32) (g4 : Bool) (v4 : Int32) (z2 z3 z4 : Bool) : List RT := [tq_al 1, tq_callH (rV 0 m_c_knock) 1 0 1171 [], tq_al 2, tq_callH (rV 1 m_d_knock) 1 0 1171 [], tq_if2 (fun x y => decide (x = y)) 7, tq_ic 0, tq_bad, tq_stop i]
set_option maxHeartbeats 4000000 in
set_option maxRecDepth 20000 in
theorem ok_l51 (L : Nat) (xs : Nat → Int32) (i : Int32) (g1 : Bool) (v1 : Int32) (g2 : Bool) (v2 : Int32) (g3 : Bool) (v3 : Int32) (g4 : Bool) (v4 : Int32) (z2 z3 z4 : Bool) : rAll (rOk (fun G => rSc G = (L, xs)) code "RingdaysLaw" 7 rTL room_1 [] 1171 (.inr (2450, i)) (fun o => ps_l51.getD o 0)) ps_l51 (tb_l51 L xs i g1 v1 g2 v2 g3 v3 g4 v4 z2 z3 z4) := by
  refine rcons (ro_aload_n (k := 1) rfl (by decide +kernel) rfl) ?_
  refine rcons (ro_callVH (C := rN0) (T := rF0) (N := 7) rfl ok_c_knock (by decide +kernel) trivial (by decide) (fun s args ht => cwV (C := rN0) 0 ht (rgoodV (C := rN0) (fun w h => List.mem_cons_of_mem _ h) q_434 q_435 q_436 q_13 q_437) rfl rfl rfl hv_c_knock ⟨Nat.le_of_ble_eq_true rfl, Nat.le_of_ble_eq_true rfl⟩) rfl) ?_
  refine rcons (ro_aload_n (k := 2) rfl (by decide +kernel) rfl) ?_
  refine rcons (ro_callVH (C := rN1) (T := rF1) (N := 7) rfl ok_d_knock (by decide +kernel) trivial (by decide) (fun s args ht => cwV (C := rN1) 0 ht (rgoodV (C := rN1) (fun w h => List.mem_cons_of_mem _ h) q_1269 q_1270 q_1271 q_14 q_1272) rfl rfl rfl hv_d_knock ⟨Nat.le_of_ble_eq_true rfl, Nat.le_of_ble_eq_true rfl⟩) rfl) ?_
  refine rcons (ro_icmp_eq (off := 31) (by decide +kernel) rfl rfl) ?_
  refine rcons (ro_iconst (n := 0) (by decide +kernel) rfl rfl) ?_
  refine rcons (ro_bad) ?_
  refine rcons (ro_stop) ?_
  exact rnil
end RKM

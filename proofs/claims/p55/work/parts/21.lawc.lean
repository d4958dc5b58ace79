section RKM
def dl_l36 : List (Nat × Instr × Nat) := [(1796, .aload_n 1, 1), (1797, .aload_n 0, 1), (1798, .iload 4, 2), (1800, .iconst 1, 1), (1801, .iadd, 1), (1802, .iaload, 1), (1803, .aload_n 3, 1), (1804, .invokestatic 300, 3), (1807, .istore 5, 2), (1809, .aload_n 2, 1), (1810, .aload_n 0, 1), (1811, .iload 4, 2), (1813, .iconst 1, 1), (1814, .iadd, 1), (1815, .iaload, 1), (1816, .invokevirtual 302, 3), (1819, .istore 6, 2), (1821, .goto 630, 3)]
theorem dc_l36 : ∀ (k : Nat) (q : Nat × Instr × Nat), dl_l36[k]? = some q → decode code q.1 = .ok q.2 := dchk_at (a := 1796) (by decide +kernel)
def ps_l36 : List Nat := [1796, 1797, 1798, 1800, 1801, 1802, 1803, 1804, 1807, 1809, 1810, 1811, 1813, 1814, 1815, 1816, 1819, 1821, 2451]
def tb_l36 (L : Nat) (xs : Nat → Int32) (i : Int32) (g1 : Bool) (v1 : Int32) (g2 : Bool) (v2 : Int32) (g3 : Bool) (v3 : Int32) (g4 : Bool) (v4 : Int32) (z2 z3 z4 : Bool) : List RT := [tq_al 1, tq_al 0, tq_il 4, tq_ic 1, tq_i2 (fun x y => x + y), tq_isc L xs g1 v1, tq_al 3, tq_callH m_w_greatest 3 1 1000 [], tq_is 7 5, tq_al 2, tq_al 0, tq_il 4, tq_ic 1, tq_i2 (fun x y => x + y), tq_isc L xs g1 v1, tq_callH (rV 1 m_d_greatest) 2 0 1000 [], tq_is 7 6, tq_go 18, tq_stop i]
set_option maxHeartbeats 4000000 in
set_option maxRecDepth 20000 in
theorem ok_l36 (L : Nat) (xs : Nat → Int32) (i : Int32) (g1 : Bool) (v1 : Int32) (g2 : Bool) (v2 : Int32) (g3 : Bool) (v3 : Int32) (g4 : Bool) (v4 : Int32) (z2 z3 z4 : Bool) : rAll (rOk (fun G => rSc G = (L, xs)) code "RingdaysLaw" 7 rTL room_1 [] 1000 (.inr (2451, i)) (fun o => ps_l36.getD o 0)) ps_l36 (tb_l36 L xs i g1 v1 g2 v2 g3 v3 g4 v4 z2 z3 z4) := by
  refine rcons (ro_aload_n (k := 1) rfl (dca dc_l36 0 rfl) rfl) ?_
  refine rcons (ro_aload_n (k := 0) rfl (dca dc_l36 1 rfl) rfl) ?_
  refine rcons (ro_iload (dca dc_l36 2 rfl) rfl) ?_
  refine rcons (ro_iconst (n := 1) (dca dc_l36 3 rfl) rfl rfl) ?_
  refine rcons (ro_iadd (dca dc_l36 4 rfl) rfl) ?_
  refine rcons (ro_isc (fun _ h => h) (dca dc_l36 5 rfl) rfl) ?_
  refine rcons (ro_aload_n (k := 3) rfl (dca dc_l36 6 rfl) rfl) ?_
  refine rcons (ro_callSX ok_w_greatest (dca dc_l36 7 rfl) rfl (fun s args ht => vx_cwSW 3 ht (rgoodS (fun w h => List.mem_cons_of_mem _ h) q_869 q_870 q_12 q_871) rfl rfl rfl hy_w_greatest ⟨Nat.le_of_ble_eq_true rfl, Nat.le_of_ble_eq_true rfl⟩) rfl) ?_
  refine rcons (ro_istore (dca dc_l36 8 rfl) rfl) ?_
  refine rcons (ro_aload_n (k := 2) rfl (dca dc_l36 9 rfl) rfl) ?_
  refine rcons (ro_aload_n (k := 0) rfl (dca dc_l36 10 rfl) rfl) ?_
  refine rcons (ro_iload (dca dc_l36 11 rfl) rfl) ?_
  refine rcons (ro_iconst (n := 1) (dca dc_l36 12 rfl) rfl rfl) ?_
  refine rcons (ro_iadd (dca dc_l36 13 rfl) rfl) ?_
  refine rcons (ro_isc (fun _ h => h) (dca dc_l36 14 rfl) rfl) ?_
  refine rcons (ro_callVH (C := rN1) (T := rF1) (N := 7) rfl ok_d_greatest (dca dc_l36 15 rfl) trivial (by decide) (fun s args ht => cwV (C := rN1) 1 ht (rgoodV (C := rN1) (fun w h => List.mem_cons_of_mem _ h) q_1192 q_1193 q_1194 q_14 q_1195) rfl rfl rfl hv_d_greatest ⟨Nat.le_of_ble_eq_true rfl, Nat.le_of_ble_eq_true rfl⟩) rfl) ?_
  refine rcons (ro_istore (dca dc_l36 16 rfl) rfl) ?_
  refine rcons (ro_goto (off := 630) (dca dc_l36 17 rfl) rfl) ?_
  refine rcons (ro_stop) ?_
  exact rnil
def dl_l37 : List (Nat × Instr × Nat) := [(1824, .aload_n 1, 1), (1825, .aload_n 0, 1), (1826, .iload 4, 2), (1828, .iconst 1, 1), (1829, .iadd, 1), (1830, .iaload, 1), (1831, .aload_n 0, 1), (1832, .iload 4, 2), (1834, .iconst 2, 1), (1835, .iadd, 1), (1836, .iaload, 1), (1837, .ifCond .eq 7, 3), (1840, .iconst 1, 1), (1841, .goto 4, 3), (1844, .iconst 0, 1), (1845, .aload_n 3, 1), (1846, .invokestatic 303, 3), (1849, .istore 5, 2), (1851, .aload_n 2, 1), (1852, .aload_n 0, 1), (1853, .iload 4, 2), (1855, .iconst 1, 1), (1856, .iadd, 1), (1857, .iaload, 1), (1858, .aload_n 0, 1), (1859, .iload 4, 2), (1861, .iconst 2, 1), (1862, .iadd, 1), (1863, .iaload, 1), (1864, .ifCond .eq 7, 3), (1867, .iconst 1, 1), (1868, .goto 4, 3), (1871, .iconst 0, 1), (1872, .invokevirtual 305, 3), (1875, .istore 6, 2), (1877, .goto 574, 3)]
theorem dc_l37 : ∀ (k : Nat) (q : Nat × Instr × Nat), dl_l37[k]? = some q → decode code q.1 = .ok q.2 := dchk_at (a := 1824) (by decide +kernel)
def ps_l37 : List Nat := [1824, 1825, 1826, 1828, 1829, 1830, 1831, 1832, 1834, 1835, 1836, 1837, 1840, 1841, 1844, 1845, 1846, 1849, 1851, 1852, 1853, 1855, 1856, 1857, 1858, 1859, 1861, 1862, 1863, 1864, 1867, 1868, 1871, 1872, 1875, 1877, 2451]
def tb_l37 (L : Nat) (xs : Nat → Int32) (i : Int32) (g1 : Bool) (v1 : Int32) (g2 : Bool) (v2 : Int32) (g3 : Bool) (v3 : Int32) (g4 : Bool) (v4 : Int32) (z2 z3 z4 : Bool) : List RT := [tq_al 1, tq_al 0, tq_il 4, tq_ic 1, tq_i2 (fun x y => x + y), tq_isc L xs g1 v1, tq_al 0, tq_il 4, tq_ic 2, tq_i2 (fun x y => x + y), tq_isc L xs g2 v2, tq_sv (fun x => decide (x = 0)) z2 1 0 15, tq_ic 1, tq_go 15, tq_ic 0, tq_al 3, tq_callH m_w_first 4 1 1000 [], tq_is 7 5, tq_al 2, tq_al 0, tq_il 4, tq_ic 1, tq_i2 (fun x y => x + y), tq_isc L xs g1 v1, tq_al 0, tq_il 4, tq_ic 2, tq_i2 (fun x y => x + y), tq_isc L xs g2 v2, tq_sv (fun x => decide (x = 0)) z2 1 0 33, tq_ic 1, tq_go 33, tq_ic 0, tq_callH (rV 1 m_d_first) 3 0 1000 [], tq_is 7 6, tq_go 36, tq_stop i]
set_option maxHeartbeats 4000000 in
set_option maxRecDepth 20000 in
theorem ok_l37 (L : Nat) (xs : Nat → Int32) (i : Int32) (g1 : Bool) (v1 : Int32) (g2 : Bool) (v2 : Int32) (g3 : Bool) (v3 : Int32) (g4 : Bool) (v4 : Int32) (z2 z3 z4 : Bool) : rAll (rOk (fun G => rSc G = (L, xs)) code "RingdaysLaw" 7 rTL room_1 [] 1000 (.inr (2451, i)) (fun o => ps_l37.getD o 0)) ps_l37 (tb_l37 L xs i g1 v1 g2 v2 g3 v3 g4 v4 z2 z3 z4) := by
  refine rcons (ro_aload_n (k := 1) rfl (dca dc_l37 0 rfl) rfl) ?_
  refine rcons (ro_aload_n (k := 0) rfl (dca dc_l37 1 rfl) rfl) ?_
  refine rcons (ro_iload (dca dc_l37 2 rfl) rfl) ?_
  refine rcons (ro_iconst (n := 1) (dca dc_l37 3 rfl) rfl rfl) ?_
  refine rcons (ro_iadd (dca dc_l37 4 rfl) rfl) ?_
  refine rcons (ro_isc (fun _ h => h) (dca dc_l37 5 rfl) rfl) ?_
  refine rcons (ro_aload_n (k := 0) rfl (dca dc_l37 6 rfl) rfl) ?_
  refine rcons (ro_iload (dca dc_l37 7 rfl) rfl) ?_
  refine rcons (ro_iconst (n := 2) (dca dc_l37 8 rfl) rfl rfl) ?_
  refine rcons (ro_iadd (dca dc_l37 9 rfl) rfl) ?_
  refine rcons (ro_isc (fun _ h => h) (dca dc_l37 10 rfl) rfl) ?_
  refine rcons (ro_sv (ro_s1_eq (off := 7) (off2 := 4) (n1 := 1) (n2 := 0) (dca dc_l37 11 rfl) (dca dc_l37 12 rfl) rfl (dca dc_l37 13 rfl) (dca dc_l37 14 rfl) rfl rfl rfl rfl)) ?_
  refine rcons (ro_iconst (n := 1) (dca dc_l37 12 rfl) rfl rfl) ?_
  refine rcons (ro_goto (off := 4) (dca dc_l37 13 rfl) rfl) ?_
  refine rcons (ro_iconst (n := 0) (dca dc_l37 14 rfl) rfl rfl) ?_
  refine rcons (ro_aload_n (k := 3) rfl (dca dc_l37 15 rfl) rfl) ?_
  refine rcons (ro_callSX ok_w_first (dca dc_l37 16 rfl) rfl (fun s args ht => vx_cwSW 4 ht (rgoodS (fun w h => List.mem_cons_of_mem _ h) q_876 q_877 q_12 q_878) rfl rfl rfl hy_w_first ⟨Nat.le_of_ble_eq_true rfl, Nat.le_of_ble_eq_true rfl⟩) rfl) ?_
  refine rcons (ro_istore (dca dc_l37 17 rfl) rfl) ?_
  refine rcons (ro_aload_n (k := 2) rfl (dca dc_l37 18 rfl) rfl) ?_
  refine rcons (ro_aload_n (k := 0) rfl (dca dc_l37 19 rfl) rfl) ?_
  refine rcons (ro_iload (dca dc_l37 20 rfl) rfl) ?_
  refine rcons (ro_iconst (n := 1) (dca dc_l37 21 rfl) rfl rfl) ?_
  refine rcons (ro_iadd (dca dc_l37 22 rfl) rfl) ?_
  refine rcons (ro_isc (fun _ h => h) (dca dc_l37 23 rfl) rfl) ?_
  refine rcons (ro_aload_n (k := 0) rfl (dca dc_l37 24 rfl) rfl) ?_
  refine rcons (ro_iload (dca dc_l37 25 rfl) rfl) ?_
  refine rcons (ro_iconst (n := 2) (dca dc_l37 26 rfl) rfl rfl) ?_
  refine rcons (ro_iadd (dca dc_l37 27 rfl) rfl) ?_
  refine rcons (ro_isc (fun _ h => h) (dca dc_l37 28 rfl) rfl) ?_
  refine rcons (ro_sv (ro_s1_eq (off := 7) (off2 := 4) (n1 := 1) (n2 := 0) (dca dc_l37 29 rfl) (dca dc_l37 30 rfl) rfl (dca dc_l37 31 rfl) (dca dc_l37 32 rfl) rfl rfl rfl rfl)) ?_
  refine rcons (ro_iconst (n := 1) (dca dc_l37 30 rfl) rfl rfl) ?_
  refine rcons (ro_goto (off := 4) (dca dc_l37 31 rfl) rfl) ?_
  refine rcons (ro_iconst (n := 0) (dca dc_l37 32 rfl) rfl rfl) ?_
  refine rcons (ro_callVH (C := rN1) (T := rF1) (N := 7) rfl ok_d_first (dca dc_l37 33 rfl) trivial (by decide) (fun s args ht => cwV (C := rN1) 2 ht (rgoodV (C := rN1) (fun w h => List.mem_cons_of_mem _ h) q_1196 q_1197 q_1198 q_14 q_1199) rfl rfl rfl hv_d_first ⟨Nat.le_of_ble_eq_true rfl, Nat.le_of_ble_eq_true rfl⟩) rfl) ?_
  refine rcons (ro_istore (dca dc_l37 34 rfl) rfl) ?_
  refine rcons (ro_goto (off := 574) (dca dc_l37 35 rfl) rfl) ?_
  refine rcons (ro_stop) ?_
  exact rnil
def dl_l38 : List (Nat × Instr × Nat) := [(1880, .aload_n 1, 1), (1881, .aload_n 0, 1), (1882, .iload 4, 2), (1884, .iconst 1, 1), (1885, .iadd, 1), (1886, .iaload, 1), (1887, .aload_n 3, 1), (1888, .invokestatic 306, 3), (1891, .istore 5, 2), (1893, .aload_n 2, 1), (1894, .aload_n 0, 1), (1895, .iload 4, 2), (1897, .iconst 1, 1), (1898, .iadd, 1), (1899, .iaload, 1), (1900, .invokevirtual 308, 3), (1903, .istore 6, 2), (1905, .goto 546, 3)]
theorem dc_l38 : ∀ (k : Nat) (q : Nat × Instr × Nat), dl_l38[k]? = some q → decode code q.1 = .ok q.2 := dchk_at (a := 1880) (by decide +kernel)
def ps_l38 : List Nat := [1880, 1881, 1882, 1884, 1885, 1886, 1887, 1888, 1891, 1893, 1894, 1895, 1897, 1898, 1899, 1900, 1903, 1905, 2451]
def tb_l38 (L : Nat) (xs : Nat → Int32) (i : Int32) (g1 : Bool) (v1 : Int32) (g2 : Bool) (v2 : Int32) (g3 : Bool) (v3 : Int32) (g4 : Bool) (v4 : Int32) (z2 z3 z4 : Bool) : List RT := [tq_al 1, tq_al 0, tq_il 4, tq_ic 1, tq_i2 (fun x y => x + y), tq_isc L xs g1 v1, tq_al 3, tq_callH m_w_quarter 3 1 1000 [], tq_is 7 5, tq_al 2, tq_al 0, tq_il 4, tq_ic 1, tq_i2 (fun x y => x + y), tq_isc L xs g1 v1, tq_callH (rV 1 m_d_quarter) 2 0 1000 [], tq_is 7 6, tq_go 18, tq_stop i]
set_option maxHeartbeats 4000000 in
set_option maxRecDepth 20000 in
theorem ok_l38 (L : Nat) (xs : Nat → Int32) (i : Int32) (g1 : Bool) (v1 : Int32) (g2 : Bool) (v2 : Int32) (g3 : Bool) (v3 : Int32) (g4 : Bool) (v4 : Int32) (z2 z3 z4 : Bool) : rAll (rOk (fun G => rSc G = (L, xs)) code "RingdaysLaw" 7 rTL room_1 [] 1000 (.inr (2451, i)) (fun o => ps_l38.getD o 0)) ps_l38 (tb_l38 L xs i g1 v1 g2 v2 g3 v3 g4 v4 z2 z3 z4) := by
  refine rcons (ro_aload_n (k := 1) rfl (dca dc_l38 0 rfl) rfl) ?_
  refine rcons (ro_aload_n (k := 0) rfl (dca dc_l38 1 rfl) rfl) ?_
  refine rcons (ro_iload (dca dc_l38 2 rfl) rfl) ?_
  refine rcons (ro_iconst (n := 1) (dca dc_l38 3 rfl) rfl rfl) ?_
  refine rcons (ro_iadd (dca dc_l38 4 rfl) rfl) ?_
  refine rcons (ro_isc (fun _ h => h) (dca dc_l38 5 rfl) rfl) ?_
  refine rcons (ro_aload_n (k := 3) rfl (dca dc_l38 6 rfl) rfl) ?_
  refine rcons (ro_callSX ok_w_quarter (dca dc_l38 7 rfl) rfl (fun s args ht => vx_cwSW 3 ht (rgoodS (fun w h => List.mem_cons_of_mem _ h) q_883 q_884 q_12 q_885) rfl rfl rfl hy_w_quarter ⟨Nat.le_of_ble_eq_true rfl, Nat.le_of_ble_eq_true rfl⟩) rfl) ?_
  refine rcons (ro_istore (dca dc_l38 8 rfl) rfl) ?_
  refine rcons (ro_aload_n (k := 2) rfl (dca dc_l38 9 rfl) rfl) ?_
  refine rcons (ro_aload_n (k := 0) rfl (dca dc_l38 10 rfl) rfl) ?_
  refine rcons (ro_iload (dca dc_l38 11 rfl) rfl) ?_
  refine rcons (ro_iconst (n := 1) (dca dc_l38 12 rfl) rfl rfl) ?_
  refine rcons (ro_iadd (dca dc_l38 13 rfl) rfl) ?_
  refine rcons (ro_isc (fun _ h => h) (dca dc_l38 14 rfl) rfl) ?_
  refine rcons (ro_callVH (C := rN1) (T := rF1) (N := 7) rfl ok_d_quarter (dca dc_l38 15 rfl) trivial (by decide) (fun s args ht => cwV (C := rN1) 1 ht (rgoodV (C := rN1) (fun w h => List.mem_cons_of_mem _ h) q_1203 q_1204 q_1205 q_14 q_1206) rfl rfl rfl hv_d_quarter ⟨Nat.le_of_ble_eq_true rfl, Nat.le_of_ble_eq_true rfl⟩) rfl) ?_
  refine rcons (ro_istore (dca dc_l38 16 rfl) rfl) ?_
  refine rcons (ro_goto (off := 546) (dca dc_l38 17 rfl) rfl) ?_
  refine rcons (ro_stop) ?_
  exact rnil
def dl_l39 : List (Nat × Instr × Nat) := [(1908, .aload_n 1, 1), (1909, .aload_n 0, 1), (1910, .iload 4, 2), (1912, .iconst 1, 1), (1913, .iadd, 1), (1914, .iaload, 1), (1915, .aload_n 3, 1), (1916, .invokestatic 309, 3), (1919, .istore 5, 2), (1921, .aload_n 2, 1), (1922, .aload_n 0, 1), (1923, .iload 4, 2), (1925, .iconst 1, 1), (1926, .iadd, 1), (1927, .iaload, 1), (1928, .invokevirtual 311, 3), (1931, .istore 6, 2), (1933, .goto 518, 3)]
theorem dc_l39 : ∀ (k : Nat) (q : Nat × Instr × Nat), dl_l39[k]? = some q → decode code q.1 = .ok q.2 := dchk_at (a := 1908) (by decide +kernel)
def ps_l39 : List Nat := [1908, 1909, 1910, 1912, 1913, 1914, 1915, 1916, 1919, 1921, 1922, 1923, 1925, 1926, 1927, 1928, 1931, 1933, 2451]
def tb_l39 (L : Nat) (xs : Nat → Int32) (i : Int32) (g1 : Bool) (v1 : Int32) (g2 : Bool) (v2 : Int32) (g3 : Bool) (v3 : Int32) (g4 : Bool) (v4 : Int32) (z2 z3 z4 : Bool) : List RT := [tq_al 1, tq_al 0, tq_il 4, tq_ic 1, tq_i2 (fun x y => x + y), tq_isc L xs g1 v1, tq_al 3, tq_callH m_w_toQuarter 3 2 1000 [], tq_is 7 5, tq_al 2, tq_al 0, tq_il 4, tq_ic 1, tq_i2 (fun x y => x + y), tq_isc L xs g1 v1, tq_callH (rV 1 m_d_toQuarter) 2 0 1000 [], tq_is 7 6, tq_go 18, tq_stop i]
set_option maxHeartbeats 4000000 in
set_option maxRecDepth 20000 in
theorem ok_l39 (L : Nat) (xs : Nat → Int32) (i : Int32) (g1 : Bool) (v1 : Int32) (g2 : Bool) (v2 : Int32) (g3 : Bool) (v3 : Int32) (g4 : Bool) (v4 : Int32) (z2 z3 z4 : Bool) : rAll (rOk (fun G => rSc G = (L, xs)) code "RingdaysLaw" 7 rTL room_1 [] 1000 (.inr (2451, i)) (fun o => ps_l39.getD o 0)) ps_l39 (tb_l39 L xs i g1 v1 g2 v2 g3 v3 g4 v4 z2 z3 z4) := by
  refine rcons (ro_aload_n (k := 1) rfl (dca dc_l39 0 rfl) rfl) ?_
  refine rcons (ro_aload_n (k := 0) rfl (dca dc_l39 1 rfl) rfl) ?_
  refine rcons (ro_iload (dca dc_l39 2 rfl) rfl) ?_
  refine rcons (ro_iconst (n := 1) (dca dc_l39 3 rfl) rfl rfl) ?_
  refine rcons (ro_iadd (dca dc_l39 4 rfl) rfl) ?_
  refine rcons (ro_isc (fun _ h => h) (dca dc_l39 5 rfl) rfl) ?_
  refine rcons (ro_aload_n (k := 3) rfl (dca dc_l39 6 rfl) rfl) ?_
  refine rcons (ro_callSX ok_w_toQuarter (dca dc_l39 7 rfl) rfl (fun s args ht => vx_cwSW 3 ht (rgoodS (fun w h => List.mem_cons_of_mem _ h) q_890 q_891 q_12 q_892) rfl rfl rfl hy_w_toQuarter ⟨Nat.le_of_ble_eq_true rfl, Nat.le_of_ble_eq_true rfl⟩) rfl) ?_
  refine rcons (ro_istore (dca dc_l39 8 rfl) rfl) ?_
  refine rcons (ro_aload_n (k := 2) rfl (dca dc_l39 9 rfl) rfl) ?_
  refine rcons (ro_aload_n (k := 0) rfl (dca dc_l39 10 rfl) rfl) ?_
  refine rcons (ro_iload (dca dc_l39 11 rfl) rfl) ?_
  refine rcons (ro_iconst (n := 1) (dca dc_l39 12 rfl) rfl rfl) ?_
  refine rcons (ro_iadd (dca dc_l39 13 rfl) rfl) ?_
  refine rcons (ro_isc (fun _ h => h) (dca dc_l39 14 rfl) rfl) ?_
  refine rcons (ro_callVH (C := rN1) (T := rF1) (N := 7) rfl ok_d_toQuarter (dca dc_l39 15 rfl) trivial (by decide) (fun s args ht => cwV (C := rN1) 1 ht (rgoodV (C := rN1) (fun w h => List.mem_cons_of_mem _ h) q_1210 q_1211 q_1212 q_14 q_1213) rfl rfl rfl hv_d_toQuarter ⟨Nat.le_of_ble_eq_true rfl, Nat.le_of_ble_eq_true rfl⟩) rfl) ?_
  refine rcons (ro_istore (dca dc_l39 16 rfl) rfl) ?_
  refine rcons (ro_goto (off := 518) (dca dc_l39 17 rfl) rfl) ?_
  refine rcons (ro_stop) ?_
  exact rnil
def dl_l40 : List (Nat × Instr × Nat) := [(1936, .aload_n 1, 1), (1937, .aload_n 0, 1), (1938, .iload 4, 2), (1940, .iconst 1, 1), (1941, .iadd, 1), (1942, .iaload, 1), (1943, .aload_n 0, 1), (1944, .iload 4, 2), (1946, .iconst 2, 1), (1947, .iadd, 1), (1948, .iaload, 1), (1949, .aload_n 0, 1), (1950, .iload 4, 2), (1952, .iconst 3, 1), (1953, .iadd, 1), (1954, .iaload, 1), (1955, .ifCond .eq 7, 3), (1958, .iconst 1, 1), (1959, .goto 4, 3), (1962, .iconst 0, 1), (1963, .aload_n 3, 1), (1964, .invokestatic 312, 3), (1967, .istore 5, 2), (1969, .aload_n 2, 1), (1970, .aload_n 0, 1), (1971, .iload 4, 2), (1973, .iconst 1, 1), (1974, .iadd, 1), (1975, .iaload, 1), (1976, .aload_n 0, 1), (1977, .iload 4, 2), (1979, .iconst 2, 1), (1980, .iadd, 1), (1981, .iaload, 1), (1982, .aload_n 0, 1), (1983, .iload 4, 2), (1985, .iconst 3, 1), (1986, .iadd, 1), (1987, .iaload, 1), (1988, .ifCond .eq 7, 3), (1991, .iconst 1, 1), (1992, .goto 4, 3), (1995, .iconst 0, 1), (1996, .invokevirtual 315, 3), (1999, .istore 6, 2), (2001, .goto 450, 3)]
theorem dc_l40 : ∀ (k : Nat) (q : Nat × Instr × Nat), dl_l40[k]? = some q → decode code q.1 = .ok q.2 := dchk_at (a := 1936) (by decide +kernel)
def ps_l40 : List Nat := [1936, 1937, 1938, 1940, 1941, 1942, 1943, 1944, 1946, 1947, 1948, 1949, 1950, 1952, 1953, 1954, 1955, 1958, 1959, 1962, 1963, 1964, 1967, 1969, 1970, 1971, 1973, 1974, 1975, 1976, 1977, 1979, 1980, 1981, 1982, 1983, 1985, 1986, 1987, 1988, 1991, 1992, 1995, 1996, 1999, 2001, 2451]
def tb_l40 (L : Nat) (xs : Nat → Int32) (i : Int32) (g1 : Bool) (v1 : Int32) (g2 : Bool) (v2 : Int32) (g3 : Bool) (v3 : Int32) (g4 : Bool) (v4 : Int32) (z2 z3 z4 : Bool) : List RT := [tq_al 1, tq_al 0, tq_il 4, tq_ic 1, tq_i2 (fun x y => x + y), tq_isc L xs g1 v1, tq_al 0, tq_il 4, tq_ic 2, tq_i2 (fun x y => x + y), tq_isc L xs g2 v2, tq_al 0, tq_il 4, tq_ic 3, tq_i2 (fun x y => x + y), tq_isc L xs g3 v3, tq_sv (fun x => decide (x = 0)) z3 1 0 20, tq_ic 1, tq_go 20, tq_ic 0, tq_al 3, tq_callH m_w_step 5 4 1000 [], tq_is 7 5, tq_al 2, tq_al 0, tq_il 4, tq_ic 1, tq_i2 (fun x y => x + y), tq_isc L xs g1 v1, tq_al 0, tq_il 4, tq_ic 2, tq_i2 (fun x y => x + y), tq_isc L xs g2 v2, tq_al 0, tq_il 4, tq_ic 3, tq_i2 (fun x y => x + y), tq_isc L xs g3 v3, tq_sv (fun x => decide (x = 0)) z3 1 0 43, tq_ic 1, tq_go 43, tq_ic 0, tq_callH (rV 1 m_d_step) 4 0 1000 [], tq_is 7 6, tq_go 46, tq_stop i]
set_option maxHeartbeats 4000000 in
set_option maxRecDepth 20000 in
theorem ok_l40 (L : Nat) (xs : Nat → Int32) (i : Int32) (g1 : Bool) (v1 : Int32) (g2 : Bool) (v2 : Int32) (g3 : Bool) (v3 : Int32) (g4 : Bool) (v4 : Int32) (z2 z3 z4 : Bool) : rAll (rOk (fun G => rSc G = (L, xs)) code "RingdaysLaw" 7 rTL room_1 [] 1000 (.inr (2451, i)) (fun o => ps_l40.getD o 0)) ps_l40 (tb_l40 L xs i g1 v1 g2 v2 g3 v3 g4 v4 z2 z3 z4) := by
  refine rcons (ro_aload_n (k := 1) rfl (dca dc_l40 0 rfl) rfl) ?_
  refine rcons (ro_aload_n (k := 0) rfl (dca dc_l40 1 rfl) rfl) ?_
  refine rcons (ro_iload (dca dc_l40 2 rfl) rfl) ?_
  refine rcons (ro_iconst (n := 1) (dca dc_l40 3 rfl) rfl rfl) ?_
  refine rcons (ro_iadd (dca dc_l40 4 rfl) rfl) ?_
  refine rcons (ro_isc (fun _ h => h) (dca dc_l40 5 rfl) rfl) ?_
  refine rcons (ro_aload_n (k := 0) rfl (dca dc_l40 6 rfl) rfl) ?_
  refine rcons (ro_iload (dca dc_l40 7 rfl) rfl) ?_
  refine rcons (ro_iconst (n := 2) (dca dc_l40 8 rfl) rfl rfl) ?_
  refine rcons (ro_iadd (dca dc_l40 9 rfl) rfl) ?_
  refine rcons (ro_isc (fun _ h => h) (dca dc_l40 10 rfl) rfl) ?_
  refine rcons (ro_aload_n (k := 0) rfl (dca dc_l40 11 rfl) rfl) ?_
  refine rcons (ro_iload (dca dc_l40 12 rfl) rfl) ?_
  refine rcons (ro_iconst (n := 3) (dca dc_l40 13 rfl) rfl rfl) ?_
  refine rcons (ro_iadd (dca dc_l40 14 rfl) rfl) ?_
  refine rcons (ro_isc (fun _ h => h) (dca dc_l40 15 rfl) rfl) ?_
  refine rcons (ro_sv (ro_s1_eq (off := 7) (off2 := 4) (n1 := 1) (n2 := 0) (dca dc_l40 16 rfl) (dca dc_l40 17 rfl) rfl (dca dc_l40 18 rfl) (dca dc_l40 19 rfl) rfl rfl rfl rfl)) ?_
  refine rcons (ro_iconst (n := 1) (dca dc_l40 17 rfl) rfl rfl) ?_
  refine rcons (ro_goto (off := 4) (dca dc_l40 18 rfl) rfl) ?_
  refine rcons (ro_iconst (n := 0) (dca dc_l40 19 rfl) rfl rfl) ?_
  refine rcons (ro_aload_n (k := 3) rfl (dca dc_l40 20 rfl) rfl) ?_
  refine rcons (ro_callSX ok_w_step (dca dc_l40 21 rfl) rfl (fun s args ht => vx_cwSW 5 ht (rgoodS (fun w h => List.mem_cons_of_mem _ h) q_897 q_898 q_12 q_899) rfl rfl rfl hy_w_step ⟨Nat.le_of_ble_eq_true rfl, Nat.le_of_ble_eq_true rfl⟩) rfl) ?_
  refine rcons (ro_istore (dca dc_l40 22 rfl) rfl) ?_
  refine rcons (ro_aload_n (k := 2) rfl (dca dc_l40 23 rfl) rfl) ?_
  refine rcons (ro_aload_n (k := 0) rfl (dca dc_l40 24 rfl) rfl) ?_
  refine rcons (ro_iload (dca dc_l40 25 rfl) rfl) ?_
  refine rcons (ro_iconst (n := 1) (dca dc_l40 26 rfl) rfl rfl) ?_
  refine rcons (ro_iadd (dca dc_l40 27 rfl) rfl) ?_
  refine rcons (ro_isc (fun _ h => h) (dca dc_l40 28 rfl) rfl) ?_
  refine rcons (ro_aload_n (k := 0) rfl (dca dc_l40 29 rfl) rfl) ?_
  refine rcons (ro_iload (dca dc_l40 30 rfl) rfl) ?_
  refine rcons (ro_iconst (n := 2) (dca dc_l40 31 rfl) rfl rfl) ?_
  refine rcons (ro_iadd (dca dc_l40 32 rfl) rfl) ?_
  refine rcons (ro_isc (fun _ h => h) (dca dc_l40 33 rfl) rfl) ?_
  refine rcons (ro_aload_n (k := 0) rfl (dca dc_l40 34 rfl) rfl) ?_
  refine rcons (ro_iload (dca dc_l40 35 rfl) rfl) ?_
  refine rcons (ro_iconst (n := 3) (dca dc_l40 36 rfl) rfl rfl) ?_
  refine rcons (ro_iadd (dca dc_l40 37 rfl) rfl) ?_
  refine rcons (ro_isc (fun _ h => h) (dca dc_l40 38 rfl) rfl) ?_
  refine rcons (ro_sv (ro_s1_eq (off := 7) (off2 := 4) (n1 := 1) (n2 := 0) (dca dc_l40 39 rfl) (dca dc_l40 40 rfl) rfl (dca dc_l40 41 rfl) (dca dc_l40 42 rfl) rfl rfl rfl rfl)) ?_
  refine rcons (ro_iconst (n := 1) (dca dc_l40 40 rfl) rfl rfl) ?_
  refine rcons (ro_goto (off := 4) (dca dc_l40 41 rfl) rfl) ?_
  refine rcons (ro_iconst (n := 0) (dca dc_l40 42 rfl) rfl rfl) ?_
  refine rcons (ro_callVH (C := rN1) (T := rF1) (N := 7) rfl ok_d_step (dca dc_l40 43 rfl) trivial (by decide) (fun s args ht => cwV (C := rN1) 3 ht (rgoodV (C := rN1) (fun w h => List.mem_cons_of_mem _ h) q_1214 q_1215 q_1216 q_14 q_1217) rfl rfl rfl hv_d_step ⟨Nat.le_of_ble_eq_true rfl, Nat.le_of_ble_eq_true rfl⟩) rfl) ?_
  refine rcons (ro_istore (dca dc_l40 44 rfl) rfl) ?_
  refine rcons (ro_goto (off := 450) (dca dc_l40 45 rfl) rfl) ?_
  refine rcons (ro_stop) ?_
  exact rnil
def dl_l41 : List (Nat × Instr × Nat) := [(2004, .aload_n 1, 1), (2005, .aload_n 0, 1), (2006, .iload 4, 2), (2008, .iconst 1, 1), (2009, .iadd, 1), (2010, .iaload, 1), (2011, .aload_n 0, 1), (2012, .iload 4, 2), (2014, .iconst 2, 1), (2015, .iadd, 1), (2016, .iaload, 1), (2017, .aload_n 0, 1), (2018, .iload 4, 2), (2020, .iconst 3, 1), (2021, .iadd, 1), (2022, .iaload, 1), (2023, .ifCond .eq 7, 3), (2026, .iconst 1, 1), (2027, .goto 4, 3), (2030, .iconst 0, 1), (2031, .aload_n 3, 1), (2032, .invokestatic 316, 3), (2035, .istore 5, 2), (2037, .aload_n 2, 1), (2038, .aload_n 0, 1), (2039, .iload 4, 2), (2041, .iconst 1, 1), (2042, .iadd, 1), (2043, .iaload, 1), (2044, .aload_n 0, 1), (2045, .iload 4, 2), (2047, .iconst 2, 1), (2048, .iadd, 1), (2049, .iaload, 1), (2050, .aload_n 0, 1), (2051, .iload 4, 2), (2053, .iconst 3, 1), (2054, .iadd, 1), (2055, .iaload, 1), (2056, .ifCond .eq 7, 3), (2059, .iconst 1, 1), (2060, .goto 4, 3), (2063, .iconst 0, 1), (2064, .invokevirtual 318, 3), (2067, .istore 6, 2), (2069, .goto 382, 3)]
theorem dc_l41 : ∀ (k : Nat) (q : Nat × Instr × Nat), dl_l41[k]? = some q → decode code q.1 = .ok q.2 := dchk_at (a := 2004) (by decide +kernel)
def ps_l41 : List Nat := [2004, 2005, 2006, 2008, 2009, 2010, 2011, 2012, 2014, 2015, 2016, 2017, 2018, 2020, 2021, 2022, 2023, 2026, 2027, 2030, 2031, 2032, 2035, 2037, 2038, 2039, 2041, 2042, 2043, 2044, 2045, 2047, 2048, 2049, 2050, 2051, 2053, 2054, 2055, 2056, 2059, 2060, 2063, 2064, 2067, 2069, 2451]
def tb_l41 (L : Nat) (xs : Nat → Int32) (i : Int32) (g1 : Bool) (v1 : Int32) (g2 : Bool) (v2 : Int32) (g3 : Bool) (v3 : Int32) (g4 : Bool) (v4 : Int32) (z2 z3 z4 : Bool) : List RT := [tq_al 1, tq_al 0, tq_il 4, tq_ic 1, tq_i2 (fun x y => x + y), tq_isc L xs g1 v1, tq_al 0, tq_il 4, tq_ic 2, tq_i2 (fun x y => x + y), tq_isc L xs g2 v2, tq_al 0, tq_il 4, tq_ic 3, tq_i2 (fun x y => x + y), tq_isc L xs g3 v3, tq_sv (fun x => decide (x = 0)) z3 1 0 20, tq_ic 1, tq_go 20, tq_ic 0, tq_al 3, tq_callH m_w_stepBack 5 4 1000 [], tq_is 7 5, tq_al 2, tq_al 0, tq_il 4, tq_ic 1, tq_i2 (fun x y => x + y), tq_isc L xs g1 v1, tq_al 0, tq_il 4, tq_ic 2, tq_i2 (fun x y => x + y), tq_isc L xs g2 v2, tq_al 0, tq_il 4, tq_ic 3, tq_i2 (fun x y => x + y), tq_isc L xs g3 v3, tq_sv (fun x => decide (x = 0)) z3 1 0 43, tq_ic 1, tq_go 43, tq_ic 0, tq_callH (rV 1 m_d_stepBack) 4 0 1000 [], tq_is 7 6, tq_go 46, tq_stop i]
set_option maxHeartbeats 4000000 in
set_option maxRecDepth 20000 in
theorem ok_l41 (L : Nat) (xs : Nat → Int32) (i : Int32) (g1 : Bool) (v1 : Int32) (g2 : Bool) (v2 : Int32) (g3 : Bool) (v3 : Int32) (g4 : Bool) (v4 : Int32) (z2 z3 z4 : Bool) : rAll (rOk (fun G => rSc G = (L, xs)) code "RingdaysLaw" 7 rTL room_1 [] 1000 (.inr (2451, i)) (fun o => ps_l41.getD o 0)) ps_l41 (tb_l41 L xs i g1 v1 g2 v2 g3 v3 g4 v4 z2 z3 z4) := by
  refine rcons (ro_aload_n (k := 1) rfl (dca dc_l41 0 rfl) rfl) ?_
  refine rcons (ro_aload_n (k := 0) rfl (dca dc_l41 1 rfl) rfl) ?_
  refine rcons (ro_iload (dca dc_l41 2 rfl) rfl) ?_
  refine rcons (ro_iconst (n := 1) (dca dc_l41 3 rfl) rfl rfl) ?_
  refine rcons (ro_iadd (dca dc_l41 4 rfl) rfl) ?_
  refine rcons (ro_isc (fun _ h => h) (dca dc_l41 5 rfl) rfl) ?_
  refine rcons (ro_aload_n (k := 0) rfl (dca dc_l41 6 rfl) rfl) ?_
  refine rcons (ro_iload (dca dc_l41 7 rfl) rfl) ?_
  refine rcons (ro_iconst (n := 2) (dca dc_l41 8 rfl) rfl rfl) ?_
  refine rcons (ro_iadd (dca dc_l41 9 rfl) rfl) ?_
  refine rcons (ro_isc (fun _ h => h) (dca dc_l41 10 rfl) rfl) ?_
  refine rcons (ro_aload_n (k := 0) rfl (dca dc_l41 11 rfl) rfl) ?_
  refine rcons (ro_iload (dca dc_l41 12 rfl) rfl) ?_
  refine rcons (ro_iconst (n := 3) (dca dc_l41 13 rfl) rfl rfl) ?_
  refine rcons (ro_iadd (dca dc_l41 14 rfl) rfl) ?_
  refine rcons (ro_isc (fun _ h => h) (dca dc_l41 15 rfl) rfl) ?_
  refine rcons (ro_sv (ro_s1_eq (off := 7) (off2 := 4) (n1 := 1) (n2 := 0) (dca dc_l41 16 rfl) (dca dc_l41 17 rfl) rfl (dca dc_l41 18 rfl) (dca dc_l41 19 rfl) rfl rfl rfl rfl)) ?_
  refine rcons (ro_iconst (n := 1) (dca dc_l41 17 rfl) rfl rfl) ?_
  refine rcons (ro_goto (off := 4) (dca dc_l41 18 rfl) rfl) ?_
  refine rcons (ro_iconst (n := 0) (dca dc_l41 19 rfl) rfl rfl) ?_
  refine rcons (ro_aload_n (k := 3) rfl (dca dc_l41 20 rfl) rfl) ?_
  refine rcons (ro_callSX ok_w_stepBack (dca dc_l41 21 rfl) rfl (fun s args ht => vx_cwSW 5 ht (rgoodS (fun w h => List.mem_cons_of_mem _ h) q_908 q_909 q_12 q_910) rfl rfl rfl hy_w_stepBack ⟨Nat.le_of_ble_eq_true rfl, Nat.le_of_ble_eq_true rfl⟩) rfl) ?_
  refine rcons (ro_istore (dca dc_l41 22 rfl) rfl) ?_
  refine rcons (ro_aload_n (k := 2) rfl (dca dc_l41 23 rfl) rfl) ?_
  refine rcons (ro_aload_n (k := 0) rfl (dca dc_l41 24 rfl) rfl) ?_
  refine rcons (ro_iload (dca dc_l41 25 rfl) rfl) ?_
  refine rcons (ro_iconst (n := 1) (dca dc_l41 26 rfl) rfl rfl) ?_
  refine rcons (ro_iadd (dca dc_l41 27 rfl) rfl) ?_
  refine rcons (ro_isc (fun _ h => h) (dca dc_l41 28 rfl) rfl) ?_
  refine rcons (ro_aload_n (k := 0) rfl (dca dc_l41 29 rfl) rfl) ?_
  refine rcons (ro_iload (dca dc_l41 30 rfl) rfl) ?_
  refine rcons (ro_iconst (n := 2) (dca dc_l41 31 rfl) rfl rfl) ?_
  refine rcons (ro_iadd (dca dc_l41 32 rfl) rfl) ?_
  refine rcons (ro_isc (fun _ h => h) (dca dc_l41 33 rfl) rfl) ?_
  refine rcons (ro_aload_n (k := 0) rfl (dca dc_l41 34 rfl) rfl) ?_
  refine rcons (ro_iload (dca dc_l41 35 rfl) rfl) ?_
  refine rcons (ro_iconst (n := 3) (dca dc_l41 36 rfl) rfl rfl) ?_
  refine rcons (ro_iadd (dca dc_l41 37 rfl) rfl) ?_
  refine rcons (ro_isc (fun _ h => h) (dca dc_l41 38 rfl) rfl) ?_
  refine rcons (ro_sv (ro_s1_eq (off := 7) (off2 := 4) (n1 := 1) (n2 := 0) (dca dc_l41 39 rfl) (dca dc_l41 40 rfl) rfl (dca dc_l41 41 rfl) (dca dc_l41 42 rfl) rfl rfl rfl rfl)) ?_
  refine rcons (ro_iconst (n := 1) (dca dc_l41 40 rfl) rfl rfl) ?_
  refine rcons (ro_goto (off := 4) (dca dc_l41 41 rfl) rfl) ?_
  refine rcons (ro_iconst (n := 0) (dca dc_l41 42 rfl) rfl rfl) ?_
  refine rcons (ro_callVH (C := rN1) (T := rF1) (N := 7) rfl ok_d_stepBack (dca dc_l41 43 rfl) trivial (by decide) (fun s args ht => cwV (C := rN1) 3 ht (rgoodV (C := rN1) (fun w h => List.mem_cons_of_mem _ h) q_1218 q_1219 q_1220 q_14 q_1221) rfl rfl rfl hv_d_stepBack ⟨Nat.le_of_ble_eq_true rfl, Nat.le_of_ble_eq_true rfl⟩) rfl) ?_
  refine rcons (ro_istore (dca dc_l41 44 rfl) rfl) ?_
  refine rcons (ro_goto (off := 382) (dca dc_l41 45 rfl) rfl) ?_
  refine rcons (ro_stop) ?_
  exact rnil
def dl_l42 : List (Nat × Instr × Nat) := [(2072, .aload_n 1, 1), (2073, .aload_n 0, 1), (2074, .iload 4, 2), (2076, .iconst 1, 1), (2077, .iadd, 1), (2078, .iaload, 1), (2079, .aload_n 0, 1), (2080, .iload 4, 2), (2082, .iconst 2, 1), (2083, .iadd, 1), (2084, .iaload, 1), (2085, .aload_n 0, 1), (2086, .iload 4, 2), (2088, .iconst 3, 1), (2089, .iadd, 1), (2090, .iaload, 1), (2091, .ifCond .eq 7, 3), (2094, .iconst 1, 1), (2095, .goto 4, 3), (2098, .iconst 0, 1), (2099, .aload_n 3, 1), (2100, .invokestatic 319, 3), (2103, .istore 5, 2), (2105, .aload_n 2, 1), (2106, .aload_n 0, 1), (2107, .iload 4, 2), (2109, .iconst 1, 1), (2110, .iadd, 1), (2111, .iaload, 1), (2112, .aload_n 0, 1), (2113, .iload 4, 2), (2115, .iconst 2, 1), (2116, .iadd, 1), (2117, .iaload, 1), (2118, .aload_n 0, 1), (2119, .iload 4, 2), (2121, .iconst 3, 1), (2122, .iadd, 1), (2123, .iaload, 1), (2124, .ifCond .eq 7, 3), (2127, .iconst 1, 1), (2128, .goto 4, 3), (2131, .iconst 0, 1), (2132, .invokevirtual 321, 3), (2135, .istore 6, 2), (2137, .goto 314, 3)]
theorem dc_l42 : ∀ (k : Nat) (q : Nat × Instr × Nat), dl_l42[k]? = some q → decode code q.1 = .ok q.2 := dchk_at (a := 2072) (by decide +kernel)
def ps_l42 : List Nat := [2072, 2073, 2074, 2076, 2077, 2078, 2079, 2080, 2082, 2083, 2084, 2085, 2086, 2088, 2089, 2090, 2091, 2094, 2095, 2098, 2099, 2100, 2103, 2105, 2106, 2107, 2109, 2110, 2111, 2112, 2113, 2115, 2116, 2117, 2118, 2119, 2121, 2122, 2123, 2124, 2127, 2128, 2131, 2132, 2135, 2137, 2451]
def tb_l42 (L : Nat) (xs : Nat → Int32) (i : Int32) (g1 : Bool) (v1 : Int32) (g2 : Bool) (v2 : Int32) (g3 : Bool) (v3 : Int32) (g4 : Bool) (v4 : Int32) (z2 z3 z4 : Bool) : List RT := [tq_al 1, tq_al 0, tq_il 4, tq_ic 1, tq_i2 (fun x y => x + y), tq_isc L xs g1 v1, tq_al 0, tq_il 4, tq_ic 2, tq_i2 (fun x y => x + y), tq_isc L xs g2 v2, tq_al 0, tq_il 4, tq_ic 3, tq_i2 (fun x y => x + y), tq_isc L xs g3 v3, tq_sv (fun x => decide (x = 0)) z3 1 0 20, tq_ic 1, tq_go 20, tq_ic 0, tq_al 3, tq_callH m_w_begins 5 2 1000 [], tq_is 7 5, tq_al 2, tq_al 0, tq_il 4, tq_ic 1, tq_i2 (fun x y => x + y), tq_isc L xs g1 v1, tq_al 0, tq_il 4, tq_ic 2, tq_i2 (fun x y => x + y), tq_isc L xs g2 v2, tq_al 0, tq_il 4, tq_ic 3, tq_i2 (fun x y => x + y), tq_isc L xs g3 v3, tq_sv (fun x => decide (x = 0)) z3 1 0 43, tq_ic 1, tq_go 43, tq_ic 0, tq_callH (rV 1 m_d_begins) 4 0 1000 [], tq_is 7 6, tq_go 46, tq_stop i]
set_option maxHeartbeats 4000000 in
set_option maxRecDepth 20000 in
theorem ok_l42 (L : Nat) (xs : Nat → Int32) (i : Int32) (g1 : Bool) (v1 : Int32) (g2 : Bool) (v2 : Int32) (g3 : Bool) (v3 : Int32) (g4 : Bool) (v4 : Int32) (z2 z3 z4 : Bool) : rAll (rOk (fun G => rSc G = (L, xs)) code "RingdaysLaw" 7 rTL room_1 [] 1000 (.inr (2451, i)) (fun o => ps_l42.getD o 0)) ps_l42 (tb_l42 L xs i g1 v1 g2 v2 g3 v3 g4 v4 z2 z3 z4) := by
  refine rcons (ro_aload_n (k := 1) rfl (dca dc_l42 0 rfl) rfl) ?_
  refine rcons (ro_aload_n (k := 0) rfl (dca dc_l42 1 rfl) rfl) ?_
  refine rcons (ro_iload (dca dc_l42 2 rfl) rfl) ?_
  refine rcons (ro_iconst (n := 1) (dca dc_l42 3 rfl) rfl rfl) ?_
  refine rcons (ro_iadd (dca dc_l42 4 rfl) rfl) ?_
  refine rcons (ro_isc (fun _ h => h) (dca dc_l42 5 rfl) rfl) ?_
  refine rcons (ro_aload_n (k := 0) rfl (dca dc_l42 6 rfl) rfl) ?_
  refine rcons (ro_iload (dca dc_l42 7 rfl) rfl) ?_
  refine rcons (ro_iconst (n := 2) (dca dc_l42 8 rfl) rfl rfl) ?_
  refine rcons (ro_iadd (dca dc_l42 9 rfl) rfl) ?_
  refine rcons (ro_isc (fun _ h => h) (dca dc_l42 10 rfl) rfl) ?_
  refine rcons (ro_aload_n (k := 0) rfl (dca dc_l42 11 rfl) rfl) ?_
  refine rcons (ro_iload (dca dc_l42 12 rfl) rfl) ?_
  refine rcons (ro_iconst (n := 3) (dca dc_l42 13 rfl) rfl rfl) ?_
  refine rcons (ro_iadd (dca dc_l42 14 rfl) rfl) ?_
  refine rcons (ro_isc (fun _ h => h) (dca dc_l42 15 rfl) rfl) ?_
  refine rcons (ro_sv (ro_s1_eq (off := 7) (off2 := 4) (n1 := 1) (n2 := 0) (dca dc_l42 16 rfl) (dca dc_l42 17 rfl) rfl (dca dc_l42 18 rfl) (dca dc_l42 19 rfl) rfl rfl rfl rfl)) ?_
  refine rcons (ro_iconst (n := 1) (dca dc_l42 17 rfl) rfl rfl) ?_
  refine rcons (ro_goto (off := 4) (dca dc_l42 18 rfl) rfl) ?_
  refine rcons (ro_iconst (n := 0) (dca dc_l42 19 rfl) rfl rfl) ?_
  refine rcons (ro_aload_n (k := 3) rfl (dca dc_l42 20 rfl) rfl) ?_
  refine rcons (ro_callSX ok_w_begins (dca dc_l42 21 rfl) rfl (fun s args ht => vx_cwSW 5 ht (rgoodS (fun w h => List.mem_cons_of_mem _ h) q_915 q_916 q_12 q_917) rfl rfl rfl hy_w_begins ⟨Nat.le_of_ble_eq_true rfl, Nat.le_of_ble_eq_true rfl⟩) rfl) ?_
  refine rcons (ro_istore (dca dc_l42 22 rfl) rfl) ?_
  refine rcons (ro_aload_n (k := 2) rfl (dca dc_l42 23 rfl) rfl) ?_
  refine rcons (ro_aload_n (k := 0) rfl (dca dc_l42 24 rfl) rfl) ?_
  refine rcons (ro_iload (dca dc_l42 25 rfl) rfl) ?_
  refine rcons (ro_iconst (n := 1) (dca dc_l42 26 rfl) rfl rfl) ?_
  refine rcons (ro_iadd (dca dc_l42 27 rfl) rfl) ?_
  refine rcons (ro_isc (fun _ h => h) (dca dc_l42 28 rfl) rfl) ?_
  refine rcons (ro_aload_n (k := 0) rfl (dca dc_l42 29 rfl) rfl) ?_
  refine rcons (ro_iload (dca dc_l42 30 rfl) rfl) ?_
  refine rcons (ro_iconst (n := 2) (dca dc_l42 31 rfl) rfl rfl) ?_
  refine rcons (ro_iadd (dca dc_l42 32 rfl) rfl) ?_
  refine rcons (ro_isc (fun _ h => h) (dca dc_l42 33 rfl) rfl) ?_
  refine rcons (ro_aload_n (k := 0) rfl (dca dc_l42 34 rfl) rfl) ?_
  refine rcons (ro_iload (dca dc_l42 35 rfl) rfl) ?_
  refine rcons (ro_iconst (n := 3) (dca dc_l42 36 rfl) rfl rfl) ?_
  refine rcons (ro_iadd (dca dc_l42 37 rfl) rfl) ?_
  refine rcons (ro_isc (fun _ h => h) (dca dc_l42 38 rfl) rfl) ?_
  refine rcons (ro_sv (ro_s1_eq (off := 7) (off2 := 4) (n1 := 1) (n2 := 0) (dca dc_l42 39 rfl) (dca dc_l42 40 rfl) rfl (dca dc_l42 41 rfl) (dca dc_l42 42 rfl) rfl rfl rfl rfl)) ?_
  refine rcons (ro_iconst (n := 1) (dca dc_l42 40 rfl) rfl rfl) ?_
  refine rcons (ro_goto (off := 4) (dca dc_l42 41 rfl) rfl) ?_
  refine rcons (ro_iconst (n := 0) (dca dc_l42 42 rfl) rfl rfl) ?_
  refine rcons (ro_callVH (C := rN1) (T := rF1) (N := 7) rfl ok_d_begins (dca dc_l42 43 rfl) trivial (by decide) (fun s args ht => cwV (C := rN1) 3 ht (rgoodV (C := rN1) (fun w h => List.mem_cons_of_mem _ h) q_1222 q_1223 q_1224 q_14 q_1225) rfl rfl rfl hv_d_begins ⟨Nat.le_of_ble_eq_true rfl, Nat.le_of_ble_eq_true rfl⟩) rfl) ?_
  refine rcons (ro_istore (dca dc_l42 44 rfl) rfl) ?_
  refine rcons (ro_goto (off := 314) (dca dc_l42 45 rfl) rfl) ?_
  refine rcons (ro_stop) ?_
  exact rnil
def dl_l43 : List (Nat × Instr × Nat) := [(2140, .aload_n 1, 1), (2141, .aload_n 0, 1), (2142, .iload 4, 2), (2144, .iconst 1, 1), (2145, .iadd, 1), (2146, .iaload, 1), (2147, .aload_n 0, 1), (2148, .iload 4, 2), (2150, .iconst 2, 1), (2151, .iadd, 1), (2152, .iaload, 1), (2153, .aload_n 0, 1), (2154, .iload 4, 2), (2156, .iconst 3, 1), (2157, .iadd, 1), (2158, .iaload, 1), (2159, .ifCond .eq 7, 3), (2162, .iconst 1, 1), (2163, .goto 4, 3), (2166, .iconst 0, 1), (2167, .aload_n 0, 1), (2168, .iload 4, 2), (2170, .iconst 4, 1), (2171, .iadd, 1), (2172, .iaload, 1), (2173, .aload_n 3, 1), (2174, .invokestatic 322, 3), (2177, .istore 5, 2), (2179, .aload_n 2, 1), (2180, .aload_n 0, 1), (2181, .iload 4, 2), (2183, .iconst 1, 1), (2184, .iadd, 1), (2185, .iaload, 1), (2186, .aload_n 0, 1), (2187, .iload 4, 2), (2189, .iconst 2, 1), (2190, .iadd, 1), (2191, .iaload, 1), (2192, .aload_n 0, 1), (2193, .iload 4, 2), (2195, .iconst 3, 1), (2196, .iadd, 1), (2197, .iaload, 1), (2198, .ifCond .eq 7, 3), (2201, .iconst 1, 1), (2202, .goto 4, 3), (2205, .iconst 0, 1), (2206, .aload_n 0, 1), (2207, .iload 4, 2), (2209, .iconst 4, 1), (2210, .iadd, 1), (2211, .iaload, 1), (2212, .invokevirtual 325, 3), (2215, .istore 6, 2), (2217, .goto 234, 3)]
theorem dc_l43 : ∀ (k : Nat) (q : Nat × Instr × Nat), dl_l43[k]? = some q → decode code q.1 = .ok q.2 := dchk_at (a := 2140) (by decide +kernel)
def ps_l43 : List Nat := [2140, 2141, 2142, 2144, 2145, 2146, 2147, 2148, 2150, 2151, 2152, 2153, 2154, 2156, 2157, 2158, 2159, 2162, 2163, 2166, 2167, 2168, 2170, 2171, 2172, 2173, 2174, 2177, 2179, 2180, 2181, 2183, 2184, 2185, 2186, 2187, 2189, 2190, 2191, 2192, 2193, 2195, 2196, 2197, 2198, 2201, 2202, 2205, 2206, 2207, 2209, 2210, 2211, 2212, 2215, 2217, 2451]
def tb_l43 (L : Nat) (xs : Nat → Int32) (i : Int32) (g1 : Bool) (v1 : Int32) (g2 : Bool) (v2 : Int32) (g3 : Bool) (v3 : Int32) (g4 : Bool) (v4 : Int32) (z2 z3 z4 : Bool) : List RT := [tq_al 1, tq_al 0, tq_il 4, tq_ic 1, tq_i2 (fun x y => x + y), tq_isc L xs g1 v1, tq_al 0, tq_il 4, tq_ic 2, tq_i2 (fun x y => x + y), tq_isc L xs g2 v2, tq_al 0, tq_il 4, tq_ic 3, tq_i2 (fun x y => x + y), tq_isc L xs g3 v3, tq_sv (fun x => decide (x = 0)) z3 1 0 20, tq_ic 1, tq_go 20, tq_ic 0, tq_al 0, tq_il 4, tq_ic 4, tq_i2 (fun x y => x + y), tq_isc L xs g4 v4, tq_al 3, tq_callH m_w_date 6 3 1000 [], tq_is 7 5, tq_al 2, tq_al 0, tq_il 4, tq_ic 1, tq_i2 (fun x y => x + y), tq_isc L xs g1 v1, tq_al 0, tq_il 4, tq_ic 2, tq_i2 (fun x y => x + y), tq_isc L xs g2 v2, tq_al 0, tq_il 4, tq_ic 3, tq_i2 (fun x y => x + y), tq_isc L xs g3 v3, tq_sv (fun x => decide (x = 0)) z3 1 0 48, tq_ic 1, tq_go 48, tq_ic 0, tq_al 0, tq_il 4, tq_ic 4, tq_i2 (fun x y => x + y), tq_isc L xs g4 v4, tq_callH (rV 1 m_d_date) 5 0 1000 [], tq_is 7 6, tq_go 56, tq_stop i]
set_option maxHeartbeats 4000000 in
set_option maxRecDepth 20000 in
theorem ok_l43 (L : Nat) (xs : Nat → Int32) (i : Int32) (g1 : Bool) (v1 : Int32) (g2 : Bool) (v2 : Int32) (g3 : Bool) (v3 : Int32) (g4 : Bool) (v4 : Int32) (z2 z3 z4 : Bool) : rAll (rOk (fun G => rSc G = (L, xs)) code "RingdaysLaw" 7 rTL room_1 [] 1000 (.inr (2451, i)) (fun o => ps_l43.getD o 0)) ps_l43 (tb_l43 L xs i g1 v1 g2 v2 g3 v3 g4 v4 z2 z3 z4) := by
  refine rcons (ro_aload_n (k := 1) rfl (dca dc_l43 0 rfl) rfl) ?_
  refine rcons (ro_aload_n (k := 0) rfl (dca dc_l43 1 rfl) rfl) ?_
  refine rcons (ro_iload (dca dc_l43 2 rfl) rfl) ?_
  refine rcons (ro_iconst (n := 1) (dca dc_l43 3 rfl) rfl rfl) ?_
  refine rcons (ro_iadd (dca dc_l43 4 rfl) rfl) ?_
  refine rcons (ro_isc (fun _ h => h) (dca dc_l43 5 rfl) rfl) ?_
  refine rcons (ro_aload_n (k := 0) rfl (dca dc_l43 6 rfl) rfl) ?_
  refine rcons (ro_iload (dca dc_l43 7 rfl) rfl) ?_
  refine rcons (ro_iconst (n := 2) (dca dc_l43 8 rfl) rfl rfl) ?_
  refine rcons (ro_iadd (dca dc_l43 9 rfl) rfl) ?_
  refine rcons (ro_isc (fun _ h => h) (dca dc_l43 10 rfl) rfl) ?_
  refine rcons (ro_aload_n (k := 0) rfl (dca dc_l43 11 rfl) rfl) ?_
  refine rcons (ro_iload (dca dc_l43 12 rfl) rfl) ?_
  refine rcons (ro_iconst (n := 3) (dca dc_l43 13 rfl) rfl rfl) ?_
  refine rcons (ro_iadd (dca dc_l43 14 rfl) rfl) ?_
  refine rcons (ro_isc (fun _ h => h) (dca dc_l43 15 rfl) rfl) ?_
  refine rcons (ro_sv (ro_s1_eq (off := 7) (off2 := 4) (n1 := 1) (n2 := 0) (dca dc_l43 16 rfl) (dca dc_l43 17 rfl) rfl (dca dc_l43 18 rfl) (dca dc_l43 19 rfl) rfl rfl rfl rfl)) ?_
  refine rcons (ro_iconst (n := 1) (dca dc_l43 17 rfl) rfl rfl) ?_
  refine rcons (ro_goto (off := 4) (dca dc_l43 18 rfl) rfl) ?_
  refine rcons (ro_iconst (n := 0) (dca dc_l43 19 rfl) rfl rfl) ?_
  refine rcons (ro_aload_n (k := 0) rfl (dca dc_l43 20 rfl) rfl) ?_
  refine rcons (ro_iload (dca dc_l43 21 rfl) rfl) ?_
  refine rcons (ro_iconst (n := 4) (dca dc_l43 22 rfl) rfl rfl) ?_
  refine rcons (ro_iadd (dca dc_l43 23 rfl) rfl) ?_
  refine rcons (ro_isc (fun _ h => h) (dca dc_l43 24 rfl) rfl) ?_
  refine rcons (ro_aload_n (k := 3) rfl (dca dc_l43 25 rfl) rfl) ?_
  refine rcons (ro_callSX ok_w_date (dca dc_l43 26 rfl) rfl (fun s args ht => vx_cwSW 6 ht (rgoodS (fun w h => List.mem_cons_of_mem _ h) q_925 q_926 q_12 q_927) rfl rfl rfl hy_w_date ⟨Nat.le_of_ble_eq_true rfl, Nat.le_of_ble_eq_true rfl⟩) rfl) ?_
  refine rcons (ro_istore (dca dc_l43 27 rfl) rfl) ?_
  refine rcons (ro_aload_n (k := 2) rfl (dca dc_l43 28 rfl) rfl) ?_
  refine rcons (ro_aload_n (k := 0) rfl (dca dc_l43 29 rfl) rfl) ?_
  refine rcons (ro_iload (dca dc_l43 30 rfl) rfl) ?_
  refine rcons (ro_iconst (n := 1) (dca dc_l43 31 rfl) rfl rfl) ?_
  refine rcons (ro_iadd (dca dc_l43 32 rfl) rfl) ?_
  refine rcons (ro_isc (fun _ h => h) (dca dc_l43 33 rfl) rfl) ?_
  refine rcons (ro_aload_n (k := 0) rfl (dca dc_l43 34 rfl) rfl) ?_
  refine rcons (ro_iload (dca dc_l43 35 rfl) rfl) ?_
  refine rcons (ro_iconst (n := 2) (dca dc_l43 36 rfl) rfl rfl) ?_
  refine rcons (ro_iadd (dca dc_l43 37 rfl) rfl) ?_
  refine rcons (ro_isc (fun _ h => h) (dca dc_l43 38 rfl) rfl) ?_
  refine rcons (ro_aload_n (k := 0) rfl (dca dc_l43 39 rfl) rfl) ?_
  refine rcons (ro_iload (dca dc_l43 40 rfl) rfl) ?_
  refine rcons (ro_iconst (n := 3) (dca dc_l43 41 rfl) rfl rfl) ?_
  refine rcons (ro_iadd (dca dc_l43 42 rfl) rfl) ?_
  refine rcons (ro_isc (fun _ h => h) (dca dc_l43 43 rfl) rfl) ?_
  refine rcons (ro_sv (ro_s1_eq (off := 7) (off2 := 4) (n1 := 1) (n2 := 0) (dca dc_l43 44 rfl) (dca dc_l43 45 rfl) rfl (dca dc_l43 46 rfl) (dca dc_l43 47 rfl) rfl rfl rfl rfl)) ?_
  refine rcons (ro_iconst (n := 1) (dca dc_l43 45 rfl) rfl rfl) ?_
  refine rcons (ro_goto (off := 4) (dca dc_l43 46 rfl) rfl) ?_
  refine rcons (ro_iconst (n := 0) (dca dc_l43 47 rfl) rfl rfl) ?_
  refine rcons (ro_aload_n (k := 0) rfl (dca dc_l43 48 rfl) rfl) ?_
  refine rcons (ro_iload (dca dc_l43 49 rfl) rfl) ?_
  refine rcons (ro_iconst (n := 4) (dca dc_l43 50 rfl) rfl rfl) ?_
  refine rcons (ro_iadd (dca dc_l43 51 rfl) rfl) ?_
  refine rcons (ro_isc (fun _ h => h) (dca dc_l43 52 rfl) rfl) ?_
  refine rcons (ro_callVH (C := rN1) (T := rF1) (N := 7) rfl ok_d_date (dca dc_l43 53 rfl) trivial (by decide) (fun s args ht => cwV (C := rN1) 4 ht (rgoodV (C := rN1) (fun w h => List.mem_cons_of_mem _ h) q_1226 q_1227 q_1228 q_14 q_1229) rfl rfl rfl hv_d_date ⟨Nat.le_of_ble_eq_true rfl, Nat.le_of_ble_eq_true rfl⟩) rfl) ?_
  refine rcons (ro_istore (dca dc_l43 54 rfl) rfl) ?_
  refine rcons (ro_goto (off := 234) (dca dc_l43 55 rfl) rfl) ?_
  refine rcons (ro_stop) ?_
  exact rnil
def dl_l44 : List (Nat × Instr × Nat) := [(2220, .aload_n 1, 1), (2221, .aload_n 0, 1), (2222, .iload 4, 2), (2224, .iconst 1, 1), (2225, .iadd, 1), (2226, .iaload, 1), (2227, .aload_n 0, 1), (2228, .iload 4, 2), (2230, .iconst 2, 1), (2231, .iadd, 1), (2232, .iaload, 1), (2233, .aload_n 0, 1), (2234, .iload 4, 2), (2236, .iconst 3, 1), (2237, .iadd, 1), (2238, .iaload, 1), (2239, .ifCond .eq 7, 3), (2242, .iconst 1, 1), (2243, .goto 4, 3), (2246, .iconst 0, 1), (2247, .aload_n 3, 1), (2248, .invokestatic 326, 3), (2251, .istore 5, 2), (2253, .aload_n 2, 1), (2254, .aload_n 0, 1), (2255, .iload 4, 2), (2257, .iconst 1, 1), (2258, .iadd, 1), (2259, .iaload, 1), (2260, .aload_n 0, 1), (2261, .iload 4, 2), (2263, .iconst 2, 1), (2264, .iadd, 1), (2265, .iaload, 1), (2266, .aload_n 0, 1), (2267, .iload 4, 2), (2269, .iconst 3, 1), (2270, .iadd, 1), (2271, .iaload, 1), (2272, .ifCond .eq 7, 3), (2275, .iconst 1, 1), (2276, .goto 4, 3), (2279, .iconst 0, 1), (2280, .invokevirtual 328, 3), (2283, .istore 6, 2), (2285, .goto 166, 3)]
theorem dc_l44 : ∀ (k : Nat) (q : Nat × Instr × Nat), dl_l44[k]? = some q → decode code q.1 = .ok q.2 := dchk_at (a := 2220) (by decide +kernel)
def ps_l44 : List Nat := [2220, 2221, 2222, 2224, 2225, 2226, 2227, 2228, 2230, 2231, 2232, 2233, 2234, 2236, 2237, 2238, 2239, 2242, 2243, 2246, 2247, 2248, 2251, 2253, 2254, 2255, 2257, 2258, 2259, 2260, 2261, 2263, 2264, 2265, 2266, 2267, 2269, 2270, 2271, 2272, 2275, 2276, 2279, 2280, 2283, 2285, 2451]
def tb_l44 (L : Nat) (xs : Nat → Int32) (i : Int32) (g1 : Bool) (v1 : Int32) (g2 : Bool) (v2 : Int32) (g3 : Bool) (v3 : Int32) (g4 : Bool) (v4 : Int32) (z2 z3 z4 : Bool) : List RT := [tq_al 1, tq_al 0, tq_il 4, tq_ic 1, tq_i2 (fun x y => x + y), tq_isc L xs g1 v1, tq_al 0, tq_il 4, tq_ic 2, tq_i2 (fun x y => x + y), tq_isc L xs g2 v2, tq_al 0, tq_il 4, tq_ic 3, tq_i2 (fun x y => x + y), tq_isc L xs g3 v3, tq_sv (fun x => decide (x = 0)) z3 1 0 20, tq_ic 1, tq_go 20, tq_ic 0, tq_al 3, tq_callH m_w_areAlike 5 2 1000 [], tq_is 7 5, tq_al 2, tq_al 0, tq_il 4, tq_ic 1, tq_i2 (fun x y => x + y), tq_isc L xs g1 v1, tq_al 0, tq_il 4, tq_ic 2, tq_i2 (fun x y => x + y), tq_isc L xs g2 v2, tq_al 0, tq_il 4, tq_ic 3, tq_i2 (fun x y => x + y), tq_isc L xs g3 v3, tq_sv (fun x => decide (x = 0)) z3 1 0 43, tq_ic 1, tq_go 43, tq_ic 0, tq_callH (rV 1 m_d_areAlike) 4 0 1000 [], tq_is 7 6, tq_go 46, tq_stop i]
set_option maxHeartbeats 4000000 in
set_option maxRecDepth 20000 in
theorem ok_l44 (L : Nat) (xs : Nat → Int32) (i : Int32) (g1 : Bool) (v1 : Int32) (g2 : Bool) (v2 : Int32) (g3 : Bool) (v3 : Int32) (g4 : Bool) (v4 : Int32) (z2 z3 z4 : Bool) : rAll (rOk (fun G => rSc G = (L, xs)) code "RingdaysLaw" 7 rTL room_1 [] 1000 (.inr (2451, i)) (fun o => ps_l44.getD o 0)) ps_l44 (tb_l44 L xs i g1 v1 g2 v2 g3 v3 g4 v4 z2 z3 z4) := by
  refine rcons (ro_aload_n (k := 1) rfl (dca dc_l44 0 rfl) rfl) ?_
  refine rcons (ro_aload_n (k := 0) rfl (dca dc_l44 1 rfl) rfl) ?_
  refine rcons (ro_iload (dca dc_l44 2 rfl) rfl) ?_
  refine rcons (ro_iconst (n := 1) (dca dc_l44 3 rfl) rfl rfl) ?_
  refine rcons (ro_iadd (dca dc_l44 4 rfl) rfl) ?_
  refine rcons (ro_isc (fun _ h => h) (dca dc_l44 5 rfl) rfl) ?_
  refine rcons (ro_aload_n (k := 0) rfl (dca dc_l44 6 rfl) rfl) ?_
  refine rcons (ro_iload (dca dc_l44 7 rfl) rfl) ?_
  refine rcons (ro_iconst (n := 2) (dca dc_l44 8 rfl) rfl rfl) ?_
  refine rcons (ro_iadd (dca dc_l44 9 rfl) rfl) ?_
  refine rcons (ro_isc (fun _ h => h) (dca dc_l44 10 rfl) rfl) ?_
  refine rcons (ro_aload_n (k := 0) rfl (dca dc_l44 11 rfl) rfl) ?_
  refine rcons (ro_iload (dca dc_l44 12 rfl) rfl) ?_
  refine rcons (ro_iconst (n := 3) (dca dc_l44 13 rfl) rfl rfl) ?_
  refine rcons (ro_iadd (dca dc_l44 14 rfl) rfl) ?_
  refine rcons (ro_isc (fun _ h => h) (dca dc_l44 15 rfl) rfl) ?_
  refine rcons (ro_sv (ro_s1_eq (off := 7) (off2 := 4) (n1 := 1) (n2 := 0) (dca dc_l44 16 rfl) (dca dc_l44 17 rfl) rfl (dca dc_l44 18 rfl) (dca dc_l44 19 rfl) rfl rfl rfl rfl)) ?_
  refine rcons (ro_iconst (n := 1) (dca dc_l44 17 rfl) rfl rfl) ?_
  refine rcons (ro_goto (off := 4) (dca dc_l44 18 rfl) rfl) ?_
  refine rcons (ro_iconst (n := 0) (dca dc_l44 19 rfl) rfl rfl) ?_
  refine rcons (ro_aload_n (k := 3) rfl (dca dc_l44 20 rfl) rfl) ?_
  refine rcons (ro_callSX ok_w_areAlike (dca dc_l44 21 rfl) rfl (fun s args ht => vx_cwSW 5 ht (rgoodS (fun w h => List.mem_cons_of_mem _ h) q_932 q_933 q_12 q_934) rfl rfl rfl hy_w_areAlike ⟨Nat.le_of_ble_eq_true rfl, Nat.le_of_ble_eq_true rfl⟩) rfl) ?_
  refine rcons (ro_istore (dca dc_l44 22 rfl) rfl) ?_
  refine rcons (ro_aload_n (k := 2) rfl (dca dc_l44 23 rfl) rfl) ?_
  refine rcons (ro_aload_n (k := 0) rfl (dca dc_l44 24 rfl) rfl) ?_
  refine rcons (ro_iload (dca dc_l44 25 rfl) rfl) ?_
  refine rcons (ro_iconst (n := 1) (dca dc_l44 26 rfl) rfl rfl) ?_
  refine rcons (ro_iadd (dca dc_l44 27 rfl) rfl) ?_
  refine rcons (ro_isc (fun _ h => h) (dca dc_l44 28 rfl) rfl) ?_
  refine rcons (ro_aload_n (k := 0) rfl (dca dc_l44 29 rfl) rfl) ?_
  refine rcons (ro_iload (dca dc_l44 30 rfl) rfl) ?_
  refine rcons (ro_iconst (n := 2) (dca dc_l44 31 rfl) rfl rfl) ?_
  refine rcons (ro_iadd (dca dc_l44 32 rfl) rfl) ?_
  refine rcons (ro_isc (fun _ h => h) (dca dc_l44 33 rfl) rfl) ?_
  refine rcons (ro_aload_n (k := 0) rfl (dca dc_l44 34 rfl) rfl) ?_
  refine rcons (ro_iload (dca dc_l44 35 rfl) rfl) ?_
  refine rcons (ro_iconst (n := 3) (dca dc_l44 36 rfl) rfl rfl) ?_
  refine rcons (ro_iadd (dca dc_l44 37 rfl) rfl) ?_
  refine rcons (ro_isc (fun _ h => h) (dca dc_l44 38 rfl) rfl) ?_
  refine rcons (ro_sv (ro_s1_eq (off := 7) (off2 := 4) (n1 := 1) (n2 := 0) (dca dc_l44 39 rfl) (dca dc_l44 40 rfl) rfl (dca dc_l44 41 rfl) (dca dc_l44 42 rfl) rfl rfl rfl rfl)) ?_
  refine rcons (ro_iconst (n := 1) (dca dc_l44 40 rfl) rfl rfl) ?_
  refine rcons (ro_goto (off := 4) (dca dc_l44 41 rfl) rfl) ?_
  refine rcons (ro_iconst (n := 0) (dca dc_l44 42 rfl) rfl rfl) ?_
  refine rcons (ro_callVH (C := rN1) (T := rF1) (N := 7) rfl ok_d_areAlike (dca dc_l44 43 rfl) trivial (by decide) (fun s args ht => cwV (C := rN1) 3 ht (rgoodV (C := rN1) (fun w h => List.mem_cons_of_mem _ h) q_1230 q_1231 q_1232 q_14 q_1233) rfl rfl rfl hv_d_areAlike ⟨Nat.le_of_ble_eq_true rfl, Nat.le_of_ble_eq_true rfl⟩) rfl) ?_
  refine rcons (ro_istore (dca dc_l44 44 rfl) rfl) ?_
  refine rcons (ro_goto (off := 166) (dca dc_l44 45 rfl) rfl) ?_
  refine rcons (ro_stop) ?_
  exact rnil
def dl_l45 : List (Nat × Instr × Nat) := [(2288, .aload_n 1, 1), (2289, .aload_n 0, 1), (2290, .iload 4, 2), (2292, .iconst 1, 1), (2293, .iadd, 1), (2294, .iaload, 1), (2295, .aload_n 3, 1), (2296, .invokestatic 329, 3), (2299, .istore 5, 2), (2301, .aload_n 2, 1), (2302, .aload_n 0, 1), (2303, .iload 4, 2), (2305, .iconst 1, 1), (2306, .iadd, 1), (2307, .iaload, 1), (2308, .invokevirtual 331, 3), (2311, .istore 6, 2), (2313, .goto 138, 3)]
theorem dc_l45 : ∀ (k : Nat) (q : Nat × Instr × Nat), dl_l45[k]? = some q → decode code q.1 = .ok q.2 := dchk_at (a := 2288) (by decide +kernel)
def ps_l45 : List Nat := [2288, 2289, 2290, 2292, 2293, 2294, 2295, 2296, 2299, 2301, 2302, 2303, 2305, 2306, 2307, 2308, 2311, 2313, 2451]
def tb_l45 (L : Nat) (xs : Nat → Int32) (i : Int32) (g1 : Bool) (v1 : Int32) (g2 : Bool) (v2 : Int32) (g3 : Bool) (v3 : Int32) (g4 : Bool) (v4 : Int32) (z2 z3 z4 : Bool) : List RT := [tq_al 1, tq_al 0, tq_il 4, tq_ic 1, tq_i2 (fun x y => x + y), tq_isc L xs g1 v1, tq_al 3, tq_callH m_w_keep 3 1 1000 [], tq_is 7 5, tq_al 2, tq_al 0, tq_il 4, tq_ic 1, tq_i2 (fun x y => x + y), tq_isc L xs g1 v1, tq_callH (rV 1 m_d_keep) 2 0 1000 [], tq_is 7 6, tq_go 18, tq_stop i]
set_option maxHeartbeats 4000000 in
set_option maxRecDepth 20000 in
theorem ok_l45 (L : Nat) (xs : Nat → Int32) (i : Int32) (g1 : Bool) (v1 : Int32) (g2 : Bool) (v2 : Int32) (g3 : Bool) (v3 : Int32) (g4 : Bool) (v4 : Int32) (z2 z3 z4 : Bool) : rAll (rOk (fun G => rSc G = (L, xs)) code "RingdaysLaw" 7 rTL room_1 [] 1000 (.inr (2451, i)) (fun o => ps_l45.getD o 0)) ps_l45 (tb_l45 L xs i g1 v1 g2 v2 g3 v3 g4 v4 z2 z3 z4) := by
  refine rcons (ro_aload_n (k := 1) rfl (dca dc_l45 0 rfl) rfl) ?_
  refine rcons (ro_aload_n (k := 0) rfl (dca dc_l45 1 rfl) rfl) ?_
  refine rcons (ro_iload (dca dc_l45 2 rfl) rfl) ?_
  refine rcons (ro_iconst (n := 1) (dca dc_l45 3 rfl) rfl rfl) ?_
  refine rcons (ro_iadd (dca dc_l45 4 rfl) rfl) ?_
  refine rcons (ro_isc (fun _ h => h) (dca dc_l45 5 rfl) rfl) ?_
  refine rcons (ro_aload_n (k := 3) rfl (dca dc_l45 6 rfl) rfl) ?_
  refine rcons (ro_callSX ok_w_keep (dca dc_l45 7 rfl) rfl (fun s args ht => vx_cwSW 3 ht (rgoodS (fun w h => List.mem_cons_of_mem _ h) q_936 q_937 q_12 q_938) rfl rfl rfl hy_w_keep ⟨Nat.le_of_ble_eq_true rfl, Nat.le_of_ble_eq_true rfl⟩) rfl) ?_
  refine rcons (ro_istore (dca dc_l45 8 rfl) rfl) ?_
  refine rcons (ro_aload_n (k := 2) rfl (dca dc_l45 9 rfl) rfl) ?_
  refine rcons (ro_aload_n (k := 0) rfl (dca dc_l45 10 rfl) rfl) ?_
  refine rcons (ro_iload (dca dc_l45 11 rfl) rfl) ?_
  refine rcons (ro_iconst (n := 1) (dca dc_l45 12 rfl) rfl rfl) ?_
  refine rcons (ro_iadd (dca dc_l45 13 rfl) rfl) ?_
  refine rcons (ro_isc (fun _ h => h) (dca dc_l45 14 rfl) rfl) ?_
  refine rcons (ro_callVH (C := rN1) (T := rF1) (N := 7) rfl ok_d_keep (dca dc_l45 15 rfl) trivial (by decide) (fun s args ht => cwV (C := rN1) 1 ht (rgoodV (C := rN1) (fun w h => List.mem_cons_of_mem _ h) q_1237 q_1238 q_1239 q_14 q_1240) rfl rfl rfl hv_d_keep ⟨Nat.le_of_ble_eq_true rfl, Nat.le_of_ble_eq_true rfl⟩) rfl) ?_
  refine rcons (ro_istore (dca dc_l45 16 rfl) rfl) ?_
  refine rcons (ro_goto (off := 138) (dca dc_l45 17 rfl) rfl) ?_
  refine rcons (ro_stop) ?_
  exact rnil
def dl_l46 : List (Nat × Instr × Nat) := [(2316, .aload_n 1, 1), (2317, .aload_n 0, 1), (2318, .iload 4, 2), (2320, .iconst 1, 1), (2321, .iadd, 1), (2322, .iaload, 1), (2323, .aload_n 3, 1), (2324, .invokestatic 332, 3), (2327, .istore 5, 2), (2329, .aload_n 2, 1), (2330, .aload_n 0, 1), (2331, .iload 4, 2), (2333, .iconst 1, 1), (2334, .iadd, 1), (2335, .iaload, 1), (2336, .invokevirtual 334, 3), (2339, .istore 6, 2), (2341, .goto 110, 3)]
theorem dc_l46 : ∀ (k : Nat) (q : Nat × Instr × Nat), dl_l46[k]? = some q → decode code q.1 = .ok q.2 := dchk_at (a := 2316) (by decide +kernel)
def ps_l46 : List Nat := [2316, 2317, 2318, 2320, 2321, 2322, 2323, 2324, 2327, 2329, 2330, 2331, 2333, 2334, 2335, 2336, 2339, 2341, 2451]
def tb_l46 (L : Nat) (xs : Nat → Int32) (i : Int32) (g1 : Bool) (v1 : Int32) (g2 : Bool) (v2 : Int32) (g3 : Bool) (v3 : Int32) (g4 : Bool) (v4 : Int32) (z2 z3 z4 : Bool) : List RT := [tq_al 1, tq_al 0, tq_il 4, tq_ic 1, tq_i2 (fun x y => x + y), tq_isc L xs g1 v1, tq_al 3, tq_callH m_w_back 3 2 1000 [], tq_is 7 5, tq_al 2, tq_al 0, tq_il 4, tq_ic 1, tq_i2 (fun x y => x + y), tq_isc L xs g1 v1, tq_callH (rV 1 m_d_back) 2 0 1000 [], tq_is 7 6, tq_go 18, tq_stop i]
set_option maxHeartbeats 4000000 in
set_option maxRecDepth 20000 in
theorem ok_l46 (L : Nat) (xs : Nat → Int32) (i : Int32) (g1 : Bool) (v1 : Int32) (g2 : Bool) (v2 : Int32) (g3 : Bool) (v3 : Int32) (g4 : Bool) (v4 : Int32) (z2 z3 z4 : Bool) : rAll (rOk (fun G => rSc G = (L, xs)) code "RingdaysLaw" 7 rTL room_1 [] 1000 (.inr (2451, i)) (fun o => ps_l46.getD o 0)) ps_l46 (tb_l46 L xs i g1 v1 g2 v2 g3 v3 g4 v4 z2 z3 z4) := by
  refine rcons (ro_aload_n (k := 1) rfl (dca dc_l46 0 rfl) rfl) ?_
  refine rcons (ro_aload_n (k := 0) rfl (dca dc_l46 1 rfl) rfl) ?_
  refine rcons (ro_iload (dca dc_l46 2 rfl) rfl) ?_
  refine rcons (ro_iconst (n := 1) (dca dc_l46 3 rfl) rfl rfl) ?_
  refine rcons (ro_iadd (dca dc_l46 4 rfl) rfl) ?_
  refine rcons (ro_isc (fun _ h => h) (dca dc_l46 5 rfl) rfl) ?_
  refine rcons (ro_aload_n (k := 3) rfl (dca dc_l46 6 rfl) rfl) ?_
  refine rcons (ro_callSX ok_w_back (dca dc_l46 7 rfl) rfl (fun s args ht => vx_cwSW 3 ht (rgoodS (fun w h => List.mem_cons_of_mem _ h) q_946 q_947 q_12 q_948) rfl rfl rfl hy_w_back ⟨Nat.le_of_ble_eq_true rfl, Nat.le_of_ble_eq_true rfl⟩) rfl) ?_
  refine rcons (ro_istore (dca dc_l46 8 rfl) rfl) ?_
  refine rcons (ro_aload_n (k := 2) rfl (dca dc_l46 9 rfl) rfl) ?_
  refine rcons (ro_aload_n (k := 0) rfl (dca dc_l46 10 rfl) rfl) ?_
  refine rcons (ro_iload (dca dc_l46 11 rfl) rfl) ?_
  refine rcons (ro_iconst (n := 1) (dca dc_l46 12 rfl) rfl rfl) ?_
  refine rcons (ro_iadd (dca dc_l46 13 rfl) rfl) ?_
  refine rcons (ro_isc (fun _ h => h) (dca dc_l46 14 rfl) rfl) ?_
  refine rcons (ro_callVH (C := rN1) (T := rF1) (N := 7) rfl ok_d_back (dca dc_l46 15 rfl) trivial (by decide) (fun s args ht => cwV (C := rN1) 1 ht (rgoodV (C := rN1) (fun w h => List.mem_cons_of_mem _ h) q_1244 q_1245 q_1246 q_14 q_1247) rfl rfl rfl hv_d_back ⟨Nat.le_of_ble_eq_true rfl, Nat.le_of_ble_eq_true rfl⟩) rfl) ?_
  refine rcons (ro_istore (dca dc_l46 16 rfl) rfl) ?_
  refine rcons (ro_goto (off := 110) (dca dc_l46 17 rfl) rfl) ?_
  refine rcons (ro_stop) ?_
  exact rnil
def dl_l47 : List (Nat × Instr × Nat) := [(2344, .aload_n 1, 1), (2345, .aload_n 0, 1), (2346, .iload 4, 2), (2348, .iconst 1, 1), (2349, .iadd, 1), (2350, .iaload, 1), (2351, .aload_n 3, 1), (2352, .invokestatic 335, 3), (2355, .istore 5, 2), (2357, .aload_n 2, 1), (2358, .aload_n 0, 1), (2359, .iload 4, 2), (2361, .iconst 1, 1), (2362, .iadd, 1), (2363, .iaload, 1), (2364, .invokevirtual 337, 3), (2367, .istore 6, 2), (2369, .goto 82, 3)]
theorem dc_l47 : ∀ (k : Nat) (q : Nat × Instr × Nat), dl_l47[k]? = some q → decode code q.1 = .ok q.2 := dchk_at (a := 2344) (by decide +kernel)
def ps_l47 : List Nat := [2344, 2345, 2346, 2348, 2349, 2350, 2351, 2352, 2355, 2357, 2358, 2359, 2361, 2362, 2363, 2364, 2367, 2369, 2451]
def tb_l47 (L : Nat) (xs : Nat → Int32) (i : Int32) (g1 : Bool) (v1 : Int32) (g2 : Bool) (v2 : Int32) (g3 : Bool) (v3 : Int32) (g4 : Bool) (v4 : Int32) (z2 z3 z4 : Bool) : List RT := [tq_al 1, tq_al 0, tq_il 4, tq_ic 1, tq_i2 (fun x y => x + y), tq_isc L xs g1 v1, tq_al 3, tq_callH m_w_isKept 3 1 1000 [], tq_is 7 5, tq_al 2, tq_al 0, tq_il 4, tq_ic 1, tq_i2 (fun x y => x + y), tq_isc L xs g1 v1, tq_callH (rV 1 m_d_isKept) 2 0 1000 [], tq_is 7 6, tq_go 18, tq_stop i]
set_option maxHeartbeats 4000000 in
set_option maxRecDepth 20000 in
theorem ok_l47 (L : Nat) (xs : Nat → Int32) (i : Int32) (g1 : Bool) (v1 : Int32) (g2 : Bool) (v2 : Int32) (g3 : Bool) (v3 : Int32) (g4 : Bool) (v4 : Int32) (z2 z3 z4 : Bool) : rAll (rOk (fun G => rSc G = (L, xs)) code "RingdaysLaw" 7 rTL room_1 [] 1000 (.inr (2451, i)) (fun o => ps_l47.getD o 0)) ps_l47 (tb_l47 L xs i g1 v1 g2 v2 g3 v3 g4 v4 z2 z3 z4) := by
  refine rcons (ro_aload_n (k := 1) rfl (dca dc_l47 0 rfl) rfl) ?_
  refine rcons (ro_aload_n (k := 0) rfl (dca dc_l47 1 rfl) rfl) ?_
  refine rcons (ro_iload (dca dc_l47 2 rfl) rfl) ?_
  refine rcons (ro_iconst (n := 1) (dca dc_l47 3 rfl) rfl rfl) ?_
  refine rcons (ro_iadd (dca dc_l47 4 rfl) rfl) ?_
  refine rcons (ro_isc (fun _ h => h) (dca dc_l47 5 rfl) rfl) ?_
  refine rcons (ro_aload_n (k := 3) rfl (dca dc_l47 6 rfl) rfl) ?_
  refine rcons (ro_callSX ok_w_isKept (dca dc_l47 7 rfl) rfl (fun s args ht => vx_cwSW 3 ht (rgoodS (fun w h => List.mem_cons_of_mem _ h) q_973 q_974 q_12 q_975) rfl rfl rfl hy_w_isKept ⟨Nat.le_of_ble_eq_true rfl, Nat.le_of_ble_eq_true rfl⟩) rfl) ?_
  refine rcons (ro_istore (dca dc_l47 8 rfl) rfl) ?_
  refine rcons (ro_aload_n (k := 2) rfl (dca dc_l47 9 rfl) rfl) ?_
  refine rcons (ro_aload_n (k := 0) rfl (dca dc_l47 10 rfl) rfl) ?_
  refine rcons (ro_iload (dca dc_l47 11 rfl) rfl) ?_
  refine rcons (ro_iconst (n := 1) (dca dc_l47 12 rfl) rfl rfl) ?_
  refine rcons (ro_iadd (dca dc_l47 13 rfl) rfl) ?_
  refine rcons (ro_isc (fun _ h => h) (dca dc_l47 14 rfl) rfl) ?_
  refine rcons (ro_callVH (C := rN1) (T := rF1) (N := 7) rfl ok_d_isKept (dca dc_l47 15 rfl) trivial (by decide) (fun s args ht => cwV (C := rN1) 1 ht (rgoodV (C := rN1) (fun w h => List.mem_cons_of_mem _ h) q_1248 q_1249 q_1250 q_14 q_1251) rfl rfl rfl hv_d_isKept ⟨Nat.le_of_ble_eq_true rfl, Nat.le_of_ble_eq_true rfl⟩) rfl) ?_
  refine rcons (ro_istore (dca dc_l47 16 rfl) rfl) ?_
  refine rcons (ro_goto (off := 82) (dca dc_l47 17 rfl) rfl) ?_
  refine rcons (ro_stop) ?_
  exact rnil
def dl_l50 : List (Nat × Instr × Nat) := [(2398, .aload_n 1, 1), (2399, .invokevirtual 347, 3), (2402, .pop, 1), (2403, .aload_n 2, 1), (2404, .invokevirtual 351, 3), (2407, .pop, 1), (2408, .goto 43, 3)]
theorem dc_l50 : ∀ (k : Nat) (q : Nat × Instr × Nat), dl_l50[k]? = some q → decode code q.1 = .ok q.2 := dchk_at (a := 2398) (by decide +kernel)
def ps_l50 : List Nat := [2398, 2399, 2402, 2403, 2404, 2407, 2408, 2451]
def tb_l50 (L : Nat) (xs : Nat → Int32) (i : Int32) (g1 : Bool) (v1 : Int32) (g2 : Bool) (v2 : Int32) (g3 : Bool) (v3 : Int32) (g4 : Bool) (v4 : Int32) (z2 z3 z4 : Bool) : List RT := [tq_al 1, tq_callH (rV 0 m_c_acts) 1 0 1000 [], tq_pop, tq_al 2, tq_callH (rV 1 m_d_acts) 1 0 1000 [], tq_pop, tq_go 7, tq_stop i]
set_option maxHeartbeats 4000000 in
set_option maxRecDepth 20000 in
theorem ok_l50 (L : Nat) (xs : Nat → Int32) (i : Int32) (g1 : Bool) (v1 : Int32) (g2 : Bool) (v2 : Int32) (g3 : Bool) (v3 : Int32) (g4 : Bool) (v4 : Int32) (z2 z3 z4 : Bool) : rAll (rOk (fun G => rSc G = (L, xs)) code "RingdaysLaw" 7 rTL room_1 [] 1000 (.inr (2451, i)) (fun o => ps_l50.getD o 0)) ps_l50 (tb_l50 L xs i g1 v1 g2 v2 g3 v3 g4 v4 z2 z3 z4) := by
  refine rcons (ro_aload_n (k := 1) rfl (dca dc_l50 0 rfl) rfl) ?_
  refine rcons (ro_callVH (C := rN0) (T := rF0) (N := 7) rfl ok_c_acts (dca dc_l50 1 rfl) trivial (by decide) (fun s args ht => cwV (C := rN0) 0 ht (rgoodV (C := rN0) (fun w h => List.mem_cons_of_mem _ h) q_430 q_431 q_432 q_13 q_433) rfl rfl rfl hv_c_acts ⟨Nat.le_of_ble_eq_true rfl, Nat.le_of_ble_eq_true rfl⟩) rfl) ?_
  refine rcons (ro_pop (dca dc_l50 2 rfl) rfl) ?_
  refine rcons (ro_aload_n (k := 2) rfl (dca dc_l50 3 rfl) rfl) ?_
  refine rcons (ro_callVH (C := rN1) (T := rF1) (N := 7) rfl ok_d_acts (dca dc_l50 4 rfl) trivial (by decide) (fun s args ht => cwV (C := rN1) 0 ht (rgoodV (C := rN1) (fun w h => List.mem_cons_of_mem _ h) q_1265 q_1266 q_1267 q_14 q_1268) rfl rfl rfl hv_d_acts ⟨Nat.le_of_ble_eq_true rfl, Nat.le_of_ble_eq_true rfl⟩) rfl) ?_
  refine rcons (ro_pop (dca dc_l50 5 rfl) rfl) ?_
  refine rcons (ro_goto (off := 43) (dca dc_l50 6 rfl) rfl) ?_
  refine rcons (ro_stop) ?_
  exact rnil
def dl_l51 : List (Nat × Instr × Nat) := [(2411, .aload_n 1, 1), (2412, .invokevirtual 352, 3), (2415, .pop, 1), (2416, .aload_n 2, 1), (2417, .invokevirtual 355, 3), (2420, .pop, 1), (2421, .goto 30, 3)]
theorem dc_l51 : ∀ (k : Nat) (q : Nat × Instr × Nat), dl_l51[k]? = some q → decode code q.1 = .ok q.2 := dchk_at (a := 2411) (by decide +kernel)
def ps_l51 : List Nat := [2411, 2412, 2415, 2416, 2417, 2420, 2421, 2451]
def tb_l51 (L : Nat) (xs : Nat → Int32) (i : Int32) (g1 : Bool) (v1 : Int32) (g2 : Bool) (v2 : Int32) (g3 : Bool) (v3 : Int32) (g4 : Bool) (v4 : Int32) (z2 z3 z4 : Bool) : List RT := [tq_al 1, tq_callH (rV 0 m_c_knock) 1 0 1000 [], tq_pop, tq_al 2, tq_callH (rV 1 m_d_knock) 1 0 1000 [], tq_pop, tq_go 7, tq_stop i]
set_option maxHeartbeats 4000000 in
set_option maxRecDepth 20000 in
theorem ok_l51 (L : Nat) (xs : Nat → Int32) (i : Int32) (g1 : Bool) (v1 : Int32) (g2 : Bool) (v2 : Int32) (g3 : Bool) (v3 : Int32) (g4 : Bool) (v4 : Int32) (z2 z3 z4 : Bool) : rAll (rOk (fun G => rSc G = (L, xs)) code "RingdaysLaw" 7 rTL room_1 [] 1000 (.inr (2451, i)) (fun o => ps_l51.getD o 0)) ps_l51 (tb_l51 L xs i g1 v1 g2 v2 g3 v3 g4 v4 z2 z3 z4) := by
  refine rcons (ro_aload_n (k := 1) rfl (dca dc_l51 0 rfl) rfl) ?_
  refine rcons (ro_callVH (C := rN0) (T := rF0) (N := 7) rfl ok_c_knock (dca dc_l51 1 rfl) trivial (by decide) (fun s args ht => cwV (C := rN0) 0 ht (rgoodV (C := rN0) (fun w h => List.mem_cons_of_mem _ h) q_434 q_435 q_436 q_13 q_437) rfl rfl rfl hv_c_knock ⟨Nat.le_of_ble_eq_true rfl, Nat.le_of_ble_eq_true rfl⟩) rfl) ?_
  refine rcons (ro_pop (dca dc_l51 2 rfl) rfl) ?_
  refine rcons (ro_aload_n (k := 2) rfl (dca dc_l51 3 rfl) rfl) ?_
  refine rcons (ro_callVH (C := rN1) (T := rF1) (N := 7) rfl ok_d_knock (dca dc_l51 4 rfl) trivial (by decide) (fun s args ht => cwV (C := rN1) 0 ht (rgoodV (C := rN1) (fun w h => List.mem_cons_of_mem _ h) q_1269 q_1270 q_1271 q_14 q_1272) rfl rfl rfl hv_d_knock ⟨Nat.le_of_ble_eq_true rfl, Nat.le_of_ble_eq_true rfl⟩) rfl) ?_
  refine rcons (ro_pop (dca dc_l51 5 rfl) rfl) ?_
  refine rcons (ro_goto (off := 30) (dca dc_l51 6 rfl) rfl) ?_
  refine rcons (ro_stop) ?_
  exact rnil
end RKM

theorem mgC_m {M2 M : mM} : (mgC M2 M).1 (12, 0, 0) 3 = M.1 (12, 0, 0) 3 := rfl
theorem mgC_c {M2 M : mM} : (mgC M2 M).1 (11, 0, 0) 8 = M2.1 (11, 0, 0) 8 := rfl
theorem mgD_m {M2 M : mM} : (mgD M2 M).1 (12, 0, 0) 3 = M2.1 (12, 0, 0) 3 := rfl
theorem mgD_c {M2 M : mM} : (mgD M2 M).1 (11, 0, 0) 8 = M.1 (11, 0, 0) 8 := rfl

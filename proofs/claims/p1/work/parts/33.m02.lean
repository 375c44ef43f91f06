/-! ===== the methods, 3 ===== -/
/-- SequentMillModel.thrown()I -/
def so_T53_0 : List Cond := so_pick (k2_sels lw_privs) [] ++ so_pick tables_1 [1358]
theorem so_s53_0 : so_al so_mi so_Ts so_Bs so_rows so_strs so_i53 so_c53 0 5 := so_bS (T1 := so_T53_0) (B1 := so_B1) 0 5 so_hW (so_tin _ _ (by decide +kernel)) so_B1_in (so_bZ 0 5 [42, 180, 0, 121, 172] (by decide +kernel) (by decide +kernel) (by decide +kernel))
theorem so_m53 : so_pr so_mi so_Ts so_Bs so_rows so_strs (some so_i53) (some so_c53) [] := so_pr_I rfl (by decide +kernel) rfl so_s53_0
/-- SequentMillModel.outside(II)Z -/
def so_T55_0 : List Cond := so_pick (k2_sels lw_privs) [] ++ so_pick tables_1 []
theorem so_s55_0 : so_al so_mi so_Ts so_Bs so_rows so_strs so_i55 so_c55 0 15 := so_bS (T1 := so_T55_0) (B1 := so_B1) 0 15 so_hW (so_tin _ _ (by decide +kernel)) so_B1_in (so_bZ 0 15 [26, 155, 0, 8, 26, 27, 161, 0, 7, 4, 167, 0, 4, 3, 172] (by decide +kernel) (by decide +kernel) (by decide +kernel))
theorem so_m55 : so_pr so_mi so_Ts so_Bs so_rows so_strs (some so_i55) (some so_c55) [] := so_pr_I rfl (by decide +kernel) rfl so_s55_0
/-- SequentMillModel.function(II)I -/
def so_T56_0 : List Cond := so_pick (k2_sels lw_privs) [39] ++ so_pick tables_1 [1350, 14, 1352]
theorem so_s56_0 : so_al so_mi so_Ts so_Bs so_rows so_strs so_i56 so_c56 0 8 := so_bS (T1 := so_T56_0) (B1 := so_B1) 0 8 so_hW (so_tin _ _ (by decide +kernel)) so_B1_in (so_bZ 0 8 [42, 5, 27, 28, 182, 0, 110, 172] (by decide +kernel) (by decide +kernel) (by decide +kernel))
theorem so_m56 : so_pr so_mi so_Ts so_Bs so_rows so_strs (some so_i56) (some so_c56) [] := so_pr_I rfl (by decide +kernel) rfl so_s56_0
/-- SequentMillModel.truths()I -/
def so_T57_0 : List Cond := so_pick (k2_sels lw_privs) [39] ++ so_pick tables_1 [1350, 14, 1352]
theorem so_s57_0 : so_al so_mi so_Ts so_Bs so_rows so_strs so_i57 so_c57 0 8 := so_bS (T1 := so_T57_0) (B1 := so_B1) 0 8 so_hW (so_tin _ _ (by decide +kernel)) so_B1_in (so_bZ 0 8 [42, 3, 2, 2, 182, 0, 110, 172] (by decide +kernel) (by decide +kernel) (by decide +kernel))
theorem so_m57 : so_pr so_mi so_Ts so_Bs so_rows so_strs (some so_i57) (some so_c57) [] := so_pr_I rfl (by decide +kernel) rfl so_s57_0
/-- SequentMillModel.isSmall(I)Z -/
def so_T58_0 : List Cond := so_pick (k2_sels lw_privs) [] ++ so_pick tables_1 [1365, 1366]
theorem so_s58_0 : so_al so_mi so_Ts so_Bs so_rows so_strs so_i58 so_c58 0 29 := so_bS (T1 := so_T58_0) (B1 := so_B1) 0 29 so_hW (so_tin _ _ (by decide +kernel)) so_B1_in (so_bZ 0 29 [42, 180, 0, 26, 27, 46, 17, 0, 200, 163, 0, 18, 42, 180, 0, 29, 27, 46, 16, 24, 163, 0, 7, 4, 167, 0, 4, 3, 172] (by decide +kernel) (by decide +kernel) (by decide +kernel))
theorem so_m58 : so_pr so_mi so_Ts so_Bs so_rows so_strs (some so_i58) (some so_c58) [] := so_pr_I rfl (by decide +kernel) rfl so_s58_0
/-- SequentMillModel.typesAreGood(I)Z -/
def so_T59_0 : List Cond := so_pick (k2_sels lw_privs) [43] ++ so_pick tables_1 [1361, 1388, 1532, 14, 1534]
theorem so_s59_0 : so_al so_mi so_Ts so_Bs so_rows so_strs so_i59 so_c59 0 59 := so_bS (T1 := so_T59_0) (B1 := so_B1) 0 59 so_hW (so_tin _ _ (by decide +kernel)) so_B1_in (so_bZ 0 59 [42, 180, 0, 124, 17, 31, 64, 163, 0, 14, 42, 180, 0, 127, 154, 0, 7, 4, 167, 0, 4, 3, 61, 27, 62, 29, 42, 180, 0, 124, 162, 0, 27, 28, 153, 0, 15, 42, 29, 182, 0, 131, 153, 0, 7, 4, 167, 0, 4, 3, 61, 132, 3, 1, 167, 255, 227, 28, 172] (by decide +kernel) (by decide +kernel) (by decide +kernel))
theorem so_m59 : so_pr so_mi so_Ts so_Bs so_rows so_strs (some so_i59) (some so_c59) [] := so_pr_I rfl (by decide +kernel) rfl so_s59_0
/-- SequentMillModel.keepType(III)I -/
def so_T60_0 : List Cond := so_pick (k2_sels lw_privs) [42] ++ so_pick tables_1 [1528, 14, 1530, 1369, 1365, 1370, 1368]
theorem so_s60_0 : so_al so_mi so_Ts so_Bs so_rows so_strs so_i60 so_c60 0 83 := so_bS (T1 := so_T60_0) (B1 := so_B1) 0 83 so_hW (so_tin _ _ (by decide +kernel)) so_B1_in (so_bZ 0 83 [42, 28, 182, 0, 135, 153, 0, 20, 42, 180, 0, 138, 42, 180, 0, 26, 27, 46, 96, 17, 23, 112, 164, 0, 19, 42, 28, 181, 0, 124, 42, 3, 181, 0, 127, 42, 29, 182, 0, 141, 172, 42, 180, 0, 35, 42, 180, 0, 145, 27, 79, 42, 89, 180, 0, 145, 4, 96, 181, 0, 145, 42, 89, 180, 0, 138, 42, 180, 0, 26, 27, 46, 96, 181, 0, 138, 42, 180, 0, 145, 4, 100, 172] (by decide +kernel) (by decide +kernel) (by decide +kernel))
theorem so_m60 : so_pr so_mi so_Ts so_Bs so_rows so_strs (some so_i60) (some so_c60) [] := so_pr_I rfl (by decide +kernel) rfl so_s60_0
/-- SequentMillModel.typeVariable(I)I -/
def so_T61_0 : List Cond := so_pick (k2_sels lw_privs) [39, 41] ++ so_pick tables_1 [1521, 14, 1522, 1358, 1361, 1350, 1352, 1524, 1526]
theorem so_s61_0 : so_al so_mi so_Ts so_Bs so_rows so_strs so_i61 so_c61 0 49 := so_bS (T1 := so_T61_0) (B1 := so_B1) 0 49 so_hW (so_tin _ _ (by decide +kernel)) so_B1_in (so_bZ 0 49 [42, 27, 17, 3, 232, 184, 0, 148, 153, 0, 7, 4, 167, 0, 4, 3, 181, 0, 121, 42, 180, 0, 121, 158, 0, 5, 3, 172, 42, 180, 0, 124, 61, 42, 42, 2, 27, 100, 2, 2, 182, 0, 110, 28, 5, 182, 0, 152, 172] (by decide +kernel) (by decide +kernel) (by decide +kernel))
theorem so_m61 : so_pr so_mi so_Ts so_Bs so_rows so_strs (some so_i61) (some so_c61) [] := so_pr_I rfl (by decide +kernel) rfl so_s61_0
/-- SequentMillModel.type(III)I -/
def so_T62_0 : List Cond := so_pick (k2_sels lw_privs) [39, 41] ++ so_pick tables_1 [1359, 1521, 14, 1522, 1360, 1368, 1358, 1361, 1350, 1352, 1524, 1526]
theorem so_s62_0 : so_al so_mi so_Ts so_Bs so_rows so_strs so_i62 so_c62 0 132 := so_bS (T1 := so_T62_0) (B1 := so_B1) 0 132 so_hW (so_tin _ _ (by decide +kernel)) so_B1_in (so_bZ 0 132 [42, 27, 42, 180, 0, 7, 184, 0, 148, 153, 0, 7, 4, 167, 0, 49, 42, 180, 0, 13, 27, 46, 158, 0, 14, 28, 42, 180, 0, 145, 184, 0, 148, 154, 0, 24, 42, 180, 0, 13, 27, 46, 4, 164, 0, 18, 29, 42, 180, 0, 145, 184, 0, 148, 153, 0, 7, 5, 167, 0, 4, 3, 181, 0, 121, 42, 180, 0, 121, 158, 0, 5, 3, 172, 42, 180, 0, 124, 54, 4, 42, 42, 27, 42, 180, 0, 13, 27, 46, 158, 0, 12, 42, 180, 0, 35, 28, 46, 167, 0, 4, 2, 42, 180, 0, 13, 27, 46, 4, 164, 0, 12, 42, 180, 0, 35, 29, 46, 167, 0, 4, 2, 182, 0, 110, 21, 4, 6, 182, 0, 152, 172] (by decide +kernel) (by decide +kernel) (by decide +kernel))
theorem so_m62 : so_pr so_mi so_Ts so_Bs so_rows so_strs (some so_i62) (some so_c62) [] := so_pr_I rfl (by decide +kernel) rfl so_s62_0
/-- SequentMillModel.lengthOf(I)I -/
def so_T64_0 : List Cond := so_pick (k2_sels lw_privs) [49] ++ so_pick tables_1 [1565, 14, 1567]
theorem so_s64_0 : so_al so_mi so_Ts so_Bs so_rows so_strs so_i64 so_c64 0 8 := so_bS (T1 := so_T64_0) (B1 := so_B1) 0 8 so_hW (so_tin _ _ (by decide +kernel)) so_B1_in (so_bZ 0 8 [42, 27, 182, 0, 155, 27, 100, 172] (by decide +kernel) (by decide +kernel) (by decide +kernel))
theorem so_m64 : so_pr so_mi so_Ts so_Bs so_rows so_strs (some so_i64) (some so_c64) [] := so_pr_I rfl (by decide +kernel) rfl so_s64_0
/-- SequentMillModel.heightOf(I)I -/
def so_T66_0 : List Cond := so_pick (k2_sels lw_privs) [49] ++ so_pick tables_1 [1565, 14, 1567, 1398, 1373]
theorem so_s66_0 : so_al so_mi so_Ts so_Bs so_rows so_strs so_i66 so_c66 0 98 := so_bS (T1 := so_T66_0) (B1 := so_B1) 0 98 so_hW (so_tin _ _ (by decide +kernel)) so_B1_in (so_bZ 0 98 [42, 27, 182, 0, 155, 61, 3, 62, 3, 54, 4, 27, 54, 5, 21, 5, 28, 162, 0, 78, 29, 158, 0, 22, 42, 180, 0, 85, 29, 4, 100, 46, 21, 5, 163, 0, 9, 132, 3, 255, 167, 255, 236, 29, 4, 96, 21, 4, 164, 0, 9, 29, 4, 96, 167, 0, 5, 21, 4, 54, 4, 42, 180, 0, 42, 21, 5, 46, 155, 0, 6, 167, 0, 18, 42, 180, 0, 85, 29, 42, 21, 5, 182, 0, 155, 79, 132, 3, 1, 132, 5, 1, 167, 255, 178, 21, 4, 172] (by decide +kernel) (by decide +kernel) (by decide +kernel))
theorem so_m66 : so_pr so_mi so_Ts so_Bs so_rows so_strs (some so_i66) (some so_c66) [] := so_pr_I rfl (by decide +kernel) rfl so_s66_0
/-- SequentMillModel.startWork()V -/
def so_T67_0 : List Cond := so_pick (k2_sels lw_privs) [] ++ so_pick tables_1 [1552, 1387, 1388, 1389]
theorem so_s67_0 : so_al so_mi so_Ts so_Bs so_rows so_strs so_i67 so_c67 0 17 := so_bS (T1 := so_T67_0) (B1 := so_B1) 0 17 so_hW (so_tin _ _ (by decide +kernel)) so_B1_in (so_bZ 0 17 [42, 18, 161, 181, 0, 162, 42, 3, 181, 0, 127, 42, 3, 181, 0, 165, 177] (by decide +kernel) (by decide +kernel) (by decide +kernel))
theorem so_m67 : so_pr so_mi so_Ts so_Bs so_rows so_strs (some so_i67) (some so_c67) [] := so_pr_I rfl (by decide +kernel) rfl so_s67_0
/-- SequentMillModel.isVariable(II)Z -/
def so_T69_0 : List Cond := so_pick (k2_sels lw_privs) [] ++ so_pick tables_1 [1373, 1374]
theorem so_s69_0 : so_al so_mi so_Ts so_Bs so_rows so_strs so_i69 so_c69 0 36 := so_bS (T1 := so_T69_0) (B1 := so_B1) 0 36 so_hW (so_tin _ _ (by decide +kernel)) so_B1_in (so_bZ 0 36 [42, 180, 0, 42, 27, 46, 42, 180, 0, 42, 28, 46, 160, 0, 22, 42, 180, 0, 45, 27, 46, 42, 180, 0, 45, 28, 46, 160, 0, 7, 4, 167, 0, 4, 3, 172] (by decide +kernel) (by decide +kernel) (by decide +kernel))
theorem so_m69 : so_pr so_mi so_Ts so_Bs so_rows so_strs (some so_i69) (some so_c69) [] := so_pr_I rfl (by decide +kernel) rfl so_s69_0
/-- SequentMillModel.writeEquality(I)V -/
def so_T73_0 : List Cond := so_pick (k2_sels lw_privs) [67, 40, 46] ++ so_pick tables_1 [1665, 14, 1667, 1354, 1356, 1553, 1555]
theorem so_s73_0 : so_al so_mi so_Ts so_Bs so_rows so_strs so_i73 so_c73 0 37 := so_bS (T1 := so_T73_0) (B1 := so_B1) 0 37 so_hW (so_tin _ _ (by decide +kernel)) so_B1_in (so_bZ 0 37 [42, 27, 42, 182, 0, 179, 182, 0, 114, 61, 42, 2, 42, 182, 0, 179, 182, 0, 168, 42, 2, 28, 182, 0, 168, 42, 5, 42, 27, 28, 182, 0, 114, 182, 0, 168, 177] (by decide +kernel) (by decide +kernel) (by decide +kernel))
theorem so_m73 : so_pr so_mi so_Ts so_Bs so_rows so_strs (some so_i73) (some so_c73) [] := so_pr_I rfl (by decide +kernel) rfl so_s73_0
/-- SequentMillModel.isTerm(I)Z -/
def so_T76_0 : List Cond := so_pick (k2_sels lw_privs) [] ++ so_pick tables_1 [1375, 1521, 14, 1522]
theorem so_s76_0 : so_al so_mi so_Ts so_Bs so_rows so_strs so_i76 so_c76 0 17 := so_bS (T1 := so_T76_0) (B1 := so_B1) 0 17 so_hW (so_tin _ _ (by decide +kernel)) so_B1_in (so_bZ 0 17 [27, 42, 180, 0, 183, 184, 0, 148, 154, 0, 7, 4, 167, 0, 4, 3, 172] (by decide +kernel) (by decide +kernel) (by decide +kernel))
theorem so_m76 : so_pr so_mi so_Ts so_Bs so_rows so_strs (some so_i76) (some so_c76) [] := so_pr_I rfl (by decide +kernel) rfl so_s76_0
/-- SequentMillModel.free(II)I -/
def so_T78_0 : List Cond := so_pick (k2_sels lw_privs) [] ++ so_pick tables_1 [1368, 1521, 14, 1522, 1358]
theorem so_s78_0 : so_al so_mi so_Ts so_Bs so_rows so_strs so_i78 so_c78 0 43 := so_bS (T1 := so_T78_0) (B1 := so_B1) 0 43 so_hW (so_tin _ _ (by decide +kernel)) so_B1_in (so_bZ 0 43 [42, 28, 42, 180, 0, 145, 184, 0, 148, 153, 0, 7, 4, 167, 0, 18, 27, 17, 3, 232, 184, 0, 148, 153, 0, 7, 5, 167, 0, 4, 3, 181, 0, 121, 42, 180, 0, 121, 158, 0, 5, 3, 172, 42, 182, 0] (by decide +kernel) (by decide +kernel) (by decide +kernel))
theorem so_m78 : so_pr so_mi so_Ts so_Bs so_rows so_strs (some so_i78) (some so_c78) [] := so_pr_I rfl (by decide +kernel) rfl so_s78_0
/-- SequentMillModel.constant(II)I -/
def so_T79_0 : List Cond := so_pick (k2_sels lw_privs) [] ++ so_pick tables_1 [1368, 1521, 14, 1522, 1358]
theorem so_s79_0 : so_al so_mi so_Ts so_Bs so_rows so_strs so_i79 so_c79 0 75 := so_bS (T1 := so_T79_0) (B1 := so_B1) 0 75 so_hW (so_tin _ _ (by decide +kernel)) so_B1_in (so_bZ 0 75 [42, 28, 42, 180, 0, 145, 184, 0, 148, 153, 0, 7, 4, 167, 0, 19, 27, 42, 180, 0, 118, 184, 0, 148, 153, 0, 7, 5, 167, 0, 4, 3, 181, 0, 121, 42, 180, 0, 121, 154, 0, 27, 42, 42, 180, 0, 38, 27, 46, 42, 180, 0, 35, 28, 46, 182, 0, 198, 154, 0, 8, 42, 5, 181, 0, 121, 42, 180, 0, 121, 158, 0, 5, 3, 172, 42, 182, 0] (by decide +kernel) (by decide +kernel) (by decide +kernel))
theorem so_m79 : so_pr so_mi so_Ts so_Bs so_rows so_strs (some so_i79) (some so_c79) [] := so_pr_I rfl (by decide +kernel) rfl so_s79_0
/-- SequentMillModel.apply(II)I -/
def so_T81_0 : List Cond := so_pick (k2_sels lw_privs) [51] ++ so_pick tables_1 [1581, 14, 1583, 1358]
theorem so_s81_0 : so_al so_mi so_Ts so_Bs so_rows so_strs so_i81 so_c81 0 65 := so_bS (T1 := so_T81_0) (B1 := so_B1) 0 65 so_hW (so_tin _ _ (by decide +kernel)) so_B1_in (so_bZ 0 65 [42, 42, 27, 182, 0, 201, 153, 0, 11, 42, 28, 182, 0, 201, 154, 0, 7, 4, 167, 0, 4, 3, 181, 0, 121, 42, 180, 0, 121, 154, 0, 27, 42, 42, 180, 0, 48, 27, 46, 42, 180, 0, 48, 28, 46, 182, 0, 204, 154, 0, 8, 42, 5, 181, 0, 121, 42, 180, 0, 121, 158, 0, 5, 3, 172, 42, 182, 0] (by decide +kernel) (by decide +kernel) (by decide +kernel))
theorem so_m81 : so_pr so_mi so_Ts so_Bs so_rows so_strs (some so_i81) (some so_c81) [] := so_pr_I rfl (by decide +kernel) rfl so_s81_0
/-- SequentMillModel.abstraction(II)I -/
def so_T82_0 : List Cond := so_pick (k2_sels lw_privs) [51] ++ so_pick tables_1 [1581, 14, 1583, 1358]
theorem so_s82_0 : so_al so_mi so_Ts so_Bs so_rows so_strs so_i82 so_c82 0 59 := so_bS (T1 := so_T82_0) (B1 := so_B1) 0 59 so_hW (so_tin _ _ (by decide +kernel)) so_B1_in (so_bZ 0 59 [42, 42, 27, 182, 0, 201, 153, 0, 11, 42, 28, 182, 0, 201, 154, 0, 7, 4, 167, 0, 4, 3, 181, 0, 121, 42, 180, 0, 121, 154, 0, 21, 42, 42, 180, 0, 48, 27, 46, 182, 0, 207, 154, 0, 8, 42, 5, 181, 0, 121, 42, 180, 0, 121, 158, 0, 5, 3, 172, 42, 180, 0] (by decide +kernel) (by decide +kernel) (by decide +kernel))
theorem so_m82 : so_pr so_mi so_Ts so_Bs so_rows so_strs (some so_i82) (some so_c82) [] := so_pr_I rfl (by decide +kernel) rfl so_s82_0
/-- SequentMillModel.typeOf(I)I -/
def so_T83_0 : List Cond := so_pick (k2_sels lw_privs) [51] ++ so_pick tables_1 [1581, 14, 1583, 1358]
theorem so_s83_0 : so_al so_mi so_Ts so_Bs so_rows so_strs so_i83 so_c83 0 49 := so_bS (T1 := so_T83_0) (B1 := so_B1) 0 49 so_hW (so_tin _ _ (by decide +kernel)) so_B1_in (so_bZ 0 49 [42, 42, 27, 182, 0, 201, 153, 0, 7, 3, 167, 0, 4, 4, 181, 0, 121, 42, 180, 0, 121, 158, 0, 7, 3, 167, 0, 23, 42, 42, 180, 0, 45, 42, 180, 0, 48, 27, 46, 46, 42, 180, 0, 124, 5, 182, 0, 152, 172] (by decide +kernel) (by decide +kernel) (by decide +kernel))
theorem so_m83 : so_pr so_mi so_Ts so_Bs so_rows so_strs (some so_i83) (some so_c83) [] := so_pr_I rfl (by decide +kernel) rfl so_s83_0
/-- SequentMillModel.symbol(II)I -/
def so_T84_0 : List Cond := so_pick (k2_sels lw_privs) [51] ++ so_pick tables_1 [1581, 14, 1583, 1358]
theorem so_s84_0 : so_al so_mi so_Ts so_Bs so_rows so_strs so_i84 so_c84 0 64 := so_bS (T1 := so_T84_0) (B1 := so_B1) 0 64 so_hW (so_tin _ _ (by decide +kernel)) so_B1_in (so_bZ 0 64 [42, 42, 27, 182, 0, 201, 153, 0, 25, 28, 42, 180, 0, 48, 27, 4, 96, 46, 42, 180, 0, 48, 27, 46, 100, 184, 0, 148, 153, 0, 7, 4, 167, 0, 4, 3, 181, 0, 121, 42, 180, 0, 121, 158, 0, 7, 3, 167, 0, 16, 42, 180, 0, 42, 42, 180, 0, 48, 27, 46, 28, 96, 46, 172] (by decide +kernel) (by decide +kernel) (by decide +kernel))
theorem so_m84 : so_pr so_mi so_Ts so_Bs so_rows so_strs (some so_i84) (some so_c84) [] := so_pr_I rfl (by decide +kernel) rfl so_s84_0
/-- SequentMillModel.same(II)Z -/
def so_T85_0 : List Cond := so_pick (k2_sels lw_privs) [51] ++ so_pick tables_1 [1581, 14, 1583, 1358]
theorem so_s85_0 : so_al so_mi so_Ts so_Bs so_rows so_strs so_i85 so_c85 0 57 := so_bS (T1 := so_T85_0) (B1 := so_B1) 0 57 so_hW (so_tin _ _ (by decide +kernel)) so_B1_in (so_bZ 0 57 [42, 42, 27, 182, 0, 201, 153, 0, 15, 42, 28, 182, 0, 201, 153, 0, 7, 3, 167, 0, 4, 4, 181, 0, 121, 42, 180, 0, 121, 154, 0, 26, 42, 42, 180, 0, 48, 27, 46, 42, 180, 0, 48, 28, 46, 182, 0, 213, 153, 0, 7, 4, 167, 0, 4, 3, 172] (by decide +kernel) (by decide +kernel) (by decide +kernel))
theorem so_m85 : so_pr so_mi so_Ts so_Bs so_rows so_strs (some so_i85) (some so_c85) [] := so_pr_I rfl (by decide +kernel) rfl so_s85_0
/-- SequentMillModel.note(I)V -/
def so_T86_0 : List Cond := so_pick (k2_sels lw_privs) [] ++ so_pick tables_1 [1391, 1349, 1392]
theorem so_s86_0 : so_al so_mi so_Ts so_Bs so_rows so_strs so_i86 so_c86 0 30 := so_bS (T1 := so_T86_0) (B1 := so_B1) 0 30 so_hW (so_tin _ _ (by decide +kernel)) so_B1_in (so_bZ 0 30 [42, 180, 0, 216, 18, 72, 162, 0, 23, 42, 180, 0, 73, 42, 180, 0, 216, 27, 79, 42, 89, 180, 0, 216, 4, 96, 181, 0, 216, 177] (by decide +kernel) (by decide +kernel) (by decide +kernel))
theorem so_m86 : so_pr so_mi so_Ts so_Bs so_rows so_strs (some so_i86) (some so_c86) [] := so_pr_I rfl (by decide +kernel) rfl so_s86_0

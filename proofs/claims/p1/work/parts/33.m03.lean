/-! ===== the methods, 4 ===== -/
/-- SequentMillModel.beginStep()V -/
def so_T91_0 : List Cond := so_pick (k2_sels lw_privs) [45] ++ so_pick tables_1 [1548, 14, 1550, 1391, 1404, 1393, 1405, 1394, 1406, 1361, 1407]
theorem so_s91_0 : so_al so_mi so_Ts so_Bs so_rows so_strs so_i91 so_c91 0 37 := so_bS (T1 := so_T91_0) (B1 := so_B1) 0 37 so_hW (so_tin _ _ (by decide +kernel)) so_B1_in (so_bZ 0 37 [42, 182, 0, 192, 42, 42, 180, 0, 216, 181, 0, 237, 42, 42, 180, 0, 222, 181, 0, 240, 42, 42, 180, 0, 225, 181, 0, 243, 42, 42, 180, 0, 124, 181, 0, 246, 177] (by decide +kernel) (by decide +kernel) (by decide +kernel))
theorem so_m91 : so_pr so_mi so_Ts so_Bs so_rows so_strs (some so_i91) (some so_c91) [] := so_pr_I rfl (by decide +kernel) rfl so_s91_0
/-- SequentMillModel.isSequent(I)Z -/
def so_T93_0 : List Cond := so_pick (k2_sels lw_privs) [] ++ so_pick tables_1 [1378, 1521, 14, 1522]
theorem so_s93_0 : so_al so_mi so_Ts so_Bs so_rows so_strs so_i93 so_c93 0 17 := so_bS (T1 := so_T93_0) (B1 := so_B1) 0 17 so_hW (so_tin _ _ (by decide +kernel)) so_B1_in (so_bZ 0 17 [27, 42, 180, 0, 249, 184, 0, 148, 154, 0, 7, 4, 167, 0, 4, 3, 172] (by decide +kernel) (by decide +kernel) (by decide +kernel))
theorem so_m93 : so_pr so_mi so_Ts so_Bs so_rows so_strs (some so_i93) (some so_c93) [] := so_pr_I rfl (by decide +kernel) rfl so_s93_0
/-- SequentMillModel.rowsAreGood()Z -/
def so_T99_0 : List Cond := so_pick (k2_sels lw_privs) [58, 48] ++ so_pick tables_1 [1389, 1390, 1625, 14, 1627, 1561, 1563]
theorem so_s99_0 : so_al so_mi so_Ts so_Bs so_rows so_strs so_i99 so_c99 0 61 := so_bS (T1 := so_T99_0) (B1 := so_B1) 0 61 so_hW (so_tin _ _ (by decide +kernel)) so_B1_in (so_bZ 0 61 [4, 60, 3, 61, 28, 42, 180, 0, 165, 162, 0, 50, 27, 153, 0, 38, 42, 42, 180, 0, 69, 28, 46, 182, 0, 158, 17, 15, 160, 163, 0, 22, 42, 42, 180, 0, 69, 28, 46, 182, 0, 189, 16, 120, 163, 0, 7, 4, 167, 0, 4, 3, 60, 132, 2, 1, 167, 255, 204, 27, 172] (by decide +kernel) (by decide +kernel) (by decide +kernel))
theorem so_m99 : so_pr so_mi so_Ts so_Bs so_rows so_strs (some so_i99) (some so_c99) [] := so_pr_I rfl (by decide +kernel) rfl so_s99_0
/-- SequentMillModel.keep(I)Z -/
def so_T100_0 : List Cond := so_pick (k2_sels lw_privs) [42, 70] ++ so_pick tables_1 [1388, 1389, 1379, 1387, 1552, 1378, 1407, 1528, 14, 1530, 1391, 1677, 1678, 1680, 1381, 1380]
theorem so_s100_0 : so_al so_mi so_Ts so_Bs so_rows so_strs so_i100 so_c100 0 88 := so_bS (T1 := so_T100_0) (B1 := so_B1) 0 88 so_hW (so_tin _ _ (by decide +kernel)) so_B1_in (so_bZ 0 88 [42, 180, 0, 127, 154, 0, 70, 42, 180, 0, 165, 4, 100, 16, 60, 163, 0, 59, 42, 180, 1, 5, 42, 180, 0, 162, 96, 18, 161, 100, 17, 78, 32, 163, 0, 41, 42, 180, 0, 249, 17, 3, 232, 162, 0, 31, 42, 42, 180, 0, 246, 182, 0, 135, 153, 0, 20, 42, 180, 0, 216, 19, 1, 8, 163, 0, 10, 42, 182, 1, 9, 154, 0, 5, 3, 172, 42, 180, 0, 51, 42, 180, 0, 249, 42, 180, 0, 107, 79, 42, 180] (by decide +kernel) (by decide +kernel) (by decide +kernel))
def so_T100_1 : List Cond := so_pick (k2_sels lw_privs) [] ++ so_pick tables_1 [1382, 1378, 1389, 1383, 1384, 1404, 1385, 1405, 1386, 1406, 1552]
theorem so_s100_1 : so_al so_mi so_Ts so_Bs so_rows so_strs so_i100 so_c100 88 157 := so_bS (T1 := so_T100_1) (B1 := so_B1) 88 69 so_hW (so_tin _ _ (by decide +kernel)) so_B1_in (so_bZ 88 69 [79, 42, 180, 0, 54, 42, 180, 0, 249, 42, 180, 0, 165, 4, 100, 79, 42, 180, 0, 57, 42, 180, 0, 249, 27, 79, 42, 180, 0, 60, 42, 180, 0, 249, 42, 180, 0, 237, 79, 42, 180, 0, 63, 42, 180, 0, 249, 42, 180, 0, 240, 79, 42, 180, 0, 66, 42, 180, 0, 249, 42, 180, 0, 243, 79, 18, 161, 61, 28, 42, 180, 0] (by decide +kernel) (by decide +kernel) (by decide +kernel))
def so_T100_2 : List Cond := so_pick (k2_sels lw_privs) [] ++ so_pick tables_1 [1387, 1373, 1380, 1374, 1379, 1552, 1378]
theorem so_s100_2 : so_al so_mi so_Ts so_Bs so_rows so_strs so_i100 so_c100 157 238 := so_bS (T1 := so_T100_2) (B1 := so_B1) 157 81 so_hW (so_tin _ _ (by decide +kernel)) so_B1_in (so_bZ 157 81 [42, 180, 0, 162, 162, 0, 49, 42, 180, 0, 42, 42, 180, 0, 107, 42, 180, 0, 42, 28, 46, 79, 42, 180, 0, 45, 42, 180, 0, 107, 42, 180, 0, 45, 28, 46, 79, 42, 89, 180, 0, 107, 4, 96, 181, 0, 107, 132, 2, 1, 167, 255, 205, 42, 89, 180, 1, 5, 42, 180, 0, 162, 18, 161, 100, 96, 181, 1, 5, 42, 89, 180, 0, 249, 4, 96, 181, 0, 249, 4, 172] (by decide +kernel) (by decide +kernel) (by decide +kernel))
theorem so_m100 : so_pr so_mi so_Ts so_Bs so_rows so_strs (some so_i100) (some so_c100) [] := so_pr_I rfl (by decide +kernel) rfl (so_al_app (so_al_app so_s100_0 so_s100_1) so_s100_2)
/-- SequentMillModel.finish(II)I -/
def so_T101_0 : List Cond := so_pick (k2_sels lw_privs) [69] ++ so_pick tables_1 [1673, 14, 1675, 1378]
theorem so_s101_0 : so_al so_mi so_Ts so_Bs so_rows so_strs so_i101 so_c101 0 15 := so_bS (T1 := so_T101_0) (B1 := so_B1) 0 15 so_hW (so_tin _ _ (by decide +kernel)) so_B1_in (so_bZ 0 15 [42, 27, 182, 1, 13, 153, 0, 10, 42, 180, 0, 249, 4, 100, 172, 42, 42, 180] (by decide +kernel) (by decide +kernel) (by decide +kernel))
theorem so_m101 : so_pr so_mi so_Ts so_Bs so_rows so_strs (some so_i101) (some so_c101) [] := so_pr_I rfl (by decide +kernel) rfl so_s101_0
/-- SequentMillModel.refl(I)I -/
def so_T102_0 : List Cond := so_pick (k2_sels lw_privs) [51] ++ so_pick tables_1 [1581, 14, 1583, 1358]
theorem so_s102_0 : so_al so_mi so_Ts so_Bs so_rows so_strs so_i102 so_c102 0 26 := so_bS (T1 := so_T102_0) (B1 := so_B1) 0 26 so_hW (so_tin _ _ (by decide +kernel)) so_B1_in (so_bZ 0 26 [42, 42, 27, 182, 0, 201, 153, 0, 7, 3, 167, 0, 4, 4, 181, 0, 121, 42, 180, 0, 121, 158, 0, 5, 3, 172, 42, 182, 1] (by decide +kernel) (by decide +kernel) (by decide +kernel))
theorem so_m102 : so_pr so_mi so_Ts so_Bs so_rows so_strs (some so_i102) (some so_c102) [] := so_pr_I rfl (by decide +kernel) rfl so_s102_0
/-- SequentMillModel.trans(II)I -/
def so_T104_0 : List Cond := so_pick (k2_sels lw_privs) [72] ++ so_pick tables_1 [1690, 14, 1692, 1358]
theorem so_s104_0 : so_al so_mi so_Ts so_Bs so_rows so_strs so_i104 so_c104 0 34 := so_bS (T1 := so_T104_0) (B1 := so_B1) 0 34 so_hW (so_tin _ _ (by decide +kernel)) so_B1_in (so_bZ 0 34 [42, 42, 27, 182, 1, 32, 153, 0, 11, 42, 28, 182, 1, 32, 154, 0, 7, 4, 167, 0, 4, 3, 181, 0, 121, 42, 180, 0, 121, 158, 0, 5, 3, 172, 42, 27, 182] (by decide +kernel) (by decide +kernel) (by decide +kernel))
theorem so_m104 : so_pr so_mi so_Ts so_Bs so_rows so_strs (some so_i104) (some so_c104) [] := so_pr_I rfl (by decide +kernel) rfl so_s104_0
/-- SequentMillModel.applied(II)I -/
def so_T105_0 : List Cond := so_pick (k2_sels lw_privs) [72] ++ so_pick tables_1 [1690, 14, 1692, 1358]
theorem so_s105_0 : so_al so_mi so_Ts so_Bs so_rows so_strs so_i105 so_c105 0 34 := so_bS (T1 := so_T105_0) (B1 := so_B1) 0 34 so_hW (so_tin _ _ (by decide +kernel)) so_B1_in (so_bZ 0 34 [42, 42, 27, 182, 1, 32, 153, 0, 11, 42, 28, 182, 1, 32, 154, 0, 7, 4, 167, 0, 4, 3, 181, 0, 121, 42, 180, 0, 121, 158, 0, 5, 3, 172, 42, 27, 182] (by decide +kernel) (by decide +kernel) (by decide +kernel))
theorem so_m105 : so_pr so_mi so_Ts so_Bs so_rows so_strs (some so_i105) (some so_c105) [] := so_pr_I rfl (by decide +kernel) rfl so_s105_0
/-- SequentMillModel.abstracted(II)I -/
def so_T106_0 : List Cond := so_pick (k2_sels lw_privs) [51] ++ so_pick tables_1 [1581, 14, 1583, 1358]
theorem so_s106_0 : so_al so_mi so_Ts so_Bs so_rows so_strs so_i106 so_c106 0 34 := so_bS (T1 := so_T106_0) (B1 := so_B1) 0 34 so_hW (so_tin _ _ (by decide +kernel)) so_B1_in (so_bZ 0 34 [42, 42, 27, 182, 0, 201, 153, 0, 11, 42, 28, 182, 1, 32, 154, 0, 7, 4, 167, 0, 4, 3, 181, 0, 121, 42, 180, 0, 121, 158, 0, 5, 3, 172, 42, 180, 0] (by decide +kernel) (by decide +kernel) (by decide +kernel))
theorem so_m106 : so_pr so_mi so_Ts so_Bs so_rows so_strs (some so_i106) (some so_c106) [] := so_pr_I rfl (by decide +kernel) rfl so_s106_0
/-- SequentMillModel.beta(I)I -/
def so_T107_0 : List Cond := so_pick (k2_sels lw_privs) [51] ++ so_pick tables_1 [1581, 14, 1583, 1358]
theorem so_s107_0 : so_al so_mi so_Ts so_Bs so_rows so_strs so_i107 so_c107 0 26 := so_bS (T1 := so_T107_0) (B1 := so_B1) 0 26 so_hW (so_tin _ _ (by decide +kernel)) so_B1_in (so_bZ 0 26 [42, 42, 27, 182, 0, 201, 153, 0, 7, 3, 167, 0, 4, 4, 181, 0, 121, 42, 180, 0, 121, 158, 0, 5, 3, 172, 42, 180, 0] (by decide +kernel) (by decide +kernel) (by decide +kernel))
theorem so_m107 : so_pr so_mi so_Ts so_Bs so_rows so_strs (some so_i107) (some so_c107) [] := so_pr_I rfl (by decide +kernel) rfl so_s107_0
/-- SequentMillModel.assume(I)I -/
def so_T108_0 : List Cond := so_pick (k2_sels lw_privs) [51] ++ so_pick tables_1 [1581, 14, 1583, 1358]
theorem so_s108_0 : so_al so_mi so_Ts so_Bs so_rows so_strs so_i108 so_c108 0 48 := so_bS (T1 := so_T108_0) (B1 := so_B1) 0 48 so_hW (so_tin _ _ (by decide +kernel)) so_B1_in (so_bZ 0 48 [42, 42, 27, 182, 0, 201, 154, 0, 7, 4, 167, 0, 26, 42, 180, 0, 45, 42, 180, 0, 48, 27, 46, 46, 42, 182, 0, 179, 159, 0, 7, 5, 167, 0, 4, 3, 181, 0, 121, 42, 180, 0, 121, 158, 0, 5, 3, 172, 42, 182, 1] (by decide +kernel) (by decide +kernel) (by decide +kernel))
theorem so_m108 : so_pr so_mi so_Ts so_Bs so_rows so_strs (some so_i108) (some so_c108) [] := so_pr_I rfl (by decide +kernel) rfl so_s108_0
/-- SequentMillModel.equal(II)I -/
def so_T109_0 : List Cond := so_pick (k2_sels lw_privs) [72] ++ so_pick tables_1 [1690, 14, 1692, 1358]
theorem so_s109_0 : so_al so_mi so_Ts so_Bs so_rows so_strs so_i109 so_c109 0 34 := so_bS (T1 := so_T109_0) (B1 := so_B1) 0 34 so_hW (so_tin _ _ (by decide +kernel)) so_B1_in (so_bZ 0 34 [42, 42, 27, 182, 1, 32, 153, 0, 11, 42, 28, 182, 1, 32, 154, 0, 7, 4, 167, 0, 4, 3, 181, 0, 121, 42, 180, 0, 121, 158, 0, 5, 3, 172, 42, 27, 182] (by decide +kernel) (by decide +kernel) (by decide +kernel))
theorem so_m109 : so_pr so_mi so_Ts so_Bs so_rows so_strs (some so_i109) (some so_c109) [] := so_pr_I rfl (by decide +kernel) rfl so_s109_0
/-- SequentMillModel.antisym(II)I -/
def so_T110_0 : List Cond := so_pick (k2_sels lw_privs) [72] ++ so_pick tables_1 [1690, 14, 1692, 1358]
theorem so_s110_0 : so_al so_mi so_Ts so_Bs so_rows so_strs so_i110 so_c110 0 34 := so_bS (T1 := so_T110_0) (B1 := so_B1) 0 34 so_hW (so_tin _ _ (by decide +kernel)) so_B1_in (so_bZ 0 34 [42, 42, 27, 182, 1, 32, 153, 0, 11, 42, 28, 182, 1, 32, 154, 0, 7, 4, 167, 0, 4, 3, 181, 0, 121, 42, 180, 0, 121, 158, 0, 5, 3, 172, 42, 27, 182] (by decide +kernel) (by decide +kernel) (by decide +kernel))
theorem so_m110 : so_pr so_mi so_Ts so_Bs so_rows so_strs (some so_i110) (some so_c110) [] := so_pr_I rfl (by decide +kernel) rfl so_s110_0
/-- SequentMillModel.put(III)I -/
def so_T111_0 : List Cond := so_pick (k2_sels lw_privs) [72] ++ so_pick tables_1 [1690, 14, 1692, 1358]
theorem so_s111_0 : so_al so_mi so_Ts so_Bs so_rows so_strs so_i111 so_c111 0 84 := so_bS (T1 := so_T111_0) (B1 := so_B1) 0 84 so_hW (so_tin _ _ (by decide +kernel)) so_B1_in (so_bZ 0 84 [42, 42, 27, 182, 1, 32, 153, 0, 19, 42, 28, 182, 0, 201, 153, 0, 11, 42, 29, 182, 0, 201, 154, 0, 7, 4, 167, 0, 46, 42, 42, 180, 0, 48, 28, 46, 182, 0, 207, 153, 0, 28, 42, 180, 0, 45, 42, 180, 0, 48, 28, 46, 46, 42, 180, 0, 45, 42, 180, 0, 48, 29, 46, 46, 159, 0, 7, 5, 167, 0, 4, 3, 181, 0, 121, 42, 180, 0, 121, 158, 0, 5, 3, 172, 42, 182, 1] (by decide +kernel) (by decide +kernel) (by decide +kernel))
theorem so_m111 : so_pr so_mi so_Ts so_Bs so_rows so_strs (some so_i111) (some so_c111) [] := so_pr_I rfl (by decide +kernel) rfl so_s111_0
/-- SequentMillModel.retype(IIIII)I -/
def so_T114_0 : List Cond := so_pick (k2_sels lw_privs) [72] ++ so_pick tables_1 [1690, 14, 1692, 1358]
theorem so_s114_0 : so_al so_mi so_Ts so_Bs so_rows so_strs so_i114 so_c114 0 96 := so_bS (T1 := so_T114_0) (B1 := so_B1) 0 96 so_hW (so_tin _ _ (by decide +kernel)) so_B1_in (so_bZ 0 96 [42, 42, 27, 182, 1, 32, 153, 0, 26, 29, 42, 180, 0, 145, 184, 0, 148, 154, 0, 15, 21, 5, 42, 180, 0, 145, 184, 0, 148, 153, 0, 7, 4, 167, 0, 51, 28, 17, 3, 232, 184, 0, 148, 154, 0, 36, 21, 4, 17, 3, 232, 184, 0, 148, 154, 0, 25, 28, 21, 4, 160, 0, 23, 42, 180, 0, 35, 29, 46, 42, 180, 0, 35, 21, 5, 46, 159, 0, 7, 5, 167, 0, 4, 3, 181, 0, 121, 42, 180, 0, 121, 158, 0, 5, 3, 172, 42, 182, 1] (by decide +kernel) (by decide +kernel) (by decide +kernel))
theorem so_m114 : so_pr so_mi so_Ts so_Bs so_rows so_strs (some so_i114) (some so_c114) [] := so_pr_I rfl (by decide +kernel) rfl so_s114_0
/-- SequentMillModel.define(I)I -/
def so_T118_0 : List Cond := so_pick (k2_sels lw_privs) [51] ++ so_pick tables_1 [1581, 14, 1583, 1358]
theorem so_s118_0 : so_al so_mi so_Ts so_Bs so_rows so_strs so_i118 so_c118 0 26 := so_bS (T1 := so_T118_0) (B1 := so_B1) 0 26 so_hW (so_tin _ _ (by decide +kernel)) so_B1_in (so_bZ 0 26 [42, 42, 27, 182, 0, 201, 153, 0, 7, 3, 167, 0, 4, 4, 181, 0, 121, 42, 180, 0, 121, 158, 0, 5, 3, 172, 42, 180, 0] (by decide +kernel) (by decide +kernel) (by decide +kernel))
theorem so_m118 : so_pr so_mi so_Ts so_Bs so_rows so_strs (some so_i118) (some so_c118) [] := so_pr_I rfl (by decide +kernel) rfl so_s118_0
/-- SequentMillModel.defineType(I)I -/
def so_T120_0 : List Cond := so_pick (k2_sels lw_privs) [72] ++ so_pick tables_1 [1690, 14, 1692, 1358]
theorem so_s120_0 : so_al so_mi so_Ts so_Bs so_rows so_strs so_i120 so_c120 0 26 := so_bS (T1 := so_T120_0) (B1 := so_B1) 0 26 so_hW (so_tin _ _ (by decide +kernel)) so_B1_in (so_bZ 0 26 [42, 42, 27, 182, 1, 32, 153, 0, 7, 3, 167, 0, 4, 4, 181, 0, 121, 42, 180, 0, 121, 158, 0, 5, 3, 172, 42, 27, 182] (by decide +kernel) (by decide +kernel) (by decide +kernel))
theorem so_m120 : so_pr so_mi so_Ts so_Bs so_rows so_strs (some so_i120) (some so_c120) [] := so_pr_I rfl (by decide +kernel) rfl so_s120_0
/-- SequentMillModel.variableRow(II)I -/
def so_T121_0 : List Cond := so_pick (k2_sels lw_privs) [46] ++ so_pick tables_1 [1387, 1553, 14, 1555]
theorem so_s121_0 : so_al so_mi so_Ts so_Bs so_rows so_strs so_i121 so_c121 0 17 := so_bS (T1 := so_T121_0) (B1 := so_B1) 0 17 so_hW (so_tin _ _ (by decide +kernel)) so_B1_in (so_bZ 0 17 [42, 180, 0, 162, 62, 42, 7, 27, 104, 4, 96, 28, 182, 0, 168, 29, 172] (by decide +kernel) (by decide +kernel) (by decide +kernel))
theorem so_m121 : so_pr so_mi so_Ts so_Bs so_rows so_strs (some so_i121) (some so_c121) [] := so_pr_I rfl (by decide +kernel) rfl so_s121_0
/-- SequentMillModel.applyRow(II)I -/
def so_T122_0 : List Cond := so_pick (k2_sels lw_privs) [46, 53] ++ so_pick tables_1 [1387, 1364, 1374, 1553, 14, 1555, 1589, 1591]
theorem so_s122_0 : so_al so_mi so_Ts so_Bs so_rows so_strs so_i122 so_c122 0 33 := so_bS (T1 := so_T122_0) (B1 := so_B1) 0 33 so_hW (so_tin _ _ (by decide +kernel)) so_B1_in (so_bZ 0 33 [42, 180, 0, 162, 62, 42, 2, 42, 180, 0, 23, 42, 180, 0, 45, 27, 46, 46, 182, 0, 168, 42, 27, 182, 0, 175, 42, 28, 182, 0, 175, 29, 172] (by decide +kernel) (by decide +kernel) (by decide +kernel))
theorem so_m122 : so_pr so_mi so_Ts so_Bs so_rows so_strs (some so_i122) (some so_c122) [] := so_pr_I rfl (by decide +kernel) rfl so_s122_0
/-- SequentMillModel.abstractRow(II)I -/
def so_T123_0 : List Cond := so_pick (k2_sels lw_privs) [40, 46, 55] ++ so_pick tables_1 [1387, 1374, 1354, 14, 1356, 1553, 1555, 1601, 1603]
theorem so_s123_0 : so_al so_mi so_Ts so_Bs so_rows so_strs so_i123 so_c123 0 35 := so_bS (T1 := so_T123_0) (B1 := so_B1) 0 35 so_hW (so_tin _ _ (by decide +kernel)) so_B1_in (so_bZ 0 35 [42, 180, 0, 162, 62, 42, 16, 254, 42, 42, 180, 0, 45, 27, 46, 42, 180, 0, 45, 28, 46, 182, 0, 114, 182, 0, 168, 42, 27, 28, 182, 0, 210, 29, 172] (by decide +kernel) (by decide +kernel) (by decide +kernel))
theorem so_m123 : so_pr so_mi so_Ts so_Bs so_rows so_strs (some so_i123) (some so_c123) [] := so_pr_I rfl (by decide +kernel) rfl so_s123_0
/-- SequentMillModel.equalRow(II)I -/
def so_T124_0 : List Cond := so_pick (k2_sels lw_privs) [66, 53] ++ so_pick tables_1 [1387, 1374, 1661, 14, 1663, 1589, 1591]
theorem so_s124_0 : so_al so_mi so_Ts so_Bs so_rows so_strs so_i124 so_c124 0 27 := so_bS (T1 := so_T124_0) (B1 := so_B1) 0 27 so_hW (so_tin _ _ (by decide +kernel)) so_B1_in (so_bZ 0 27 [42, 180, 0, 162, 62, 42, 42, 180, 0, 45, 27, 46, 182, 1, 26, 42, 27, 182, 0, 175, 42, 28, 182, 0, 175, 29, 172] (by decide +kernel) (by decide +kernel) (by decide +kernel))
theorem so_m124 : so_pr so_mi so_Ts so_Bs so_rows so_strs (some so_i124) (some so_c124) [] := so_pr_I rfl (by decide +kernel) rfl so_s124_0
/-- SequentMillModel.truthRow()I -/
def so_T125_0 : List Cond := so_pick (k2_sels lw_privs) [67, 90, 92, 93] ++ so_pick tables_1 [1665, 14, 1667, 1806, 1808, 1814, 1816, 1818, 1820]
theorem so_s125_0 : so_al so_mi so_Ts so_Bs so_rows so_strs so_i125 so_c125 0 26 := so_bS (T1 := so_T125_0) (B1 := so_B1) 0 26 so_hW (so_tin _ _ (by decide +kernel)) so_B1_in (so_bZ 0 26 [42, 17, 3, 232, 42, 182, 0, 179, 182, 1, 78, 60, 42, 27, 27, 182, 1, 81, 61, 42, 28, 28, 182, 1, 84, 172] (by decide +kernel) (by decide +kernel) (by decide +kernel))
theorem so_m125 : so_pr so_mi so_Ts so_Bs so_rows so_strs (some so_i125) (some so_c125) [] := so_pr_I rfl (by decide +kernel) rfl so_s125_0

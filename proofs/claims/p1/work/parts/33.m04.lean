/-! ===== the methods, 5 ===== -/
/-- SequentMillModel.andRow(II)I -/
def so_T126_0 : List Cond := so_pick (k2_sels lw_privs) [67, 40, 90, 98, 91, 92, 93] ++ so_pick tables_1 [1665, 14, 1667, 1354, 1356, 1806, 1808, 1838, 1840, 1810, 1812, 1814, 1816, 1818, 1820]
theorem so_s126_0 : so_al so_mi so_Ts so_Bs so_rows so_strs so_i126 so_c126 0 78 := so_bS (T1 := so_T126_0) (B1 := so_B1) 0 78 so_hW (so_tin _ _ (by decide +kernel)) so_B1_in (so_bZ 0 78 [42, 182, 0, 179, 62, 42, 17, 3, 233, 42, 29, 42, 29, 29, 182, 0, 114, 182, 0, 114, 182, 1, 78, 54, 4, 42, 182, 1, 87, 54, 5, 42, 21, 4, 42, 42, 21, 4, 27, 182, 1, 90, 28, 182, 1, 90, 182, 1, 81, 54, 6, 42, 21, 6, 42, 21, 4, 42, 42, 21, 4, 21, 5, 182, 1, 90, 21, 5, 182, 1, 90, 182, 1, 81, 182, 1, 84, 172] (by decide +kernel) (by decide +kernel) (by decide +kernel))
theorem so_m126 : so_pr so_mi so_Ts so_Bs so_rows so_strs (some so_i126) (some so_c126) [] := so_pr_I rfl (by decide +kernel) rfl so_s126_0
/-- SequentMillModel.impliesRow(II)I -/
def so_T127_0 : List Cond := so_pick (k2_sels lw_privs) [97, 93] ++ so_pick tables_1 [1834, 14, 1836, 1818, 1820]
theorem so_s127_0 : so_al so_mi so_Ts so_Bs so_rows so_strs so_i127 so_c127 0 12 := so_bS (T1 := so_T127_0) (B1 := so_B1) 0 12 so_hW (so_tin _ _ (by decide +kernel)) so_B1_in (so_bZ 0 12 [42, 42, 27, 28, 182, 1, 93, 27, 182, 1, 84, 172] (by decide +kernel) (by decide +kernel) (by decide +kernel))
theorem so_m127 : so_pr so_mi so_Ts so_Bs so_rows so_strs (some so_i127) (some so_c127) [] := so_pr_I rfl (by decide +kernel) rfl so_s127_0
/-- SequentMillModel.allRow(II)I -/
def so_T128_0 : List Cond := so_pick (k2_sels lw_privs) [92, 98, 93] ++ so_pick tables_1 [1814, 14, 1816, 1838, 1840, 1818, 1820]
theorem so_s128_0 : so_al so_mi so_Ts so_Bs so_rows so_strs so_i128 so_c128 0 22 := so_bS (T1 := so_T128_0) (B1 := so_B1) 0 22 so_hW (so_tin _ _ (by decide +kernel)) so_B1_in (so_bZ 0 22 [42, 27, 28, 182, 1, 81, 62, 42, 29, 42, 27, 42, 182, 1, 87, 182, 1, 81, 182, 1, 84, 172] (by decide +kernel) (by decide +kernel) (by decide +kernel))
theorem so_m128 : so_pr so_mi so_Ts so_Bs so_rows so_strs (some so_i128) (some so_c128) [] := so_pr_I rfl (by decide +kernel) rfl so_s128_0
/-- SequentMillModel.choiceOf(I)I -/
def so_T129_0 : List Cond := so_pick (k2_sels lw_privs) [67, 40, 46] ++ so_pick tables_1 [1387, 1665, 14, 1667, 1354, 1356, 1553, 1555]
theorem so_s129_0 : so_al so_mi so_Ts so_Bs so_rows so_strs so_i129 so_c129 0 27 := so_bS (T1 := so_T129_0) (B1 := so_B1) 0 27 so_hW (so_tin _ _ (by decide +kernel)) so_B1_in (so_bZ 0 27 [42, 180, 0, 162, 61, 42, 16, 6, 42, 42, 27, 42, 182, 0, 179, 182, 0, 114, 27, 182, 0, 114, 182, 0, 168, 28, 172] (by decide +kernel) (by decide +kernel) (by decide +kernel))
theorem so_m129 : so_pr so_mi so_Ts so_Bs so_rows so_strs (some so_i129) (some so_c129) [] := so_pr_I rfl (by decide +kernel) rfl so_s129_0
/-- SequentMillModel.someRow(II)I -/
def so_T130_0 : List Cond := so_pick (k2_sels lw_privs) [92, 95, 91] ++ so_pick tables_1 [1814, 14, 1816, 1374, 1826, 1828, 1810, 1812]
theorem so_s130_0 : so_al so_mi so_Ts so_Bs so_rows so_strs so_i130 so_c130 0 32 := so_bS (T1 := so_T130_0) (B1 := so_B1) 0 32 so_hW (so_tin _ _ (by decide +kernel)) so_B1_in (so_bZ 0 32 [42, 27, 28, 182, 1, 81, 62, 42, 42, 180, 0, 45, 27, 46, 182, 1, 96, 54, 4, 42, 29, 42, 21, 4, 29, 182, 1, 90, 182, 1, 90, 172] (by decide +kernel) (by decide +kernel) (by decide +kernel))
theorem so_m130 : so_pr so_mi so_Ts so_Bs so_rows so_strs (some so_i130) (some so_c130) [] := so_pr_I rfl (by decide +kernel) rfl so_s130_0
/-- SequentMillModel.notRow(I)I -/
def so_T131_0 : List Cond := so_pick (k2_sels lw_privs) [67, 90, 100, 96] ++ so_pick tables_1 [1665, 14, 1667, 1806, 1808, 1846, 1848, 1830, 1832]
theorem so_s131_0 : so_al so_mi so_Ts so_Bs so_rows so_strs so_i131 so_c131 0 24 := so_bS (T1 := so_T131_0) (B1 := so_B1) 0 24 so_hW (so_tin _ _ (by decide +kernel)) so_B1_in (so_bZ 0 24 [42, 17, 3, 234, 42, 182, 0, 179, 182, 1, 78, 61, 42, 27, 42, 28, 28, 182, 1, 99, 182, 1, 102, 172] (by decide +kernel) (by decide +kernel) (by decide +kernel))
theorem so_m131 : so_pr so_mi so_Ts so_Bs so_rows so_strs (some so_i131) (some so_c131) [] := so_pr_I rfl (by decide +kernel) rfl so_s131_0
/-- SequentMillModel.extensionality()I -/
def so_T132_0 : List Cond := so_pick (k2_sels lw_privs) [39, 90, 40, 91, 92, 93] ++ so_pick tables_1 [1350, 14, 1352, 1806, 1808, 1354, 1356, 1810, 1812, 1814, 1816, 1818, 1820]
theorem so_s132_0 : so_al so_mi so_Ts so_Bs so_rows so_strs so_i132 so_c132 0 51 := so_bS (T1 := so_T132_0) (B1 := so_B1) 0 51 so_hW (so_tin _ _ (by decide +kernel)) so_B1_in (so_bZ 0 51 [42, 2, 2, 2, 182, 0, 110, 60, 42, 3, 27, 182, 1, 78, 61, 42, 4, 42, 27, 42, 16, 254, 2, 2, 182, 0, 110, 182, 0, 114, 182, 1, 78, 62, 42, 42, 28, 42, 29, 28, 182, 1, 90, 182, 1, 81, 29, 182, 1, 84, 172] (by decide +kernel) (by decide +kernel) (by decide +kernel))
theorem so_m132 : so_pr so_mi so_Ts so_Bs so_rows so_strs (some so_i132) (some so_c132) [] := so_pr_I rfl (by decide +kernel) rfl so_s132_0
/-- SequentMillModel.choiceRow()I -/
def so_T133_0 : List Cond := so_pick (k2_sels lw_privs) [39, 90, 67, 40, 95, 91, 96] ++ so_pick tables_1 [1350, 14, 1352, 1806, 1808, 1665, 1667, 1354, 1356, 1826, 1828, 1810, 1812, 1830, 1832]
theorem so_s133_0 : so_al so_mi so_Ts so_Bs so_rows so_strs so_i133 so_c133 0 64 := so_bS (T1 := so_T133_0) (B1 := so_B1) 0 64 so_hW (so_tin _ _ (by decide +kernel)) so_B1_in (so_bZ 0 64 [42, 2, 2, 2, 182, 0, 110, 60, 42, 3, 27, 182, 1, 78, 61, 42, 4, 42, 27, 42, 182, 0, 179, 182, 0, 114, 182, 1, 78, 62, 42, 27, 182, 1, 96, 54, 4, 42, 29, 42, 21, 4, 29, 182, 1, 90, 182, 1, 90, 54, 5, 42, 42, 29, 28, 182, 1, 90, 21, 5, 182, 1, 102, 172] (by decide +kernel) (by decide +kernel) (by decide +kernel))
theorem so_m133 : so_pr so_mi so_Ts so_Bs so_rows so_strs (some so_i133) (some so_c133) [] := so_pr_I rfl (by decide +kernel) rfl so_s133_0
/-- SequentMillModel.infinityRow()I -/
def so_T134_0 : List Cond := so_pick (k2_sels lw_privs) [39, 40, 90, 91, 93] ++ so_pick tables_1 [1350, 14, 1352, 1354, 1356, 1806, 1808, 1810, 1812, 1818, 1820]
theorem so_s134_0 : so_al so_mi so_Ts so_Bs so_rows so_strs so_i134 so_c134 0 67 := so_bS (T1 := so_T134_0) (B1 := so_B1) 0 67 so_hW (so_tin _ _ (by decide +kernel)) so_B1_in (so_bZ 0 67 [42, 4, 2, 2, 182, 0, 110, 60, 42, 17, 3, 235, 42, 27, 27, 182, 0, 114, 182, 1, 78, 61, 42, 17, 3, 236, 27, 182, 1, 78, 62, 42, 17, 3, 237, 27, 182, 1, 78, 54, 4, 42, 28, 29, 182, 1, 90, 54, 5, 42, 42, 21, 5, 42, 28, 21, 4, 182, 1, 90, 182, 1, 84, 42, 29, 21, 4, 182, 1, 84] (by decide +kernel) (by decide +kernel) (by decide +kernel))
def so_T134_1 : List Cond := so_pick (k2_sels lw_privs) [93, 96, 100, 101, 102, 97] ++ so_pick tables_1 [1818, 14, 1820, 1830, 1832, 1846, 1848, 1850, 1852, 1854, 1856, 1834, 1836]
theorem so_s134_1 : so_al so_mi so_Ts so_Bs so_rows so_strs so_i134 so_c134 67 129 := so_bS (T1 := so_T134_1) (B1 := so_B1) 67 62 so_hW (so_tin _ _ (by decide +kernel)) so_B1_in (so_bZ 67 62 [182, 1, 84, 182, 1, 102, 54, 6, 42, 29, 42, 21, 4, 21, 6, 182, 1, 99, 182, 1, 99, 54, 7, 42, 21, 4, 42, 29, 42, 42, 21, 4, 21, 5, 182, 1, 84, 182, 1, 105, 182, 1, 99, 182, 1, 108, 54, 8, 42, 28, 42, 21, 7, 21, 8, 182, 1, 93, 182, 1, 108, 172] (by decide +kernel) (by decide +kernel) (by decide +kernel))
theorem so_m134 : so_pr so_mi so_Ts so_Bs so_rows so_strs (some so_i134) (some so_c134) [] := so_pr_I rfl (by decide +kernel) rfl (so_al_app so_s134_0 so_s134_1)
/-- SequentMillModel.axiom(I)I -/
def so_T135_0 : List Cond := so_pick (k2_sels lw_privs) [59, 62, 89, 94, 99, 49] ++ so_pick tables_1 [1521, 14, 1522, 1358, 1633, 1635, 1645, 1647, 1802, 1804, 1822, 1824, 1842, 1844, 1565, 1567]
theorem so_s135_0 : so_al so_mi so_Ts so_Bs so_rows so_strs so_i135 so_c135 0 75 := so_bS (T1 := so_T135_0) (B1 := so_B1) 0 75 so_hW (so_tin _ _ (by decide +kernel)) so_B1_in (so_bZ 0 75 [42, 27, 6, 184, 0, 148, 153, 0, 7, 4, 167, 0, 4, 3, 181, 0, 121, 42, 180, 0, 121, 158, 0, 5, 3, 172, 42, 182, 1, 20, 42, 16, 22, 182, 0, 219, 42, 27, 182, 0, 219, 27, 154, 0, 10, 42, 182, 1, 111, 167, 0, 19, 27, 4, 160, 0, 10, 42, 182, 1, 114, 167, 0, 7, 42, 182, 1, 117, 61, 42, 28, 182, 0, 155, 62, 28, 54, 4] (by decide +kernel) (by decide +kernel) (by decide +kernel))
def so_T135_1 : List Cond := so_pick (k2_sels lw_privs) [68] ++ so_pick tables_1 [1373, 1552, 1374, 1387, 1390, 1389, 1669, 14, 1671]
theorem so_s135_1 : so_al so_mi so_Ts so_Bs so_rows so_strs so_i135 so_c135 75 159 := so_bS (T1 := so_T135_1) (B1 := so_B1) 75 84 so_hW (so_tin _ _ (by decide +kernel)) so_B1_in (so_bZ 75 84 [28, 54, 4, 21, 4, 29, 162, 0, 47, 42, 180, 0, 42, 18, 161, 21, 4, 96, 28, 100, 42, 180, 0, 42, 21, 4, 46, 79, 42, 180, 0, 45, 18, 161, 21, 4, 96, 28, 100, 42, 180, 0, 45, 21, 4, 46, 79, 132, 4, 1, 167, 255, 209, 42, 18, 161, 29, 96, 28, 100, 181, 0, 162, 42, 180, 0, 69, 3, 18, 161, 79, 42, 4, 181, 0, 165, 42, 16, 12, 5, 182, 1, 29, 172] (by decide +kernel) (by decide +kernel) (by decide +kernel))
theorem so_m135 : so_pr so_mi so_Ts so_Bs so_rows so_strs (some so_i135) (some so_c135) [] := so_pr_I rfl (by decide +kernel) rfl (so_al_app so_s135_0 so_s135_1)
/-- SequentMillModel.conclusion(I)I -/
def so_T137_0 : List Cond := so_pick (k2_sels lw_privs) [72] ++ so_pick tables_1 [1690, 14, 1692, 1358]
theorem so_s137_0 : so_al so_mi so_Ts so_Bs so_rows so_strs so_i137 so_c137 0 38 := so_bS (T1 := so_T137_0) (B1 := so_B1) 0 38 so_hW (so_tin _ _ (by decide +kernel)) so_B1_in (so_bZ 0 38 [42, 42, 27, 182, 1, 32, 153, 0, 7, 3, 167, 0, 4, 4, 181, 0, 121, 42, 180, 0, 121, 158, 0, 7, 3, 167, 0, 12, 42, 42, 27, 182, 1, 35, 182, 1, 120, 172] (by decide +kernel) (by decide +kernel) (by decide +kernel))
theorem so_m137 : so_pr so_mi so_Ts so_Bs so_rows so_strs (some so_i137) (some so_c137) [] := so_pr_I rfl (by decide +kernel) rfl so_s137_0
/-- SequentMillModel.hypotheses(I)I -/
def so_T138_0 : List Cond := so_pick (k2_sels lw_privs) [72] ++ so_pick tables_1 [1690, 14, 1692, 1358]
theorem so_s138_0 : so_al so_mi so_Ts so_Bs so_rows so_strs so_i138 so_c138 0 35 := so_bS (T1 := so_T138_0) (B1 := so_B1) 0 35 so_hW (so_tin _ _ (by decide +kernel)) so_B1_in (so_bZ 0 35 [42, 42, 27, 182, 1, 32, 153, 0, 7, 3, 167, 0, 4, 4, 181, 0, 121, 42, 180, 0, 121, 158, 0, 7, 3, 167, 0, 9, 42, 180, 0, 54, 27, 46, 172] (by decide +kernel) (by decide +kernel) (by decide +kernel))
theorem so_m138 : so_pr so_mi so_Ts so_Bs so_rows so_strs (some so_i138) (some so_c138) [] := so_pr_I rfl (by decide +kernel) rfl so_s138_0
/-- SequentMillModel.hypothesis(II)I -/
def so_T139_0 : List Cond := so_pick (k2_sels lw_privs) [72] ++ so_pick tables_1 [1690, 14, 1692, 1358]
theorem so_s139_0 : so_al so_mi so_Ts so_Bs so_rows so_strs so_i139 so_c139 0 52 := so_bS (T1 := so_T139_0) (B1 := so_B1) 0 52 so_hW (so_tin _ _ (by decide +kernel)) so_B1_in (so_bZ 0 52 [42, 42, 27, 182, 1, 32, 153, 0, 16, 28, 42, 180, 0, 54, 27, 46, 184, 0, 148, 153, 0, 7, 4, 167, 0, 4, 3, 181, 0, 121, 42, 180, 0, 121, 158, 0, 7, 3, 167, 0, 13, 42, 42, 27, 28, 182, 0, 252, 182, 1, 120, 172] (by decide +kernel) (by decide +kernel) (by decide +kernel))
theorem so_m139 : so_pr so_mi so_Ts so_Bs so_rows so_strs (some so_i139) (some so_c139) [] := so_pr_I rfl (by decide +kernel) rfl so_s139_0
/-- SequentMillModel.size()I -/
def so_T140_0 : List Cond := so_pick (k2_sels lw_privs) [] ++ so_pick tables_1 [1358, 1378]
theorem so_s140_0 : so_al so_mi so_Ts so_Bs so_rows so_strs so_i140 so_c140 0 10 := so_bS (T1 := so_T140_0) (B1 := so_B1) 0 10 so_hW (so_tin _ _ (by decide +kernel)) so_B1_in (so_bZ 0 10 [42, 3, 181, 0, 121, 42, 180, 0, 249, 172] (by decide +kernel) (by decide +kernel) (by decide +kernel))
theorem so_m140 : so_pr so_mi so_Ts so_Bs so_rows so_strs (some so_i140) (some so_c140) [] := so_pr_I rfl (by decide +kernel) rfl so_s140_0
/-- SequentMillModel.cut(I)V -/
def so_T141_0 : List Cond := so_pick (k2_sels lw_privs) [] ++ so_pick tables_1 [1378, 1358]
theorem so_s141_0 : so_al so_mi so_Ts so_Bs so_rows so_strs so_i141 so_c141 0 91 := so_bS (T1 := so_T141_0) (B1 := so_B1) 0 91 so_hW (so_tin _ _ (by decide +kernel)) so_B1_in (so_bZ 0 91 [42, 27, 155, 0, 11, 27, 42, 180, 0, 249, 164, 0, 7, 4, 167, 0, 4, 3, 181, 0, 121, 27, 61, 28, 42, 180, 0, 249, 162, 0, 47, 42, 180, 0, 121, 154, 0, 40, 42, 42, 180, 0, 57, 28, 46, 16, 10, 159, 0, 14, 42, 180, 0, 57, 28, 46, 16, 11, 160, 0, 7, 4, 167, 0, 4, 3, 181, 0, 121, 132, 2, 1, 167, 255, 207, 42, 180, 0, 121, 157, 0, 11, 27, 42, 180, 0, 249, 160, 0, 4, 177, 42, 42, 180] (by decide +kernel) (by decide +kernel) (by decide +kernel))
theorem so_m141 : so_pr so_mi so_Ts so_Bs so_rows so_strs (some so_i141) (some so_c141) [] := so_pr_I rfl (by decide +kernel) rfl so_s141_0

/-! ===== the methods, 6 ===== -/
/-- SequentMillModel.traced()I -/
def so_T142_0 : List Cond := so_pick (k2_sels lw_privs) [] ++ so_pick tables_1 [1358, 1391]
theorem so_s142_0 : so_al so_mi so_Ts so_Bs so_rows so_strs so_i142 so_c142 0 10 := so_bS (T1 := so_T142_0) (B1 := so_B1) 0 10 so_hW (so_tin _ _ (by decide +kernel)) so_B1_in (so_bZ 0 10 [42, 3, 181, 0, 121, 42, 180, 0, 216, 172] (by decide +kernel) (by decide +kernel) (by decide +kernel))
theorem so_m142 : so_pr so_mi so_Ts so_Bs so_rows so_strs (some so_i142) (some so_c142) [] := so_pr_I rfl (by decide +kernel) rfl so_s142_0
/-- SequentMillModel.trace(I)I -/
def so_T143_0 : List Cond := so_pick (k2_sels lw_privs) [] ++ so_pick tables_1 [1391, 1521, 14, 1522, 1358]
theorem so_s143_0 : so_al so_mi so_Ts so_Bs so_rows so_strs so_i143 so_c143 0 38 := so_bS (T1 := so_T143_0) (B1 := so_B1) 0 38 so_hW (so_tin _ _ (by decide +kernel)) so_B1_in (so_bZ 0 38 [42, 27, 42, 180, 0, 216, 184, 0, 148, 153, 0, 7, 4, 167, 0, 4, 3, 181, 0, 121, 42, 180, 0, 121, 158, 0, 7, 3, 167, 0, 9, 42, 180, 0, 73, 27, 46, 172] (by decide +kernel) (by decide +kernel) (by decide +kernel))
theorem so_m143 : so_pr so_mi so_Ts so_Bs so_rows so_strs (some so_i143) (some so_c143) [] := so_pr_I rfl (by decide +kernel) rfl so_s143_0
/-- SequentMill$Handles.<init>(I)V -/
def so_T144_0 : List Cond := so_pick (k2_sels lw_privs) [] ++ so_pick tables_1 [376, 27, 28, 377, 42, 4, 44, 380, 381, 379]
theorem so_s144_0 : so_al so_mi so_Ts so_Bs so_rows so_strs so_i144 so_c144 0 26 := so_bS (T1 := so_T144_0) (B1 := so_B1) 0 26 so_hW (so_tin _ _ (by decide +kernel)) so_B1_in (so_bZ 0 26 [42, 183, 0, 1, 42, 187, 0, 7, 89, 183, 0, 9, 181, 0, 10, 42, 3, 181, 0, 16, 42, 27, 181, 0, 20, 177] (by decide +kernel) (by decide +kernel) (by decide +kernel))
theorem so_m144 : so_pr so_mi so_Ts so_Bs so_rows so_strs (some so_i144) (some so_c144) [] := so_pr_I rfl (by decide +kernel) rfl so_s144_0
/-- SequentMill$Handles.has(I)Z -/
def so_T145_0 : List Cond := so_pick (k2_sels lw_privs) [] ++ so_pick tables_1 [380, 605, 4, 402, 403]
theorem so_s145_0 : so_al so_mi so_Ts so_Bs so_rows so_strs so_i145 so_c145 0 21 := so_bS (T1 := so_T145_0) (B1 := so_B1) 0 21 so_hW (so_tin _ _ (by decide +kernel)) so_B1_in (so_bZ 0 21 [27, 155, 0, 18, 27, 42, 180, 0, 10, 182, 0, 23, 162, 0, 7, 4, 167, 0, 4, 3, 172] (by decide +kernel) (by decide +kernel) (by decide +kernel))
theorem so_m145 : so_pr so_mi so_Ts so_Bs so_rows so_strs (some so_i145) (some so_c145) [] := so_pr_I rfl (by decide +kernel) rfl so_s145_0
/-- SequentMill$Handles.hasRoom(I)Z -/
def so_T147_0 : List Cond := so_pick (k2_sels lw_privs) [] ++ so_pick tables_1 [381, 379]
theorem so_s147_0 : so_al so_mi so_Ts so_Bs so_rows so_strs so_i147 so_c147 0 19 := so_bS (T1 := so_T147_0) (B1 := so_B1) 0 19 so_hW (so_tin _ _ (by decide +kernel)) so_B1_in (so_bZ 0 19 [42, 180, 0, 16, 27, 96, 42, 180, 0, 20, 163, 0, 7, 4, 167, 0, 4, 3, 172] (by decide +kernel) (by decide +kernel) (by decide +kernel))
theorem so_m147 : so_pr so_mi so_Ts so_Bs so_rows so_strs (some so_i147) (some so_c147) [] := so_pr_I rfl (by decide +kernel) rfl so_s147_0
/-- SequentMill$Handles.add(II)I -/
def so_T148_0 : List Cond := so_pick (k2_sels lw_privs) [] ++ so_pick tables_1 [380, 604, 4, 116, 117, 381, 605, 402, 403]
theorem so_s148_0 : so_al so_mi so_Ts so_Bs so_rows so_strs so_i148 so_c148 0 28 := so_bS (T1 := so_T148_0) (B1 := so_B1) 0 28 so_hW (so_tin _ _ (by decide +kernel)) so_B1_in (so_bZ 0 28 [42, 180, 0, 10, 27, 182, 0, 31, 42, 89, 180, 0, 16, 28, 96, 181, 0, 16, 42, 180, 0, 10, 182, 0, 23, 4, 100, 172] (by decide +kernel) (by decide +kernel) (by decide +kernel))
theorem so_m148 : so_pr so_mi so_Ts so_Bs so_rows so_strs (some so_i148) (some so_c148) [] := so_pr_I rfl (by decide +kernel) rfl so_s148_0
/-- SequentMill$Logic.<init>(LSequentMill$Types;LSequentMill$Terms;LSequentMill$Rewriting;)V -/
def so_T149_0 : List Cond := so_pick (k2_sels lw_privs) [] ++ so_pick tables_1 [270, 27, 28, 271, 272, 273]
theorem so_s149_0 : so_al so_mi so_Ts so_Bs so_rows so_strs so_i149 so_c149 0 20 := so_bS (T1 := so_T149_0) (B1 := so_B1) 0 20 so_hW (so_tin _ _ (by decide +kernel)) so_B1_in (so_bZ 0 20 [42, 183, 0, 3, 42, 43, 181, 0, 9, 42, 44, 181, 0, 15, 42, 45, 181, 0, 19, 177] (by decide +kernel) (by decide +kernel) (by decide +kernel))
theorem so_m149 : so_pr so_mi so_Ts so_Bs so_rows so_strs (some so_i149) (some so_c149) [] := so_pr_I rfl (by decide +kernel) rfl so_s149_0
/-- SequentMill$Logic.equation(II)I -/
def so_T150_0 : List Cond := so_pick (k2_sels lw_privs) [20] ++ so_pick tables_1 [272, 908, 8, 759, 760, 909, 10, 911]
theorem so_s150_0 : so_al so_mi so_Ts so_Bs so_rows so_strs so_i150 so_c150 0 15 := so_bS (T1 := so_T150_0) (B1 := so_B1) 0 15 so_hW (so_tin _ _ (by decide +kernel)) so_B1_in (so_bZ 0 15 [42, 42, 180, 0, 15, 27, 182, 0, 23, 27, 28, 182, 0, 29, 172] (by decide +kernel) (by decide +kernel) (by decide +kernel))
theorem so_m150 : so_pr so_mi so_Ts so_Bs so_rows so_strs (some so_i150) (some so_c150) [] := so_pr_I rfl (by decide +kernel) rfl so_s150_0
/-- SequentMill$Logic.equationOf(III)I -/
def so_T151_0 : List Cond := so_pick (k2_sels lw_privs) [] ++ so_pick tables_1 [271, 184, 913, 2, 211, 212, 272, 914, 8, 659, 660, 915, 767, 768]
theorem so_s151_0 : so_al so_mi so_Ts so_Bs so_rows so_strs so_i151 so_c151 0 70 := so_bS (T1 := so_T151_0) (B1 := so_B1) 0 70 so_hW (so_tin _ _ (by decide +kernel)) so_B1_in (so_bZ 0 70 [42, 180, 0, 9, 27, 42, 180, 0, 9, 180, 0, 33, 182, 0, 39, 54, 4, 42, 180, 0, 15, 5, 3, 42, 180, 0, 9, 27, 21, 4, 182, 0, 39, 182, 0, 43, 54, 5, 42, 180, 0, 15, 21, 4, 21, 5, 28, 182, 0, 46, 54, 6, 42, 180, 0, 15, 42, 180, 0, 9, 180, 0, 33, 21, 6, 29, 182, 0, 46, 172] (by decide +kernel) (by decide +kernel) (by decide +kernel))
theorem so_m151 : so_pr so_mi so_Ts so_Bs so_rows so_strs (some so_i151) (some so_c151) [] := so_pr_I rfl (by decide +kernel) rfl so_s151_0
/-- SequentMill$Logic.eta()I -/
def so_T154_0 : List Cond := so_pick (k2_sels lw_privs) [] ++ so_pick tables_1 [271, 1242, 2, 207, 208, 272, 914, 8, 659, 660, 913, 211, 212, 273, 1220, 755, 756, 1243, 9, 783, 784, 1221, 10, 905, 906]
theorem so_s154_0 : so_al so_mi so_Ts so_Bs so_rows so_strs so_i154 so_c154 0 69 := so_bS (T1 := so_T154_0) (B1 := so_B1) 0 69 so_hW (so_tin _ _ (by decide +kernel)) so_B1_in (so_bZ 0 69 [42, 180, 0, 9, 3, 182, 0, 55, 60, 42, 180, 0, 15, 4, 3, 27, 182, 0, 43, 61, 42, 180, 0, 15, 4, 4, 42, 180, 0, 9, 27, 42, 180, 0, 9, 4, 182, 0, 55, 182, 0, 39, 182, 0, 43, 62, 42, 42, 180, 0, 19, 28, 42, 180, 0, 15, 29, 28, 182, 0, 49, 182, 0, 58, 29, 182, 0, 52, 172] (by decide +kernel) (by decide +kernel) (by decide +kernel))
theorem so_m154 : so_pr so_mi so_Ts so_Bs so_rows so_strs (some so_i154) (some so_c154) [] := so_pr_I rfl (by decide +kernel) rfl so_s154_0
/-- SequentMill$Logic.chosen()I -/
def so_T155_0 : List Cond := so_pick (k2_sels lw_privs) [33, 34, 36] ++ so_pick tables_1 [271, 1242, 2, 207, 208, 272, 914, 8, 659, 660, 184, 913, 211, 212, 1220, 755, 756, 1248, 10, 1250, 1252, 1254, 1261, 1263, 1221, 905, 906]
theorem so_s155_0 : so_al so_mi so_Ts so_Bs so_rows so_strs so_i155 so_c155 0 87 := so_bS (T1 := so_T155_0) (B1 := so_B1) 0 87 so_hW (so_tin _ _ (by decide +kernel)) so_B1_in (so_bZ 0 87 [42, 180, 0, 9, 3, 182, 0, 55, 60, 42, 180, 0, 15, 4, 3, 27, 182, 0, 43, 61, 42, 180, 0, 15, 4, 4, 42, 180, 0, 9, 27, 42, 180, 0, 9, 180, 0, 33, 182, 0, 39, 182, 0, 43, 62, 42, 180, 0, 15, 29, 28, 182, 0, 49, 54, 4, 42, 42, 21, 4, 42, 180, 0, 15, 29, 42, 27, 29, 182, 0, 63, 182, 0, 49, 42, 182, 0, 66, 182, 0, 70, 21, 4, 182, 0, 52, 172] (by decide +kernel) (by decide +kernel) (by decide +kernel))
theorem so_m155 : so_pr so_mi so_Ts so_Bs so_rows so_strs (some so_i155) (some so_c155) [] := so_pr_I rfl (by decide +kernel) rfl so_s155_0
/-- SequentMill$Logic.infinity()I -/
def so_T156_0 : List Cond := so_pick (k2_sels lw_privs) [] ++ so_pick tables_1 [271, 1269, 2, 136, 137, 272, 913, 211, 212, 914, 8, 659, 660, 1220, 755, 756]
theorem so_s156_0 : so_al so_mi so_Ts so_Bs so_rows so_strs so_i156 so_c156 0 67 := so_bS (T1 := so_T156_0) (B1 := so_B1) 0 67 so_hW (so_tin _ _ (by decide +kernel)) so_B1_in (so_bZ 0 67 [42, 180, 0, 9, 4, 2, 2, 182, 0, 73, 60, 42, 180, 0, 15, 4, 3, 42, 180, 0, 9, 27, 27, 182, 0, 39, 182, 0, 43, 61, 42, 180, 0, 15, 4, 4, 27, 182, 0, 43, 62, 42, 180, 0, 15, 4, 5, 27, 182, 0, 43, 54, 4, 42, 42, 180, 0, 15, 28, 29, 182, 0, 49, 42, 180, 0, 15, 28, 21, 4] (by decide +kernel) (by decide +kernel) (by decide +kernel))
def so_T156_1 : List Cond := so_pick (k2_sels lw_privs) [34, 36, 35, 37] ++ so_pick tables_1 [1220, 8, 755, 756, 1221, 10, 905, 906, 1252, 1254, 1261, 1263, 272, 1256, 1258, 1270, 1272]
theorem so_s156_1 : so_al so_mi so_Ts so_Bs so_rows so_strs so_i156 so_c156 67 144 := so_bS (T1 := so_T156_1) (B1 := so_B1) 67 77 so_hW (so_tin _ _ (by decide +kernel)) so_B1_in (so_bZ 67 77 [28, 21, 4, 182, 0, 49, 182, 0, 52, 54, 5, 42, 182, 0, 66, 54, 6, 42, 42, 21, 5, 42, 29, 21, 4, 182, 0, 52, 21, 6, 182, 0, 70, 21, 5, 182, 0, 52, 54, 7, 42, 21, 4, 42, 180, 0, 15, 28, 29, 182, 0, 49, 182, 0, 52, 54, 8, 42, 42, 182, 0, 76, 21, 6, 182, 0, 79, 54, 9, 42, 42, 21, 8, 21, 9, 21, 6, 182, 0, 70] (by decide +kernel) (by decide +kernel) (by decide +kernel))
def so_T156_2 : List Cond := so_pick (k2_sels lw_privs) [36, 37, 38] ++ so_pick tables_1 [1261, 10, 1263, 1221, 905, 906, 273, 1243, 9, 783, 784, 1270, 1272, 1275, 1277]
theorem so_s156_2 : so_al so_mi so_Ts so_Bs so_rows so_strs so_i156 so_c156 144 245 := so_bS (T1 := so_T156_2) (B1 := so_B1) 144 101 so_hW (so_tin _ _ (by decide +kernel)) so_B1_in (so_bZ 144 101 [182, 0, 70, 21, 8, 182, 0, 52, 54, 10, 42, 42, 180, 0, 19, 29, 21, 10, 182, 0, 58, 21, 6, 182, 0, 79, 54, 11, 42, 42, 180, 0, 19, 21, 4, 21, 11, 182, 0, 58, 182, 0, 82, 54, 12, 42, 42, 180, 0, 19, 29, 42, 42, 180, 0, 19, 21, 4, 21, 7, 182, 0, 58, 21, 6, 182, 0, 79, 182, 0, 58, 21, 6, 182, 0, 79, 54, 13, 42, 42, 180, 0, 19, 28, 42, 21, 13, 21, 12, 21, 6, 182, 0, 70, 182, 0, 58, 182, 0, 82, 172] (by decide +kernel) (by decide +kernel) (by decide +kernel))
theorem so_m156 : so_pr so_mi so_Ts so_Bs so_rows so_strs (some so_i156) (some so_c156) [] := so_pr_I rfl (by decide +kernel) rfl (so_al_app (so_al_app so_s156_0 so_s156_1) so_s156_2)
/-- SequentMill$Logic.choiceOf(II)I -/
def so_T157_0 : List Cond := so_pick (k2_sels lw_privs) [] ++ so_pick tables_1 [271, 184, 913, 2, 211, 212, 272, 914, 8, 659, 660, 915, 767, 768]
theorem so_s157_0 : so_al so_mi so_Ts so_Bs so_rows so_strs so_i157 so_c157 0 44 := so_bS (T1 := so_T157_0) (B1 := so_B1) 0 44 so_hW (so_tin _ _ (by decide +kernel)) so_B1_in (so_bZ 0 44 [42, 180, 0, 9, 42, 180, 0, 9, 27, 42, 180, 0, 9, 180, 0, 33, 182, 0, 39, 27, 182, 0, 39, 62, 42, 180, 0, 15, 27, 42, 180, 0, 15, 5, 4, 29, 182, 0, 43, 28, 182, 0, 46, 172] (by decide +kernel) (by decide +kernel) (by decide +kernel))
theorem so_m157 : so_pr so_mi so_Ts so_Bs so_rows so_strs (some so_i157) (some so_c157) [] := so_pr_I rfl (by decide +kernel) rfl so_s157_0
/-- SequentMill$Logic.identity()I -/
def so_T158_0 : List Cond := so_pick (k2_sels lw_privs) [] ++ so_pick tables_1 [272, 271, 184, 914, 8, 659, 660, 1260, 812, 813]
theorem so_s158_0 : so_al so_mi so_Ts so_Bs so_rows so_strs so_i158 so_c158 0 31 := so_bS (T1 := so_T158_0) (B1 := so_B1) 0 31 so_hW (so_tin _ _ (by decide +kernel)) so_B1_in (so_bZ 0 31 [42, 180, 0, 15, 42, 180, 0, 9, 180, 0, 33, 42, 180, 0, 15, 3, 3, 42, 180, 0, 9, 180, 0, 33, 182, 0, 43, 182, 0, 85, 172] (by decide +kernel) (by decide +kernel) (by decide +kernel))
theorem so_m158 : so_pr so_mi so_Ts so_Bs so_rows so_strs (some so_i158) (some so_c158) [] := so_pr_I rfl (by decide +kernel) rfl so_s158_0
/-- SequentMill$Logic.truth()I -/
def so_T159_0 : List Cond := so_pick (k2_sels lw_privs) [35, 20] ++ so_pick tables_1 [1256, 10, 1258, 271, 184, 913, 2, 211, 212, 909, 911]
theorem so_s159_0 : so_al so_mi so_Ts so_Bs so_rows so_strs so_i159 so_c159 0 33 := so_bS (T1 := so_T159_0) (B1 := so_B1) 0 33 so_hW (so_tin _ _ (by decide +kernel)) so_B1_in (so_bZ 0 33 [42, 182, 0, 76, 60, 42, 42, 180, 0, 9, 42, 180, 0, 9, 180, 0, 33, 42, 180, 0, 9, 180, 0, 33, 182, 0, 39, 27, 27, 182, 0, 29, 172] (by decide +kernel) (by decide +kernel) (by decide +kernel))
theorem so_m159 : so_pr so_mi so_Ts so_Bs so_rows so_strs (some so_i159) (some so_c159) [] := so_pr_I rfl (by decide +kernel) rfl so_s159_0
/-- SequentMill$Logic.and(III)I -/
def so_T160_0 : List Cond := so_pick (k2_sels lw_privs) [] ++ so_pick tables_1 [271, 184, 913, 2, 211, 212, 272, 914, 8, 659, 660, 915, 767, 768]
theorem so_s160_0 : so_al so_mi so_Ts so_Bs so_rows so_strs so_i160 so_c160 0 84 := so_bS (T1 := so_T160_0) (B1 := so_B1) 0 84 so_hW (so_tin _ _ (by decide +kernel)) so_B1_in (so_bZ 0 84 [42, 180, 0, 9, 42, 180, 0, 9, 180, 0, 33, 42, 180, 0, 9, 180, 0, 33, 182, 0, 39, 54, 4, 42, 180, 0, 9, 42, 180, 0, 9, 180, 0, 33, 21, 4, 182, 0, 39, 54, 5, 42, 180, 0, 15, 3, 3, 21, 5, 182, 0, 43, 54, 6, 42, 180, 0, 15, 42, 180, 0, 9, 180, 0, 33, 42, 180, 0, 15, 21, 4, 21, 6, 27, 182, 0, 46, 28, 182, 0, 46, 54, 7, 42, 180, 0, 15] (by decide +kernel) (by decide +kernel) (by decide +kernel))
def so_T160_1 : List Cond := so_pick (k2_sels lw_privs) [20] ++ so_pick tables_1 [272, 271, 184, 915, 8, 767, 768, 913, 2, 211, 212, 1260, 812, 813, 909, 10, 911]
theorem so_s160_1 : so_al so_mi so_Ts so_Bs so_rows so_strs so_i160 so_c160 84 155 := so_bS (T1 := so_T160_1) (B1 := so_B1) 84 71 so_hW (so_tin _ _ (by decide +kernel)) so_B1_in (so_bZ 84 71 [180, 0, 15, 42, 180, 0, 9, 180, 0, 33, 42, 180, 0, 15, 21, 4, 21, 6, 29, 182, 0, 46, 29, 182, 0, 46, 54, 8, 42, 42, 180, 0, 9, 21, 5, 42, 180, 0, 9, 180, 0, 33, 182, 0, 39, 42, 180, 0, 15, 21, 5, 21, 7, 182, 0, 85, 42, 180, 0, 15, 21, 5, 21, 8, 182, 0, 85, 182, 0, 29, 172] (by decide +kernel) (by decide +kernel) (by decide +kernel))
theorem so_m160 : so_pr so_mi so_Ts so_Bs so_rows so_strs (some so_i160) (some so_c160) [] := so_pr_I rfl (by decide +kernel) rfl (so_al_app so_s160_0 so_s160_1)

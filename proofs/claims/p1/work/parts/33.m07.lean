/-! ===== the methods, 8 ===== -/
/-- SequentMill$Store.sign(I)I -/
def so_T195_0 : List Cond := so_pick (k2_sels lw_privs) [] ++ so_pick tables_1 [73, 62]
theorem so_s195_0 : so_al so_mi so_Ts so_Bs so_rows so_strs so_i195 so_c195 0 23 := so_bS (T1 := so_T195_0) (B1 := so_B1) 0 23 so_hW (so_tin _ _ (by decide +kernel)) so_B1_in (so_bZ 0 23 [27, 155, 0, 20, 27, 42, 180, 0, 49, 162, 0, 12, 42, 180, 0, 9, 27, 46, 167, 0, 4, 3, 172] (by decide +kernel) (by decide +kernel) (by decide +kernel))
theorem so_m195 : so_pr so_mi so_Ts so_Bs so_rows so_strs (some so_i195) (some so_c195) [] := so_pr_I rfl (by decide +kernel) rfl so_s195_0
/-- SequentMill$Store.left(I)I -/
def so_T196_0 : List Cond := so_pick (k2_sels lw_privs) [] ++ so_pick tables_1 [73, 63]
theorem so_s196_0 : so_al so_mi so_Ts so_Bs so_rows so_strs so_i196 so_c196 0 23 := so_bS (T1 := so_T196_0) (B1 := so_B1) 0 23 so_hW (so_tin _ _ (by decide +kernel)) so_B1_in (so_bZ 0 23 [27, 155, 0, 20, 27, 42, 180, 0, 49, 162, 0, 12, 42, 180, 0, 15, 27, 46, 167, 0, 4, 2, 172] (by decide +kernel) (by decide +kernel) (by decide +kernel))
theorem so_m196 : so_pr so_mi so_Ts so_Bs so_rows so_strs (some so_i196) (some so_c196) [] := so_pr_I rfl (by decide +kernel) rfl so_s196_0
/-- SequentMill$Store.right(I)I -/
def so_T197_0 : List Cond := so_pick (k2_sels lw_privs) [] ++ so_pick tables_1 [73, 64]
theorem so_s197_0 : so_al so_mi so_Ts so_Bs so_rows so_strs so_i197 so_c197 0 23 := so_bS (T1 := so_T197_0) (B1 := so_B1) 0 23 so_hW (so_tin _ _ (by decide +kernel)) so_B1_in (so_bZ 0 23 [27, 155, 0, 20, 27, 42, 180, 0, 49, 162, 0, 12, 42, 180, 0, 18, 27, 46, 167, 0, 4, 2, 172] (by decide +kernel) (by decide +kernel) (by decide +kernel))
theorem so_m197 : so_pr so_mi so_Ts so_Bs so_rows so_strs (some so_i197) (some so_c197) [] := so_pr_I rfl (by decide +kernel) rfl so_s197_0
/-- SequentMill$Store.writtenType(I)I -/
def so_T198_0 : List Cond := so_pick (k2_sels lw_privs) [] ++ so_pick tables_1 [73, 65]
theorem so_s198_0 : so_al so_mi so_Ts so_Bs so_rows so_strs so_i198 so_c198 0 23 := so_bS (T1 := so_T198_0) (B1 := so_B1) 0 23 so_hW (so_tin _ _ (by decide +kernel)) so_B1_in (so_bZ 0 23 [27, 155, 0, 20, 27, 42, 180, 0, 49, 162, 0, 12, 42, 180, 0, 21, 27, 46, 167, 0, 4, 2, 172] (by decide +kernel) (by decide +kernel) (by decide +kernel))
theorem so_m198 : so_pr so_mi so_Ts so_Bs so_rows so_strs (some so_i198) (some so_c198) [] := so_pr_I rfl (by decide +kernel) rfl so_s198_0
/-- SequentMill$Store.symbolsOf(I)I -/
def so_T199_0 : List Cond := so_pick (k2_sels lw_privs) [] ++ so_pick tables_1 [73, 66]
theorem so_s199_0 : so_al so_mi so_Ts so_Bs so_rows so_strs so_i199 so_c199 0 23 := so_bS (T1 := so_T199_0) (B1 := so_B1) 0 23 so_hW (so_tin _ _ (by decide +kernel)) so_B1_in (so_bZ 0 23 [27, 155, 0, 20, 27, 42, 180, 0, 49, 162, 0, 12, 42, 180, 0, 24, 27, 46, 167, 0, 4, 3, 172] (by decide +kernel) (by decide +kernel) (by decide +kernel))
theorem so_m199 : so_pr so_mi so_Ts so_Bs so_rows so_strs (some so_i199) (some so_c199) [] := so_pr_I rfl (by decide +kernel) rfl so_s199_0
/-- SequentMill$Store.heightOf(I)I -/
def so_T200_0 : List Cond := so_pick (k2_sels lw_privs) [] ++ so_pick tables_1 [73, 67]
theorem so_s200_0 : so_al so_mi so_Ts so_Bs so_rows so_strs so_i200 so_c200 0 23 := so_bS (T1 := so_T200_0) (B1 := so_B1) 0 23 so_hW (so_tin _ _ (by decide +kernel)) so_B1_in (so_bZ 0 23 [27, 155, 0, 20, 27, 42, 180, 0, 49, 162, 0, 12, 42, 180, 0, 27, 27, 46, 167, 0, 4, 3, 172] (by decide +kernel) (by decide +kernel) (by decide +kernel))
theorem so_m200 : so_pr so_mi so_Ts so_Bs so_rows so_strs (some so_i200) (some so_c200) [] := so_pr_I rfl (by decide +kernel) rfl so_s200_0
/-- SequentMill$Store.placeOf(IIII)I -/
def so_T203_0 : List Cond := so_pick (k2_sels lw_privs) [] ++ so_pick tables_1 [155, 61]
theorem so_s203_0 : so_al so_mi so_Ts so_Bs so_rows so_strs so_i203 so_c203 0 51 := so_bS (T1 := so_T203_0) (B1 := so_B1) 0 51 so_hW (so_tin _ _ (by decide +kernel)) so_B1_in (so_bZ 0 51 [27, 16, 31, 104, 28, 96, 17, 31, 255, 104, 29, 96, 17, 31, 255, 104, 21, 4, 96, 54, 5, 21, 5, 21, 5, 16, 15, 124, 130, 18, 101, 104, 54, 5, 21, 5, 21, 5, 16, 13, 124, 130, 42, 180, 0, 68, 190, 4, 100, 126, 172] (by decide +kernel) (by decide +kernel) (by decide +kernel))
theorem so_m203 : so_pr so_mi so_Ts so_Bs so_rows so_strs (some so_i203) (some so_c203) [] := so_pr_I rfl (by decide +kernel) rfl so_s203_0
/-- SequentMill$Store.find(IIIII)I -/
def so_T204_0 : List Cond := so_pick (k2_sels lw_privs) [] ++ so_pick tables_1 [61, 73, 62, 63, 64, 65, 68]
theorem so_s204_0 : so_al so_mi so_Ts so_Bs so_rows so_strs so_i204 so_c204 0 100 := so_bS (T1 := so_T204_0) (B1 := so_B1) 0 100 so_hW (so_tin _ _ (by decide +kernel)) so_B1_in (so_bZ 0 100 [42, 180, 0, 68, 27, 46, 54, 6, 3, 54, 7, 21, 7, 42, 180, 0, 49, 162, 0, 81, 21, 6, 155, 0, 76, 21, 6, 42, 180, 0, 49, 162, 0, 67, 42, 180, 0, 9, 21, 6, 46, 28, 160, 0, 41, 42, 180, 0, 15, 21, 6, 46, 29, 160, 0, 30, 42, 180, 0, 18, 21, 6, 46, 21, 4, 160, 0, 18, 42, 180, 0, 21, 21, 6, 46, 21, 5, 160, 0, 6, 21, 6, 172, 42, 180, 0, 30, 21, 6, 46, 54, 6, 132, 7, 1, 167, 255, 172, 2, 172] (by decide +kernel) (by decide +kernel) (by decide +kernel))
theorem so_m204 : so_pr so_mi so_Ts so_Bs so_rows so_strs (some so_i204) (some so_c204) [] := so_pr_I rfl (by decide +kernel) rfl so_s204_0
/-- SequentMill$Store.grow()V -/
def so_T205_0 : List Cond := so_pick (k2_sels lw_privs) [] ++ so_pick tables_1 [73, 62, 175, 5, 120, 63, 64, 65, 66, 67]
theorem so_s205_0 : so_al so_mi so_Ts so_Bs so_rows so_strs so_i205 so_c205 0 74 := so_bS (T1 := so_T205_0) (B1 := so_B1) 0 74 so_hW (so_tin _ _ (by decide +kernel)) so_B1_in (so_bZ 0 74 [5, 42, 180, 0, 49, 104, 4, 96, 60, 42, 42, 180, 0, 9, 27, 184, 0, 102, 181, 0, 9, 42, 42, 180, 0, 15, 27, 184, 0, 102, 181, 0, 15, 42, 42, 180, 0, 18, 27, 184, 0, 102, 181, 0, 18, 42, 42, 180, 0, 21, 27, 184, 0, 102, 181, 0, 21, 42, 42, 180, 0, 24, 27, 184, 0, 102, 181, 0, 24, 42, 42, 180, 0, 27, 27, 184, 0] (by decide +kernel) (by decide +kernel) (by decide +kernel))
def so_T205_1 : List Cond := so_pick (k2_sels lw_privs) [] ++ so_pick tables_1 [175, 5, 120, 67, 68, 69, 70, 71]
theorem so_s205_1 : so_al so_mi so_Ts so_Bs so_rows so_strs so_i205 so_c205 74 130 := so_bS (T1 := so_T205_1) (B1 := so_B1) 74 56 so_hW (so_tin _ _ (by decide +kernel)) so_B1_in (so_bZ 74 56 [27, 184, 0, 102, 181, 0, 27, 42, 42, 180, 0, 30, 27, 184, 0, 102, 181, 0, 30, 42, 42, 180, 0, 33, 27, 184, 0, 102, 181, 0, 33, 42, 42, 180, 0, 36, 27, 184, 0, 102, 181, 0, 36, 42, 42, 180, 0, 39, 27, 184, 0, 102, 181, 0, 39, 177] (by decide +kernel) (by decide +kernel) (by decide +kernel))
theorem so_m205 : so_pr so_mi so_Ts so_Bs so_rows so_strs (some so_i205) (some so_c205) [] := so_pr_I rfl (by decide +kernel) rfl (so_al_app so_s205_0 so_s205_1)
/-- SequentMill$Store.settle()V -/
def so_T206_0 : List Cond := so_pick (k2_sels lw_privs) [] ++ so_pick tables_1 [73, 74]
theorem so_s206_0 : so_al so_mi so_Ts so_Bs so_rows so_strs so_i206 so_c206 0 9 := so_bS (T1 := so_T206_0) (B1 := so_B1) 0 9 so_hW (so_tin _ _ (by decide +kernel)) so_B1_in (so_bZ 0 9 [42, 42, 180, 0, 49, 181, 0, 53, 177] (by decide +kernel) (by decide +kernel) (by decide +kernel))
theorem so_m206 : so_pr so_mi so_Ts so_Bs so_rows so_strs (some so_i206) (some so_c206) [] := so_pr_I rfl (by decide +kernel) rfl so_s206_0
/-- SequentMill$Store.startRound()V -/
def so_T208_0 : List Cond := so_pick (k2_sels lw_privs) [] ++ so_pick tables_1 [75, 72, 692, 4, 566, 567]
theorem so_s208_0 : so_al so_mi so_Ts so_Bs so_rows so_strs so_i208 so_c208 0 19 := so_bS (T1 := so_T208_0) (B1 := so_B1) 0 19 so_hW (so_tin _ _ (by decide +kernel)) so_B1_in (so_bZ 0 19 [42, 89, 180, 0, 56, 4, 96, 181, 0, 56, 42, 180, 0, 45, 3, 182, 0, 106, 177] (by decide +kernel) (by decide +kernel) (by decide +kernel))
theorem so_m208 : so_pr so_mi so_Ts so_Bs so_rows so_strs (some so_i208) (some so_c208) [] := so_pr_I rfl (by decide +kernel) rfl so_s208_0
/-- SequentMill$Store.remembered(II)I -/
def so_T209_0 : List Cond := so_pick (k2_sels lw_privs) [] ++ so_pick tables_1 [73, 70, 75, 71]
theorem so_s209_0 : so_al so_mi so_Ts so_Bs so_rows so_strs so_i209 so_c209 0 52 := so_bS (T1 := so_T209_0) (B1 := so_B1) 0 52 so_hW (so_tin _ _ (by decide +kernel)) so_B1_in (so_bZ 0 52 [27, 155, 0, 34, 27, 42, 180, 0, 49, 162, 0, 26, 42, 180, 0, 36, 27, 46, 42, 180, 0, 56, 17, 0, 128, 104, 28, 96, 160, 0, 7, 4, 167, 0, 4, 3, 62, 29, 153, 0, 12, 42, 180, 0, 39, 27, 46, 167, 0, 4, 2, 172] (by decide +kernel) (by decide +kernel) (by decide +kernel))
theorem so_m209 : so_pr so_mi so_Ts so_Bs so_rows so_strs (some so_i209) (some so_c209) [] := so_pr_I rfl (by decide +kernel) rfl so_s209_0
/-- SequentMill$Store.remember(III)V -/
def so_T210_0 : List Cond := so_pick (k2_sels lw_privs) [] ++ so_pick tables_1 [73, 70, 75, 71]
theorem so_s210_0 : so_al so_mi so_Ts so_Bs so_rows so_strs so_i210 so_c210 0 36 := so_bS (T1 := so_T210_0) (B1 := so_B1) 0 36 so_hW (so_tin _ _ (by decide +kernel)) so_B1_in (so_bZ 0 36 [27, 155, 0, 34, 27, 42, 180, 0, 49, 162, 0, 26, 42, 180, 0, 36, 27, 42, 180, 0, 56, 17, 0, 128, 104, 28, 96, 79, 42, 180, 0, 39, 27, 29, 79, 177] (by decide +kernel) (by decide +kernel) (by decide +kernel))
theorem so_m210 : so_pr so_mi so_Ts so_Bs so_rows so_strs (some so_i210) (some so_c210) [] := so_pr_I rfl (by decide +kernel) rfl so_s210_0
/-- SequentMill$Terms.<init>(LSequentMill$Types;)V -/
def so_T215_0 : List Cond := so_pick (k2_sels lw_privs) [] ++ so_pick tables_1 [200, 27, 28, 201, 36, 3, 202, 203, 38, 215, 204, 42, 4, 44, 220, 221, 219, 206, 2, 207, 208, 182, 210, 211, 212, 214, 116, 117]
theorem so_s215_0 : so_al so_mi so_Ts so_Bs so_rows so_strs so_i215 so_c215 0 88 := so_bS (T1 := so_T215_0) (B1 := so_B1) 0 88 so_hW (so_tin _ _ (by decide +kernel)) so_B1_in (so_bZ 0 88 [42, 183, 0, 3, 42, 187, 0, 9, 89, 17, 15, 160, 16, 120, 18, 11, 16, 13, 183, 0, 12, 181, 0, 15, 42, 187, 0, 21, 89, 183, 0, 23, 181, 0, 24, 42, 3, 181, 0, 28, 42, 43, 181, 0, 32, 43, 3, 182, 0, 36, 61, 43, 28, 43, 180, 0, 42, 182, 0, 45, 62, 42, 180, 0, 24, 43, 28, 29, 182, 0, 45, 182, 0, 49, 42, 180, 0, 24, 43, 29, 28, 182, 0, 45, 182, 0, 49, 177] (by decide +kernel) (by decide +kernel) (by decide +kernel))
theorem so_m215 : so_pr so_mi so_Ts so_Bs so_rows so_strs (some so_i215) (some so_c215) [] := so_pr_I rfl (by decide +kernel) rfl so_s215_0
/-- SequentMill$Terms.leaf(III)I -/
def so_T219_0 : List Cond := so_pick (k2_sels lw_privs) [] ++ so_pick tables_1 [215, 662, 3, 148, 149]
theorem so_s219_0 : so_al so_mi so_Ts so_Bs so_rows so_strs so_i219 so_c219 0 16 := so_bS (T1 := so_T219_0) (B1 := so_B1) 0 16 so_hW (so_tin _ _ (by decide +kernel)) so_B1_in (so_bZ 0 16 [42, 180, 0, 15, 7, 28, 104, 27, 96, 2, 2, 29, 182, 0, 64, 172] (by decide +kernel) (by decide +kernel) (by decide +kernel))
theorem so_m219 : so_pr so_mi so_Ts so_Bs so_rows so_strs (some so_i219) (some so_c219) [] := so_pr_I rfl (by decide +kernel) rfl so_s219_0
/-- SequentMill$Terms.application(II)I -/
def so_T220_0 : List Cond := so_pick (k2_sels lw_privs) [] ++ so_pick tables_1 [215, 742, 3, 706, 707, 747, 710, 711, 758, 8, 759, 760, 662, 148, 149, 738, 739, 740, 219, 743, 2, 744, 745, 179, 752, 714, 715]
theorem so_s220_0 : so_al so_mi so_Ts so_Bs so_rows so_strs so_i220 so_c220 0 93 := so_bS (T1 := so_T220_0) (B1 := so_B1) 0 93 so_hW (so_tin _ _ (by decide +kernel)) so_B1_in (so_bZ 0 93 [27, 155, 0, 7, 28, 156, 0, 5, 2, 172, 42, 180, 0, 15, 27, 182, 0, 68, 16, 254, 160, 0, 27, 42, 180, 0, 15, 2, 27, 28, 42, 42, 180, 0, 15, 27, 182, 0, 71, 3, 182, 0, 74, 182, 0, 64, 172, 42, 180, 0, 15, 27, 182, 0, 77, 62, 42, 180, 0, 32, 29, 182, 0, 80, 153, 0, 27, 42, 180, 0, 15, 2, 27, 28, 42, 180, 0, 32, 180, 0, 84, 29, 182, 0, 85, 182, 0, 64, 167, 0, 4, 2, 172] (by decide +kernel) (by decide +kernel) (by decide +kernel))
theorem so_m220 : so_pr so_mi so_Ts so_Bs so_rows so_strs (some so_i220) (some so_c220) [] := so_pr_I rfl (by decide +kernel) rfl so_s220_0
/-- SequentMill$Terms.abstractionOver(II)I -/
def so_T221_0 : List Cond := so_pick (k2_sels lw_privs) [14] ++ so_pick tables_1 [808, 8, 810, 215, 662, 3, 148, 149]
theorem so_s221_0 : so_al so_mi so_Ts so_Bs so_rows so_strs so_i221 so_c221 0 32 := so_bS (T1 := so_T221_0) (B1 := so_B1) 0 32 so_hW (so_tin _ _ (by decide +kernel)) so_B1_in (so_bZ 0 32 [27, 155, 0, 16, 28, 155, 0, 12, 42, 27, 28, 182, 0, 88, 154, 0, 5, 2, 172, 42, 180, 0, 15, 16, 254, 28, 2, 27, 182, 0, 64, 172] (by decide +kernel) (by decide +kernel) (by decide +kernel))
theorem so_m221 : so_pr so_mi so_Ts so_Bs so_rows so_strs (some so_i221) (some so_c221) [] := so_pr_I rfl (by decide +kernel) rfl so_s221_0
/-- SequentMill$Terms.isTypeInLimits(II)Z -/
def so_T222_0 : List Cond := so_pick (k2_sels lw_privs) [] ++ so_pick tables_1 [219, 179, 812, 3, 161, 162, 813, 165, 166, 215, 742, 706, 707, 738, 739, 740]
theorem so_s222_0 : so_al so_mi so_Ts so_Bs so_rows so_strs so_i222 so_c222 0 147 := so_bS (T1 := so_T222_0) (B1 := so_B1) 0 147 so_hW (so_tin _ _ (by decide +kernel)) so_B1_in (so_bZ 0 147 [4, 42, 180, 0, 32, 180, 0, 84, 27, 182, 0, 92, 96, 62, 4, 42, 180, 0, 32, 180, 0, 84, 27, 182, 0, 95, 96, 54, 4, 28, 54, 5, 4, 54, 6, 21, 6, 16, 24, 162, 0, 84, 42, 180, 0, 15, 21, 5, 182, 0, 68, 16, 254, 160, 0, 70, 42, 180, 0, 15, 21, 5, 182, 0, 77, 54, 7, 132, 6, 1, 29, 4, 42, 180, 0, 32, 180, 0, 84, 21, 7, 182, 0, 92, 96, 96, 62, 21, 4, 21, 6, 42, 180, 0, 32, 180, 0, 84, 21, 7, 182, 0, 95, 96, 184, 0, 98, 54, 4, 42, 180, 0, 15, 21, 5, 182, 0, 71, 54, 5, 167, 255, 171, 42, 180, 0, 15, 21, 5, 182, 0, 77, 54, 7, 29, 42, 180, 0, 32, 180, 0, 84, 21, 7, 182, 0, 92, 96, 62, 21] (by decide +kernel) (by decide +kernel) (by decide +kernel))
def so_T222_1 : List Cond := so_pick (k2_sels lw_privs) [] ++ so_pick tables_1 [219, 179, 813, 3, 165, 166, 814, 169, 6, 170]
theorem so_s222_1 : so_al so_mi so_Ts so_Bs so_rows so_strs so_i222 so_c222 147 191 := so_bS (T1 := so_T222_1) (B1 := so_B1) 147 44 so_hW (so_tin _ _ (by decide +kernel)) so_B1_in (so_bZ 147 44 [96, 62, 21, 4, 21, 6, 42, 180, 0, 32, 180, 0, 84, 21, 7, 182, 0, 95, 96, 184, 0, 98, 54, 4, 29, 17, 0, 200, 163, 0, 14, 21, 4, 16, 24, 163, 0, 7, 4, 167, 0, 4, 3, 172] (by decide +kernel) (by decide +kernel) (by decide +kernel))
theorem so_m222 : so_pr so_mi so_Ts so_Bs so_rows so_strs (some so_i222) (some so_c222) [] := so_pr_I rfl (by decide +kernel) rfl (so_al_app so_s222_0 so_s222_1)

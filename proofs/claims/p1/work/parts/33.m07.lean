/-! ===== the methods, 8 ===== -/
/-- SequentMill$Sequents.addSequent(IILSequentMill$Trace;)V -/
def so_T195_0 : List Cond := so_pick (k2_sels lw_privs) [] ++ so_pick tables_1 [326, 943, 4, 116, 117, 327, 328, 329, 449, 402, 403, 330, 948, 11, 949, 950, 331, 952, 953, 954, 332, 956, 957, 958]
theorem so_s195_0 : so_al so_mi so_Ts so_Bs so_rows so_strs so_i195 so_c195 0 66 := so_bS (T1 := so_T195_0) (B1 := so_B1) 0 66 so_hW (so_tin _ _ (by decide +kernel)) so_B1_in (so_bZ 0 66 [42, 180, 0, 12, 27, 182, 0, 88, 42, 180, 0, 18, 28, 182, 0, 88, 42, 180, 0, 21, 42, 180, 0, 24, 182, 0, 63, 28, 100, 182, 0, 88, 42, 180, 0, 27, 45, 182, 0, 105, 182, 0, 88, 42, 180, 0, 30, 45, 182, 0, 110, 182, 0, 88, 42, 180, 0, 33, 45, 182, 0, 113, 182, 0, 88, 177] (by decide +kernel) (by decide +kernel) (by decide +kernel))
theorem so_m195 : so_pr so_mi so_Ts so_Bs so_rows so_strs (some so_i195) (some so_c195) [] := so_pr_I rfl (by decide +kernel) rfl so_s195_0
/-- SequentMill$Store.<init>(IIII)V -/
def so_T197_0 : List Cond := so_pick (k2_sels lw_privs) [] ++ so_pick tables_1 [40, 27, 28, 54, 62, 63, 64, 65, 66, 67, 68, 69, 70]
theorem so_s197_0 : so_al so_mi so_Ts so_Bs so_rows so_strs so_i197 so_c197 0 79 := so_bS (T1 := so_T197_0) (B1 := so_B1) 0 79 so_hW (so_tin _ _ (by decide +kernel)) so_B1_in (so_bZ 0 79 [42, 183, 0, 3, 42, 16, 64, 188, 10, 181, 0, 9, 42, 16, 64, 188, 10, 181, 0, 15, 42, 16, 64, 188, 10, 181, 0, 18, 42, 16, 64, 188, 10, 181, 0, 21, 42, 16, 64, 188, 10, 181, 0, 24, 42, 16, 64, 188, 10, 181, 0, 27, 42, 16, 64, 188, 10, 181, 0, 30, 42, 16, 64, 188, 10, 181, 0, 33, 42, 16, 64, 188, 10, 181, 0, 36, 42, 16, 64, 188, 10, 181] (by decide +kernel) (by decide +kernel) (by decide +kernel))
def so_T197_1 : List Cond := so_pick (k2_sels lw_privs) [] ++ so_pick tables_1 [54, 71, 41, 42, 4, 44, 72, 73, 74, 75, 58, 59, 60, 61, 55, 5, 56]
theorem so_s197_1 : so_al so_mi so_Ts so_Bs so_rows so_strs so_i197 so_c197 79 147 := so_bS (T1 := so_T197_1) (B1 := so_B1) 79 68 so_hW (so_tin _ _ (by decide +kernel)) so_B1_in (so_bZ 79 68 [188, 10, 181, 0, 39, 42, 187, 0, 42, 89, 183, 0, 44, 181, 0, 45, 42, 3, 181, 0, 49, 42, 3, 181, 0, 53, 42, 3, 181, 0, 56, 42, 27, 181, 0, 59, 42, 28, 181, 0, 62, 42, 29, 181, 0, 65, 42, 4, 21, 4, 16, 15, 126, 120, 188, 10, 181, 0, 68, 42, 180, 0, 68, 2, 184, 0, 71, 177] (by decide +kernel) (by decide +kernel) (by decide +kernel))
theorem so_m197 : so_pr so_mi so_Ts so_Bs so_rows so_strs (some so_i197) (some so_c197) [] := so_pr_I rfl (by decide +kernel) rfl (so_al_app so_s197_0 so_s197_1)
/-- SequentMill$Store.sign(I)I -/
def so_T198_0 : List Cond := so_pick (k2_sels lw_privs) [] ++ so_pick tables_1 [73, 62]
theorem so_s198_0 : so_al so_mi so_Ts so_Bs so_rows so_strs so_i198 so_c198 0 23 := so_bS (T1 := so_T198_0) (B1 := so_B1) 0 23 so_hW (so_tin _ _ (by decide +kernel)) so_B1_in (so_bZ 0 23 [27, 155, 0, 20, 27, 42, 180, 0, 49, 162, 0, 12, 42, 180, 0, 9, 27, 46, 167, 0, 4, 3, 172] (by decide +kernel) (by decide +kernel) (by decide +kernel))
theorem so_m198 : so_pr so_mi so_Ts so_Bs so_rows so_strs (some so_i198) (some so_c198) [] := so_pr_I rfl (by decide +kernel) rfl so_s198_0
/-- SequentMill$Store.left(I)I -/
def so_T199_0 : List Cond := so_pick (k2_sels lw_privs) [] ++ so_pick tables_1 [73, 63]
theorem so_s199_0 : so_al so_mi so_Ts so_Bs so_rows so_strs so_i199 so_c199 0 23 := so_bS (T1 := so_T199_0) (B1 := so_B1) 0 23 so_hW (so_tin _ _ (by decide +kernel)) so_B1_in (so_bZ 0 23 [27, 155, 0, 20, 27, 42, 180, 0, 49, 162, 0, 12, 42, 180, 0, 15, 27, 46, 167, 0, 4, 2, 172] (by decide +kernel) (by decide +kernel) (by decide +kernel))
theorem so_m199 : so_pr so_mi so_Ts so_Bs so_rows so_strs (some so_i199) (some so_c199) [] := so_pr_I rfl (by decide +kernel) rfl so_s199_0
/-- SequentMill$Store.right(I)I -/
def so_T200_0 : List Cond := so_pick (k2_sels lw_privs) [] ++ so_pick tables_1 [73, 64]
theorem so_s200_0 : so_al so_mi so_Ts so_Bs so_rows so_strs so_i200 so_c200 0 23 := so_bS (T1 := so_T200_0) (B1 := so_B1) 0 23 so_hW (so_tin _ _ (by decide +kernel)) so_B1_in (so_bZ 0 23 [27, 155, 0, 20, 27, 42, 180, 0, 49, 162, 0, 12, 42, 180, 0, 18, 27, 46, 167, 0, 4, 2, 172] (by decide +kernel) (by decide +kernel) (by decide +kernel))
theorem so_m200 : so_pr so_mi so_Ts so_Bs so_rows so_strs (some so_i200) (some so_c200) [] := so_pr_I rfl (by decide +kernel) rfl so_s200_0
/-- SequentMill$Store.writtenType(I)I -/
def so_T201_0 : List Cond := so_pick (k2_sels lw_privs) [] ++ so_pick tables_1 [73, 65]
theorem so_s201_0 : so_al so_mi so_Ts so_Bs so_rows so_strs so_i201 so_c201 0 23 := so_bS (T1 := so_T201_0) (B1 := so_B1) 0 23 so_hW (so_tin _ _ (by decide +kernel)) so_B1_in (so_bZ 0 23 [27, 155, 0, 20, 27, 42, 180, 0, 49, 162, 0, 12, 42, 180, 0, 21, 27, 46, 167, 0, 4, 2, 172] (by decide +kernel) (by decide +kernel) (by decide +kernel))
theorem so_m201 : so_pr so_mi so_Ts so_Bs so_rows so_strs (some so_i201) (some so_c201) [] := so_pr_I rfl (by decide +kernel) rfl so_s201_0
/-- SequentMill$Store.symbolsOf(I)I -/
def so_T202_0 : List Cond := so_pick (k2_sels lw_privs) [] ++ so_pick tables_1 [73, 66]
theorem so_s202_0 : so_al so_mi so_Ts so_Bs so_rows so_strs so_i202 so_c202 0 23 := so_bS (T1 := so_T202_0) (B1 := so_B1) 0 23 so_hW (so_tin _ _ (by decide +kernel)) so_B1_in (so_bZ 0 23 [27, 155, 0, 20, 27, 42, 180, 0, 49, 162, 0, 12, 42, 180, 0, 24, 27, 46, 167, 0, 4, 3, 172] (by decide +kernel) (by decide +kernel) (by decide +kernel))
theorem so_m202 : so_pr so_mi so_Ts so_Bs so_rows so_strs (some so_i202) (some so_c202) [] := so_pr_I rfl (by decide +kernel) rfl so_s202_0
/-- SequentMill$Store.heightOf(I)I -/
def so_T203_0 : List Cond := so_pick (k2_sels lw_privs) [] ++ so_pick tables_1 [73, 67]
theorem so_s203_0 : so_al so_mi so_Ts so_Bs so_rows so_strs so_i203 so_c203 0 23 := so_bS (T1 := so_T203_0) (B1 := so_B1) 0 23 so_hW (so_tin _ _ (by decide +kernel)) so_B1_in (so_bZ 0 23 [27, 155, 0, 20, 27, 42, 180, 0, 49, 162, 0, 12, 42, 180, 0, 27, 27, 46, 167, 0, 4, 3, 172] (by decide +kernel) (by decide +kernel) (by decide +kernel))
theorem so_m203 : so_pr so_mi so_Ts so_Bs so_rows so_strs (some so_i203) (some so_c203) [] := so_pr_I rfl (by decide +kernel) rfl so_s203_0
/-- SequentMill$Store.placeOf(IIII)I -/
def so_T206_0 : List Cond := so_pick (k2_sels lw_privs) [] ++ so_pick tables_1 [155, 61]
theorem so_s206_0 : so_al so_mi so_Ts so_Bs so_rows so_strs so_i206 so_c206 0 51 := so_bS (T1 := so_T206_0) (B1 := so_B1) 0 51 so_hW (so_tin _ _ (by decide +kernel)) so_B1_in (so_bZ 0 51 [27, 16, 31, 104, 28, 96, 17, 31, 255, 104, 29, 96, 17, 31, 255, 104, 21, 4, 96, 54, 5, 21, 5, 21, 5, 16, 15, 124, 130, 18, 101, 104, 54, 5, 21, 5, 21, 5, 16, 13, 124, 130, 42, 180, 0, 68, 190, 4, 100, 126, 172] (by decide +kernel) (by decide +kernel) (by decide +kernel))
theorem so_m206 : so_pr so_mi so_Ts so_Bs so_rows so_strs (some so_i206) (some so_c206) [] := so_pr_I rfl (by decide +kernel) rfl so_s206_0
/-- SequentMill$Store.find(IIIII)I -/
def so_T207_0 : List Cond := so_pick (k2_sels lw_privs) [] ++ so_pick tables_1 [61, 73, 62, 63, 64, 65, 68]
theorem so_s207_0 : so_al so_mi so_Ts so_Bs so_rows so_strs so_i207 so_c207 0 100 := so_bS (T1 := so_T207_0) (B1 := so_B1) 0 100 so_hW (so_tin _ _ (by decide +kernel)) so_B1_in (so_bZ 0 100 [42, 180, 0, 68, 27, 46, 54, 6, 3, 54, 7, 21, 7, 42, 180, 0, 49, 162, 0, 81, 21, 6, 155, 0, 76, 21, 6, 42, 180, 0, 49, 162, 0, 67, 42, 180, 0, 9, 21, 6, 46, 28, 160, 0, 41, 42, 180, 0, 15, 21, 6, 46, 29, 160, 0, 30, 42, 180, 0, 18, 21, 6, 46, 21, 4, 160, 0, 18, 42, 180, 0, 21, 21, 6, 46, 21, 5, 160, 0, 6, 21, 6, 172, 42, 180, 0, 30, 21, 6, 46, 54, 6, 132, 7, 1, 167, 255, 172, 2, 172] (by decide +kernel) (by decide +kernel) (by decide +kernel))
theorem so_m207 : so_pr so_mi so_Ts so_Bs so_rows so_strs (some so_i207) (some so_c207) [] := so_pr_I rfl (by decide +kernel) rfl so_s207_0
/-- SequentMill$Store.grow()V -/
def so_T208_0 : List Cond := so_pick (k2_sels lw_privs) [] ++ so_pick tables_1 [73, 62, 175, 5, 120, 63, 64, 65, 66, 67]
theorem so_s208_0 : so_al so_mi so_Ts so_Bs so_rows so_strs so_i208 so_c208 0 74 := so_bS (T1 := so_T208_0) (B1 := so_B1) 0 74 so_hW (so_tin _ _ (by decide +kernel)) so_B1_in (so_bZ 0 74 [5, 42, 180, 0, 49, 104, 4, 96, 60, 42, 42, 180, 0, 9, 27, 184, 0, 102, 181, 0, 9, 42, 42, 180, 0, 15, 27, 184, 0, 102, 181, 0, 15, 42, 42, 180, 0, 18, 27, 184, 0, 102, 181, 0, 18, 42, 42, 180, 0, 21, 27, 184, 0, 102, 181, 0, 21, 42, 42, 180, 0, 24, 27, 184, 0, 102, 181, 0, 24, 42, 42, 180, 0, 27, 27, 184, 0] (by decide +kernel) (by decide +kernel) (by decide +kernel))
def so_T208_1 : List Cond := so_pick (k2_sels lw_privs) [] ++ so_pick tables_1 [175, 5, 120, 67, 68, 69, 70, 71]
theorem so_s208_1 : so_al so_mi so_Ts so_Bs so_rows so_strs so_i208 so_c208 74 130 := so_bS (T1 := so_T208_1) (B1 := so_B1) 74 56 so_hW (so_tin _ _ (by decide +kernel)) so_B1_in (so_bZ 74 56 [27, 184, 0, 102, 181, 0, 27, 42, 42, 180, 0, 30, 27, 184, 0, 102, 181, 0, 30, 42, 42, 180, 0, 33, 27, 184, 0, 102, 181, 0, 33, 42, 42, 180, 0, 36, 27, 184, 0, 102, 181, 0, 36, 42, 42, 180, 0, 39, 27, 184, 0, 102, 181, 0, 39, 177] (by decide +kernel) (by decide +kernel) (by decide +kernel))
theorem so_m208 : so_pr so_mi so_Ts so_Bs so_rows so_strs (some so_i208) (some so_c208) [] := so_pr_I rfl (by decide +kernel) rfl (so_al_app so_s208_0 so_s208_1)
/-- SequentMill$Store.settle()V -/
def so_T209_0 : List Cond := so_pick (k2_sels lw_privs) [] ++ so_pick tables_1 [73, 74]
theorem so_s209_0 : so_al so_mi so_Ts so_Bs so_rows so_strs so_i209 so_c209 0 9 := so_bS (T1 := so_T209_0) (B1 := so_B1) 0 9 so_hW (so_tin _ _ (by decide +kernel)) so_B1_in (so_bZ 0 9 [42, 42, 180, 0, 49, 181, 0, 53, 177] (by decide +kernel) (by decide +kernel) (by decide +kernel))
theorem so_m209 : so_pr so_mi so_Ts so_Bs so_rows so_strs (some so_i209) (some so_c209) [] := so_pr_I rfl (by decide +kernel) rfl so_s209_0
/-- SequentMill$Store.startRound()V -/
def so_T211_0 : List Cond := so_pick (k2_sels lw_privs) [] ++ so_pick tables_1 [75, 72, 692, 4, 566, 567]
theorem so_s211_0 : so_al so_mi so_Ts so_Bs so_rows so_strs so_i211 so_c211 0 19 := so_bS (T1 := so_T211_0) (B1 := so_B1) 0 19 so_hW (so_tin _ _ (by decide +kernel)) so_B1_in (so_bZ 0 19 [42, 89, 180, 0, 56, 4, 96, 181, 0, 56, 42, 180, 0, 45, 3, 182, 0, 106, 177] (by decide +kernel) (by decide +kernel) (by decide +kernel))
theorem so_m211 : so_pr so_mi so_Ts so_Bs so_rows so_strs (some so_i211) (some so_c211) [] := so_pr_I rfl (by decide +kernel) rfl so_s211_0
/-- SequentMill$Store.remembered(II)I -/
def so_T212_0 : List Cond := so_pick (k2_sels lw_privs) [] ++ so_pick tables_1 [73, 70, 75, 71]
theorem so_s212_0 : so_al so_mi so_Ts so_Bs so_rows so_strs so_i212 so_c212 0 52 := so_bS (T1 := so_T212_0) (B1 := so_B1) 0 52 so_hW (so_tin _ _ (by decide +kernel)) so_B1_in (so_bZ 0 52 [27, 155, 0, 34, 27, 42, 180, 0, 49, 162, 0, 26, 42, 180, 0, 36, 27, 46, 42, 180, 0, 56, 17, 0, 128, 104, 28, 96, 160, 0, 7, 4, 167, 0, 4, 3, 62, 29, 153, 0, 12, 42, 180, 0, 39, 27, 46, 167, 0, 4, 2, 172] (by decide +kernel) (by decide +kernel) (by decide +kernel))
theorem so_m212 : so_pr so_mi so_Ts so_Bs so_rows so_strs (some so_i212) (some so_c212) [] := so_pr_I rfl (by decide +kernel) rfl so_s212_0
/-- SequentMill$Store.remember(III)V -/
def so_T213_0 : List Cond := so_pick (k2_sels lw_privs) [] ++ so_pick tables_1 [73, 70, 75, 71]
theorem so_s213_0 : so_al so_mi so_Ts so_Bs so_rows so_strs so_i213 so_c213 0 36 := so_bS (T1 := so_T213_0) (B1 := so_B1) 0 36 so_hW (so_tin _ _ (by decide +kernel)) so_B1_in (so_bZ 0 36 [27, 155, 0, 34, 27, 42, 180, 0, 49, 162, 0, 26, 42, 180, 0, 36, 27, 42, 180, 0, 56, 17, 0, 128, 104, 28, 96, 79, 42, 180, 0, 39, 27, 29, 79, 177] (by decide +kernel) (by decide +kernel) (by decide +kernel))
theorem so_m213 : so_pr so_mi so_Ts so_Bs so_rows so_strs (some so_i213) (some so_c213) [] := so_pr_I rfl (by decide +kernel) rfl so_s213_0
/-- SequentMill$Terms.<init>(LSequentMill$Types;)V -/
def so_T218_0 : List Cond := so_pick (k2_sels lw_privs) [] ++ so_pick tables_1 [200, 27, 28, 201, 36, 3, 202, 203, 38, 215, 204, 42, 4, 44, 220, 221, 219, 206, 2, 207, 208, 182, 210, 211, 212, 214, 116, 117]
theorem so_s218_0 : so_al so_mi so_Ts so_Bs so_rows so_strs so_i218 so_c218 0 88 := so_bS (T1 := so_T218_0) (B1 := so_B1) 0 88 so_hW (so_tin _ _ (by decide +kernel)) so_B1_in (so_bZ 0 88 [42, 183, 0, 3, 42, 187, 0, 9, 89, 17, 15, 160, 16, 120, 18, 11, 16, 13, 183, 0, 12, 181, 0, 15, 42, 187, 0, 21, 89, 183, 0, 23, 181, 0, 24, 42, 3, 181, 0, 28, 42, 43, 181, 0, 32, 43, 3, 182, 0, 36, 61, 43, 28, 43, 180, 0, 42, 182, 0, 45, 62, 42, 180, 0, 24, 43, 28, 29, 182, 0, 45, 182, 0, 49, 42, 180, 0, 24, 43, 29, 28, 182, 0, 45, 182, 0, 49, 177] (by decide +kernel) (by decide +kernel) (by decide +kernel))
theorem so_m218 : so_pr so_mi so_Ts so_Bs so_rows so_strs (some so_i218) (some so_c218) [] := so_pr_I rfl (by decide +kernel) rfl so_s218_0

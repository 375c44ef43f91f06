/-! ===== the methods, 9 ===== -/
/-- SequentMill$Terms.leaf(III)I -/
def so_T222_0 : List Cond := so_pick (k2_sels lw_privs) [] ++ so_pick tables_1 [215, 662, 3, 148, 149]
theorem so_s222_0 : so_al so_mi so_Ts so_Bs so_rows so_strs so_i222 so_c222 0 16 := so_bS (T1 := so_T222_0) (B1 := so_B1) 0 16 so_hW (so_tin _ _ (by decide +kernel)) so_B1_in (so_bZ 0 16 [42, 180, 0, 15, 7, 28, 104, 27, 96, 2, 2, 29, 182, 0, 64, 172] (by decide +kernel) (by decide +kernel) (by decide +kernel))
theorem so_m222 : so_pr so_mi so_Ts so_Bs so_rows so_strs (some so_i222) (some so_c222) [] := so_pr_I rfl (by decide +kernel) rfl so_s222_0
/-- SequentMill$Terms.application(II)I -/
def so_T223_0 : List Cond := so_pick (k2_sels lw_privs) [] ++ so_pick tables_1 [215, 742, 3, 706, 707, 738, 739, 740, 219, 743, 2, 744, 745, 179, 752, 714, 715, 766, 8, 767, 768]
theorem so_s223_0 : so_al so_mi so_Ts so_Bs so_rows so_strs so_i223 so_c223 0 74 := so_bS (T1 := so_T223_0) (B1 := so_B1) 0 74 so_hW (so_tin _ _ (by decide +kernel)) so_B1_in (so_bZ 0 74 [42, 180, 0, 15, 27, 182, 0, 68, 16, 254, 160, 0, 22, 42, 42, 42, 180, 0, 15, 27, 182, 0, 71, 182, 0, 74, 27, 28, 182, 0, 77, 172, 42, 180, 0, 15, 27, 182, 0, 80, 62, 42, 180, 0, 32, 29, 182, 0, 83, 153, 0, 23, 42, 42, 180, 0, 32, 180, 0, 87, 29, 182, 0, 88, 27, 28, 182, 0, 77, 167, 0, 4, 2, 172] (by decide +kernel) (by decide +kernel) (by decide +kernel))
theorem so_m223 : so_pr so_mi so_Ts so_Bs so_rows so_strs (some so_i223) (some so_c223) [] := so_pr_I rfl (by decide +kernel) rfl so_s223_0
/-- SequentMill$Terms.applicationOf(III)I -/
def so_T224_0 : List Cond := so_pick (k2_sels lw_privs) [] ++ so_pick tables_1 [215, 662, 3, 148, 149]
theorem so_s224_0 : so_al so_mi so_Ts so_Bs so_rows so_strs so_i224 so_c224 0 24 := so_bS (T1 := so_T224_0) (B1 := so_B1) 0 24 so_hW (so_tin _ _ (by decide +kernel)) so_B1_in (so_bZ 0 24 [28, 155, 0, 7, 29, 156, 0, 7, 2, 167, 0, 14, 42, 180, 0, 15, 2, 28, 29, 27, 182, 0, 64, 172] (by decide +kernel) (by decide +kernel) (by decide +kernel))
theorem so_m224 : so_pr so_mi so_Ts so_Bs so_rows so_strs (some so_i224) (some so_c224) [] := so_pr_I rfl (by decide +kernel) rfl so_s224_0
/-- SequentMill$Terms.abstractionOver(II)I -/
def so_T225_0 : List Cond := so_pick (k2_sels lw_privs) [16] ++ so_pick tables_1 [815, 8, 817, 215, 662, 3, 148, 149]
theorem so_s225_0 : so_al so_mi so_Ts so_Bs so_rows so_strs so_i225 so_c225 0 32 := so_bS (T1 := so_T225_0) (B1 := so_B1) 0 32 so_hW (so_tin _ _ (by decide +kernel)) so_B1_in (so_bZ 0 32 [27, 155, 0, 16, 28, 155, 0, 12, 42, 27, 28, 182, 0, 91, 154, 0, 5, 2, 172, 42, 180, 0, 15, 16, 254, 28, 2, 27, 182, 0, 64, 172] (by decide +kernel) (by decide +kernel) (by decide +kernel))
theorem so_m225 : so_pr so_mi so_Ts so_Bs so_rows so_strs (some so_i225) (some so_c225) [] := so_pr_I rfl (by decide +kernel) rfl so_s225_0
/-- SequentMill$Terms.isTypeInLimits(II)Z -/
def so_T226_0 : List Cond := so_pick (k2_sels lw_privs) [] ++ so_pick tables_1 [219, 179, 819, 3, 161, 162, 820, 165, 166, 215, 742, 706, 707, 738, 739, 740]
theorem so_s226_0 : so_al so_mi so_Ts so_Bs so_rows so_strs so_i226 so_c226 0 147 := so_bS (T1 := so_T226_0) (B1 := so_B1) 0 147 so_hW (so_tin _ _ (by decide +kernel)) so_B1_in (so_bZ 0 147 [4, 42, 180, 0, 32, 180, 0, 87, 27, 182, 0, 95, 96, 62, 4, 42, 180, 0, 32, 180, 0, 87, 27, 182, 0, 98, 96, 54, 4, 28, 54, 5, 4, 54, 6, 21, 6, 16, 24, 162, 0, 84, 42, 180, 0, 15, 21, 5, 182, 0, 68, 16, 254, 160, 0, 70, 42, 180, 0, 15, 21, 5, 182, 0, 80, 54, 7, 132, 6, 1, 29, 4, 42, 180, 0, 32, 180, 0, 87, 21, 7, 182, 0, 95, 96, 96, 62, 21, 4, 21, 6, 42, 180, 0, 32, 180, 0, 87, 21, 7, 182, 0, 98, 96, 184, 0, 101, 54, 4, 42, 180, 0, 15, 21, 5, 182, 0, 71, 54, 5, 167, 255, 171, 42, 180, 0, 15, 21, 5, 182, 0, 80, 54, 7, 29, 42, 180, 0, 32, 180, 0, 87, 21, 7, 182, 0, 95, 96, 62, 21] (by decide +kernel) (by decide +kernel) (by decide +kernel))
def so_T226_1 : List Cond := so_pick (k2_sels lw_privs) [] ++ so_pick tables_1 [219, 179, 820, 3, 165, 166, 821, 169, 6, 170]
theorem so_s226_1 : so_al so_mi so_Ts so_Bs so_rows so_strs so_i226 so_c226 147 191 := so_bS (T1 := so_T226_1) (B1 := so_B1) 147 44 so_hW (so_tin _ _ (by decide +kernel)) so_B1_in (so_bZ 147 44 [96, 62, 21, 4, 21, 6, 42, 180, 0, 32, 180, 0, 87, 21, 7, 182, 0, 98, 96, 184, 0, 101, 54, 4, 29, 17, 0, 200, 163, 0, 14, 21, 4, 16, 24, 163, 0, 7, 4, 167, 0, 4, 3, 172] (by decide +kernel) (by decide +kernel) (by decide +kernel))
theorem so_m226 : so_pr so_mi so_Ts so_Bs so_rows so_strs (some so_i226) (some so_c226) [] := so_pr_I rfl (by decide +kernel) rfl (so_al_app so_s226_0 so_s226_1)
/-- SequentMill$Terms.ownType(I)I -/
def so_T227_0 : List Cond := so_pick (k2_sels lw_privs) [11] ++ so_pick tables_1 [762, 8, 764]
theorem so_s227_0 : so_al so_mi so_Ts so_Bs so_rows so_strs so_i227 so_c227 0 7 := so_bS (T1 := so_T227_0) (B1 := so_B1) 0 7 so_hW (so_tin _ _ (by decide +kernel)) so_B1_in (so_bZ 0 7 [42, 27, 3, 182, 0, 106, 172] (by decide +kernel) (by decide +kernel) (by decide +kernel))
theorem so_m227 : so_pr so_mi so_Ts so_Bs so_rows so_strs (some so_i227) (some so_c227) [] := so_pr_I rfl (by decide +kernel) rfl so_s227_0
/-- SequentMill$Terms.ownTypeAt(II)I -/
def so_T228_0 : List Cond := so_pick (k2_sels lw_privs) [11] ++ so_pick tables_1 [215, 742, 3, 706, 707, 738, 739, 740, 747, 710, 711, 762, 8, 764, 219, 179, 662, 148, 149]
theorem so_s228_0 : so_al so_mi so_Ts so_Bs so_rows so_strs so_i228 so_c228 0 76 := so_bS (T1 := so_T228_0) (B1 := so_B1) 0 76 so_hW (so_tin _ _ (by decide +kernel)) so_B1_in (so_bZ 0 76 [42, 180, 0, 15, 27, 182, 0, 68, 16, 254, 159, 0, 12, 42, 180, 0, 15, 27, 182, 0, 80, 172, 28, 16, 24, 161, 0, 5, 2, 172, 42, 42, 180, 0, 15, 27, 182, 0, 71, 28, 4, 96, 182, 0, 106, 62, 29, 156, 0, 7, 2, 167, 0, 24, 42, 180, 0, 32, 180, 0, 87, 5, 42, 180, 0, 15, 27, 182, 0, 80, 29, 3, 182, 0, 64, 172] (by decide +kernel) (by decide +kernel) (by decide +kernel))
theorem so_m228 : so_pr so_mi so_Ts so_Bs so_rows so_strs (some so_i228) (some so_c228) [] := so_pr_I rfl (by decide +kernel) rfl so_s228_0
/-- SequentMill$Terms.settle()V -/
def so_T244_0 : List Cond := so_pick (k2_sels lw_privs) [] ++ so_pick tables_1 [215, 409, 3, 398, 399, 220, 410, 4, 402, 403, 221]
theorem so_s244_0 : so_al so_mi so_Ts so_Bs so_rows so_strs so_i244 so_c244 0 19 := so_bS (T1 := so_T244_0) (B1 := so_B1) 0 19 so_hW (so_tin _ _ (by decide +kernel)) so_B1_in (so_bZ 0 19 [42, 180, 0, 15, 182, 0, 148, 42, 42, 180, 0, 24, 182, 0, 53, 181, 0, 28, 177] (by decide +kernel) (by decide +kernel) (by decide +kernel))
theorem so_m244 : so_pr so_mi so_Ts so_Bs so_rows so_strs (some so_i244) (some so_c244) [] := so_pr_I rfl (by decide +kernel) rfl so_s244_0
/-- SequentMill$Trace.<init>(LSequentMill$Store;LSequentMill$Store;)V -/
def so_T246_0 : List Cond := so_pick (k2_sels lw_privs) [] ++ so_pick tables_1 [286, 27, 28, 287, 42, 4, 44, 291, 292, 293, 294, 295, 296, 297, 289, 290]
theorem so_s246_0 : so_al so_mi so_Ts so_Bs so_rows so_strs so_i246 so_c246 0 68 := so_bS (T1 := so_T246_0) (B1 := so_B1) 0 68 so_hW (so_tin _ _ (by decide +kernel)) so_B1_in (so_bZ 0 68 [42, 183, 0, 3, 42, 187, 0, 9, 89, 183, 0, 11, 181, 0, 12, 42, 187, 0, 9, 89, 183, 0, 11, 181, 0, 18, 42, 187, 0, 9, 89, 183, 0, 11, 181, 0, 21, 42, 3, 181, 0, 24, 42, 3, 181, 0, 28, 42, 3, 181, 0, 31, 42, 3, 181, 0, 34, 42, 43, 181, 0, 38, 42, 44, 181, 0, 42, 177] (by decide +kernel) (by decide +kernel) (by decide +kernel))
theorem so_m246 : so_pr so_mi so_Ts so_Bs so_rows so_strs (some so_i246) (some so_c246) [] := so_pr_I rfl (by decide +kernel) rfl so_s246_0
/-- SequentMill$Trace.length()I -/
def so_T247_0 : List Cond := so_pick (k2_sels lw_privs) [] ++ so_pick tables_1 [291, 415, 4, 402, 403]
theorem so_s247_0 : so_al so_mi so_Ts so_Bs so_rows so_strs so_i247 so_c247 0 8 := so_bS (T1 := so_T247_0) (B1 := so_B1) 0 8 so_hW (so_tin _ _ (by decide +kernel)) so_B1_in (so_bZ 0 8 [42, 180, 0, 12, 182, 0, 45, 172] (by decide +kernel) (by decide +kernel) (by decide +kernel))
theorem so_m247 : so_pr so_mi so_Ts so_Bs so_rows so_strs (some so_i247) (some so_c247) [] := so_pr_I rfl (by decide +kernel) rfl so_s247_0
/-- SequentMill$Trace.isFull()Z -/
def so_T249_0 : List Cond := so_pick (k2_sels lw_privs) [] ++ so_pick tables_1 [297]
theorem so_s249_0 : so_al so_mi so_Ts so_Bs so_rows so_strs so_i249 so_c249 0 5 := so_bS (T1 := so_T249_0) (B1 := so_B1) 0 5 so_hW (so_tin _ _ (by decide +kernel)) so_B1_in (so_bZ 0 5 [42, 180, 0, 34, 172] (by decide +kernel) (by decide +kernel) (by decide +kernel))
theorem so_m249 : so_pr so_mi so_Ts so_Bs so_rows so_strs (some so_i249) (some so_c249) [] := so_pr_I rfl (by decide +kernel) rfl so_s249_0
/-- SequentMill$Trace.write(I)V -/
def so_T250_0 : List Cond := so_pick (k2_sels lw_privs) [] ++ so_pick tables_1 [291, 415, 4, 402, 403, 880, 881, 116, 117]
theorem so_s250_0 : so_al so_mi so_Ts so_Bs so_rows so_strs so_i250 so_c250 0 29 := so_bS (T1 := so_T250_0) (B1 := so_B1) 0 29 so_hW (so_tin _ _ (by decide +kernel)) so_B1_in (so_bZ 0 29 [42, 180, 0, 12, 182, 0, 45, 18, 53, 161, 0, 11, 42, 4, 181, 0, 34, 167, 0, 11, 42, 180, 0, 12, 27, 182, 0, 54, 177] (by decide +kernel) (by decide +kernel) (by decide +kernel))
theorem so_m250 : so_pr so_mi so_Ts so_Bs so_rows so_strs (some so_i250) (some so_c250) [] := so_pr_I rfl (by decide +kernel) rfl so_s250_0
/-- SequentMill$Trace.step(II)V -/
def so_T251_0 : List Cond := so_pick (k2_sels lw_privs) [] ++ so_pick tables_1 [876, 11, 877, 878]
theorem so_s251_0 : so_al so_mi so_Ts so_Bs so_rows so_strs so_i251 so_c251 0 14 := so_bS (T1 := so_T251_0) (B1 := so_B1) 0 14 so_hW (so_tin _ _ (by decide +kernel)) so_B1_in (so_bZ 0 14 [42, 16, 10, 27, 96, 182, 0, 58, 42, 28, 182, 0, 58, 177] (by decide +kernel) (by decide +kernel) (by decide +kernel))
theorem so_m251 : so_pr so_mi so_Ts so_Bs so_rows so_strs (some so_i251) (some so_c251) [] := so_pr_I rfl (by decide +kernel) rfl so_s251_0
/-- SequentMill$Trace.settledNumbers()I -/
def so_T259_0 : List Cond := so_pick (k2_sels lw_privs) [] ++ so_pick tables_1 [294]
theorem so_s259_0 : so_al so_mi so_Ts so_Bs so_rows so_strs so_i259 so_c259 0 5 := so_bS (T1 := so_T259_0) (B1 := so_B1) 0 5 so_hW (so_tin _ _ (by decide +kernel)) so_B1_in (so_bZ 0 5 [42, 180, 0, 24, 172] (by decide +kernel) (by decide +kernel) (by decide +kernel))
theorem so_m259 : so_pr so_mi so_Ts so_Bs so_rows so_strs (some so_i259) (some so_c259) [] := so_pr_I rfl (by decide +kernel) rfl so_s259_0
/-- SequentMill$Trace.settledTypes()I -/
def so_T260_0 : List Cond := so_pick (k2_sels lw_privs) [] ++ so_pick tables_1 [295]
theorem so_s260_0 : so_al so_mi so_Ts so_Bs so_rows so_strs so_i260 so_c260 0 5 := so_bS (T1 := so_T260_0) (B1 := so_B1) 0 5 so_hW (so_tin _ _ (by decide +kernel)) so_B1_in (so_bZ 0 5 [42, 180, 0, 28, 172] (by decide +kernel) (by decide +kernel) (by decide +kernel))
theorem so_m260 : so_pr so_mi so_Ts so_Bs so_rows so_strs (some so_i260) (some so_c260) [] := so_pr_I rfl (by decide +kernel) rfl so_s260_0
/-- SequentMill$Trace.settledTerms()I -/
def so_T261_0 : List Cond := so_pick (k2_sels lw_privs) [] ++ so_pick tables_1 [296]
theorem so_s261_0 : so_al so_mi so_Ts so_Bs so_rows so_strs so_i261 so_c261 0 5 := so_bS (T1 := so_T261_0) (B1 := so_B1) 0 5 so_hW (so_tin _ _ (by decide +kernel)) so_B1_in (so_bZ 0 5 [42, 180, 0, 31, 172] (by decide +kernel) (by decide +kernel) (by decide +kernel))
theorem so_m261 : so_pr so_mi so_Ts so_Bs so_rows so_strs (some so_i261) (some so_c261) [] := so_pr_I rfl (by decide +kernel) rfl so_s261_0
/-- SequentMill$Trace.settle()V -/
def so_T262_0 : List Cond := so_pick (k2_sels lw_privs) [] ++ so_pick tables_1 [291, 415, 4, 402, 403, 294, 292, 295, 293, 296]
theorem so_s262_0 : so_al so_mi so_Ts so_Bs so_rows so_strs so_i262 so_c262 0 34 := so_bS (T1 := so_T262_0) (B1 := so_B1) 0 34 so_hW (so_tin _ _ (by decide +kernel)) so_B1_in (so_bZ 0 34 [42, 42, 180, 0, 12, 182, 0, 45, 181, 0, 24, 42, 42, 180, 0, 18, 182, 0, 45, 181, 0, 28, 42, 42, 180, 0, 21, 182, 0, 45, 181, 0, 31, 177] (by decide +kernel) (by decide +kernel) (by decide +kernel))
theorem so_m262 : so_pr so_mi so_Ts so_Bs so_rows so_strs (some so_i262) (some so_c262) [] := so_pr_I rfl (by decide +kernel) rfl so_s262_0
/-- SequentMill$Types.<init>()V -/
def so_T265_0 : List Cond := so_pick (k2_sels lw_privs) [] ++ so_pick tables_1 [34, 27, 28, 35, 36, 3, 37, 38, 176, 113, 42, 4, 44, 180, 181, 115, 116, 117, 135, 2, 136, 137, 183]
theorem so_s265_0 : so_al so_mi so_Ts so_Bs so_rows so_strs so_i265 so_c265 0 77 := so_bS (T1 := so_T265_0) (B1 := so_B1) 0 77 so_hW (so_tin _ _ (by decide +kernel)) so_B1_in (so_bZ 0 77 [42, 183, 0, 3, 42, 187, 0, 9, 89, 17, 0, 200, 16, 24, 17, 31, 64, 16, 11, 183, 0, 11, 181, 0, 14, 42, 187, 0, 20, 89, 183, 0, 22, 181, 0, 23, 42, 3, 181, 0, 27, 42, 180, 0, 23, 3, 182, 0, 31, 42, 180, 0, 23, 3, 182, 0, 31, 42, 180, 0, 23, 5, 182, 0, 31, 42, 42, 3, 2, 2, 182, 0, 35, 181, 0, 39, 177] (by decide +kernel) (by decide +kernel) (by decide +kernel))
theorem so_m265 : so_pr so_mi so_Ts so_Bs so_rows so_strs (some so_i265) (some so_c265) [] := so_pr_I rfl (by decide +kernel) rfl so_s265_0
/-- SequentMill$Types.hasConstructor(I)Z -/
def so_T266_0 : List Cond := so_pick (k2_sels lw_privs) [] ++ so_pick tables_1 [180, 401, 4, 402, 403]
theorem so_s266_0 : so_al so_mi so_Ts so_Bs so_rows so_strs so_i266 so_c266 0 21 := so_bS (T1 := so_T266_0) (B1 := so_B1) 0 21 so_hW (so_tin _ _ (by decide +kernel)) so_B1_in (so_bZ 0 21 [27, 155, 0, 18, 27, 42, 180, 0, 23, 182, 0, 42, 162, 0, 7, 4, 167, 0, 4, 3, 172] (by decide +kernel) (by decide +kernel) (by decide +kernel))
theorem so_m266 : so_pr so_mi so_Ts so_Bs so_rows so_strs (some so_i266) (some so_c266) [] := so_pr_I rfl (by decide +kernel) rfl so_s266_0
/-- SequentMill$Types.takesOf(I)I -/
def so_T267_0 : List Cond := so_pick (k2_sels lw_privs) [] ++ so_pick tables_1 [180, 143, 4, 144, 145]
theorem so_s267_0 : so_al so_mi so_Ts so_Bs so_rows so_strs so_i267 so_c267 0 9 := so_bS (T1 := so_T267_0) (B1 := so_B1) 0 9 so_hW (so_tin _ _ (by decide +kernel)) so_B1_in (so_bZ 0 9 [42, 180, 0, 23, 27, 182, 0, 46, 172] (by decide +kernel) (by decide +kernel) (by decide +kernel))
theorem so_m267 : so_pr so_mi so_Ts so_Bs so_rows so_strs (some so_i267) (some so_c267) [] := so_pr_I rfl (by decide +kernel) rfl so_s267_0
/-- SequentMill$Types.variable(I)I -/
def so_T268_0 : List Cond := so_pick (k2_sels lw_privs) [] ++ so_pick tables_1 [176, 147, 3, 148, 149]
theorem so_s268_0 : so_al so_mi so_Ts so_Bs so_rows so_strs so_i268 so_c268 0 14 := so_bS (T1 := so_T268_0) (B1 := so_B1) 0 14 so_hW (so_tin _ _ (by decide +kernel)) so_B1_in (so_bZ 0 14 [42, 180, 0, 14, 2, 27, 100, 2, 2, 3, 182, 0, 50, 172] (by decide +kernel) (by decide +kernel) (by decide +kernel))
theorem so_m268 : so_pr so_mi so_Ts so_Bs so_rows so_strs (some so_i268) (some so_c268) [] := so_pr_I rfl (by decide +kernel) rfl so_s268_0
/-- SequentMill$Types.built(III)I -/
def so_T269_0 : List Cond := so_pick (k2_sels lw_privs) [] ++ so_pick tables_1 [139, 2, 140, 141, 176, 147, 3, 148, 149]
theorem so_s269_0 : so_al so_mi so_Ts so_Bs so_rows so_strs so_i269 so_c269 0 64 := so_bS (T1 := so_T269_0) (B1 := so_B1) 0 64 so_hW (so_tin _ _ (by decide +kernel)) so_B1_in (so_bZ 0 64 [42, 27, 182, 0, 54, 54, 4, 21, 4, 155, 0, 22, 21, 4, 158, 0, 7, 28, 155, 0, 13, 21, 4, 4, 164, 0, 9, 29, 156, 0, 5, 2, 172, 42, 180, 0, 14, 27, 21, 4, 158, 0, 7, 28, 167, 0, 4, 2, 21, 4, 4, 164, 0, 7, 29, 167, 0, 4, 2, 3, 182, 0, 50, 172] (by decide +kernel) (by decide +kernel) (by decide +kernel))
theorem so_m269 : so_pr so_mi so_Ts so_Bs so_rows so_strs (some so_i269) (some so_c269) [] := so_pr_I rfl (by decide +kernel) rfl so_s269_0
/-- SequentMill$Types.functions(II)I -/
def so_T270_0 : List Cond := so_pick (k2_sels lw_privs) [] ++ so_pick tables_1 [176, 147, 3, 148, 149]
theorem so_s270_0 : so_al so_mi so_Ts so_Bs so_rows so_strs so_i270 so_c270 0 24 := so_bS (T1 := so_T270_0) (B1 := so_B1) 0 24 so_hW (so_tin _ _ (by decide +kernel)) so_B1_in (so_bZ 0 24 [27, 155, 0, 7, 28, 156, 0, 7, 2, 167, 0, 14, 42, 180, 0, 14, 5, 27, 28, 3, 182, 0, 50, 172] (by decide +kernel) (by decide +kernel) (by decide +kernel))
theorem so_m270 : so_pr so_mi so_Ts so_Bs so_rows so_strs (some so_i270) (some so_c270) [] := so_pr_I rfl (by decide +kernel) rfl so_s270_0
/-- SequentMill$Types.isFunctions(I)Z -/
def so_T271_0 : List Cond := so_pick (k2_sels lw_privs) [] ++ so_pick tables_1 [176, 705, 3, 706, 707]
theorem so_s271_0 : so_al so_mi so_Ts so_Bs so_rows so_strs so_i271 so_c271 0 22 := so_bS (T1 := so_T271_0) (B1 := so_B1) 0 22 so_hW (so_tin _ _ (by decide +kernel)) so_B1_in (so_bZ 0 22 [27, 155, 0, 19, 42, 180, 0, 14, 27, 182, 0, 57, 5, 160, 0, 7, 4, 167, 0, 4, 3, 172] (by decide +kernel) (by decide +kernel) (by decide +kernel))
theorem so_m271 : so_pr so_mi so_Ts so_Bs so_rows so_strs (some so_i271) (some so_c271) [] := so_pr_I rfl (by decide +kernel) rfl so_s271_0
/-- SequentMill$Types.settle()V -/
def so_T277_0 : List Cond := so_pick (k2_sels lw_privs) [] ++ so_pick tables_1 [176, 397, 3, 398, 399, 180, 401, 4, 402, 403, 181]
theorem so_s277_0 : so_al so_mi so_Ts so_Bs so_rows so_strs so_i277 so_c277 0 19 := so_bS (T1 := so_T277_0) (B1 := so_B1) 0 19 so_hW (so_tin _ _ (by decide +kernel)) so_B1_in (so_bZ 0 19 [42, 180, 0, 14, 182, 0, 93, 42, 42, 180, 0, 23, 182, 0, 42, 181, 0, 27, 177] (by decide +kernel) (by decide +kernel) (by decide +kernel))
theorem so_m277 : so_pr so_mi so_Ts so_Bs so_rows so_strs (some so_i277) (some so_c277) [] := so_pr_I rfl (by decide +kernel) rfl so_s277_0
/-- SequentMillLaw.typeVariable(LSequentMill;I[J)I -/
def so_T279_0 : List Cond := so_pick (k2_sels lw_privs) [] ++ so_pick tables_1 [463, 1, 464, 465]
theorem so_s279_0 : so_al so_mi so_Ts so_Bs so_rows so_strs so_i279 so_c279 0 20 := so_bS (T1 := so_T279_0) (B1 := so_B1) 0 20 so_hW (so_tin _ _ (by decide +kernel)) so_B1_in (so_bZ 0 20 [44, 3, 42, 27, 182, 0, 7, 133, 80, 167, 0, 9, 78, 4, 172, 78, 5, 172, 3, 172] (by decide +kernel) (by decide +kernel) (by decide +kernel))
theorem so_m279 : so_pr so_mi so_Ts so_Bs so_rows so_strs (some so_i279) (some so_c279) ([((0, 9, 12, 13), 0), ((0, 9, 15, 15), 1)].map (fun z : (Nat × Nat × Nat × Nat) × Nat => (z.1.1, z.1.2.1, z.1.2.2.1, z.2))) := so_pr_H [((0, 9, 12, 13), 0), ((0, 9, 15, 15), 1)] rfl (by decide +kernel) rfl (so_tin [] [461, 462] (by decide +kernel)) (by decide +kernel) so_s279_0
/-- SequentMillLaw.type(LSequentMill;III[J)I -/
def so_T280_0 : List Cond := so_pick (k2_sels lw_privs) [] ++ so_pick tables_1 [610, 1, 611, 612]
theorem so_s280_0 : so_al so_mi so_Ts so_Bs so_rows so_strs so_i280 so_c280 0 29 := so_bS (T1 := so_T280_0) (B1 := so_B1) 0 29 so_hW (so_tin _ _ (by decide +kernel)) so_B1_in (so_bZ 0 29 [25, 4, 3, 42, 27, 28, 29, 182, 0, 17, 133, 80, 167, 0, 15, 58, 5, 4, 172, 58, 5, 5, 172, 58, 5, 6, 172, 3, 172] (by decide +kernel) (by decide +kernel) (by decide +kernel))
theorem so_m280 : so_pr so_mi so_Ts so_Bs so_rows so_strs (some so_i280) (some so_c280) ([((0, 12, 15, 13), 0), ((0, 12, 19, 21), 2), ((0, 12, 23, 15), 1)].map (fun z : (Nat × Nat × Nat × Nat) × Nat => (z.1.1, z.1.2.1, z.1.2.2.1, z.2))) := so_pr_H [((0, 12, 15, 13), 0), ((0, 12, 19, 21), 2), ((0, 12, 23, 15), 1)] rfl (by decide +kernel) rfl (so_tin [] [461, 609, 462] (by decide +kernel)) (by decide +kernel) so_s280_0
/-- SequentMillLaw.free(LSequentMill;II[J)I -/
def so_T281_0 : List Cond := so_pick (k2_sels lw_privs) [] ++ so_pick tables_1 [653, 1, 654, 655]
theorem so_s281_0 : so_al so_mi so_Ts so_Bs so_rows so_strs so_i281 so_c281 0 17 := so_bS (T1 := so_T281_0) (B1 := so_B1) 0 17 so_hW (so_tin _ _ (by decide +kernel)) so_B1_in (so_bZ 0 17 [45, 3, 42, 27, 28, 182, 0, 23, 133, 80, 167, 0, 15, 58, 4, 4, 172, 58, 4, 5] (by decide +kernel) (by decide +kernel) (by decide +kernel))
theorem so_m281 : so_pr so_mi so_Ts so_Bs so_rows so_strs (some so_i281) (some so_c281) ([((0, 10, 13, 21), 2), ((0, 10, 17, 13), 0), ((0, 10, 21, 15), 1)].map (fun z : (Nat × Nat × Nat × Nat) × Nat => (z.1.1, z.1.2.1, z.1.2.2.1, z.2))) := so_pr_H [((0, 10, 13, 21), 2), ((0, 10, 17, 13), 0), ((0, 10, 21, 15), 1)] rfl (by decide +kernel) rfl (so_tin [] [609, 461, 462] (by decide +kernel)) (by decide +kernel) so_s281_0

/-! ===== the methods, 2 ===== -/
/-- SequentMill.typeVariable(I)I -/
def so_T9_0 : List Cond := so_pick (k2_sels lw_privs) [4, 5] ++ so_pick tables_1 [467, 1, 468, 470, 18, 512, 15, 492, 501, 505, 508, 510, 493, 494, 27, 28, 495, 500, 506, 526, 482, 527, 484, 528, 486, 496, 498, 488, 522, 523, 525, 513, 514, 515, 516, 517, 518, 519, 520, 521, 471, 479, 480, 481, 483, 485, 487, 491, 490, 489, 416, 538, 2, 207, 208, 539, 541]
theorem so_s9_0 : so_al so_mi so_Ts so_Bs so_rows so_strs so_i9 so_c9 0 30 := so_bS (T1 := so_T9_0) (B1 := so_B1) 0 30 so_hW (so_tin _ _ (by decide +kernel)) so_B1_in (so_bZ 0 30 [27, 184, 0, 81, 153, 0, 13, 187, 0, 85, 89, 18, 87, 183, 0, 89, 191, 42, 42, 180, 0, 12, 27, 182, 0, 92, 182, 0, 96, 172] (by decide +kernel) (by decide +kernel) (by decide +kernel))
theorem so_m9 : so_pr so_mi so_Ts so_Bs so_rows so_strs (some so_i9) (some so_c9) [] := so_pr_I rfl (by decide +kernel) rfl so_s9_0
/-- SequentMill.type(III)I -/
def so_T10_0 : List Cond := so_pick (k2_sels lw_privs) [4, 7, 5] ++ so_pick tables_1 [416, 614, 2, 615, 616, 470, 18, 512, 15, 492, 501, 505, 508, 510, 493, 494, 27, 28, 495, 500, 506, 526, 482, 527, 484, 528, 486, 496, 498, 488, 522, 523, 525, 513, 514, 515, 516, 517, 518, 519, 520, 521, 471, 479, 480, 481, 483, 485, 487, 491, 490, 489, 619, 140, 141, 620, 1, 622, 649, 136, 137, 539, 541]
theorem so_s10_0 : so_al so_mi so_Ts so_Bs so_rows so_strs so_i10 so_c10 0 81 := so_bS (T1 := so_T10_0) (B1 := so_B1) 0 81 so_hW (so_tin _ _ (by decide +kernel)) so_B1_in (so_bZ 0 81 [42, 180, 0, 12, 27, 182, 0, 99, 154, 0, 13, 187, 0, 85, 89, 18, 102, 183, 0, 89, 191, 42, 180, 0, 12, 27, 182, 0, 104, 54, 4, 21, 4, 158, 0, 11, 42, 28, 182, 0, 107, 167, 0, 4, 2, 54, 5, 21, 4, 4, 164, 0, 11, 42, 29, 182, 0, 107, 167, 0, 4, 2, 54, 6, 42, 42, 180, 0, 12, 27, 21, 5, 21, 6, 182, 0, 110, 182, 0, 96, 172] (by decide +kernel) (by decide +kernel) (by decide +kernel))
theorem so_m10 : so_pr so_mi so_Ts so_Bs so_rows so_strs (some so_i10) (some so_c10) [] := so_pr_I rfl (by decide +kernel) rfl so_s10_0
/-- SequentMill.free(II)I -/
def so_T11_0 : List Cond := so_pick (k2_sels lw_privs) [7] ++ so_pick tables_1 [620, 1, 622]
theorem so_s11_0 : so_al so_mi so_Ts so_Bs so_rows so_strs so_i11 so_c11 0 3 := so_bS (T1 := so_T11_0) (B1 := so_B1) 0 3 so_hW (so_tin _ _ (by decide +kernel)) so_B1_in (so_bZ 0 3 [42, 28, 182, 0, 107, 62] (by decide +kernel) (by decide +kernel) (by decide +kernel))
theorem so_m11 : so_pr so_mi so_Ts so_Bs so_rows so_strs (some so_i11) (some so_c11) [] := so_pr_I rfl (by decide +kernel) rfl so_s11_0
/-- SequentMill.constant(II)I -/
def so_T12_0 : List Cond := so_pick (k2_sels lw_privs) [7] ++ so_pick tables_1 [620, 1, 622]
theorem so_s12_0 : so_al so_mi so_Ts so_Bs so_rows so_strs so_i12 so_c12 0 3 := so_bS (T1 := so_T12_0) (B1 := so_B1) 0 3 so_hW (so_tin _ _ (by decide +kernel)) so_B1_in (so_bZ 0 3 [42, 28, 182, 0, 107, 62] (by decide +kernel) (by decide +kernel) (by decide +kernel))
theorem so_m12 : so_pr so_mi so_Ts so_Bs so_rows so_strs (some so_i12) (some so_c12) [] := so_pr_I rfl (by decide +kernel) rfl so_s12_0
/-- SequentMill.apply(II)I -/
def so_T13_0 : List Cond := so_pick (k2_sels lw_privs) [10] ++ so_pick tables_1 [725, 1, 727]
theorem so_s13_0 : so_al so_mi so_Ts so_Bs so_rows so_strs so_i13 so_c13 0 3 := so_bS (T1 := so_T13_0) (B1 := so_B1) 0 3 so_hW (so_tin _ _ (by decide +kernel)) so_B1_in (so_bZ 0 3 [42, 27, 182, 0, 134, 62] (by decide +kernel) (by decide +kernel) (by decide +kernel))
theorem so_m13 : so_pr so_mi so_Ts so_Bs so_rows so_strs (some so_i13) (some so_c13) [] := so_pr_I rfl (by decide +kernel) rfl so_s13_0
/-- SequentMill.abstraction(II)I -/
def so_T14_0 : List Cond := so_pick (k2_sels lw_privs) [10] ++ so_pick tables_1 [725, 1, 727]
theorem so_s14_0 : so_al so_mi so_Ts so_Bs so_rows so_strs so_i14 so_c14 0 3 := so_bS (T1 := so_T14_0) (B1 := so_B1) 0 3 so_hW (so_tin _ _ (by decide +kernel)) so_B1_in (so_bZ 0 3 [42, 27, 182, 0, 134, 62] (by decide +kernel) (by decide +kernel) (by decide +kernel))
theorem so_m14 : so_pr so_mi so_Ts so_Bs so_rows so_strs (some so_i14) (some so_c14) [] := so_pr_I rfl (by decide +kernel) rfl so_s14_0
/-- SequentMill.typeOf(I)I -/
def so_T15_0 : List Cond := so_pick (k2_sels lw_privs) [10] ++ so_pick tables_1 [417, 725, 1, 727]
theorem so_s15_0 : so_al so_mi so_Ts so_Bs so_rows so_strs so_i15 so_c15 0 8 := so_bS (T1 := so_T15_0) (B1 := so_B1) 0 8 so_hW (so_tin _ _ (by decide +kernel)) so_B1_in (so_bZ 0 8 [42, 42, 180, 0, 21, 42, 27, 182, 0, 134, 182] (by decide +kernel) (by decide +kernel) (by decide +kernel))
theorem so_m15 : so_pr so_mi so_Ts so_Bs so_rows so_strs (some so_i15) (some so_c15) [] := so_pr_I rfl (by decide +kernel) rfl so_s15_0
/-- SequentMill.symbol(II)I -/
def so_T16_0 : List Cond := so_pick (k2_sels lw_privs) [10] ++ so_pick tables_1 [725, 1, 727]
theorem so_s16_0 : so_al so_mi so_Ts so_Bs so_rows so_strs so_i16 so_c16 0 3 := so_bS (T1 := so_T16_0) (B1 := so_B1) 0 3 so_hW (so_tin _ _ (by decide +kernel)) so_B1_in (so_bZ 0 3 [42, 27, 182, 0, 134, 62] (by decide +kernel) (by decide +kernel) (by decide +kernel))
theorem so_m16 : so_pr so_mi so_Ts so_Bs so_rows so_strs (some so_i16) (some so_c16) [] := so_pr_I rfl (by decide +kernel) rfl so_s16_0
/-- SequentMill.same(II)Z -/
def so_T17_0 : List Cond := so_pick (k2_sels lw_privs) [10] ++ so_pick tables_1 [725, 1, 727]
theorem so_s17_0 : so_al so_mi so_Ts so_Bs so_rows so_strs so_i17 so_c17 0 3 := so_bS (T1 := so_T17_0) (B1 := so_B1) 0 3 so_hW (so_tin _ _ (by decide +kernel)) so_B1_in (so_bZ 0 3 [42, 27, 182, 0, 134, 42] (by decide +kernel) (by decide +kernel) (by decide +kernel))
theorem so_m17 : so_pr so_mi so_Ts so_Bs so_rows so_strs (some so_i17) (some so_c17) [] := so_pr_I rfl (by decide +kernel) rfl so_s17_0
/-- SequentMill.refl(I)I -/
def so_T18_0 : List Cond := so_pick (k2_sels lw_privs) [10] ++ so_pick tables_1 [725, 1, 727]
theorem so_s18_0 : so_al so_mi so_Ts so_Bs so_rows so_strs so_i18 so_c18 0 3 := so_bS (T1 := so_T18_0) (B1 := so_B1) 0 3 so_hW (so_tin _ _ (by decide +kernel)) so_B1_in (so_bZ 0 3 [42, 27, 182, 0, 134, 61] (by decide +kernel) (by decide +kernel) (by decide +kernel))
theorem so_m18 : so_pr so_mi so_Ts so_Bs so_rows so_strs (some so_i18) (some so_c18) [] := so_pr_I rfl (by decide +kernel) rfl so_s18_0
/-- SequentMill.trans(II)I -/
def so_T19_0 : List Cond := so_pick (k2_sels lw_privs) [24] ++ so_pick tables_1 [967, 1, 969]
theorem so_s19_0 : so_al so_mi so_Ts so_Bs so_rows so_strs so_i19 so_c19 0 3 := so_bS (T1 := so_T19_0) (B1 := so_B1) 0 3 so_hW (so_tin _ _ (by decide +kernel)) so_B1_in (so_bZ 0 3 [42, 27, 182, 0, 190, 62] (by decide +kernel) (by decide +kernel) (by decide +kernel))
theorem so_m19 : so_pr so_mi so_Ts so_Bs so_rows so_strs (some so_i19) (some so_c19) [] := so_pr_I rfl (by decide +kernel) rfl so_s19_0
/-- SequentMill.applied(II)I -/
def so_T20_0 : List Cond := so_pick (k2_sels lw_privs) [24] ++ so_pick tables_1 [967, 1, 969]
theorem so_s20_0 : so_al so_mi so_Ts so_Bs so_rows so_strs so_i20 so_c20 0 3 := so_bS (T1 := so_T20_0) (B1 := so_B1) 0 3 so_hW (so_tin _ _ (by decide +kernel)) so_B1_in (so_bZ 0 3 [42, 27, 182, 0, 190, 62] (by decide +kernel) (by decide +kernel) (by decide +kernel))
theorem so_m20 : so_pr so_mi so_Ts so_Bs so_rows so_strs (some so_i20) (some so_c20) [] := so_pr_I rfl (by decide +kernel) rfl so_s20_0
/-- SequentMill.abstracted(II)I -/
def so_T21_0 : List Cond := so_pick (k2_sels lw_privs) [10] ++ so_pick tables_1 [725, 1, 727]
theorem so_s21_0 : so_al so_mi so_Ts so_Bs so_rows so_strs so_i21 so_c21 0 3 := so_bS (T1 := so_T21_0) (B1 := so_B1) 0 3 so_hW (so_tin _ _ (by decide +kernel)) so_B1_in (so_bZ 0 3 [42, 27, 182, 0, 134, 62] (by decide +kernel) (by decide +kernel) (by decide +kernel))
theorem so_m21 : so_pr so_mi so_Ts so_Bs so_rows so_strs (some so_i21) (some so_c21) [] := so_pr_I rfl (by decide +kernel) rfl so_s21_0
/-- SequentMill.beta(I)I -/
def so_T22_0 : List Cond := so_pick (k2_sels lw_privs) [10] ++ so_pick tables_1 [725, 1, 727]
theorem so_s22_0 : so_al so_mi so_Ts so_Bs so_rows so_strs so_i22 so_c22 0 3 := so_bS (T1 := so_T22_0) (B1 := so_B1) 0 3 so_hW (so_tin _ _ (by decide +kernel)) so_B1_in (so_bZ 0 3 [42, 27, 182, 0, 134, 61] (by decide +kernel) (by decide +kernel) (by decide +kernel))
theorem so_m22 : so_pr so_mi so_Ts so_Bs so_rows so_strs (some so_i22) (some so_c22) [] := so_pr_I rfl (by decide +kernel) rfl so_s22_0
/-- SequentMill.assume(I)I -/
def so_T23_0 : List Cond := so_pick (k2_sels lw_privs) [10] ++ so_pick tables_1 [725, 1, 727]
theorem so_s23_0 : so_al so_mi so_Ts so_Bs so_rows so_strs so_i23 so_c23 0 3 := so_bS (T1 := so_T23_0) (B1 := so_B1) 0 3 so_hW (so_tin _ _ (by decide +kernel)) so_B1_in (so_bZ 0 3 [42, 27, 182, 0, 134, 61] (by decide +kernel) (by decide +kernel) (by decide +kernel))
theorem so_m23 : so_pr so_mi so_Ts so_Bs so_rows so_strs (some so_i23) (some so_c23) [] := so_pr_I rfl (by decide +kernel) rfl so_s23_0
/-- SequentMill.equal(II)I -/
def so_T24_0 : List Cond := so_pick (k2_sels lw_privs) [24] ++ so_pick tables_1 [967, 1, 969]
theorem so_s24_0 : so_al so_mi so_Ts so_Bs so_rows so_strs so_i24 so_c24 0 3 := so_bS (T1 := so_T24_0) (B1 := so_B1) 0 3 so_hW (so_tin _ _ (by decide +kernel)) so_B1_in (so_bZ 0 3 [42, 27, 182, 0, 190, 62] (by decide +kernel) (by decide +kernel) (by decide +kernel))
theorem so_m24 : so_pr so_mi so_Ts so_Bs so_rows so_strs (some so_i24) (some so_c24) [] := so_pr_I rfl (by decide +kernel) rfl so_s24_0
/-- SequentMill.antisym(II)I -/
def so_T25_0 : List Cond := so_pick (k2_sels lw_privs) [24] ++ so_pick tables_1 [967, 1, 969]
theorem so_s25_0 : so_al so_mi so_Ts so_Bs so_rows so_strs so_i25 so_c25 0 3 := so_bS (T1 := so_T25_0) (B1 := so_B1) 0 3 so_hW (so_tin _ _ (by decide +kernel)) so_B1_in (so_bZ 0 3 [42, 27, 182, 0, 190, 62] (by decide +kernel) (by decide +kernel) (by decide +kernel))
theorem so_m25 : so_pr so_mi so_Ts so_Bs so_rows so_strs (some so_i25) (some so_c25) [] := so_pr_I rfl (by decide +kernel) rfl so_s25_0
/-- SequentMill.put(III)I -/
def so_T26_0 : List Cond := so_pick (k2_sels lw_privs) [25] ++ so_pick tables_1 [971, 1, 973]
theorem so_s26_0 : so_al so_mi so_Ts so_Bs so_rows so_strs so_i26 so_c26 0 3 := so_bS (T1 := so_T26_0) (B1 := so_B1) 0 3 so_hW (so_tin _ _ (by decide +kernel)) so_B1_in (so_bZ 0 3 [42, 27, 182, 0, 242, 42] (by decide +kernel) (by decide +kernel) (by decide +kernel))
theorem so_m26 : so_pr so_mi so_Ts so_Bs so_rows so_strs (some so_i26) (some so_c26) [] := so_pr_I rfl (by decide +kernel) rfl so_s26_0
/-- SequentMill.retype(IIIII)I -/
def so_T27_0 : List Cond := so_pick (k2_sels lw_privs) [25] ++ so_pick tables_1 [971, 1, 973]
theorem so_s27_0 : so_al so_mi so_Ts so_Bs so_rows so_strs so_i27 so_c27 0 3 := so_bS (T1 := so_T27_0) (B1 := so_B1) 0 3 so_hW (so_tin _ _ (by decide +kernel)) so_B1_in (so_bZ 0 3 [42, 27, 182, 0, 242, 42] (by decide +kernel) (by decide +kernel) (by decide +kernel))
theorem so_m27 : so_pr so_mi so_Ts so_Bs so_rows so_strs (some so_i27) (some so_c27) [] := so_pr_I rfl (by decide +kernel) rfl so_s27_0
/-- SequentMill.define(I)I -/
def so_T28_0 : List Cond := so_pick (k2_sels lw_privs) [10] ++ so_pick tables_1 [725, 1, 727]
theorem so_s28_0 : so_al so_mi so_Ts so_Bs so_rows so_strs so_i28 so_c28 0 3 := so_bS (T1 := so_T28_0) (B1 := so_B1) 0 3 so_hW (so_tin _ _ (by decide +kernel)) so_B1_in (so_bZ 0 3 [42, 27, 182, 0, 134, 61] (by decide +kernel) (by decide +kernel) (by decide +kernel))
theorem so_m28 : so_pr so_mi so_Ts so_Bs so_rows so_strs (some so_i28) (some so_c28) [] := so_pr_I rfl (by decide +kernel) rfl so_s28_0
/-- SequentMill.defineType(I)I -/
def so_T29_0 : List Cond := so_pick (k2_sels lw_privs) [24] ++ so_pick tables_1 [967, 1, 969]
theorem so_s29_0 : so_al so_mi so_Ts so_Bs so_rows so_strs so_i29 so_c29 0 3 := so_bS (T1 := so_T29_0) (B1 := so_B1) 0 3 so_hW (so_tin _ _ (by decide +kernel)) so_B1_in (so_bZ 0 3 [42, 27, 182, 0, 190, 61] (by decide +kernel) (by decide +kernel) (by decide +kernel))
theorem so_m29 : so_pr so_mi so_Ts so_Bs so_rows so_strs (some so_i29) (some so_c29) [] := so_pr_I rfl (by decide +kernel) rfl so_s29_0
/-- SequentMill.axiom(I)I -/
def so_T30_0 : List Cond := so_pick (k2_sels lw_privs) [4, 22] ++ so_pick tables_1 [470, 18, 512, 15, 492, 501, 505, 508, 510, 493, 494, 27, 28, 495, 500, 506, 526, 482, 527, 484, 528, 486, 496, 498, 488, 522, 523, 525, 513, 514, 515, 516, 517, 518, 519, 520, 521, 471, 479, 480, 481, 483, 485, 487, 491, 490, 489, 420, 894, 11, 895, 896, 421, 898, 12, 899, 900, 419, 1238, 10, 1239, 1240, 1244, 1245, 1246, 1265, 1266, 1267, 916, 917, 918, 925, 1, 927]
theorem so_s30_0 : so_al so_mi so_Ts so_Bs so_rows so_strs so_i30 so_c30 0 86 := so_bS (T1 := so_T30_0) (B1 := so_B1) 0 86 so_hW (so_tin _ _ (by decide +kernel)) so_B1_in (so_bZ 0 86 [27, 155, 0, 8, 27, 5, 164, 0, 14, 187, 0, 85, 89, 19, 1, 55, 183, 0, 89, 191, 42, 180, 0, 53, 16, 12, 27, 182, 0, 173, 42, 180, 0, 62, 182, 0, 177, 42, 180, 0, 62, 27, 154, 0, 13, 42, 180, 0, 39, 182, 1, 57, 167, 0, 25, 27, 4, 160, 0, 13, 42, 180, 0, 39, 182, 1, 60, 167, 0, 10, 42, 180, 0, 39, 182, 1, 63, 182, 0, 183, 42, 3, 182, 0, 186, 172] (by decide +kernel) (by decide +kernel) (by decide +kernel))
theorem so_m30 : so_pr so_mi so_Ts so_Bs so_rows so_strs (some so_i30) (some so_c30) [] := so_pr_I rfl (by decide +kernel) rfl so_s30_0
/-- SequentMill.conclusion(I)I -/
def so_T31_0 : List Cond := so_pick (k2_sels lw_privs) [24] ++ so_pick tables_1 [967, 1, 969]
theorem so_s31_0 : so_al so_mi so_Ts so_Bs so_rows so_strs so_i31 so_c31 0 4 := so_bS (T1 := so_T31_0) (B1 := so_B1) 0 4 so_hW (so_tin _ _ (by decide +kernel)) so_B1_in (so_bZ 0 4 [42, 42, 27, 182, 0, 190, 182] (by decide +kernel) (by decide +kernel) (by decide +kernel))
theorem so_m31 : so_pr so_mi so_Ts so_Bs so_rows so_strs (some so_i31) (some so_c31) [] := so_pr_I rfl (by decide +kernel) rfl so_s31_0
/-- SequentMill.hypotheses(I)I -/
def so_T32_0 : List Cond := so_pick (k2_sels lw_privs) [25] ++ so_pick tables_1 [971, 1, 973]
theorem so_s32_0 : so_al so_mi so_Ts so_Bs so_rows so_strs so_i32 so_c32 0 3 := so_bS (T1 := so_T32_0) (B1 := so_B1) 0 3 so_hW (so_tin _ _ (by decide +kernel)) so_B1_in (so_bZ 0 3 [42, 27, 182, 0, 242, 42] (by decide +kernel) (by decide +kernel) (by decide +kernel))
theorem so_m32 : so_pr so_mi so_Ts so_Bs so_rows so_strs (some so_i32) (some so_c32) [] := so_pr_I rfl (by decide +kernel) rfl so_s32_0
/-- SequentMill.hypothesis(II)I -/
def so_T33_0 : List Cond := so_pick (k2_sels lw_privs) [25] ++ so_pick tables_1 [971, 1, 973]
theorem so_s33_0 : so_al so_mi so_Ts so_Bs so_rows so_strs so_i33 so_c33 0 3 := so_bS (T1 := so_T33_0) (B1 := so_B1) 0 3 so_hW (so_tin _ _ (by decide +kernel)) so_B1_in (so_bZ 0 3 [42, 27, 182, 0, 242, 28] (by decide +kernel) (by decide +kernel) (by decide +kernel))
theorem so_m33 : so_pr so_mi so_Ts so_Bs so_rows so_strs (some so_i33) (some so_c33) [] := so_pr_I rfl (by decide +kernel) rfl so_s33_0
/-- SequentMill.size()I -/
def so_T34_0 : List Cond := so_pick (k2_sels lw_privs) [] ++ so_pick tables_1 [421, 445, 12, 446, 447]
theorem so_s34_0 : so_al so_mi so_Ts so_Bs so_rows so_strs so_i34 so_c34 0 8 := so_bS (T1 := so_T34_0) (B1 := so_B1) 0 8 so_hW (so_tin _ _ (by decide +kernel)) so_B1_in (so_bZ 0 8 [42, 180, 0, 62, 182, 1, 71, 172] (by decide +kernel) (by decide +kernel) (by decide +kernel))
theorem so_m34 : so_pr so_mi so_Ts so_Bs so_rows so_strs (some so_i34) (some so_c34) [] := so_pr_I rfl (by decide +kernel) rfl so_s34_0
/-- SequentMill.cut(I)V -/
def so_T35_0 : List Cond := so_pick (k2_sels lw_privs) [4] ++ so_pick tables_1 [421, 1308, 12, 1309, 1310, 445, 446, 447, 470, 18, 512, 15, 492, 501, 505, 508, 510, 493, 494, 27, 28, 495, 500, 506, 526, 482, 527, 484, 528, 486, 496, 498, 488, 522, 523, 525, 513, 514, 515, 516, 517, 518, 519, 520, 521, 471, 479, 480, 481, 483, 485, 487, 491, 490, 489]
theorem so_s35_0 : so_al so_mi so_Ts so_Bs so_rows so_strs so_i35 so_c35 0 88 := so_bS (T1 := so_T35_0) (B1 := so_B1) 0 88 so_hW (so_tin _ _ (by decide +kernel)) so_B1_in (so_bZ 0 88 [27, 42, 180, 0, 62, 182, 1, 74, 161, 0, 14, 27, 42, 180, 0, 62, 182, 1, 71, 164, 0, 14, 187, 0, 85, 89, 19, 1, 77, 183, 0, 89, 191, 27, 42, 180, 0, 62, 182, 1, 71, 162, 0, 46, 42, 180, 0, 53, 42, 180, 0, 62, 27, 182, 1, 79, 42, 180, 0, 62, 27, 182, 1, 82, 42, 180, 0, 62, 27, 182, 1, 85, 182, 1, 88, 42, 180, 0, 62, 27, 182, 1, 91, 42, 182, 0, 78, 177] (by decide +kernel) (by decide +kernel) (by decide +kernel))
theorem so_m35 : so_pr so_mi so_Ts so_Bs so_rows so_strs (some so_i35) (some so_c35) [] := so_pr_I rfl (by decide +kernel) rfl so_s35_0
/-- SequentMill.traced()I -/
def so_T36_0 : List Cond := so_pick (k2_sels lw_privs) [] ++ so_pick tables_1 [420, 454, 11, 455, 456]
theorem so_s36_0 : so_al so_mi so_Ts so_Bs so_rows so_strs so_i36 so_c36 0 8 := so_bS (T1 := so_T36_0) (B1 := so_B1) 0 8 so_hW (so_tin _ _ (by decide +kernel)) so_B1_in (so_bZ 0 8 [42, 180, 0, 53, 182, 1, 93, 172] (by decide +kernel) (by decide +kernel) (by decide +kernel))
theorem so_m36 : so_pr so_mi so_Ts so_Bs so_rows so_strs (some so_i36) (some so_c36) [] := so_pr_I rfl (by decide +kernel) rfl so_s36_0
/-- SequentMill.trace(I)I -/
def so_T37_0 : List Cond := so_pick (k2_sels lw_privs) [4] ++ so_pick tables_1 [420, 454, 11, 455, 456, 628, 20, 638, 15, 492, 501, 505, 508, 510, 493, 494, 27, 28, 495, 500, 506, 526, 482, 527, 484, 528, 486, 496, 498, 488, 522, 523, 525, 639, 640, 641, 516, 517, 518, 519, 520, 521, 629, 631, 504, 632, 633, 634, 635, 491, 490, 636]
theorem so_s37_0 : so_al so_mi so_Ts so_Bs so_rows so_strs so_i37 so_c37 0 16 := so_bS (T1 := so_T37_0) (B1 := so_B1) 0 16 so_hW (so_tin _ _ (by decide +kernel)) so_B1_in (so_bZ 0 16 [27, 155, 0, 14, 27, 42, 180, 0, 53, 182, 1, 93, 161, 0, 14, 187, 0, 162, 89] (by decide +kernel) (by decide +kernel) (by decide +kernel))
theorem so_m37 : so_pr so_mi so_Ts so_Bs so_rows so_strs (some so_i37) (some so_c37) [] := so_pr_I rfl (by decide +kernel) rfl so_s37_0
/-- SequentMill.isNoName(I)Z -/
def so_T38_0 : List Cond := so_pick (k2_sels lw_privs) [] ++ so_pick tables_1 []
theorem so_s38_0 : so_al so_mi so_Ts so_Bs so_rows so_strs so_i38 so_c38 0 17 := so_bS (T1 := so_T38_0) (B1 := so_B1) 0 17 so_hW (so_tin _ _ (by decide +kernel)) so_B1_in (so_bZ 0 17 [26, 155, 0, 10, 26, 17, 3, 232, 161, 0, 7, 4, 167, 0, 4, 3, 172] (by decide +kernel) (by decide +kernel) (by decide +kernel))
theorem so_m38 : so_pr so_mi so_Ts so_Bs so_rows so_strs (some so_i38) (some so_c38) [] := so_pr_I rfl (by decide +kernel) rfl so_s38_0
/-- SequentMill.typeAt(I)I -/
def so_T39_0 : List Cond := so_pick (k2_sels lw_privs) [4] ++ so_pick tables_1 [422, 624, 13, 625, 626, 628, 20, 638, 15, 492, 501, 505, 508, 510, 493, 494, 27, 28, 495, 500, 506, 526, 482, 527, 484, 528, 486, 496, 498, 488, 522, 523, 525, 639, 640, 641, 516, 517, 518, 519, 520, 521, 629, 631, 504, 632, 633, 634, 635, 491, 490, 636]
theorem so_s39_0 : so_al so_mi so_Ts so_Bs so_rows so_strs so_i39 so_c39 0 12 := so_bS (T1 := so_T39_0) (B1 := so_B1) 0 12 so_hW (so_tin _ _ (by decide +kernel)) so_B1_in (so_bZ 0 12 [42, 180, 0, 71, 27, 182, 1, 101, 154, 0, 14, 187, 0, 162, 89] (by decide +kernel) (by decide +kernel) (by decide +kernel))
theorem so_m39 : so_pr so_mi so_Ts so_Bs so_rows so_strs (some so_i39) (some so_c39) [] := so_pr_I rfl (by decide +kernel) rfl so_s39_0
/-- SequentMill.termAt(I)I -/
def so_T40_0 : List Cond := so_pick (k2_sels lw_privs) [4] ++ so_pick tables_1 [423, 624, 13, 625, 626, 628, 20, 638, 15, 492, 501, 505, 508, 510, 493, 494, 27, 28, 495, 500, 506, 526, 482, 527, 484, 528, 486, 496, 498, 488, 522, 523, 525, 639, 640, 641, 516, 517, 518, 519, 520, 521, 629, 631, 504, 632, 633, 634, 635, 491, 490, 636]
theorem so_s40_0 : so_al so_mi so_Ts so_Bs so_rows so_strs so_i40 so_c40 0 12 := so_bS (T1 := so_T40_0) (B1 := so_B1) 0 12 so_hW (so_tin _ _ (by decide +kernel)) so_B1_in (so_bZ 0 12 [42, 180, 0, 75, 27, 182, 1, 101, 154, 0, 14, 187, 0, 162, 89] (by decide +kernel) (by decide +kernel) (by decide +kernel))
theorem so_m40 : so_pr so_mi so_Ts so_Bs so_rows so_strs (some so_i40) (some so_c40) [] := so_pr_I rfl (by decide +kernel) rfl so_s40_0
/-- SequentMill.requireSequent(I)V -/
def so_T41_0 : List Cond := so_pick (k2_sels lw_privs) [4] ++ so_pick tables_1 [421, 445, 12, 446, 447, 628, 20, 638, 15, 492, 501, 505, 508, 510, 493, 494, 27, 28, 495, 500, 506, 526, 482, 527, 484, 528, 486, 496, 498, 488, 522, 523, 525, 639, 640, 641, 516, 517, 518, 519, 520, 521, 629, 631, 504, 632, 633, 634, 635, 491, 490, 636]
theorem so_s41_0 : so_al so_mi so_Ts so_Bs so_rows so_strs so_i41 so_c41 0 16 := so_bS (T1 := so_T41_0) (B1 := so_B1) 0 16 so_hW (so_tin _ _ (by decide +kernel)) so_B1_in (so_bZ 0 16 [27, 155, 0, 14, 27, 42, 180, 0, 62, 182, 1, 71, 161, 0, 14, 187, 0, 162, 89] (by decide +kernel) (by decide +kernel) (by decide +kernel))
theorem so_m41 : so_pr so_mi so_Ts so_Bs so_rows so_strs (some so_i41) (some so_c41) [] := so_pr_I rfl (by decide +kernel) rfl so_s41_0
/-- SequentMill.conclusionAt(I)I -/
def so_T42_0 : List Cond := so_pick (k2_sels lw_privs) [25] ++ so_pick tables_1 [971, 1, 973]
theorem so_s42_0 : so_al so_mi so_Ts so_Bs so_rows so_strs so_i42 so_c42 0 3 := so_bS (T1 := so_T42_0) (B1 := so_B1) 0 3 so_hW (so_tin _ _ (by decide +kernel)) so_B1_in (so_bZ 0 3 [42, 27, 182, 0, 242, 42] (by decide +kernel) (by decide +kernel) (by decide +kernel))
theorem so_m42 : so_pr so_mi so_Ts so_Bs so_rows so_strs (some so_i42) (some so_c42) [] := so_pr_I rfl (by decide +kernel) rfl so_s42_0
/-- SequentMill.answerType(I)I -/
def so_T47_0 : List Cond := so_pick (k2_sels lw_privs) [3] ++ so_pick tables_1 [422, 416, 177, 543, 3, 161, 162, 544, 13, 545, 546, 389, 1, 391, 600, 601, 602]
theorem so_s47_0 : so_al so_mi so_Ts so_Bs so_rows so_strs so_i47 so_c47 0 64 := so_bS (T1 := so_T47_0) (B1 := so_B1) 0 64 so_hW (so_tin _ _ (by decide +kernel)) so_B1_in (so_bZ 0 64 [27, 155, 0, 24, 42, 180, 0, 71, 42, 180, 0, 12, 180, 0, 45, 27, 182, 0, 157, 182, 1, 129, 154, 0, 18, 42, 182, 1, 132, 187, 1, 135, 89, 19, 1, 137, 183, 1, 139, 191, 42, 182, 0, 78, 42, 180, 0, 71, 27, 42, 180, 0, 12, 180, 0, 45, 27, 182, 0, 157, 182, 1, 140, 172] (by decide +kernel) (by decide +kernel) (by decide +kernel))
theorem so_m47 : so_pr so_mi so_Ts so_Bs so_rows so_strs (some so_i47) (some so_c47) [] := so_pr_I rfl (by decide +kernel) rfl so_s47_0
/-- SequentMill.finish(Z)I -/
def so_T49_0 : List Cond := so_pick (k2_sels lw_privs) [3] ++ so_pick tables_1 [421, 929, 12, 930, 931, 420, 933, 11, 934, 935, 938, 939, 940, 389, 1, 391]
theorem so_s49_0 : so_al so_mi so_Ts so_Bs so_rows so_strs so_i49 so_c49 0 54 := so_bS (T1 := so_T49_0) (B1 := so_B1) 0 54 so_hW (so_tin _ _ (by decide +kernel)) so_B1_in (so_bZ 0 54 [42, 180, 0, 62, 182, 1, 119, 154, 0, 13, 42, 180, 0, 53, 182, 1, 145, 153, 0, 18, 42, 182, 1, 132, 187, 1, 135, 89, 19, 1, 148, 183, 1, 139, 191, 42, 180, 0, 62, 27, 42, 180, 0, 53, 182, 1, 150, 61, 42, 182, 0, 78, 28, 172] (by decide +kernel) (by decide +kernel) (by decide +kernel))
theorem so_m49 : so_pr so_mi so_Ts so_Bs so_rows so_strs (some so_i49) (some so_c49) [] := so_pr_I rfl (by decide +kernel) rfl so_s49_0
/-- SequentMill.settle()V -/
def so_T50_0 : List Cond := so_pick (k2_sels lw_privs) [] ++ so_pick tables_1 [416, 393, 2, 394, 395, 417, 405, 8, 406, 407, 420, 411, 11, 412, 413]
theorem so_s50_0 : so_al so_mi so_Ts so_Bs so_rows so_strs so_i50 so_c50 0 22 := so_bS (T1 := so_T50_0) (B1 := so_B1) 0 22 so_hW (so_tin _ _ (by decide +kernel)) so_B1_in (so_bZ 0 22 [42, 180, 0, 12, 182, 1, 154, 42, 180, 0, 21, 182, 1, 155, 42, 180, 0, 53, 182, 1, 156, 177] (by decide +kernel) (by decide +kernel) (by decide +kernel))
theorem so_m50 : so_pr so_mi so_Ts so_Bs so_rows so_strs (some so_i50) (some so_c50) [] := so_pr_I rfl (by decide +kernel) rfl so_s50_0
/-- SequentMillModel.<init>()V -/
def so_T52_0 : List Cond := so_pick (k2_sels lw_privs) [] ++ so_pick tables_1 [1347, 27, 28, 1359, 54, 1360, 1362, 1363, 1364, 1365, 1366, 1367, 1370]
theorem so_s52_0 : so_al so_mi so_Ts so_Bs so_rows so_strs so_i52 so_c52 0 86 := so_bS (T1 := so_T52_0) (B1 := so_B1) 0 86 so_hW (so_tin _ _ (by decide +kernel)) so_B1_in (so_bZ 0 86 [42, 183, 0, 1, 42, 6, 181, 0, 7, 42, 16, 40, 188, 10, 181, 0, 13, 42, 17, 46, 224, 188, 10, 181, 0, 17, 42, 17, 46, 224, 188, 10, 181, 0, 20, 42, 17, 46, 224, 188, 10, 181, 0, 23, 42, 17, 46, 224, 188, 10, 181, 0, 26, 42, 17, 46, 224, 188, 10, 181, 0, 29, 42, 17, 46, 224, 188, 10, 181, 0, 32, 42, 17, 23, 112, 188, 10, 181, 0, 35, 42, 17, 0, 200, 188, 10, 181, 0, 38] (by decide +kernel) (by decide +kernel) (by decide +kernel))
def so_T52_1 : List Cond := so_pick (k2_sels lw_privs) [] ++ so_pick tables_1 [1372, 1348, 54, 1373, 1374, 1377, 1381, 1382, 1383, 1384, 1385, 1386]
theorem so_s52_1 : so_al so_mi so_Ts so_Bs so_rows so_strs so_i52 so_c52 86 174 := so_bS (T1 := so_T52_1) (B1 := so_B1) 86 88 so_hW (so_tin _ _ (by decide +kernel)) so_B1_in (so_bZ 86 88 [181, 0, 38, 42, 18, 41, 188, 10, 181, 0, 42, 42, 18, 41, 188, 10, 181, 0, 45, 42, 17, 78, 33, 188, 10, 181, 0, 48, 42, 17, 3, 234, 188, 10, 181, 0, 51, 42, 17, 3, 234, 188, 10, 181, 0, 54, 42, 17, 3, 234, 188, 10, 181, 0, 57, 42, 17, 3, 234, 188, 10, 181, 0, 60, 42, 17, 3, 234, 188, 10, 181, 0, 63, 42, 17, 3, 234, 188, 10, 181, 0, 66, 42, 17, 0, 130, 188, 10, 181, 0, 69] (by decide +kernel) (by decide +kernel) (by decide +kernel))
def so_T52_2 : List Cond := so_pick (k2_sels lw_privs) [] ++ so_pick tables_1 [1390, 1349, 54, 1392, 1395, 1396, 1397, 1398, 1399, 1512, 1400, 1401, 1402]
theorem so_s52_2 : so_al so_mi so_Ts so_Bs so_rows so_strs so_i52 so_c52 174 259 := so_bS (T1 := so_T52_2) (B1 := so_B1) 174 85 so_hW (so_tin _ _ (by decide +kernel)) so_B1_in (so_bZ 174 85 [181, 0, 69, 42, 18, 72, 188, 10, 181, 0, 73, 42, 17, 46, 224, 188, 10, 181, 0, 76, 42, 17, 31, 164, 188, 10, 181, 0, 79, 42, 17, 78, 132, 188, 10, 181, 0, 82, 42, 17, 16, 4, 188, 10, 181, 0, 85, 42, 16, 64, 188, 10, 181, 0, 88, 42, 16, 64, 188, 4, 181, 0, 91, 42, 17, 3, 232, 188, 10, 181, 0, 95, 42, 16, 64, 188, 10, 181, 0, 98, 42, 16, 64, 188, 10, 181, 0, 101] (by decide +kernel) (by decide +kernel) (by decide +kernel))
def so_T52_3 : List Cond := so_pick (k2_sels lw_privs) [39, 40] ++ so_pick tables_1 [1403, 54, 1408, 1360, 1380, 1350, 14, 1352, 1372, 1354, 1356, 1371]
theorem so_s52_3 : so_al so_mi so_Ts so_Bs so_rows so_strs so_i52 so_c52 259 339 := so_bS (T1 := so_T52_3) (B1 := so_B1) 259 80 so_hW (so_tin _ _ (by decide +kernel)) so_B1_in (so_bZ 259 80 [181, 0, 101, 42, 7, 188, 10, 181, 0, 104, 42, 180, 0, 13, 5, 5, 79, 42, 17, 94, 136, 181, 0, 107, 42, 2, 2, 2, 182, 0, 110, 60, 42, 3, 2, 2, 182, 0, 110, 61, 42, 180, 0, 38, 3, 42, 27, 42, 27, 28, 182, 0, 114, 182, 0, 114, 79, 42, 180, 0, 38, 4, 42, 42, 27, 28, 182, 0, 114, 27, 182, 0, 114, 79, 42, 5, 181, 0, 118, 177] (by decide +kernel) (by decide +kernel) (by decide +kernel))
theorem so_m52 : so_pr so_mi so_Ts so_Bs so_rows so_strs (some so_i52) (some so_c52) [] := so_pr_I rfl (by decide +kernel) rfl (so_al_app (so_al_app (so_al_app so_s52_0 so_s52_1) so_s52_2) so_s52_3)

/-! ===== the methods, 9 ===== -/
/-- SequentMill$Terms.ownType(II)I -/
def so_T223_0 : List Cond := so_pick (k2_sels lw_privs) [] ++ so_pick tables_1 [215, 742, 3, 706, 707, 738, 739, 740, 747, 710, 711, 758, 8, 759, 760, 219, 179, 662, 148, 149]
theorem so_s223_0 : so_al so_mi so_Ts so_Bs so_rows so_strs so_i223 so_c223 0 76 := so_bS (T1 := so_T223_0) (B1 := so_B1) 0 76 so_hW (so_tin _ _ (by decide +kernel)) so_B1_in (so_bZ 0 76 [42, 180, 0, 15, 27, 182, 0, 68, 16, 254, 159, 0, 12, 42, 180, 0, 15, 27, 182, 0, 77, 172, 28, 16, 24, 161, 0, 5, 2, 172, 42, 42, 180, 0, 15, 27, 182, 0, 71, 28, 4, 96, 182, 0, 74, 62, 29, 156, 0, 7, 2, 167, 0, 24, 42, 180, 0, 32, 180, 0, 84, 5, 42, 180, 0, 15, 27, 182, 0, 77, 29, 3, 182, 0, 64, 172] (by decide +kernel) (by decide +kernel) (by decide +kernel))
theorem so_m223 : so_pr so_mi so_Ts so_Bs so_rows so_strs (some so_i223) (some so_c223) [] := so_pr_I rfl (by decide +kernel) rfl so_s223_0
/-- SequentMill$Terms.settle()V -/
def so_T239_0 : List Cond := so_pick (k2_sels lw_privs) [] ++ so_pick tables_1 [215, 409, 3, 398, 399, 220, 410, 4, 402, 403, 221]
theorem so_s239_0 : so_al so_mi so_Ts so_Bs so_rows so_strs so_i239 so_c239 0 19 := so_bS (T1 := so_T239_0) (B1 := so_B1) 0 19 so_hW (so_tin _ _ (by decide +kernel)) so_B1_in (so_bZ 0 19 [42, 180, 0, 15, 182, 0, 142, 42, 42, 180, 0, 24, 182, 0, 53, 181, 0, 28, 177] (by decide +kernel) (by decide +kernel) (by decide +kernel))
theorem so_m239 : so_pr so_mi so_Ts so_Bs so_rows so_strs (some so_i239) (some so_c239) [] := so_pr_I rfl (by decide +kernel) rfl so_s239_0
/-- SequentMill$Trace.<init>(LSequentMill$Store;LSequentMill$Store;)V -/
def so_T241_0 : List Cond := so_pick (k2_sels lw_privs) [] ++ so_pick tables_1 [286, 27, 28, 287, 42, 4, 44, 291, 292, 293, 294, 295, 296, 297, 289, 290]
theorem so_s241_0 : so_al so_mi so_Ts so_Bs so_rows so_strs so_i241 so_c241 0 68 := so_bS (T1 := so_T241_0) (B1 := so_B1) 0 68 so_hW (so_tin _ _ (by decide +kernel)) so_B1_in (so_bZ 0 68 [42, 183, 0, 3, 42, 187, 0, 9, 89, 183, 0, 11, 181, 0, 12, 42, 187, 0, 9, 89, 183, 0, 11, 181, 0, 18, 42, 187, 0, 9, 89, 183, 0, 11, 181, 0, 21, 42, 3, 181, 0, 24, 42, 3, 181, 0, 28, 42, 3, 181, 0, 31, 42, 3, 181, 0, 34, 42, 43, 181, 0, 38, 42, 44, 181, 0, 42, 177] (by decide +kernel) (by decide +kernel) (by decide +kernel))
theorem so_m241 : so_pr so_mi so_Ts so_Bs so_rows so_strs (some so_i241) (some so_c241) [] := so_pr_I rfl (by decide +kernel) rfl so_s241_0
/-- SequentMill$Trace.length()I -/
def so_T242_0 : List Cond := so_pick (k2_sels lw_privs) [] ++ so_pick tables_1 [291, 415, 4, 402, 403]
theorem so_s242_0 : so_al so_mi so_Ts so_Bs so_rows so_strs so_i242 so_c242 0 8 := so_bS (T1 := so_T242_0) (B1 := so_B1) 0 8 so_hW (so_tin _ _ (by decide +kernel)) so_B1_in (so_bZ 0 8 [42, 180, 0, 12, 182, 0, 45, 172] (by decide +kernel) (by decide +kernel) (by decide +kernel))
theorem so_m242 : so_pr so_mi so_Ts so_Bs so_rows so_strs (some so_i242) (some so_c242) [] := so_pr_I rfl (by decide +kernel) rfl so_s242_0
/-- SequentMill$Trace.isFull()Z -/
def so_T244_0 : List Cond := so_pick (k2_sels lw_privs) [] ++ so_pick tables_1 [297]
theorem so_s244_0 : so_al so_mi so_Ts so_Bs so_rows so_strs so_i244 so_c244 0 5 := so_bS (T1 := so_T244_0) (B1 := so_B1) 0 5 so_hW (so_tin _ _ (by decide +kernel)) so_B1_in (so_bZ 0 5 [42, 180, 0, 34, 172] (by decide +kernel) (by decide +kernel) (by decide +kernel))
theorem so_m244 : so_pr so_mi so_Ts so_Bs so_rows so_strs (some so_i244) (some so_c244) [] := so_pr_I rfl (by decide +kernel) rfl so_s244_0
/-- SequentMill$Trace.write(I)V -/
def so_T245_0 : List Cond := so_pick (k2_sels lw_privs) [] ++ so_pick tables_1 [291, 415, 4, 402, 403, 869, 870, 116, 117]
theorem so_s245_0 : so_al so_mi so_Ts so_Bs so_rows so_strs so_i245 so_c245 0 29 := so_bS (T1 := so_T245_0) (B1 := so_B1) 0 29 so_hW (so_tin _ _ (by decide +kernel)) so_B1_in (so_bZ 0 29 [42, 180, 0, 12, 182, 0, 45, 18, 53, 161, 0, 11, 42, 4, 181, 0, 34, 167, 0, 11, 42, 180, 0, 12, 27, 182, 0, 54, 177] (by decide +kernel) (by decide +kernel) (by decide +kernel))
theorem so_m245 : so_pr so_mi so_Ts so_Bs so_rows so_strs (some so_i245) (some so_c245) [] := so_pr_I rfl (by decide +kernel) rfl so_s245_0
/-- SequentMill$Trace.step(II)V -/
def so_T246_0 : List Cond := so_pick (k2_sels lw_privs) [] ++ so_pick tables_1 [865, 11, 866, 867]
theorem so_s246_0 : so_al so_mi so_Ts so_Bs so_rows so_strs so_i246 so_c246 0 14 := so_bS (T1 := so_T246_0) (B1 := so_B1) 0 14 so_hW (so_tin _ _ (by decide +kernel)) so_B1_in (so_bZ 0 14 [42, 16, 10, 27, 96, 182, 0, 58, 42, 28, 182, 0, 58, 177] (by decide +kernel) (by decide +kernel) (by decide +kernel))
theorem so_m246 : so_pr so_mi so_Ts so_Bs so_rows so_strs (some so_i246) (some so_c246) [] := so_pr_I rfl (by decide +kernel) rfl so_s246_0
/-- SequentMill$Trace.settledNumbers()I -/
def so_T252_0 : List Cond := so_pick (k2_sels lw_privs) [] ++ so_pick tables_1 [294]
theorem so_s252_0 : so_al so_mi so_Ts so_Bs so_rows so_strs so_i252 so_c252 0 5 := so_bS (T1 := so_T252_0) (B1 := so_B1) 0 5 so_hW (so_tin _ _ (by decide +kernel)) so_B1_in (so_bZ 0 5 [42, 180, 0, 24, 172] (by decide +kernel) (by decide +kernel) (by decide +kernel))
theorem so_m252 : so_pr so_mi so_Ts so_Bs so_rows so_strs (some so_i252) (some so_c252) [] := so_pr_I rfl (by decide +kernel) rfl so_s252_0
/-- SequentMill$Trace.settledTypes()I -/
def so_T253_0 : List Cond := so_pick (k2_sels lw_privs) [] ++ so_pick tables_1 [295]
theorem so_s253_0 : so_al so_mi so_Ts so_Bs so_rows so_strs so_i253 so_c253 0 5 := so_bS (T1 := so_T253_0) (B1 := so_B1) 0 5 so_hW (so_tin _ _ (by decide +kernel)) so_B1_in (so_bZ 0 5 [42, 180, 0, 28, 172] (by decide +kernel) (by decide +kernel) (by decide +kernel))
theorem so_m253 : so_pr so_mi so_Ts so_Bs so_rows so_strs (some so_i253) (some so_c253) [] := so_pr_I rfl (by decide +kernel) rfl so_s253_0
/-- SequentMill$Trace.settledTerms()I -/
def so_T254_0 : List Cond := so_pick (k2_sels lw_privs) [] ++ so_pick tables_1 [296]
theorem so_s254_0 : so_al so_mi so_Ts so_Bs so_rows so_strs so_i254 so_c254 0 5 := so_bS (T1 := so_T254_0) (B1 := so_B1) 0 5 so_hW (so_tin _ _ (by decide +kernel)) so_B1_in (so_bZ 0 5 [42, 180, 0, 31, 172] (by decide +kernel) (by decide +kernel) (by decide +kernel))
theorem so_m254 : so_pr so_mi so_Ts so_Bs so_rows so_strs (some so_i254) (some so_c254) [] := so_pr_I rfl (by decide +kernel) rfl so_s254_0
/-- SequentMill$Trace.settle()V -/
def so_T255_0 : List Cond := so_pick (k2_sels lw_privs) [] ++ so_pick tables_1 [291, 415, 4, 402, 403, 294, 292, 295, 293, 296]
theorem so_s255_0 : so_al so_mi so_Ts so_Bs so_rows so_strs so_i255 so_c255 0 34 := so_bS (T1 := so_T255_0) (B1 := so_B1) 0 34 so_hW (so_tin _ _ (by decide +kernel)) so_B1_in (so_bZ 0 34 [42, 42, 180, 0, 12, 182, 0, 45, 181, 0, 24, 42, 42, 180, 0, 18, 182, 0, 45, 181, 0, 28, 42, 42, 180, 0, 21, 182, 0, 45, 181, 0, 31, 177] (by decide +kernel) (by decide +kernel) (by decide +kernel))
theorem so_m255 : so_pr so_mi so_Ts so_Bs so_rows so_strs (some so_i255) (some so_c255) [] := so_pr_I rfl (by decide +kernel) rfl so_s255_0
/-- SequentMill$Types.<init>()V -/
def so_T258_0 : List Cond := so_pick (k2_sels lw_privs) [] ++ so_pick tables_1 [34, 27, 28, 35, 36, 3, 37, 38, 176, 113, 42, 4, 44, 180, 181, 115, 116, 117, 135, 2, 136, 137, 183]
theorem so_s258_0 : so_al so_mi so_Ts so_Bs so_rows so_strs so_i258 so_c258 0 77 := so_bS (T1 := so_T258_0) (B1 := so_B1) 0 77 so_hW (so_tin _ _ (by decide +kernel)) so_B1_in (so_bZ 0 77 [42, 183, 0, 3, 42, 187, 0, 9, 89, 17, 0, 200, 16, 24, 17, 31, 64, 16, 11, 183, 0, 11, 181, 0, 14, 42, 187, 0, 20, 89, 183, 0, 22, 181, 0, 23, 42, 3, 181, 0, 27, 42, 180, 0, 23, 3, 182, 0, 31, 42, 180, 0, 23, 3, 182, 0, 31, 42, 180, 0, 23, 5, 182, 0, 31, 42, 42, 3, 2, 2, 182, 0, 35, 181, 0, 39, 177] (by decide +kernel) (by decide +kernel) (by decide +kernel))
theorem so_m258 : so_pr so_mi so_Ts so_Bs so_rows so_strs (some so_i258) (some so_c258) [] := so_pr_I rfl (by decide +kernel) rfl so_s258_0
/-- SequentMill$Types.hasConstructor(I)Z -/
def so_T259_0 : List Cond := so_pick (k2_sels lw_privs) [] ++ so_pick tables_1 [180, 401, 4, 402, 403]
theorem so_s259_0 : so_al so_mi so_Ts so_Bs so_rows so_strs so_i259 so_c259 0 21 := so_bS (T1 := so_T259_0) (B1 := so_B1) 0 21 so_hW (so_tin _ _ (by decide +kernel)) so_B1_in (so_bZ 0 21 [27, 155, 0, 18, 27, 42, 180, 0, 23, 182, 0, 42, 162, 0, 7, 4, 167, 0, 4, 3, 172] (by decide +kernel) (by decide +kernel) (by decide +kernel))
theorem so_m259 : so_pr so_mi so_Ts so_Bs so_rows so_strs (some so_i259) (some so_c259) [] := so_pr_I rfl (by decide +kernel) rfl so_s259_0
/-- SequentMill$Types.takesOf(I)I -/
def so_T260_0 : List Cond := so_pick (k2_sels lw_privs) [] ++ so_pick tables_1 [180, 143, 4, 144, 145]
theorem so_s260_0 : so_al so_mi so_Ts so_Bs so_rows so_strs so_i260 so_c260 0 9 := so_bS (T1 := so_T260_0) (B1 := so_B1) 0 9 so_hW (so_tin _ _ (by decide +kernel)) so_B1_in (so_bZ 0 9 [42, 180, 0, 23, 27, 182, 0, 46, 172] (by decide +kernel) (by decide +kernel) (by decide +kernel))
theorem so_m260 : so_pr so_mi so_Ts so_Bs so_rows so_strs (some so_i260) (some so_c260) [] := so_pr_I rfl (by decide +kernel) rfl so_s260_0
/-- SequentMill$Types.variable(I)I -/
def so_T261_0 : List Cond := so_pick (k2_sels lw_privs) [] ++ so_pick tables_1 [176, 147, 3, 148, 149]
theorem so_s261_0 : so_al so_mi so_Ts so_Bs so_rows so_strs so_i261 so_c261 0 14 := so_bS (T1 := so_T261_0) (B1 := so_B1) 0 14 so_hW (so_tin _ _ (by decide +kernel)) so_B1_in (so_bZ 0 14 [42, 180, 0, 14, 2, 27, 100, 2, 2, 3, 182, 0, 50, 172] (by decide +kernel) (by decide +kernel) (by decide +kernel))
theorem so_m261 : so_pr so_mi so_Ts so_Bs so_rows so_strs (some so_i261) (some so_c261) [] := so_pr_I rfl (by decide +kernel) rfl so_s261_0
/-- SequentMill$Types.built(III)I -/
def so_T262_0 : List Cond := so_pick (k2_sels lw_privs) [] ++ so_pick tables_1 [139, 2, 140, 141, 176, 147, 3, 148, 149]
theorem so_s262_0 : so_al so_mi so_Ts so_Bs so_rows so_strs so_i262 so_c262 0 64 := so_bS (T1 := so_T262_0) (B1 := so_B1) 0 64 so_hW (so_tin _ _ (by decide +kernel)) so_B1_in (so_bZ 0 64 [42, 27, 182, 0, 54, 54, 4, 21, 4, 155, 0, 22, 21, 4, 158, 0, 7, 28, 155, 0, 13, 21, 4, 4, 164, 0, 9, 29, 156, 0, 5, 2, 172, 42, 180, 0, 14, 27, 21, 4, 158, 0, 7, 28, 167, 0, 4, 2, 21, 4, 4, 164, 0, 7, 29, 167, 0, 4, 2, 3, 182, 0, 50, 172] (by decide +kernel) (by decide +kernel) (by decide +kernel))
theorem so_m262 : so_pr so_mi so_Ts so_Bs so_rows so_strs (some so_i262) (some so_c262) [] := so_pr_I rfl (by decide +kernel) rfl so_s262_0
/-- SequentMill$Types.functions(II)I -/
def so_T263_0 : List Cond := so_pick (k2_sels lw_privs) [] ++ so_pick tables_1 [176, 147, 3, 148, 149]
theorem so_s263_0 : so_al so_mi so_Ts so_Bs so_rows so_strs so_i263 so_c263 0 24 := so_bS (T1 := so_T263_0) (B1 := so_B1) 0 24 so_hW (so_tin _ _ (by decide +kernel)) so_B1_in (so_bZ 0 24 [27, 155, 0, 7, 28, 156, 0, 7, 2, 167, 0, 14, 42, 180, 0, 14, 5, 27, 28, 3, 182, 0, 50, 172] (by decide +kernel) (by decide +kernel) (by decide +kernel))
theorem so_m263 : so_pr so_mi so_Ts so_Bs so_rows so_strs (some so_i263) (some so_c263) [] := so_pr_I rfl (by decide +kernel) rfl so_s263_0
/-- SequentMill$Types.isFunctions(I)Z -/
def so_T264_0 : List Cond := so_pick (k2_sels lw_privs) [] ++ so_pick tables_1 [176, 705, 3, 706, 707]
theorem so_s264_0 : so_al so_mi so_Ts so_Bs so_rows so_strs so_i264 so_c264 0 22 := so_bS (T1 := so_T264_0) (B1 := so_B1) 0 22 so_hW (so_tin _ _ (by decide +kernel)) so_B1_in (so_bZ 0 22 [27, 155, 0, 19, 42, 180, 0, 14, 27, 182, 0, 57, 5, 160, 0, 7, 4, 167, 0, 4, 3, 172] (by decide +kernel) (by decide +kernel) (by decide +kernel))
theorem so_m264 : so_pr so_mi so_Ts so_Bs so_rows so_strs (some so_i264) (some so_c264) [] := so_pr_I rfl (by decide +kernel) rfl so_s264_0
/-- SequentMill$Types.settle()V -/
def so_T270_0 : List Cond := so_pick (k2_sels lw_privs) [] ++ so_pick tables_1 [176, 397, 3, 398, 399, 180, 401, 4, 402, 403, 181]
theorem so_s270_0 : so_al so_mi so_Ts so_Bs so_rows so_strs so_i270 so_c270 0 19 := so_bS (T1 := so_T270_0) (B1 := so_B1) 0 19 so_hW (so_tin _ _ (by decide +kernel)) so_B1_in (so_bZ 0 19 [42, 180, 0, 14, 182, 0, 93, 42, 42, 180, 0, 23, 182, 0, 42, 181, 0, 27, 177] (by decide +kernel) (by decide +kernel) (by decide +kernel))
theorem so_m270 : so_pr so_mi so_Ts so_Bs so_rows so_strs (some so_i270) (some so_c270) [] := so_pr_I rfl (by decide +kernel) rfl so_s270_0
/-- SequentMillLaw.typeVariable(LSequentMill;I[J)I -/
def so_T272_0 : List Cond := so_pick (k2_sels lw_privs) [] ++ so_pick tables_1 [463, 1, 464, 465]
theorem so_s272_0 : so_al so_mi so_Ts so_Bs so_rows so_strs so_i272 so_c272 0 20 := so_bS (T1 := so_T272_0) (B1 := so_B1) 0 20 so_hW (so_tin _ _ (by decide +kernel)) so_B1_in (so_bZ 0 20 [44, 3, 42, 27, 182, 0, 7, 133, 80, 167, 0, 9, 78, 4, 172, 78, 5, 172, 3, 172] (by decide +kernel) (by decide +kernel) (by decide +kernel))
theorem so_m272 : so_pr so_mi so_Ts so_Bs so_rows so_strs (some so_i272) (some so_c272) ([((0, 9, 12, 13), 0), ((0, 9, 15, 15), 1)].map (fun z : (Nat × Nat × Nat × Nat) × Nat => (z.1.1, z.1.2.1, z.1.2.2.1, z.2))) := so_pr_H [((0, 9, 12, 13), 0), ((0, 9, 15, 15), 1)] rfl (by decide +kernel) rfl (so_tin [] [461, 462] (by decide +kernel)) (by decide +kernel) so_s272_0
/-- SequentMillLaw.type(LSequentMill;III[J)I -/
def so_T273_0 : List Cond := so_pick (k2_sels lw_privs) [] ++ so_pick tables_1 [610, 1, 611, 612]
theorem so_s273_0 : so_al so_mi so_Ts so_Bs so_rows so_strs so_i273 so_c273 0 29 := so_bS (T1 := so_T273_0) (B1 := so_B1) 0 29 so_hW (so_tin _ _ (by decide +kernel)) so_B1_in (so_bZ 0 29 [25, 4, 3, 42, 27, 28, 29, 182, 0, 17, 133, 80, 167, 0, 15, 58, 5, 4, 172, 58, 5, 5, 172, 58, 5, 6, 172, 3, 172] (by decide +kernel) (by decide +kernel) (by decide +kernel))
theorem so_m273 : so_pr so_mi so_Ts so_Bs so_rows so_strs (some so_i273) (some so_c273) ([((0, 12, 15, 13), 0), ((0, 12, 19, 21), 2), ((0, 12, 23, 15), 1)].map (fun z : (Nat × Nat × Nat × Nat) × Nat => (z.1.1, z.1.2.1, z.1.2.2.1, z.2))) := so_pr_H [((0, 12, 15, 13), 0), ((0, 12, 19, 21), 2), ((0, 12, 23, 15), 1)] rfl (by decide +kernel) rfl (so_tin [] [461, 609, 462] (by decide +kernel)) (by decide +kernel) so_s273_0
/-- SequentMillLaw.free(LSequentMill;II[J)I -/
def so_T274_0 : List Cond := so_pick (k2_sels lw_privs) [] ++ so_pick tables_1 [653, 1, 654, 655]
theorem so_s274_0 : so_al so_mi so_Ts so_Bs so_rows so_strs so_i274 so_c274 0 17 := so_bS (T1 := so_T274_0) (B1 := so_B1) 0 17 so_hW (so_tin _ _ (by decide +kernel)) so_B1_in (so_bZ 0 17 [45, 3, 42, 27, 28, 182, 0, 23, 133, 80, 167, 0, 15, 58, 4, 4, 172, 58, 4, 5] (by decide +kernel) (by decide +kernel) (by decide +kernel))
theorem so_m274 : so_pr so_mi so_Ts so_Bs so_rows so_strs (some so_i274) (some so_c274) ([((0, 10, 13, 21), 2), ((0, 10, 17, 13), 0), ((0, 10, 21, 15), 1)].map (fun z : (Nat × Nat × Nat × Nat) × Nat => (z.1.1, z.1.2.1, z.1.2.2.1, z.2))) := so_pr_H [((0, 10, 13, 21), 2), ((0, 10, 17, 13), 0), ((0, 10, 21, 15), 1)] rfl (by decide +kernel) rfl (so_tin [] [609, 461, 462] (by decide +kernel)) (by decide +kernel) so_s274_0
/-- SequentMillLaw.constant(LSequentMill;II[J)I -/
def so_T275_0 : List Cond := so_pick (k2_sels lw_privs) [] ++ so_pick tables_1 [671, 1, 672, 673]
theorem so_s275_0 : so_al so_mi so_Ts so_Bs so_rows so_strs so_i275 so_c275 0 17 := so_bS (T1 := so_T275_0) (B1 := so_B1) 0 17 so_hW (so_tin _ _ (by decide +kernel)) so_B1_in (so_bZ 0 17 [45, 3, 42, 27, 28, 182, 0, 27, 133, 80, 167, 0, 15, 58, 4, 4, 172, 58, 4, 5] (by decide +kernel) (by decide +kernel) (by decide +kernel))
theorem so_m275 : so_pr so_mi so_Ts so_Bs so_rows so_strs (some so_i275) (some so_c275) ([((0, 10, 13, 21), 2), ((0, 10, 17, 13), 0), ((0, 10, 21, 15), 1)].map (fun z : (Nat × Nat × Nat × Nat) × Nat => (z.1.1, z.1.2.1, z.1.2.2.1, z.2))) := so_pr_H [((0, 10, 13, 21), 2), ((0, 10, 17, 13), 0), ((0, 10, 21, 15), 1)] rfl (by decide +kernel) rfl (so_tin [] [609, 461, 462] (by decide +kernel)) (by decide +kernel) so_s275_0
/-- SequentMillLaw.apply(LSequentMill;II[J)I -/
def so_T276_0 : List Cond := so_pick (k2_sels lw_privs) [] ++ so_pick tables_1 [721, 1, 722, 723]
theorem so_s276_0 : so_al so_mi so_Ts so_Bs so_rows so_strs so_i276 so_c276 0 17 := so_bS (T1 := so_T276_0) (B1 := so_B1) 0 17 so_hW (so_tin _ _ (by decide +kernel)) so_B1_in (so_bZ 0 17 [45, 3, 42, 27, 28, 182, 0, 30, 133, 80, 167, 0, 15, 58, 4, 4, 172, 58, 4, 5] (by decide +kernel) (by decide +kernel) (by decide +kernel))
theorem so_m276 : so_pr so_mi so_Ts so_Bs so_rows so_strs (some so_i276) (some so_c276) ([((0, 10, 13, 21), 2), ((0, 10, 17, 13), 0), ((0, 10, 21, 15), 1)].map (fun z : (Nat × Nat × Nat × Nat) × Nat => (z.1.1, z.1.2.1, z.1.2.2.1, z.2))) := so_pr_H [((0, 10, 13, 21), 2), ((0, 10, 17, 13), 0), ((0, 10, 21, 15), 1)] rfl (by decide +kernel) rfl (so_tin [] [609, 461, 462] (by decide +kernel)) (by decide +kernel) so_s276_0
/-- SequentMillLaw.abstraction(LSequentMill;II[J)I -/
def so_T277_0 : List Cond := so_pick (k2_sels lw_privs) [] ++ so_pick tables_1 [765, 1, 766, 767]
theorem so_s277_0 : so_al so_mi so_Ts so_Bs so_rows so_strs so_i277 so_c277 0 17 := so_bS (T1 := so_T277_0) (B1 := so_B1) 0 17 so_hW (so_tin _ _ (by decide +kernel)) so_B1_in (so_bZ 0 17 [45, 3, 42, 27, 28, 182, 0, 33, 133, 80, 167, 0, 15, 58, 4, 4, 172, 58, 4, 5] (by decide +kernel) (by decide +kernel) (by decide +kernel))
theorem so_m277 : so_pr so_mi so_Ts so_Bs so_rows so_strs (some so_i277) (some so_c277) ([((0, 10, 13, 21), 2), ((0, 10, 17, 13), 0), ((0, 10, 21, 15), 1)].map (fun z : (Nat × Nat × Nat × Nat) × Nat => (z.1.1, z.1.2.1, z.1.2.2.1, z.2))) := so_pr_H [((0, 10, 13, 21), 2), ((0, 10, 17, 13), 0), ((0, 10, 21, 15), 1)] rfl (by decide +kernel) rfl (so_tin [] [609, 461, 462] (by decide +kernel)) (by decide +kernel) so_s277_0
/-- SequentMillLaw.typeOf(LSequentMill;I[J)I -/
def so_T278_0 : List Cond := so_pick (k2_sels lw_privs) [] ++ so_pick tables_1 [818, 1, 819, 820]
theorem so_s278_0 : so_al so_mi so_Ts so_Bs so_rows so_strs so_i278 so_c278 0 15 := so_bS (T1 := so_T278_0) (B1 := so_B1) 0 15 so_hW (so_tin _ _ (by decide +kernel)) so_B1_in (so_bZ 0 15 [44, 3, 42, 27, 182, 0, 36, 133, 80, 167, 0, 9, 78, 4, 172, 78, 5, 172] (by decide +kernel) (by decide +kernel) (by decide +kernel))
theorem so_m278 : so_pr so_mi so_Ts so_Bs so_rows so_strs (some so_i278) (some so_c278) ([((0, 9, 12, 21), 2), ((0, 9, 15, 15), 1)].map (fun z : (Nat × Nat × Nat × Nat) × Nat => (z.1.1, z.1.2.1, z.1.2.2.1, z.2))) := so_pr_H [((0, 9, 12, 21), 2), ((0, 9, 15, 15), 1)] rfl (by decide +kernel) rfl (so_tin [] [609, 462] (by decide +kernel)) (by decide +kernel) so_s278_0
/-- SequentMillLaw.symbol(LSequentMill;II[J)I -/
def so_T279_0 : List Cond := so_pick (k2_sels lw_privs) [] ++ so_pick tables_1 [826, 1, 827, 828]
theorem so_s279_0 : so_al so_mi so_Ts so_Bs so_rows so_strs so_i279 so_c279 0 17 := so_bS (T1 := so_T279_0) (B1 := so_B1) 0 17 so_hW (so_tin _ _ (by decide +kernel)) so_B1_in (so_bZ 0 17 [45, 3, 42, 27, 28, 182, 0, 39, 133, 80, 167, 0, 7, 58, 4, 4, 172, 3, 172] (by decide +kernel) (by decide +kernel) (by decide +kernel))
theorem so_m279 : so_pr so_mi so_Ts so_Bs so_rows so_strs (some so_i279) (some so_c279) ([((0, 10, 13, 21), 2)].map (fun z : (Nat × Nat × Nat × Nat) × Nat => (z.1.1, z.1.2.1, z.1.2.2.1, z.2))) := so_pr_H [((0, 10, 13, 21), 2)] rfl (by decide +kernel) rfl (so_tin [] [609] (by decide +kernel)) (by decide +kernel) so_s279_0
/-- SequentMillLaw.same(LSequentMill;II[J)I -/
def so_T280_0 : List Cond := so_pick (k2_sels lw_privs) [] ++ so_pick tables_1 [838, 1, 839, 840]
theorem so_s280_0 : so_al so_mi so_Ts so_Bs so_rows so_strs so_i280 so_c280 0 24 := so_bS (T1 := so_T280_0) (B1 := so_B1) 0 24 so_hW (so_tin _ _ (by decide +kernel)) so_B1_in (so_bZ 0 24 [45, 3, 42, 27, 28, 182, 0, 42, 153, 0, 7, 10, 167, 0, 4, 9, 80, 167, 0, 7, 58, 4, 4, 172, 3, 172] (by decide +kernel) (by decide +kernel) (by decide +kernel))
theorem so_m280 : so_pr so_mi so_Ts so_Bs so_rows so_strs (some so_i280) (some so_c280) ([((0, 17, 20, 21), 2)].map (fun z : (Nat × Nat × Nat × Nat) × Nat => (z.1.1, z.1.2.1, z.1.2.2.1, z.2))) := so_pr_H [((0, 17, 20, 21), 2)] rfl (by decide +kernel) rfl (so_tin [] [609] (by decide +kernel)) (by decide +kernel) so_s280_0
/-- SequentMillLaw.refl(LSequentMill;I[J)I -/
def so_T281_0 : List Cond := so_pick (k2_sels lw_privs) [] ++ so_pick tables_1 [845, 1, 846, 847]
theorem so_s281_0 : so_al so_mi so_Ts so_Bs so_rows so_strs so_i281 so_c281 0 15 := so_bS (T1 := so_T281_0) (B1 := so_B1) 0 15 so_hW (so_tin _ _ (by decide +kernel)) so_B1_in (so_bZ 0 15 [44, 3, 42, 27, 182, 0, 46, 133, 80, 167, 0, 9, 78, 4, 172, 78, 5, 172] (by decide +kernel) (by decide +kernel) (by decide +kernel))
theorem so_m281 : so_pr so_mi so_Ts so_Bs so_rows so_strs (some so_i281) (some so_c281) ([((0, 9, 12, 21), 2), ((0, 9, 15, 15), 1)].map (fun z : (Nat × Nat × Nat × Nat) × Nat => (z.1.1, z.1.2.1, z.1.2.2.1, z.2))) := so_pr_H [((0, 9, 12, 21), 2), ((0, 9, 15, 15), 1)] rfl (by decide +kernel) rfl (so_tin [] [609, 462] (by decide +kernel)) (by decide +kernel) so_s281_0
/-- SequentMillLaw.trans(LSequentMill;II[J)I -/
def so_T282_0 : List Cond := so_pick (k2_sels lw_privs) [] ++ so_pick tables_1 [944, 1, 945, 946]
theorem so_s282_0 : so_al so_mi so_Ts so_Bs so_rows so_strs so_i282 so_c282 0 17 := so_bS (T1 := so_T282_0) (B1 := so_B1) 0 17 so_hW (so_tin _ _ (by decide +kernel)) so_B1_in (so_bZ 0 17 [45, 3, 42, 27, 28, 182, 0, 49, 133, 80, 167, 0, 15, 58, 4, 4, 172, 58, 4, 5] (by decide +kernel) (by decide +kernel) (by decide +kernel))
theorem so_m282 : so_pr so_mi so_Ts so_Bs so_rows so_strs (some so_i282) (some so_c282) ([((0, 10, 13, 21), 2), ((0, 10, 17, 13), 0), ((0, 10, 21, 15), 1)].map (fun z : (Nat × Nat × Nat × Nat) × Nat => (z.1.1, z.1.2.1, z.1.2.2.1, z.2))) := so_pr_H [((0, 10, 13, 21), 2), ((0, 10, 17, 13), 0), ((0, 10, 21, 15), 1)] rfl (by decide +kernel) rfl (so_tin [] [609, 461, 462] (by decide +kernel)) (by decide +kernel) so_s282_0
/-- SequentMillLaw.applied(LSequentMill;II[J)I -/
def so_T283_0 : List Cond := so_pick (k2_sels lw_privs) [] ++ so_pick tables_1 [1010, 1, 1011, 1012]
theorem so_s283_0 : so_al so_mi so_Ts so_Bs so_rows so_strs so_i283 so_c283 0 17 := so_bS (T1 := so_T283_0) (B1 := so_B1) 0 17 so_hW (so_tin _ _ (by decide +kernel)) so_B1_in (so_bZ 0 17 [45, 3, 42, 27, 28, 182, 0, 52, 133, 80, 167, 0, 15, 58, 4, 4, 172, 58, 4, 5] (by decide +kernel) (by decide +kernel) (by decide +kernel))
theorem so_m283 : so_pr so_mi so_Ts so_Bs so_rows so_strs (some so_i283) (some so_c283) ([((0, 10, 13, 21), 2), ((0, 10, 17, 13), 0), ((0, 10, 21, 15), 1)].map (fun z : (Nat × Nat × Nat × Nat) × Nat => (z.1.1, z.1.2.1, z.1.2.2.1, z.2))) := so_pr_H [((0, 10, 13, 21), 2), ((0, 10, 17, 13), 0), ((0, 10, 21, 15), 1)] rfl (by decide +kernel) rfl (so_tin [] [609, 461, 462] (by decide +kernel)) (by decide +kernel) so_s283_0
/-- SequentMillLaw.abstracted(LSequentMill;II[J)I -/
def so_T284_0 : List Cond := so_pick (k2_sels lw_privs) [] ++ so_pick tables_1 [1018, 1, 1019, 1020]
theorem so_s284_0 : so_al so_mi so_Ts so_Bs so_rows so_strs so_i284 so_c284 0 17 := so_bS (T1 := so_T284_0) (B1 := so_B1) 0 17 so_hW (so_tin _ _ (by decide +kernel)) so_B1_in (so_bZ 0 17 [45, 3, 42, 27, 28, 182, 0, 55, 133, 80, 167, 0, 15, 58, 4, 4, 172, 58, 4, 5] (by decide +kernel) (by decide +kernel) (by decide +kernel))
theorem so_m284 : so_pr so_mi so_Ts so_Bs so_rows so_strs (some so_i284) (some so_c284) ([((0, 10, 13, 21), 2), ((0, 10, 17, 13), 0), ((0, 10, 21, 15), 1)].map (fun z : (Nat × Nat × Nat × Nat) × Nat => (z.1.1, z.1.2.1, z.1.2.2.1, z.2))) := so_pr_H [((0, 10, 13, 21), 2), ((0, 10, 17, 13), 0), ((0, 10, 21, 15), 1)] rfl (by decide +kernel) rfl (so_tin [] [609, 461, 462] (by decide +kernel)) (by decide +kernel) so_s284_0
/-- SequentMillLaw.beta(LSequentMill;I[J)I -/
def so_T285_0 : List Cond := so_pick (k2_sels lw_privs) [] ++ so_pick tables_1 [1058, 1, 1059, 1060]
theorem so_s285_0 : so_al so_mi so_Ts so_Bs so_rows so_strs so_i285 so_c285 0 15 := so_bS (T1 := so_T285_0) (B1 := so_B1) 0 15 so_hW (so_tin _ _ (by decide +kernel)) so_B1_in (so_bZ 0 15 [44, 3, 42, 27, 182, 0, 58, 133, 80, 167, 0, 12, 78, 4, 172, 78, 5, 172] (by decide +kernel) (by decide +kernel) (by decide +kernel))
theorem so_m285 : so_pr so_mi so_Ts so_Bs so_rows so_strs (some so_i285) (some so_c285) ([((0, 9, 12, 21), 2), ((0, 9, 15, 13), 0), ((0, 9, 18, 15), 1)].map (fun z : (Nat × Nat × Nat × Nat) × Nat => (z.1.1, z.1.2.1, z.1.2.2.1, z.2))) := so_pr_H [((0, 9, 12, 21), 2), ((0, 9, 15, 13), 0), ((0, 9, 18, 15), 1)] rfl (by decide +kernel) rfl (so_tin [] [609, 461, 462] (by decide +kernel)) (by decide +kernel) so_s285_0
/-- SequentMillLaw.assume(LSequentMill;I[J)I -/
def so_T286_0 : List Cond := so_pick (k2_sels lw_privs) [] ++ so_pick tables_1 [1076, 1, 1077, 1078]
theorem so_s286_0 : so_al so_mi so_Ts so_Bs so_rows so_strs so_i286 so_c286 0 15 := so_bS (T1 := so_T286_0) (B1 := so_B1) 0 15 so_hW (so_tin _ _ (by decide +kernel)) so_B1_in (so_bZ 0 15 [44, 3, 42, 27, 182, 0, 61, 133, 80, 167, 0, 12, 78, 4, 172, 78, 5, 172] (by decide +kernel) (by decide +kernel) (by decide +kernel))
theorem so_m286 : so_pr so_mi so_Ts so_Bs so_rows so_strs (some so_i286) (some so_c286) ([((0, 9, 12, 21), 2), ((0, 9, 15, 13), 0), ((0, 9, 18, 15), 1)].map (fun z : (Nat × Nat × Nat × Nat) × Nat => (z.1.1, z.1.2.1, z.1.2.2.1, z.2))) := so_pr_H [((0, 9, 12, 21), 2), ((0, 9, 15, 13), 0), ((0, 9, 18, 15), 1)] rfl (by decide +kernel) rfl (so_tin [] [609, 461, 462] (by decide +kernel)) (by decide +kernel) so_s286_0
/-- SequentMillLaw.equal(LSequentMill;II[J)I -/
def so_T287_0 : List Cond := so_pick (k2_sels lw_privs) [] ++ so_pick tables_1 [1086, 1, 1087, 1088]
theorem so_s287_0 : so_al so_mi so_Ts so_Bs so_rows so_strs so_i287 so_c287 0 17 := so_bS (T1 := so_T287_0) (B1 := so_B1) 0 17 so_hW (so_tin _ _ (by decide +kernel)) so_B1_in (so_bZ 0 17 [45, 3, 42, 27, 28, 182, 0, 64, 133, 80, 167, 0, 15, 58, 4, 4, 172, 58, 4, 5] (by decide +kernel) (by decide +kernel) (by decide +kernel))
theorem so_m287 : so_pr so_mi so_Ts so_Bs so_rows so_strs (some so_i287) (some so_c287) ([((0, 10, 13, 21), 2), ((0, 10, 17, 13), 0), ((0, 10, 21, 15), 1)].map (fun z : (Nat × Nat × Nat × Nat) × Nat => (z.1.1, z.1.2.1, z.1.2.2.1, z.2))) := so_pr_H [((0, 10, 13, 21), 2), ((0, 10, 17, 13), 0), ((0, 10, 21, 15), 1)] rfl (by decide +kernel) rfl (so_tin [] [609, 461, 462] (by decide +kernel)) (by decide +kernel) so_s287_0
/-- SequentMillLaw.antisym(LSequentMill;II[J)I -/
def so_T288_0 : List Cond := so_pick (k2_sels lw_privs) [] ++ so_pick tables_1 [1094, 1, 1095, 1096]
theorem so_s288_0 : so_al so_mi so_Ts so_Bs so_rows so_strs so_i288 so_c288 0 17 := so_bS (T1 := so_T288_0) (B1 := so_B1) 0 17 so_hW (so_tin _ _ (by decide +kernel)) so_B1_in (so_bZ 0 17 [45, 3, 42, 27, 28, 182, 0, 67, 133, 80, 167, 0, 11, 58, 4, 4, 172, 58, 4, 5] (by decide +kernel) (by decide +kernel) (by decide +kernel))
theorem so_m288 : so_pr so_mi so_Ts so_Bs so_rows so_strs (some so_i288) (some so_c288) ([((0, 10, 13, 21), 2), ((0, 10, 17, 15), 1)].map (fun z : (Nat × Nat × Nat × Nat) × Nat => (z.1.1, z.1.2.1, z.1.2.2.1, z.2))) := so_pr_H [((0, 10, 13, 21), 2), ((0, 10, 17, 15), 1)] rfl (by decide +kernel) rfl (so_tin [] [609, 462] (by decide +kernel)) (by decide +kernel) so_s288_0
/-- SequentMillLaw.put(LSequentMill;III[J)I -/
def so_T289_0 : List Cond := so_pick (k2_sels lw_privs) [] ++ so_pick tables_1 [1101, 1, 1102, 1103]
theorem so_s289_0 : so_al so_mi so_Ts so_Bs so_rows so_strs so_i289 so_c289 0 19 := so_bS (T1 := so_T289_0) (B1 := so_B1) 0 19 so_hW (so_tin _ _ (by decide +kernel)) so_B1_in (so_bZ 0 19 [25, 4, 3, 42, 27, 28, 29, 182, 0, 70, 133, 80, 167, 0, 15, 58, 5, 4, 172, 58, 5, 5] (by decide +kernel) (by decide +kernel) (by decide +kernel))
theorem so_m289 : so_pr so_mi so_Ts so_Bs so_rows so_strs (some so_i289) (some so_c289) ([((0, 12, 15, 21), 2), ((0, 12, 19, 13), 0), ((0, 12, 23, 15), 1)].map (fun z : (Nat × Nat × Nat × Nat) × Nat => (z.1.1, z.1.2.1, z.1.2.2.1, z.2))) := so_pr_H [((0, 12, 15, 21), 2), ((0, 12, 19, 13), 0), ((0, 12, 23, 15), 1)] rfl (by decide +kernel) rfl (so_tin [] [609, 461, 462] (by decide +kernel)) (by decide +kernel) so_s289_0

/-! ===== the methods, 7 ===== -/
/-- SequentMill$Logic.all(III)I -/
def so_T159_0 : List Cond := so_pick (k2_sels lw_privs) [] ++ so_pick tables_1 [273, 1220, 9, 775, 776, 1198, 10, 890, 891]
theorem so_s159_0 : so_al so_mi so_Ts so_Bs so_rows so_strs so_i159 so_c159 0 23 := so_bS (T1 := so_T159_0) (B1 := so_B1) 0 23 so_hW (so_tin _ _ (by decide +kernel)) so_B1_in (so_bZ 0 23 [42, 42, 180, 0, 19, 27, 28, 182, 0, 52, 42, 180, 0, 19, 27, 29, 182, 0, 52, 182, 0, 45, 172] (by decide +kernel) (by decide +kernel) (by decide +kernel))
theorem so_m159 : so_pr so_mi so_Ts so_Bs so_rows so_strs (some so_i159) (some so_c159) [] := so_pr_I rfl (by decide +kernel) rfl so_s159_0
/-- SequentMill$Logic.some(II)I -/
def so_T160_0 : List Cond := so_pick (k2_sels lw_privs) [28] ++ so_pick tables_1 [273, 1220, 9, 775, 776, 272, 218, 1251, 3, 739, 740, 1225, 10, 1227, 896, 8, 755, 756]
theorem so_s160_0 : so_al so_mi so_Ts so_Bs so_rows so_strs so_i160 so_c160 0 35 := so_bS (T1 := so_T160_0) (B1 := so_B1) 0 35 so_hW (so_tin _ _ (by decide +kernel)) so_B1_in (so_bZ 0 35 [42, 180, 0, 19, 27, 28, 182, 0, 52, 62, 42, 180, 0, 15, 29, 42, 42, 180, 0, 15, 180, 0, 79, 27, 182, 0, 83, 29, 182, 0, 57, 182, 0, 42, 172] (by decide +kernel) (by decide +kernel) (by decide +kernel))
theorem so_m160 : so_pr so_mi so_Ts so_Bs so_rows so_strs (some so_i160) (some so_c160) [] := so_pr_I rfl (by decide +kernel) rfl so_s160_0
/-- SequentMill$Rewriting.<init>(LSequentMill$Types;LSequentMill$Terms;)V -/
def so_T161_0 : List Cond := so_pick (k2_sels lw_privs) [] ++ so_pick tables_1 [236, 27, 28, 239, 240, 241, 242, 243, 244, 245, 237, 238]
theorem so_s161_0 : so_al so_mi so_Ts so_Bs so_rows so_strs so_i161 so_c161 0 50 := so_bS (T1 := so_T161_0) (B1 := so_B1) 0 50 so_hW (so_tin _ _ (by decide +kernel)) so_B1_in (so_bZ 0 50 [42, 183, 0, 3, 42, 3, 181, 0, 11, 42, 2, 181, 0, 15, 42, 2, 181, 0, 18, 42, 2, 181, 0, 21, 42, 2, 181, 0, 24, 42, 2, 181, 0, 27, 42, 2, 181, 0, 30, 42, 43, 181, 0, 33, 42, 44, 181, 0, 37, 177] (by decide +kernel) (by decide +kernel) (by decide +kernel))
theorem so_m161 : so_pr so_mi so_Ts so_Bs so_rows so_strs (some so_i161) (some so_c161) [] := so_pr_I rfl (by decide +kernel) rfl so_s161_0
/-- SequentMill$Rewriting.start(III)V -/
def so_T162_0 : List Cond := so_pick (k2_sels lw_privs) [] ++ so_pick tables_1 [239, 240, 241, 238, 217, 782, 3, 689, 690]
theorem so_s162_0 : so_al so_mi so_Ts so_Bs so_rows so_strs so_i162 so_c162 0 26 := so_bS (T1 := so_T162_0) (B1 := so_B1) 0 26 so_hW (so_tin _ _ (by decide +kernel)) so_B1_in (so_bZ 0 26 [42, 27, 181, 0, 11, 42, 28, 181, 0, 15, 42, 29, 181, 0, 18, 42, 180, 0, 37, 180, 0, 41, 182, 0, 47, 177] (by decide +kernel) (by decide +kernel) (by decide +kernel))
theorem so_m162 : so_pr so_mi so_Ts so_Bs so_rows so_strs (some so_i162) (some so_c162) [] := so_pr_I rfl (by decide +kernel) rfl so_s162_0
/-- SequentMill$Rewriting.bound(II)I -/
def so_T165_0 : List Cond := so_pick (k2_sels lw_privs) [11] ++ so_pick tables_1 [778, 9, 780, 238, 217, 783, 3, 739, 740, 784, 785, 786, 804, 8, 805, 806]
theorem so_s165_0 : so_al so_mi so_Ts so_Bs so_rows so_strs so_i165 so_c165 0 43 := so_bS (T1 := so_T165_0) (B1 := so_B1) 0 43 so_hW (so_tin _ _ (by decide +kernel)) so_B1_in (so_bZ 0 43 [27, 155, 0, 7, 28, 156, 0, 5, 2, 172, 42, 4, 27, 2, 182, 0, 52, 42, 180, 0, 37, 42, 180, 0, 37, 180, 0, 41, 27, 182, 0, 59, 42, 28, 3, 3, 182, 0, 63, 182, 0, 67, 172] (by decide +kernel) (by decide +kernel) (by decide +kernel))
theorem so_m165 : so_pr so_mi so_Ts so_Bs so_rows so_strs (some so_i165) (some so_c165) [] := so_pr_I rfl (by decide +kernel) rfl so_s165_0
/-- SequentMill$Rewriting.changedLeaf(III)I -/
def so_T167_0 : List Cond := so_pick (k2_sels lw_privs) [] ++ so_pick tables_1 [239, 240, 238, 217, 783, 3, 739, 740, 803, 148, 149]
theorem so_s167_0 : so_al so_mi so_Ts so_Bs so_rows so_strs so_i167 so_c167 0 119 := so_bS (T1 := so_T167_0) (B1 := so_B1) 0 119 so_hW (so_tin _ _ (by decide +kernel)) so_B1_in (so_bZ 0 119 [42, 180, 0, 11, 6, 160, 0, 37, 42, 42, 180, 0, 37, 180, 0, 41, 27, 182, 0, 59, 3, 182, 0, 89, 54, 4, 42, 180, 0, 37, 180, 0, 41, 28, 2, 2, 21, 4, 182, 0, 92, 172, 42, 180, 0, 11, 5, 160, 0, 21, 28, 7, 29, 104, 3, 96, 160, 0, 10, 42, 180, 0, 15, 167, 0, 4, 27, 172, 27, 42, 180, 0, 15, 159, 0, 5, 27, 172, 42, 180, 0, 11, 154, 0, 8, 42, 180, 0, 18, 172, 42, 180, 0, 37, 180, 0, 41, 7, 29, 104, 3, 96, 2, 2, 42, 180, 0, 37, 180, 0, 41, 27, 182, 0, 59, 182, 0, 92, 172] (by decide +kernel) (by decide +kernel) (by decide +kernel))
theorem so_m167 : so_pr so_mi so_Ts so_Bs so_rows so_strs (some so_i167) (some so_c167) [] := so_pr_I rfl (by decide +kernel) rfl so_s167_0
/-- SequentMill$Rewriting.changedType(II)I -/
def so_T168_0 : List Cond := so_pick (k2_sels lw_privs) [] ++ so_pick tables_1 [239]
theorem so_s168_0 : so_al so_mi so_Ts so_Bs so_rows so_strs so_i168 so_c168 0 10 := so_bS (T1 := so_T168_0) (B1 := so_B1) 0 10 so_hW (so_tin _ _ (by decide +kernel)) so_B1_in (so_bZ 0 10 [42, 180, 0, 11, 6, 159, 0, 5, 27, 172, 42, 180, 0] (by decide +kernel) (by decide +kernel) (by decide +kernel))
theorem so_m168 : so_pr so_mi so_Ts so_Bs so_rows so_strs (some so_i168) (some so_c168) [] := so_pr_I rfl (by decide +kernel) rfl so_s168_0
/-- SequentMill$Row.<init>()V -/
def so_T169_0 : List Cond := so_pick (k2_sels lw_privs) [] ++ so_pick tables_1 [46, 27, 28, 54, 47, 48]
theorem so_s169_0 : so_al so_mi so_Ts so_Bs so_rows so_strs so_i169 so_c169 0 18 := so_bS (T1 := so_T169_0) (B1 := so_B1) 0 18 so_hW (so_tin _ _ (by decide +kernel)) so_B1_in (so_bZ 0 18 [42, 183, 0, 3, 42, 16, 32, 188, 10, 181, 0, 9, 42, 3, 181, 0, 15, 177] (by decide +kernel) (by decide +kernel) (by decide +kernel))
theorem so_m169 : so_pr so_mi so_Ts so_Bs so_rows so_strs (some so_i169) (some so_c169) [] := so_pr_I rfl (by decide +kernel) rfl so_s169_0
/-- SequentMill$Row.count()I -/
def so_T170_0 : List Cond := so_pick (k2_sels lw_privs) [] ++ so_pick tables_1 [48]
theorem so_s170_0 : so_al so_mi so_Ts so_Bs so_rows so_strs so_i170 so_c170 0 5 := so_bS (T1 := so_T170_0) (B1 := so_B1) 0 5 so_hW (so_tin _ _ (by decide +kernel)) so_B1_in (so_bZ 0 5 [42, 180, 0, 15, 172] (by decide +kernel) (by decide +kernel) (by decide +kernel))
theorem so_m170 : so_pr so_mi so_Ts so_Bs so_rows so_strs (some so_i170) (some so_c170) [] := so_pr_I rfl (by decide +kernel) rfl so_s170_0
/-- SequentMill$Row.at(I)I -/
def so_T171_0 : List Cond := so_pick (k2_sels lw_privs) [] ++ so_pick tables_1 [48, 47]
theorem so_s171_0 : so_al so_mi so_Ts so_Bs so_rows so_strs so_i171 so_c171 0 23 := so_bS (T1 := so_T171_0) (B1 := so_B1) 0 23 so_hW (so_tin _ _ (by decide +kernel)) so_B1_in (so_bZ 0 23 [27, 155, 0, 20, 27, 42, 180, 0, 15, 162, 0, 12, 42, 180, 0, 9, 27, 46, 167, 0, 4, 2, 172] (by decide +kernel) (by decide +kernel) (by decide +kernel))
theorem so_m171 : so_pr so_mi so_Ts so_Bs so_rows so_strs (some so_i171) (some so_c171) [] := so_pr_I rfl (by decide +kernel) rfl so_s171_0
/-- SequentMill$Row.add(I)V -/
def so_T172_0 : List Cond := so_pick (k2_sels lw_privs) [] ++ so_pick tables_1 [48, 47]
theorem so_s172_0 : so_al so_mi so_Ts so_Bs so_rows so_strs so_i172 so_c172 0 52 := so_bS (T1 := so_T172_0) (B1 := so_B1) 0 52 so_hW (so_tin _ _ (by decide +kernel)) so_B1_in (so_bZ 0 52 [42, 180, 0, 15, 42, 180, 0, 9, 190, 161, 0, 22, 42, 42, 180, 0, 9, 5, 42, 180, 0, 15, 104, 4, 96, 184, 0, 19, 181, 0, 9, 42, 180, 0, 9, 42, 180, 0, 15, 27, 79, 42, 89, 180, 0, 15, 4, 96, 181, 0, 15, 177] (by decide +kernel) (by decide +kernel) (by decide +kernel))
theorem so_m172 : so_pr so_mi so_Ts so_Bs so_rows so_strs (some so_i172) (some so_c172) [] := so_pr_I rfl (by decide +kernel) rfl so_s172_0
/-- SequentMill$Row.keep(I)V -/
def so_T173_0 : List Cond := so_pick (k2_sels lw_privs) [] ++ so_pick tables_1 [48]
theorem so_s173_0 : so_al so_mi so_Ts so_Bs so_rows so_strs so_i173 so_c173 0 18 := so_bS (T1 := so_T173_0) (B1 := so_B1) 0 18 so_hW (so_tin _ _ (by decide +kernel)) so_B1_in (so_bZ 0 18 [27, 155, 0, 16, 27, 42, 180, 0, 15, 162, 0, 8, 42, 27, 181, 0, 15, 177] (by decide +kernel) (by decide +kernel) (by decide +kernel))
theorem so_m173 : so_pr so_mi so_Ts so_Bs so_rows so_strs (some so_i173) (some so_c173) [] := so_pr_I rfl (by decide +kernel) rfl so_s173_0
/-- SequentMill$Sequents.<init>(LSequentMill$Store;)V -/
def so_T174_0 : List Cond := so_pick (k2_sels lw_privs) [] ++ so_pick tables_1 [322, 27, 28, 323, 42, 4, 44, 326, 327, 328, 329, 330, 331, 332, 333]
theorem so_s174_0 : so_al so_mi so_Ts so_Bs so_rows so_strs so_i174 so_c174 0 86 := so_bS (T1 := so_T174_0) (B1 := so_B1) 0 86 so_hW (so_tin _ _ (by decide +kernel)) so_B1_in (so_bZ 0 86 [42, 183, 0, 3, 42, 187, 0, 9, 89, 183, 0, 11, 181, 0, 12, 42, 187, 0, 9, 89, 183, 0, 11, 181, 0, 18, 42, 187, 0, 9, 89, 183, 0, 11, 181, 0, 21, 42, 187, 0, 9, 89, 183, 0, 11, 181, 0, 24, 42, 187, 0, 9, 89, 183, 0, 11, 181, 0, 27, 42, 187, 0, 9, 89, 183, 0, 11, 181, 0, 30, 42, 187, 0, 9, 89, 183, 0, 11, 181, 0, 33, 42, 3, 181, 0, 36, 42, 3, 181] (by decide +kernel) (by decide +kernel) (by decide +kernel))
def so_T174_1 : List Cond := so_pick (k2_sels lw_privs) [] ++ so_pick tables_1 [334, 323, 42, 4, 44, 335, 336, 337, 338, 339, 325]
theorem so_s174_1 : so_al so_mi so_Ts so_Bs so_rows so_strs so_i174 so_c174 86 128 := so_bS (T1 := so_T174_1) (B1 := so_B1) 86 42 so_hW (so_tin _ _ (by decide +kernel)) so_B1_in (so_bZ 86 42 [42, 3, 181, 0, 40, 42, 187, 0, 9, 89, 183, 0, 11, 181, 0, 43, 42, 2, 181, 0, 46, 42, 2, 181, 0, 49, 42, 3, 181, 0, 52, 42, 3, 181, 0, 55, 42, 43, 181, 0, 59, 177] (by decide +kernel) (by decide +kernel) (by decide +kernel))
theorem so_m174 : so_pr so_mi so_Ts so_Bs so_rows so_strs (some so_i174) (some so_c174) [] := so_pr_I rfl (by decide +kernel) rfl (so_al_app so_s174_0 so_s174_1)
/-- SequentMill$Sequents.count()I -/
def so_T175_0 : List Cond := so_pick (k2_sels lw_privs) [] ++ so_pick tables_1 [326, 449, 4, 402, 403]
theorem so_s175_0 : so_al so_mi so_Ts so_Bs so_rows so_strs so_i175 so_c175 0 8 := so_bS (T1 := so_T175_0) (B1 := so_B1) 0 8 so_hW (so_tin _ _ (by decide +kernel)) so_B1_in (so_bZ 0 8 [42, 180, 0, 12, 182, 0, 63, 172] (by decide +kernel) (by decide +kernel) (by decide +kernel))
theorem so_m175 : so_pr so_mi so_Ts so_Bs so_rows so_strs (some so_i175) (some so_c175) [] := so_pr_I rfl (by decide +kernel) rfl so_s175_0
/-- SequentMill$Sequents.lasting()I -/
def so_T176_0 : List Cond := so_pick (k2_sels lw_privs) [] ++ so_pick tables_1 [334]
theorem so_s176_0 : so_al so_mi so_Ts so_Bs so_rows so_strs so_i176 so_c176 0 5 := so_bS (T1 := so_T176_0) (B1 := so_B1) 0 5 so_hW (so_tin _ _ (by decide +kernel)) so_B1_in (so_bZ 0 5 [42, 180, 0, 40, 172] (by decide +kernel) (by decide +kernel) (by decide +kernel))
theorem so_m176 : so_pr so_mi so_Ts so_Bs so_rows so_strs (some so_i176) (some so_c176) [] := so_pr_I rfl (by decide +kernel) rfl so_s176_0
/-- SequentMill$Sequents.begin()V -/
def so_T183_0 : List Cond := so_pick (k2_sels lw_privs) [] ++ so_pick tables_1 [335, 887, 4, 566, 567, 336, 337, 338, 888, 12, 446, 447, 339]
theorem so_s183_0 : so_al so_mi so_Ts so_Bs so_rows so_strs so_i183 so_c183 0 43 := so_bS (T1 := so_T183_0) (B1 := so_B1) 0 43 so_hW (so_tin _ _ (by decide +kernel)) so_B1_in (so_bZ 0 43 [42, 180, 0, 43, 3, 182, 0, 71, 42, 2, 181, 0, 46, 42, 2, 181, 0, 49, 42, 3, 181, 0, 52, 42, 42, 182, 0, 75, 17, 3, 232, 161, 0, 7, 4, 167, 0, 4, 3, 181, 0, 55, 177] (by decide +kernel) (by decide +kernel) (by decide +kernel))
theorem so_m183 : so_pr so_mi so_Ts so_Bs so_rows so_strs (some so_i183) (some so_c183) [] := so_pr_I rfl (by decide +kernel) rfl so_s183_0
/-- SequentMill$Sequents.isRefused()Z -/
def so_T184_0 : List Cond := so_pick (k2_sels lw_privs) [] ++ so_pick tables_1 [339]
theorem so_s184_0 : so_al so_mi so_Ts so_Bs so_rows so_strs so_i184 so_c184 0 5 := so_bS (T1 := so_T184_0) (B1 := so_B1) 0 5 so_hW (so_tin _ _ (by decide +kernel)) so_B1_in (so_bZ 0 5 [42, 180, 0, 55, 172] (by decide +kernel) (by decide +kernel) (by decide +kernel))
theorem so_m184 : so_pr so_mi so_Ts so_Bs so_rows so_strs (some so_i184) (some so_c184) [] := so_pr_I rfl (by decide +kernel) rfl so_s184_0
/-- SequentMill$Sequents.countIn(I)V -/
def so_T185_0 : List Cond := so_pick (k2_sels lw_privs) [] ++ so_pick tables_1 [338, 325, 905, 3, 161, 162, 333]
theorem so_s185_0 : so_al so_mi so_Ts so_Bs so_rows so_strs so_i185 so_c185 0 42 := so_bS (T1 := so_T185_0) (B1 := so_B1) 0 42 so_hW (so_tin _ _ (by decide +kernel)) so_B1_in (so_bZ 0 42 [42, 89, 180, 0, 52, 42, 180, 0, 59, 27, 182, 0, 76, 96, 181, 0, 52, 27, 155, 0, 18, 42, 180, 0, 36, 42, 180, 0, 52, 96, 17, 78, 32, 164, 0, 8, 42, 4, 181, 0, 55, 177] (by decide +kernel) (by decide +kernel) (by decide +kernel))
theorem so_m185 : so_pr so_mi so_Ts so_Bs so_rows so_strs (some so_i185) (some so_c185) [] := so_pr_I rfl (by decide +kernel) rfl so_s185_0
/-- SequentMill$Sequents.conclude(I)V -/
def so_T189_0 : List Cond := so_pick (k2_sels lw_privs) [16] ++ so_pick tables_1 [336, 901, 12, 903]
theorem so_s189_0 : so_al so_mi so_Ts so_Bs so_rows so_strs so_i189 so_c189 0 11 := so_bS (T1 := so_T189_0) (B1 := so_B1) 0 11 so_hW (so_tin _ _ (by decide +kernel)) so_B1_in (so_bZ 0 11 [42, 27, 181, 0, 46, 42, 27, 182, 0, 85, 177] (by decide +kernel) (by decide +kernel) (by decide +kernel))
theorem so_m189 : so_pr so_mi so_Ts so_Bs so_rows so_strs (some so_i189) (some so_c189) [] := so_pr_I rfl (by decide +kernel) rfl so_s189_0
/-- SequentMill$Sequents.addDraft(ZLSequentMill$Trace;)I -/
def so_T191_0 : List Cond := so_pick (k2_sels lw_privs) [18] ++ so_pick tables_1 [888, 12, 446, 447, 329, 449, 4, 402, 403, 335, 336, 925, 927, 337, 333, 338]
theorem so_s191_0 : so_al so_mi so_Ts so_Bs so_rows so_strs so_i191 so_c191 0 112 := so_bS (T1 := so_T191_0) (B1 := so_B1) 0 112 so_hW (so_tin _ _ (by decide +kernel)) so_B1_in (so_bZ 0 112 [42, 182, 0, 75, 62, 42, 180, 0, 24, 182, 0, 63, 54, 4, 3, 54, 5, 21, 5, 42, 180, 0, 43, 182, 0, 63, 162, 0, 25, 42, 180, 0, 24, 42, 180, 0, 43, 21, 5, 182, 0, 67, 182, 0, 88, 132, 5, 1, 167, 255, 225, 42, 42, 180, 0, 46, 21, 4, 44, 182, 0, 101, 42, 180, 0, 49, 155, 0, 19, 42, 42, 180, 0, 49, 42, 180, 0, 24, 182, 0, 63, 44, 182, 0, 101, 42, 89, 180, 0, 36, 42, 180, 0, 52, 96, 181, 0, 36, 27, 153, 0, 11, 42, 42, 182, 0, 75, 181, 0, 40, 29, 172] (by decide +kernel) (by decide +kernel) (by decide +kernel))
theorem so_m191 : so_pr so_mi so_Ts so_Bs so_rows so_strs (some so_i191) (some so_c191) [] := so_pr_I rfl (by decide +kernel) rfl so_s191_0
/-- SequentMill$Sequents.addSequent(IILSequentMill$Trace;)V -/
def so_T192_0 : List Cond := so_pick (k2_sels lw_privs) [] ++ so_pick tables_1 [326, 924, 4, 116, 117, 327, 328, 329, 449, 402, 403, 330, 929, 11, 930, 931, 331, 933, 934, 935, 332, 937, 938, 939]
theorem so_s192_0 : so_al so_mi so_Ts so_Bs so_rows so_strs so_i192 so_c192 0 66 := so_bS (T1 := so_T192_0) (B1 := so_B1) 0 66 so_hW (so_tin _ _ (by decide +kernel)) so_B1_in (so_bZ 0 66 [42, 180, 0, 12, 27, 182, 0, 88, 42, 180, 0, 18, 28, 182, 0, 88, 42, 180, 0, 21, 42, 180, 0, 24, 182, 0, 63, 28, 100, 182, 0, 88, 42, 180, 0, 27, 45, 182, 0, 105, 182, 0, 88, 42, 180, 0, 30, 45, 182, 0, 110, 182, 0, 88, 42, 180, 0, 33, 45, 182, 0, 113, 182, 0, 88, 177] (by decide +kernel) (by decide +kernel) (by decide +kernel))
theorem so_m192 : so_pr so_mi so_Ts so_Bs so_rows so_strs (some so_i192) (some so_c192) [] := so_pr_I rfl (by decide +kernel) rfl so_s192_0
/-- SequentMill$Store.<init>(IIII)V -/
def so_T194_0 : List Cond := so_pick (k2_sels lw_privs) [] ++ so_pick tables_1 [40, 27, 28, 54, 62, 63, 64, 65, 66, 67, 68, 69, 70]
theorem so_s194_0 : so_al so_mi so_Ts so_Bs so_rows so_strs so_i194 so_c194 0 79 := so_bS (T1 := so_T194_0) (B1 := so_B1) 0 79 so_hW (so_tin _ _ (by decide +kernel)) so_B1_in (so_bZ 0 79 [42, 183, 0, 3, 42, 16, 64, 188, 10, 181, 0, 9, 42, 16, 64, 188, 10, 181, 0, 15, 42, 16, 64, 188, 10, 181, 0, 18, 42, 16, 64, 188, 10, 181, 0, 21, 42, 16, 64, 188, 10, 181, 0, 24, 42, 16, 64, 188, 10, 181, 0, 27, 42, 16, 64, 188, 10, 181, 0, 30, 42, 16, 64, 188, 10, 181, 0, 33, 42, 16, 64, 188, 10, 181, 0, 36, 42, 16, 64, 188, 10, 181] (by decide +kernel) (by decide +kernel) (by decide +kernel))
def so_T194_1 : List Cond := so_pick (k2_sels lw_privs) [] ++ so_pick tables_1 [54, 71, 41, 42, 4, 44, 72, 73, 74, 75, 58, 59, 60, 61, 55, 5, 56]
theorem so_s194_1 : so_al so_mi so_Ts so_Bs so_rows so_strs so_i194 so_c194 79 147 := so_bS (T1 := so_T194_1) (B1 := so_B1) 79 68 so_hW (so_tin _ _ (by decide +kernel)) so_B1_in (so_bZ 79 68 [188, 10, 181, 0, 39, 42, 187, 0, 42, 89, 183, 0, 44, 181, 0, 45, 42, 3, 181, 0, 49, 42, 3, 181, 0, 53, 42, 3, 181, 0, 56, 42, 27, 181, 0, 59, 42, 28, 181, 0, 62, 42, 29, 181, 0, 65, 42, 4, 21, 4, 16, 15, 126, 120, 188, 10, 181, 0, 68, 42, 180, 0, 68, 2, 184, 0, 71, 177] (by decide +kernel) (by decide +kernel) (by decide +kernel))
theorem so_m194 : so_pr so_mi so_Ts so_Bs so_rows so_strs (some so_i194) (some so_c194) [] := so_pr_I rfl (by decide +kernel) rfl (so_al_app so_s194_0 so_s194_1)

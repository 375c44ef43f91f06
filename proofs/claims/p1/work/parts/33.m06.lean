/-! ===== the methods, 7 ===== -/
/-- SequentMill$Logic.all(II)I -/
def so_T161_0 : List Cond := so_pick (k2_sels lw_privs) [20] ++ so_pick tables_1 [272, 218, 1274, 3, 739, 740, 271, 184, 913, 2, 211, 212, 1260, 8, 812, 813, 909, 10, 911]
theorem so_s161_0 : so_al so_mi so_Ts so_Bs so_rows so_strs so_i161 so_c161 0 42 := so_bS (T1 := so_T161_0) (B1 := so_B1) 0 42 so_hW (so_tin _ _ (by decide +kernel)) so_B1_in (so_bZ 0 42 [42, 180, 0, 15, 180, 0, 88, 27, 182, 0, 92, 62, 42, 42, 180, 0, 9, 29, 42, 180, 0, 9, 180, 0, 33, 182, 0, 39, 27, 42, 180, 0, 15, 29, 28, 182, 0, 85, 182, 0, 29, 172] (by decide +kernel) (by decide +kernel) (by decide +kernel))
theorem so_m161 : so_pr so_mi so_Ts so_Bs so_rows so_strs (some so_i161) (some so_c161) [] := so_pr_I rfl (by decide +kernel) rfl so_s161_0
/-- SequentMill$Logic.some(I)I -/
def so_T162_0 : List Cond := so_pick (k2_sels lw_privs) [33] ++ so_pick tables_1 [272, 271, 184, 218, 1274, 3, 739, 740, 1248, 10, 1250, 915, 8, 767, 768]
theorem so_s162_0 : so_al so_mi so_Ts so_Bs so_rows so_strs so_i162 so_c162 0 32 := so_bS (T1 := so_T162_0) (B1 := so_B1) 0 32 so_hW (so_tin _ _ (by decide +kernel)) so_B1_in (so_bZ 0 32 [42, 180, 0, 15, 42, 180, 0, 9, 180, 0, 33, 27, 42, 42, 180, 0, 15, 180, 0, 88, 27, 182, 0, 92, 27, 182, 0, 63, 182, 0, 46, 172] (by decide +kernel) (by decide +kernel) (by decide +kernel))
theorem so_m162 : so_pr so_mi so_Ts so_Bs so_rows so_strs (some so_i162) (some so_c162) [] := so_pr_I rfl (by decide +kernel) rfl so_s162_0
/-- SequentMill$Rewriting.<init>(LSequentMill$Types;LSequentMill$Terms;)V -/
def so_T163_0 : List Cond := so_pick (k2_sels lw_privs) [] ++ so_pick tables_1 [236, 27, 28, 239, 240, 241, 242, 243, 244, 245, 237, 238]
theorem so_s163_0 : so_al so_mi so_Ts so_Bs so_rows so_strs so_i163 so_c163 0 50 := so_bS (T1 := so_T163_0) (B1 := so_B1) 0 50 so_hW (so_tin _ _ (by decide +kernel)) so_B1_in (so_bZ 0 50 [42, 183, 0, 3, 42, 3, 181, 0, 11, 42, 2, 181, 0, 15, 42, 2, 181, 0, 18, 42, 2, 181, 0, 21, 42, 2, 181, 0, 24, 42, 2, 181, 0, 27, 42, 2, 181, 0, 30, 42, 43, 181, 0, 33, 42, 44, 181, 0, 37, 177] (by decide +kernel) (by decide +kernel) (by decide +kernel))
theorem so_m163 : so_pr so_mi so_Ts so_Bs so_rows so_strs (some so_i163) (some so_c163) [] := so_pr_I rfl (by decide +kernel) rfl so_s163_0
/-- SequentMill$Rewriting.start(III)V -/
def so_T164_0 : List Cond := so_pick (k2_sels lw_privs) [] ++ so_pick tables_1 [239, 240, 241, 238, 217, 790, 3, 689, 690]
theorem so_s164_0 : so_al so_mi so_Ts so_Bs so_rows so_strs so_i164 so_c164 0 26 := so_bS (T1 := so_T164_0) (B1 := so_B1) 0 26 so_hW (so_tin _ _ (by decide +kernel)) so_B1_in (so_bZ 0 26 [42, 27, 181, 0, 11, 42, 28, 181, 0, 15, 42, 29, 181, 0, 18, 42, 180, 0, 37, 180, 0, 41, 182, 0, 47, 177] (by decide +kernel) (by decide +kernel) (by decide +kernel))
theorem so_m164 : so_pr so_mi so_Ts so_Bs so_rows so_strs (some so_i164) (some so_c164) [] := so_pr_I rfl (by decide +kernel) rfl so_s164_0
/-- SequentMill$Rewriting.bound(II)I -/
def so_T167_0 : List Cond := so_pick (k2_sels lw_privs) [12, 13] ++ so_pick tables_1 [786, 9, 788, 238, 217, 791, 3, 739, 740, 792, 794, 811, 8, 812, 813]
theorem so_s167_0 : so_al so_mi so_Ts so_Bs so_rows so_strs so_i167 so_c167 0 43 := so_bS (T1 := so_T167_0) (B1 := so_B1) 0 43 so_hW (so_tin _ _ (by decide +kernel)) so_B1_in (so_bZ 0 43 [27, 155, 0, 7, 28, 156, 0, 5, 2, 172, 42, 4, 27, 2, 182, 0, 52, 42, 180, 0, 37, 42, 180, 0, 37, 180, 0, 41, 27, 182, 0, 59, 42, 28, 3, 3, 182, 0, 63, 182, 0, 67, 172] (by decide +kernel) (by decide +kernel) (by decide +kernel))
theorem so_m167 : so_pr so_mi so_Ts so_Bs so_rows so_strs (some so_i167) (some so_c167) [] := so_pr_I rfl (by decide +kernel) rfl so_s167_0
/-- SequentMill$Rewriting.changedAt(III)I -/
def so_T169_0 : List Cond := so_pick (k2_sels lw_privs) [14, 15] ++ so_pick tables_1 [238, 217, 796, 3, 706, 707, 791, 739, 740, 797, 9, 799, 807, 809, 801, 698, 699]
theorem so_s169_0 : so_al so_mi so_Ts so_Bs so_rows so_strs so_i169 so_c169 0 80 := so_bS (T1 := so_T169_0) (B1 := so_B1) 0 80 so_hW (so_tin _ _ (by decide +kernel)) so_B1_in (so_bZ 0 80 [42, 180, 0, 37, 180, 0, 41, 27, 182, 0, 80, 54, 4, 42, 42, 180, 0, 37, 180, 0, 41, 27, 182, 0, 59, 3, 182, 0, 83, 54, 5, 21, 4, 155, 0, 14, 42, 27, 21, 4, 21, 5, 28, 182, 0, 86, 172, 42, 180, 0, 37, 180, 0, 41, 27, 28, 182, 0, 90, 54, 6, 21, 6, 155, 0, 6, 21, 6, 172, 29, 16, 120, 161, 0, 5, 2, 172, 2, 54, 7, 21, 4, 16] (by decide +kernel) (by decide +kernel) (by decide +kernel))
def so_T169_1 : List Cond := so_pick (k2_sels lw_privs) [13] ++ so_pick tables_1 [238, 217, 803, 3, 710, 711, 792, 9, 794, 811, 8, 812, 813]
theorem so_s169_1 : so_al so_mi so_Ts so_Bs so_rows so_strs so_i169 so_c169 80 160 := so_bS (T1 := so_T169_1) (B1 := so_B1) 80 80 so_hW (so_tin _ _ (by decide +kernel)) so_B1_in (so_bZ 80 80 [21, 4, 16, 254, 160, 0, 38, 42, 180, 0, 37, 21, 5, 42, 42, 180, 0, 37, 180, 0, 41, 27, 182, 0, 77, 28, 4, 96, 29, 4, 96, 182, 0, 63, 182, 0, 67, 54, 7, 167, 0, 69, 42, 42, 180, 0, 37, 180, 0, 41, 27, 182, 0, 77, 28, 29, 4, 96, 182, 0, 63, 54, 8, 21, 8, 156, 0, 7, 2, 167, 0, 22, 42, 42, 180, 0, 37, 180, 0, 41, 27, 182, 0] (by decide +kernel) (by decide +kernel) (by decide +kernel))
def so_T169_2 : List Cond := so_pick (k2_sels lw_privs) [13] ++ so_pick tables_1 [804, 3, 714, 715, 792, 9, 794, 238, 822, 8, 767, 768, 217, 806, 702, 703]
theorem so_s169_2 : so_al so_mi so_Ts so_Bs so_rows so_strs so_i169 so_c169 160 210 := so_bS (T1 := so_T169_2) (B1 := so_B1) 160 50 so_hW (so_tin _ _ (by decide +kernel)) so_B1_in (so_bZ 160 50 [27, 182, 0, 71, 28, 29, 4, 96, 182, 0, 63, 54, 9, 42, 180, 0, 37, 21, 5, 21, 8, 21, 9, 182, 0, 93, 54, 7, 21, 7, 155, 0, 17, 42, 180, 0, 37, 180, 0, 41, 27, 28, 21, 7, 182, 0, 96, 21, 7, 172] (by decide +kernel) (by decide +kernel) (by decide +kernel))
theorem so_m169 : so_pr so_mi so_Ts so_Bs so_rows so_strs (some so_i169) (some so_c169) [] := so_pr_I rfl (by decide +kernel) rfl (so_al_app (so_al_app so_s169_0 so_s169_1) so_s169_2)
/-- SequentMill$Rewriting.changedLeaf(IIII)I -/
def so_T170_0 : List Cond := so_pick (k2_sels lw_privs) [] ++ so_pick tables_1 [239, 240, 238, 217, 805, 3, 148, 149]
theorem so_s170_0 : so_al so_mi so_Ts so_Bs so_rows so_strs so_i170 so_c170 0 92 := so_bS (T1 := so_T170_0) (B1 := so_B1) 0 92 so_hW (so_tin _ _ (by decide +kernel)) so_B1_in (so_bZ 0 92 [42, 180, 0, 11, 6, 160, 0, 18, 42, 180, 0, 37, 180, 0, 41, 28, 2, 2, 29, 182, 0, 99, 172, 42, 180, 0, 11, 5, 160, 0, 22, 28, 7, 21, 4, 104, 3, 96, 160, 0, 10, 42, 180, 0, 15, 167, 0, 4, 27, 172, 27, 42, 180, 0, 15, 159, 0, 5, 27, 172, 42, 180, 0, 11, 154, 0, 8, 42, 180, 0, 18, 172, 42, 180, 0, 37, 180, 0, 41, 7, 21, 4, 104, 3, 96, 2, 2, 29, 182, 0, 99, 172] (by decide +kernel) (by decide +kernel) (by decide +kernel))
theorem so_m170 : so_pr so_mi so_Ts so_Bs so_rows so_strs (some so_i170) (some so_c170) [] := so_pr_I rfl (by decide +kernel) rfl so_s170_0
/-- SequentMill$Rewriting.changedType(II)I -/
def so_T171_0 : List Cond := so_pick (k2_sels lw_privs) [] ++ so_pick tables_1 [239]
theorem so_s171_0 : so_al so_mi so_Ts so_Bs so_rows so_strs so_i171 so_c171 0 10 := so_bS (T1 := so_T171_0) (B1 := so_B1) 0 10 so_hW (so_tin _ _ (by decide +kernel)) so_B1_in (so_bZ 0 10 [42, 180, 0, 11, 6, 159, 0, 5, 27, 172, 42, 180, 0] (by decide +kernel) (by decide +kernel) (by decide +kernel))
theorem so_m171 : so_pr so_mi so_Ts so_Bs so_rows so_strs (some so_i171) (some so_c171) [] := so_pr_I rfl (by decide +kernel) rfl so_s171_0
/-- SequentMill$Row.<init>()V -/
def so_T172_0 : List Cond := so_pick (k2_sels lw_privs) [] ++ so_pick tables_1 [46, 27, 28, 54, 47, 48]
theorem so_s172_0 : so_al so_mi so_Ts so_Bs so_rows so_strs so_i172 so_c172 0 18 := so_bS (T1 := so_T172_0) (B1 := so_B1) 0 18 so_hW (so_tin _ _ (by decide +kernel)) so_B1_in (so_bZ 0 18 [42, 183, 0, 3, 42, 16, 32, 188, 10, 181, 0, 9, 42, 3, 181, 0, 15, 177] (by decide +kernel) (by decide +kernel) (by decide +kernel))
theorem so_m172 : so_pr so_mi so_Ts so_Bs so_rows so_strs (some so_i172) (some so_c172) [] := so_pr_I rfl (by decide +kernel) rfl so_s172_0
/-- SequentMill$Row.count()I -/
def so_T173_0 : List Cond := so_pick (k2_sels lw_privs) [] ++ so_pick tables_1 [48]
theorem so_s173_0 : so_al so_mi so_Ts so_Bs so_rows so_strs so_i173 so_c173 0 5 := so_bS (T1 := so_T173_0) (B1 := so_B1) 0 5 so_hW (so_tin _ _ (by decide +kernel)) so_B1_in (so_bZ 0 5 [42, 180, 0, 15, 172] (by decide +kernel) (by decide +kernel) (by decide +kernel))
theorem so_m173 : so_pr so_mi so_Ts so_Bs so_rows so_strs (some so_i173) (some so_c173) [] := so_pr_I rfl (by decide +kernel) rfl so_s173_0
/-- SequentMill$Row.at(I)I -/
def so_T174_0 : List Cond := so_pick (k2_sels lw_privs) [] ++ so_pick tables_1 [48, 47]
theorem so_s174_0 : so_al so_mi so_Ts so_Bs so_rows so_strs so_i174 so_c174 0 23 := so_bS (T1 := so_T174_0) (B1 := so_B1) 0 23 so_hW (so_tin _ _ (by decide +kernel)) so_B1_in (so_bZ 0 23 [27, 155, 0, 20, 27, 42, 180, 0, 15, 162, 0, 12, 42, 180, 0, 9, 27, 46, 167, 0, 4, 2, 172] (by decide +kernel) (by decide +kernel) (by decide +kernel))
theorem so_m174 : so_pr so_mi so_Ts so_Bs so_rows so_strs (some so_i174) (some so_c174) [] := so_pr_I rfl (by decide +kernel) rfl so_s174_0
/-- SequentMill$Row.add(I)V -/
def so_T175_0 : List Cond := so_pick (k2_sels lw_privs) [] ++ so_pick tables_1 [48, 47]
theorem so_s175_0 : so_al so_mi so_Ts so_Bs so_rows so_strs so_i175 so_c175 0 52 := so_bS (T1 := so_T175_0) (B1 := so_B1) 0 52 so_hW (so_tin _ _ (by decide +kernel)) so_B1_in (so_bZ 0 52 [42, 180, 0, 15, 42, 180, 0, 9, 190, 161, 0, 22, 42, 42, 180, 0, 9, 5, 42, 180, 0, 15, 104, 4, 96, 184, 0, 19, 181, 0, 9, 42, 180, 0, 9, 42, 180, 0, 15, 27, 79, 42, 89, 180, 0, 15, 4, 96, 181, 0, 15, 177] (by decide +kernel) (by decide +kernel) (by decide +kernel))
theorem so_m175 : so_pr so_mi so_Ts so_Bs so_rows so_strs (some so_i175) (some so_c175) [] := so_pr_I rfl (by decide +kernel) rfl so_s175_0
/-- SequentMill$Row.keep(I)V -/
def so_T176_0 : List Cond := so_pick (k2_sels lw_privs) [] ++ so_pick tables_1 [48]
theorem so_s176_0 : so_al so_mi so_Ts so_Bs so_rows so_strs so_i176 so_c176 0 18 := so_bS (T1 := so_T176_0) (B1 := so_B1) 0 18 so_hW (so_tin _ _ (by decide +kernel)) so_B1_in (so_bZ 0 18 [27, 155, 0, 16, 27, 42, 180, 0, 15, 162, 0, 8, 42, 27, 181, 0, 15, 177] (by decide +kernel) (by decide +kernel) (by decide +kernel))
theorem so_m176 : so_pr so_mi so_Ts so_Bs so_rows so_strs (some so_i176) (some so_c176) [] := so_pr_I rfl (by decide +kernel) rfl so_s176_0
/-- SequentMill$Sequents.<init>(LSequentMill$Store;)V -/
def so_T177_0 : List Cond := so_pick (k2_sels lw_privs) [] ++ so_pick tables_1 [322, 27, 28, 323, 42, 4, 44, 326, 327, 328, 329, 330, 331, 332, 333]
theorem so_s177_0 : so_al so_mi so_Ts so_Bs so_rows so_strs so_i177 so_c177 0 86 := so_bS (T1 := so_T177_0) (B1 := so_B1) 0 86 so_hW (so_tin _ _ (by decide +kernel)) so_B1_in (so_bZ 0 86 [42, 183, 0, 3, 42, 187, 0, 9, 89, 183, 0, 11, 181, 0, 12, 42, 187, 0, 9, 89, 183, 0, 11, 181, 0, 18, 42, 187, 0, 9, 89, 183, 0, 11, 181, 0, 21, 42, 187, 0, 9, 89, 183, 0, 11, 181, 0, 24, 42, 187, 0, 9, 89, 183, 0, 11, 181, 0, 27, 42, 187, 0, 9, 89, 183, 0, 11, 181, 0, 30, 42, 187, 0, 9, 89, 183, 0, 11, 181, 0, 33, 42, 3, 181, 0, 36, 42, 3, 181] (by decide +kernel) (by decide +kernel) (by decide +kernel))
def so_T177_1 : List Cond := so_pick (k2_sels lw_privs) [] ++ so_pick tables_1 [334, 323, 42, 4, 44, 335, 336, 337, 338, 339, 325]
theorem so_s177_1 : so_al so_mi so_Ts so_Bs so_rows so_strs so_i177 so_c177 86 128 := so_bS (T1 := so_T177_1) (B1 := so_B1) 86 42 so_hW (so_tin _ _ (by decide +kernel)) so_B1_in (so_bZ 86 42 [42, 3, 181, 0, 40, 42, 187, 0, 9, 89, 183, 0, 11, 181, 0, 43, 42, 2, 181, 0, 46, 42, 2, 181, 0, 49, 42, 3, 181, 0, 52, 42, 3, 181, 0, 55, 42, 43, 181, 0, 59, 177] (by decide +kernel) (by decide +kernel) (by decide +kernel))
theorem so_m177 : so_pr so_mi so_Ts so_Bs so_rows so_strs (some so_i177) (some so_c177) [] := so_pr_I rfl (by decide +kernel) rfl (so_al_app so_s177_0 so_s177_1)
/-- SequentMill$Sequents.count()I -/
def so_T178_0 : List Cond := so_pick (k2_sels lw_privs) [] ++ so_pick tables_1 [326, 449, 4, 402, 403]
theorem so_s178_0 : so_al so_mi so_Ts so_Bs so_rows so_strs so_i178 so_c178 0 8 := so_bS (T1 := so_T178_0) (B1 := so_B1) 0 8 so_hW (so_tin _ _ (by decide +kernel)) so_B1_in (so_bZ 0 8 [42, 180, 0, 12, 182, 0, 63, 172] (by decide +kernel) (by decide +kernel) (by decide +kernel))
theorem so_m178 : so_pr so_mi so_Ts so_Bs so_rows so_strs (some so_i178) (some so_c178) [] := so_pr_I rfl (by decide +kernel) rfl so_s178_0
/-- SequentMill$Sequents.lasting()I -/
def so_T179_0 : List Cond := so_pick (k2_sels lw_privs) [] ++ so_pick tables_1 [334]
theorem so_s179_0 : so_al so_mi so_Ts so_Bs so_rows so_strs so_i179 so_c179 0 5 := so_bS (T1 := so_T179_0) (B1 := so_B1) 0 5 so_hW (so_tin _ _ (by decide +kernel)) so_B1_in (so_bZ 0 5 [42, 180, 0, 40, 172] (by decide +kernel) (by decide +kernel) (by decide +kernel))
theorem so_m179 : so_pr so_mi so_Ts so_Bs so_rows so_strs (some so_i179) (some so_c179) [] := so_pr_I rfl (by decide +kernel) rfl so_s179_0
/-- SequentMill$Sequents.begin()V -/
def so_T186_0 : List Cond := so_pick (k2_sels lw_privs) [] ++ so_pick tables_1 [335, 902, 4, 566, 567, 336, 337, 338, 903, 12, 446, 447, 339]
theorem so_s186_0 : so_al so_mi so_Ts so_Bs so_rows so_strs so_i186 so_c186 0 43 := so_bS (T1 := so_T186_0) (B1 := so_B1) 0 43 so_hW (so_tin _ _ (by decide +kernel)) so_B1_in (so_bZ 0 43 [42, 180, 0, 43, 3, 182, 0, 71, 42, 2, 181, 0, 46, 42, 2, 181, 0, 49, 42, 3, 181, 0, 52, 42, 42, 182, 0, 75, 17, 3, 232, 161, 0, 7, 4, 167, 0, 4, 3, 181, 0, 55, 177] (by decide +kernel) (by decide +kernel) (by decide +kernel))
theorem so_m186 : so_pr so_mi so_Ts so_Bs so_rows so_strs (some so_i186) (some so_c186) [] := so_pr_I rfl (by decide +kernel) rfl so_s186_0
/-- SequentMill$Sequents.isRefused()Z -/
def so_T187_0 : List Cond := so_pick (k2_sels lw_privs) [] ++ so_pick tables_1 [339]
theorem so_s187_0 : so_al so_mi so_Ts so_Bs so_rows so_strs so_i187 so_c187 0 5 := so_bS (T1 := so_T187_0) (B1 := so_B1) 0 5 so_hW (so_tin _ _ (by decide +kernel)) so_B1_in (so_bZ 0 5 [42, 180, 0, 55, 172] (by decide +kernel) (by decide +kernel) (by decide +kernel))
theorem so_m187 : so_pr so_mi so_Ts so_Bs so_rows so_strs (some so_i187) (some so_c187) [] := so_pr_I rfl (by decide +kernel) rfl so_s187_0
/-- SequentMill$Sequents.countIn(I)V -/
def so_T188_0 : List Cond := so_pick (k2_sels lw_privs) [] ++ so_pick tables_1 [338, 325, 924, 3, 161, 162, 333]
theorem so_s188_0 : so_al so_mi so_Ts so_Bs so_rows so_strs so_i188 so_c188 0 42 := so_bS (T1 := so_T188_0) (B1 := so_B1) 0 42 so_hW (so_tin _ _ (by decide +kernel)) so_B1_in (so_bZ 0 42 [42, 89, 180, 0, 52, 42, 180, 0, 59, 27, 182, 0, 76, 96, 181, 0, 52, 27, 155, 0, 18, 42, 180, 0, 36, 42, 180, 0, 52, 96, 17, 78, 32, 164, 0, 8, 42, 4, 181, 0, 55, 177] (by decide +kernel) (by decide +kernel) (by decide +kernel))
theorem so_m188 : so_pr so_mi so_Ts so_Bs so_rows so_strs (some so_i188) (some so_c188) [] := so_pr_I rfl (by decide +kernel) rfl so_s188_0
/-- SequentMill$Sequents.conclude(I)V -/
def so_T192_0 : List Cond := so_pick (k2_sels lw_privs) [21] ++ so_pick tables_1 [336, 920, 12, 922]
theorem so_s192_0 : so_al so_mi so_Ts so_Bs so_rows so_strs so_i192 so_c192 0 11 := so_bS (T1 := so_T192_0) (B1 := so_B1) 0 11 so_hW (so_tin _ _ (by decide +kernel)) so_B1_in (so_bZ 0 11 [42, 27, 181, 0, 46, 42, 27, 182, 0, 85, 177] (by decide +kernel) (by decide +kernel) (by decide +kernel))
theorem so_m192 : so_pr so_mi so_Ts so_Bs so_rows so_strs (some so_i192) (some so_c192) [] := so_pr_I rfl (by decide +kernel) rfl so_s192_0
/-- SequentMill$Sequents.addDraft(ZLSequentMill$Trace;)I -/
def so_T194_0 : List Cond := so_pick (k2_sels lw_privs) [23] ++ so_pick tables_1 [903, 12, 446, 447, 329, 449, 4, 402, 403, 335, 336, 944, 946, 337, 333, 338]
theorem so_s194_0 : so_al so_mi so_Ts so_Bs so_rows so_strs so_i194 so_c194 0 112 := so_bS (T1 := so_T194_0) (B1 := so_B1) 0 112 so_hW (so_tin _ _ (by decide +kernel)) so_B1_in (so_bZ 0 112 [42, 182, 0, 75, 62, 42, 180, 0, 24, 182, 0, 63, 54, 4, 3, 54, 5, 21, 5, 42, 180, 0, 43, 182, 0, 63, 162, 0, 25, 42, 180, 0, 24, 42, 180, 0, 43, 21, 5, 182, 0, 67, 182, 0, 88, 132, 5, 1, 167, 255, 225, 42, 42, 180, 0, 46, 21, 4, 44, 182, 0, 101, 42, 180, 0, 49, 155, 0, 19, 42, 42, 180, 0, 49, 42, 180, 0, 24, 182, 0, 63, 44, 182, 0, 101, 42, 89, 180, 0, 36, 42, 180, 0, 52, 96, 181, 0, 36, 27, 153, 0, 11, 42, 42, 182, 0, 75, 181, 0, 40, 29, 172] (by decide +kernel) (by decide +kernel) (by decide +kernel))
theorem so_m194 : so_pr so_mi so_Ts so_Bs so_rows so_strs (some so_i194) (some so_c194) [] := so_pr_I rfl (by decide +kernel) rfl so_s194_0

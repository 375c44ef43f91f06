/-! ===== the methods, 11 ===== -/
/-- java/util/Arrays.copyOf([II)[I -/
def so_T309_0 : List Cond := so_pick (k2_sels lw_privs) [] ++ so_pick tables_1 [54, 129, 130, 6, 131, 132, 134, 133, 7]
theorem so_s309_0 : so_al so_mi so_Ts so_Bs so_rows so_strs so_i309 so_c309 0 33 := so_bS (T1 := so_T309_0) (B1 := so_B1) 0 33 so_hW (so_tin _ _ (by decide +kernel)) so_B1_in (so_bZ 0 33 [27, 42, 190, 160, 0, 11, 42, 182, 1, 60, 192, 1, 61, 176, 27, 188, 10, 77, 42, 3, 44, 3, 42, 190, 27, 184, 1, 48, 184, 0, 150, 44, 176] (by decide +kernel) (by decide +kernel) (by decide +kernel))
theorem so_m309 : so_pr so_mi so_Ts so_Bs so_rows so_strs (some so_i309) (some so_c309) [] := so_pr_I rfl (by decide +kernel) rfl so_s309_0

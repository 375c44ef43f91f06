/-! ===== one call: what is known, how it ends ===== -/
section SMV2
def so_LV : so_L := [(0, 1), (1, 5), (2, 273), (3, 397), (4, 0)]
def so_ST : List Nat := [1, 0]
abbrev so_hC : so_H := so_hc5
def so_fb (kv v1 : Nat) : so_Q := [(27, 0, 0, 24), (8, 0, 0, 17179869184), (35, 17179869184, 124, kv), (8, 4, 0, v1), (8, 8, 0, 17179869192), (8, 12, 0, 17179869196), (8, 16, 0, 17179869200), (8, 20, 0, 17179869204)]
noncomputable def so_fg (fs : so_Q) (n : Nat) : so_T := so_go (so_opsT fs) so_code so_tab so_zf n 306 so_c306 26 so_LV so_ST [] so_hC 99 379187
theorem so_ln0 : so_fin (so_fg ([(27, 0, 0, 0)]) 8) = true := by decide +kernel
theorem so_ln1 : so_fin (so_fg ([(27, 0, 0, 4)]) 8) = true := by decide +kernel
theorem so_ln2 : so_fin (so_fg ([(27, 0, 0, 8)]) 8) = true := by decide +kernel
theorem so_ln3 : so_fin (so_fg ([(27, 0, 0, 12)]) 8) = true := by decide +kernel
theorem so_ln4 : so_fin (so_fg ([(27, 0, 0, 16)]) 8) = true := by decide +kernel
theorem so_ln5 : so_fin (so_fg ([(27, 0, 0, 20)]) 8) = true := by decide +kernel
theorem so_l2_1 : so_fin (so_fg ((102, 17179869192, 0, 1) :: so_fb 8 17179869188) 111) = true := by decide +kernel
theorem so_l2_0 : so_fin (so_fg ((102, 17179869192, 0, 0) :: (103, 17179869192, 0, 1) :: so_fb 8 17179869188) 111) = true := by decide +kernel
theorem so_l3_1 : so_fin (so_fg ((102, 17179869192, 0, 1) :: so_fb 12 17179869188) 114) = true := by decide +kernel
theorem so_l3_0 : so_fin (so_fg ((102, 17179869192, 0, 0) :: (103, 17179869192, 0, 1) :: so_fb 12 17179869188) 114) = true := by decide +kernel
theorem so_l4_1 : so_fin (so_fg ((102, 17179869188, 0, 1) :: so_fb 16 17179869188) 120) = true := by decide +kernel
theorem so_l4_0 : so_fin (so_fg ((102, 17179869188, 0, 0) :: (103, 17179869188, 0, 1) :: so_fb 16 17179869188) 120) = true := by decide +kernel
theorem so_l5_1 : so_fin (so_fg ((102, 17179869188, 0, 1) :: so_fb 20 17179869188) 120) = true := by decide +kernel
theorem so_l5_0 : so_fin (so_fg ((102, 17179869188, 0, 0) :: (103, 17179869188, 0, 1) :: so_fb 20 17179869188) 120) = true := by decide +kernel
theorem so_l6_1 : so_fin (so_fg ((102, 17179869188, 0, 1) :: so_fb 24 17179869188) 109) = true := by decide +kernel
theorem so_l6_0 : so_fin (so_fg ((102, 17179869188, 0, 0) :: (103, 17179869188, 0, 1) :: so_fb 24 17179869188) 109) = true := by decide +kernel
theorem so_l7_1 : so_fin (so_fg ((102, 17179869188, 0, 1) :: so_fb 28 17179869188) 118) = true := by decide +kernel
theorem so_l7_0 : so_fin (so_fg ((102, 17179869188, 0, 0) :: (103, 17179869188, 0, 1) :: so_fb 28 17179869188) 118) = true := by decide +kernel
theorem so_l8_1 : so_fin (so_fg ((102, 17179869188, 0, 1) :: so_fb 32 17179869188) 116) = true := by decide +kernel
theorem so_l8_0 : so_fin (so_fg ((102, 17179869188, 0, 0) :: (103, 17179869188, 0, 1) :: so_fb 32 17179869188) 116) = true := by decide +kernel
theorem so_l9_1 : so_fin (so_fg ((102, 17179869188, 0, 1) :: so_fb 36 17179869188) 105) = true := by decide +kernel
theorem so_l9_0 : so_fin (so_fg ((102, 17179869188, 0, 0) :: (103, 17179869188, 0, 1) :: so_fb 36 17179869188) 105) = true := by decide +kernel
theorem so_l10_1 : so_fin (so_fg ((102, 17179869188, 0, 1) :: so_fb 40 17179869188) 117) = true := by decide +kernel
theorem so_l10_0 : so_fin (so_fg ((102, 17179869188, 0, 0) :: (103, 17179869188, 0, 1) :: so_fb 40 17179869188) 117) = true := by decide +kernel
theorem so_l11_1 : so_fin (so_fg ((102, 17179869188, 0, 1) :: so_fb 44 17179869188) 117) = true := by decide +kernel
theorem so_l11_0 : so_fin (so_fg ((102, 17179869188, 0, 0) :: (103, 17179869188, 0, 1) :: so_fb 44 17179869188) 117) = true := by decide +kernel
theorem so_l12_1 : so_fin (so_fg ((102, 17179869188, 0, 1) :: so_fb 48 17179869188) 117) = true := by decide +kernel
theorem so_l12_0 : so_fin (so_fg ((102, 17179869188, 0, 0) :: (103, 17179869188, 0, 1) :: so_fb 48 17179869188) 117) = true := by decide +kernel
theorem so_l13_1 : so_fin (so_fg ((102, 17179869188, 0, 1) :: so_fb 52 17179869188) 105) = true := by decide +kernel
theorem so_l13_0 : so_fin (so_fg ((102, 17179869188, 0, 0) :: (103, 17179869188, 0, 1) :: so_fb 52 17179869188) 105) = true := by decide +kernel
theorem so_l14_1 : so_fin (so_fg ((102, 17179869188, 0, 1) :: so_fb 56 17179869188) 106) = true := by decide +kernel
theorem so_l14_0 : so_fin (so_fg ((102, 17179869188, 0, 0) :: (103, 17179869188, 0, 1) :: so_fb 56 17179869188) 106) = true := by decide +kernel
theorem so_l15_1 : so_fin (so_fg ((102, 17179869188, 0, 1) :: so_fb 60 17179869188) 117) = true := by decide +kernel
theorem so_l15_0 : so_fin (so_fg ((102, 17179869188, 0, 0) :: (103, 17179869188, 0, 1) :: so_fb 60 17179869188) 117) = true := by decide +kernel
theorem so_l16_1 : so_fin (so_fg ((102, 17179869188, 0, 1) :: so_fb 64 17179869188) 117) = true := by decide +kernel
theorem so_l16_0 : so_fin (so_fg ((102, 17179869188, 0, 0) :: (103, 17179869188, 0, 1) :: so_fb 64 17179869188) 117) = true := by decide +kernel
theorem so_l17_1 : so_fin (so_fg ((102, 17179869188, 0, 1) :: so_fb 68 17179869188) 125) = true := by decide +kernel
theorem so_l17_0 : so_fin (so_fg ((102, 17179869188, 0, 0) :: (103, 17179869188, 0, 1) :: so_fb 68 17179869188) 125) = true := by decide +kernel
theorem so_l18_1 : so_fin (so_fg ((102, 17179869188, 0, 1) :: so_fb 72 17179869188) 147) = true := by decide +kernel
theorem so_l18_0 : so_fin (so_fg ((102, 17179869188, 0, 0) :: (103, 17179869188, 0, 1) :: so_fb 72 17179869188) 147) = true := by decide +kernel
theorem so_l19_1 : so_fin (so_fg ((102, 17179869188, 0, 1) :: so_fb 76 17179869188) 105) = true := by decide +kernel
theorem so_l19_0 : so_fin (so_fg ((102, 17179869188, 0, 0) :: (103, 17179869188, 0, 1) :: so_fb 76 17179869188) 105) = true := by decide +kernel
theorem so_l20_1 : so_fin (so_fg ((102, 17179869188, 0, 1) :: so_fb 80 17179869188) 105) = true := by decide +kernel
theorem so_l20_0 : so_fin (so_fg ((102, 17179869188, 0, 0) :: (103, 17179869188, 0, 1) :: so_fb 80 17179869188) 105) = true := by decide +kernel
theorem so_l22_1 : so_fin (so_fg ((102, 17179869188, 0, 1) :: so_fb 88 17179869188) 107) = true := by decide +kernel
theorem so_l22_0 : so_fin (so_fg ((102, 17179869188, 0, 0) :: (103, 17179869188, 0, 1) :: so_fb 88 17179869188) 107) = true := by decide +kernel
theorem so_l23_1 : so_fin (so_fg ((102, 17179869188, 0, 1) :: so_fb 92 17179869188) 103) = true := by decide +kernel
theorem so_l23_0 : so_fin (so_fg ((102, 17179869188, 0, 0) :: (103, 17179869188, 0, 1) :: so_fb 92 17179869188) 103) = true := by decide +kernel
theorem so_l24_1 : so_fin (so_fg ((102, 17179869188, 0, 1) :: so_fb 96 17179869188) 115) = true := by decide +kernel
theorem so_l24_0 : so_fin (so_fg ((102, 17179869188, 0, 0) :: (103, 17179869188, 0, 1) :: so_fb 96 17179869188) 115) = true := by decide +kernel
theorem so_l25 : so_fin (so_fg (so_fb 100 17179869188) 44) = true := by decide +kernel
theorem so_l27 : so_fin (so_fg (so_fb 108 17179869188) 44) = true := by decide +kernel
theorem so_l28_1 : so_fin (so_fg ((102, 17179869188, 0, 1) :: so_fb 112 17179869188) 95) = true := by decide +kernel
theorem so_l28_0 : so_fin (so_fg ((102, 17179869188, 0, 0) :: (103, 17179869188, 0, 1) :: so_fb 112 17179869188) 95) = true := by decide +kernel
theorem so_l29 : so_fin (so_fg (so_fb 116 17179869188) 22) = true := by decide +kernel
theorem so_l30 : so_fin (so_fg (so_fb 120 17179869188) 22) = true := by decide +kernel
theorem so_l31 : so_fin (so_fg (so_fb 124 17179869188) 22) = true := by decide +kernel
theorem so_l26_1 : so_fin (so_fg ((102, 17179869188, 0, 1) :: (103, 17179869188, 0, 0) :: so_fb 104 17179869188) 107) = true := by decide +kernel
theorem so_l26_2 : so_fin (so_fg ((102, 17179869188, 0, 0) :: (103, 17179869188, 0, 1) :: (105, 17179869188, 0, 1) :: (101, 17179869188, 0, 0) :: so_fb 104 17179869188) 107) = true := by decide +kernel
theorem so_l26_3 : so_fin (so_fg ((102, 17179869188, 0, 0) :: (103, 17179869188, 0, 1) :: (105, 17179869188, 0, 0) :: so_fb 104 17179869188) 107) = true := by decide +kernel
theorem so_l1_1 : so_fin (so_fg ((102, 17179869188, 0, 1) :: so_fb 4 17179869188) 130) = true := by decide +kernel
theorem so_l1_2 : so_fin (so_fg ((102, 17179869188, 0, 0) :: (103, 17179869188, 12, 1) :: (102, 17179869188, 12, 0) :: so_fb 4 17179869188) 130) = true := by decide +kernel
theorem so_l1_a : so_fin (so_fg (so_fb 4 0) 900) = true := by decide +kernel
theorem so_l1_b : so_fin (so_fg (so_fb 4 4) 900) = true := by decide +kernel
theorem so_l1_c1 : so_fin (so_fg ((102, 17179869192, 0, 1) :: so_fb 4 8) 200) = true := by decide +kernel
theorem so_l1_c0 : so_fin (so_fg ((102, 17179869192, 0, 0) :: (103, 17179869192, 0, 1) :: so_fb 4 8) 200) = true := by decide +kernel
theorem so_l21_1 : so_fin (so_fg ((102, 17179869188, 0, 1) :: so_fb 84 17179869188) 100) = true := by decide +kernel
theorem so_l21_2 : so_fin (so_fg ((102, 17179869188, 0, 0) :: (105, 17179869188, 8, 0) :: (102, 17179869188, 12, 0) :: so_fb 84 17179869188) 100) = true := by decide +kernel
theorem so_l21_a : so_fin (so_fg (so_fb 84 0) 8900) = true := by decide +kernel
theorem so_l0_1 : so_fin (so_fg ((102, 17179869188, 0, 1) :: so_fb 0 17179869188) 100) = true := by decide +kernel
theorem so_l0_2 : so_fin (so_fg ((102, 17179869188, 0, 0) :: (102, 17179869188, 4000, 0) :: so_fb 0 17179869188) 100) = true := by decide +kernel
end SMV2

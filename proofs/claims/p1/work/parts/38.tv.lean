/-! ===== typeVariable of 0 .. 999 ===== -/
section SMV3
noncomputable def so_tvq (n : Nat) : Bool := so_fn (Nat.mul 4 n) (fun v => so_fin (so_fg (so_fb 0 v) 760))
theorem so_tv0 : so_all so_tvq (List.range' 0 25) = true := by decide +kernel
theorem so_tv25 : so_all so_tvq (List.range' 25 25) = true := by decide +kernel
theorem so_tv50 : so_all so_tvq (List.range' 50 25) = true := by decide +kernel
theorem so_tv75 : so_all so_tvq (List.range' 75 25) = true := by decide +kernel
theorem so_tv100 : so_all so_tvq (List.range' 100 25) = true := by decide +kernel
theorem so_tv125 : so_all so_tvq (List.range' 125 25) = true := by decide +kernel
theorem so_tv150 : so_all so_tvq (List.range' 150 25) = true := by decide +kernel
theorem so_tv175 : so_all so_tvq (List.range' 175 25) = true := by decide +kernel
theorem so_tv200 : so_all so_tvq (List.range' 200 25) = true := by decide +kernel
theorem so_tv225 : so_all so_tvq (List.range' 225 25) = true := by decide +kernel
theorem so_tv250 : so_all so_tvq (List.range' 250 25) = true := by decide +kernel
theorem so_tv275 : so_all so_tvq (List.range' 275 25) = true := by decide +kernel
theorem so_tv300 : so_all so_tvq (List.range' 300 25) = true := by decide +kernel
theorem so_tv325 : so_all so_tvq (List.range' 325 25) = true := by decide +kernel
theorem so_tv350 : so_all so_tvq (List.range' 350 25) = true := by decide +kernel
theorem so_tv375 : so_all so_tvq (List.range' 375 25) = true := by decide +kernel
theorem so_tv400 : so_all so_tvq (List.range' 400 25) = true := by decide +kernel
theorem so_tv425 : so_all so_tvq (List.range' 425 25) = true := by decide +kernel
theorem so_tv450 : so_all so_tvq (List.range' 450 25) = true := by decide +kernel
theorem so_tv475 : so_all so_tvq (List.range' 475 25) = true := by decide +kernel
theorem so_tv500 : so_all so_tvq (List.range' 500 25) = true := by decide +kernel
theorem so_tv525 : so_all so_tvq (List.range' 525 25) = true := by decide +kernel
theorem so_tv550 : so_all so_tvq (List.range' 550 25) = true := by decide +kernel
theorem so_tv575 : so_all so_tvq (List.range' 575 25) = true := by decide +kernel
theorem so_tv600 : so_all so_tvq (List.range' 600 25) = true := by decide +kernel
theorem so_tv625 : so_all so_tvq (List.range' 625 25) = true := by decide +kernel
theorem so_tv650 : so_all so_tvq (List.range' 650 25) = true := by decide +kernel
theorem so_tv675 : so_all so_tvq (List.range' 675 25) = true := by decide +kernel
theorem so_tv700 : so_all so_tvq (List.range' 700 25) = true := by decide +kernel
theorem so_tv725 : so_all so_tvq (List.range' 725 25) = true := by decide +kernel
theorem so_tv750 : so_all so_tvq (List.range' 750 25) = true := by decide +kernel
theorem so_tv775 : so_all so_tvq (List.range' 775 25) = true := by decide +kernel
theorem so_tv800 : so_all so_tvq (List.range' 800 25) = true := by decide +kernel
theorem so_tv825 : so_all so_tvq (List.range' 825 25) = true := by decide +kernel
theorem so_tv850 : so_all so_tvq (List.range' 850 25) = true := by decide +kernel
theorem so_tv875 : so_all so_tvq (List.range' 875 25) = true := by decide +kernel
theorem so_tv900 : so_all so_tvq (List.range' 900 25) = true := by decide +kernel
theorem so_tv925 : so_all so_tvq (List.range' 925 25) = true := by decide +kernel
theorem so_tv950 : so_all so_tvq (List.range' 950 25) = true := by decide +kernel
theorem so_tv975 : so_all so_tvq (List.range' 975 25) = true := by decide +kernel
end SMV3

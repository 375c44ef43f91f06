/-- where the steps end: a number of the state -/
noncomputable def so_stop : so_J := fun _ _ _ _ _ _ _ c s => some (.inr 77, [], c, s)
set_option maxRecDepth 1000000 in
theorem so_try0 : (match so_go (so_ops []) so_code so_tab so_stop 40000 so_law so_lawc 0 [(0, 1)] [] [] [[(1002, 0, 0)]] 0 0 with | some _ => true | _ => false) = true := by decide +kernel

/-! PURE: the calls on a fresh object -/
set_option maxRecDepth 100000 in
theorem fr_exC : (f_MH_expand 50 mz_zC).map (·.1) = some 0 := by decide +kernel
set_option maxRecDepth 100000 in
theorem fr_exM : (f_MO_expand 50 mz_zM).map (·.1) = some 0 := by decide +kernel

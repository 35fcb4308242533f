theorem i_vc : Claimed_1_1 ∧ Claimed_1_2 := lw_claim (fun xs L hL => ⟨50, fr_law xs L hL _⟩)

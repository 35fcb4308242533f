theorem i_vc : Claimed_1_1 ∧ Claimed_1_2 := lw_claim (fun xs L hL => lw_fin xs L hL _)

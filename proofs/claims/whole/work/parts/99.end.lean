theorem i_vc : Claimed_1_1 ∧ Claimed_1_2 := am_ivc am_claim_all

theorem xm_kl0_6 : (xm_cl0_600.take 100).all (xm_chk "ShodBackwardsLaw" false code xm_cl0 4 2 xm_mt) = true := by decide +kernel
theorem xm_kl0_7 : (xm_cl0_700.take 100).all (xm_chk "ShodBackwardsLaw" false code xm_cl0 4 2 xm_mt) = true := by decide +kernel
theorem xm_kl0_8 : (xm_cl0_800.take 100).all (xm_chk "ShodBackwardsLaw" false code xm_cl0 4 2 xm_mt) = true := by decide +kernel

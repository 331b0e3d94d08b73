theorem xm_kl0_0 : (xm_cl0.take 100).all (xm_chk "ShodBackwardsLaw" false code xm_cl0 4 2 xm_mt) = true := by decide +kernel
theorem xm_kl0_1 : (xm_cl0_100.take 100).all (xm_chk "ShodBackwardsLaw" false code xm_cl0 4 2 xm_mt) = true := by decide +kernel
theorem xm_kl0_2 : (xm_cl0_200.take 100).all (xm_chk "ShodBackwardsLaw" false code xm_cl0 4 2 xm_mt) = true := by decide +kernel

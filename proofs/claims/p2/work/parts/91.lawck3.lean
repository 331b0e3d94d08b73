theorem xm_kl0_9 : (xm_cl0_900.take 100).all (xm_chk "ShodBackwardsLaw" false code xm_cl0 4 2 xm_mt) = true := by decide +kernel
theorem xm_kl0_10 : (xm_cl0_1000.take 100).all (xm_chk "ShodBackwardsLaw" false code xm_cl0 4 2 xm_mt) = true := by decide +kernel

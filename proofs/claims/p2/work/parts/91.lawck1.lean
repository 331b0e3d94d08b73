theorem xm_kl0_3 : (xm_cl0_300.take 100).all (xm_chk "ShodBackwardsLaw" false code xm_cl0 4 2 xm_mt) = true := by decide +kernel
theorem xm_kl0_4 : (xm_cl0_400.take 100).all (xm_chk "ShodBackwardsLaw" false code xm_cl0 4 2 xm_mt) = true := by decide +kernel
theorem xm_kl0_5 : (xm_cl0_500.take 100).all (xm_chk "ShodBackwardsLaw" false code xm_cl0 4 2 xm_mt) = true := by decide +kernel

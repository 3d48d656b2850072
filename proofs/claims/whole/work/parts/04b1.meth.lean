theorem xi_md0_ok : xi_md0.all xi_mdok = true := by decide +kernel

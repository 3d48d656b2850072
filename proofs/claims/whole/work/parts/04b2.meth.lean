theorem xi_md1_ok : xi_md1.all xi_mdok = true := by decide +kernel

theorem xi_md2_ok : xi_md2.all xi_mdok = true := by decide +kernel

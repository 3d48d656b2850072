theorem xi_md3_ok : xi_md3.all xi_mdok = true := by decide +kernel

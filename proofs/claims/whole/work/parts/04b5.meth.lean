theorem xi_md4_ok : xi_md4.all xi_mdok = true := by decide +kernel

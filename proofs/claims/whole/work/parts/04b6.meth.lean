theorem xi_md5_ok : xi_md5.dropLast.all xi_mdok = true := by decide +kernel

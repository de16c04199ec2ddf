theorem xbc_3 : PBc < 1000000000 ^ 24 := by decide +kernel

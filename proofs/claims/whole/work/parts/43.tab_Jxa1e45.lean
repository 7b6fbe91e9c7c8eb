/-! rows of the tables of class java/util/AbstractCollection -/
set_option maxRecDepth 100000 in
theorem okJxa1e45_init_da8c8 : (gTb mJxa1e45_init_da8c8).all (okE gF gNM mJxa1e45_init_da8c8) = true := by decide +kernel
theorem pnJxa1e45_init_da8c8 : plainName (gY mJxa1e45_init_da8c8).cls = true := by decide +kernel
theorem tJxa1e45_init_da8c8_0 : gAt mJxa1e45_init_da8c8 0 = some (.aload_n 0, 1, 0, 0, 0, 0) := by decide +kernel
theorem tJxa1e45_init_da8c8_1 : gAt mJxa1e45_init_da8c8 1 = some (.invokespecial 1, 3, 9999, 0, 0, 124) := by decide +kernel
theorem tJxa1e45_init_da8c8_4 : gAt mJxa1e45_init_da8c8 4 = some (.return_, 1, 0, 0, 0, 0) := by decide +kernel

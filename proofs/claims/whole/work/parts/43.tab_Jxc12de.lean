/-! rows of the tables of class java/util/AbstractList -/
set_option maxRecDepth 100000 in
theorem okJxc12de_init_da8c8 : (gTb mJxc12de_init_da8c8).all (okE gF gNM mJxc12de_init_da8c8) = true := by decide +kernel
theorem pnJxc12de_init_da8c8 : plainName (gY mJxc12de_init_da8c8).cls = true := by decide +kernel
theorem tJxc12de_init_da8c8_0 : gAt mJxc12de_init_da8c8 0 = some (.aload_n 0, 1, 0, 0, 0, 0) := by decide +kernel
theorem tJxc12de_init_da8c8_1 : gAt mJxc12de_init_da8c8 1 = some (.invokespecial 1, 3, 185, 0, 99, 121) := by decide +kernel
theorem tJxc12de_init_da8c8_4 : gAt mJxc12de_init_da8c8 4 = some (.aload_n 0, 1, 0, 0, 0, 0) := by decide +kernel
theorem tJxc12de_init_da8c8_5 : gAt mJxc12de_init_da8c8 5 = some (.iconst 0, 1, 0, 0, 0, 0) := by decide +kernel
theorem tJxc12de_init_da8c8_6 : gAt mJxc12de_init_da8c8 6 = some (.putfield 7, 3, 0, 0, 0, 129) := by decide +kernel
theorem tJxc12de_init_da8c8_9 : gAt mJxc12de_init_da8c8 9 = some (.return_, 1, 0, 0, 0, 0) := by decide +kernel

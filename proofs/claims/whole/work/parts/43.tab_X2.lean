/-! rows of the tables of class PapersDesk$Page -/
set_option maxRecDepth 100000 in
theorem okX2_init : (gTb mX2_init).all (okE gF gNM mX2_init) = true := by decide +kernel
theorem pnX2_init : plainName (gY mX2_init).cls = true := by decide +kernel
theorem tX2_init_0 : gAt mX2_init 0 = some (.aload_n 0, 1, 0, 0, 0, 0) := by decide +kernel
theorem tX2_init_1 : gAt mX2_init 1 = some (.invokespecial 1, 3, 9999, 0, 0, 439) := by decide +kernel
theorem tX2_init_4 : gAt mX2_init 4 = some (.aload_n 0, 1, 0, 0, 0, 0) := by decide +kernel
theorem tX2_init_5 : gAt mX2_init 5 = some (.iload_n 1, 1, 0, 0, 0, 0) := by decide +kernel
theorem tX2_init_6 : gAt mX2_init 6 = some (.putfield 7, 3, 3, 0, 0, 440) := by decide +kernel
theorem tX2_init_9 : gAt mX2_init 9 = some (.aload_n 0, 1, 0, 0, 0, 0) := by decide +kernel
theorem tX2_init_10 : gAt mX2_init 10 = some (.aload_n 2, 1, 0, 0, 0, 0) := by decide +kernel
theorem tX2_init_11 : gAt mX2_init 11 = some (.putfield 13, 3, 3, 1, 2, 442) := by decide +kernel
theorem tX2_init_14 : gAt mX2_init 14 = some (.aload_n 0, 1, 0, 0, 0, 0) := by decide +kernel
theorem tX2_init_15 : gAt mX2_init 15 = some (.aload_n 3, 1, 0, 0, 0, 0) := by decide +kernel
theorem tX2_init_16 : gAt mX2_init 16 = some (.putfield 17, 3, 3, 2, 2, 444) := by decide +kernel
theorem tX2_init_19 : gAt mX2_init 19 = some (.return_, 1, 0, 0, 0, 0) := by decide +kernel

/-! rows of the tables of class java/util/Objects -/
set_option maxRecDepth 100000 in
theorem okJ15_checkIndex_7cf53 : (gTb mJ15_checkIndex_7cf53).all (okE gF gNM mJ15_checkIndex_7cf53) = true := by decide +kernel
theorem pnJ15_checkIndex_7cf53 : plainName (gY mJ15_checkIndex_7cf53).cls = true := by decide +kernel
theorem tJ15_checkIndex_7cf53_0 : gAt mJ15_checkIndex_7cf53 0 = some (.iload_n 0, 1, 0, 0, 0, 0) := by decide +kernel
theorem tJ15_checkIndex_7cf53_1 : gAt mJ15_checkIndex_7cf53 1 = some (.iload_n 1, 1, 0, 0, 0, 0) := by decide +kernel
theorem tJ15_checkIndex_7cf53_2 : gAt mJ15_checkIndex_7cf53 2 = some (.aconst_null, 1, 0, 0, 0, 0) := by decide +kernel
theorem tJ15_checkIndex_7cf53_3 : gAt mJ15_checkIndex_7cf53 3 = some (.invokestatic 105, 3, 201, 3, 99, 375) := by decide +kernel
theorem tJ15_checkIndex_7cf53_6 : gAt mJ15_checkIndex_7cf53 6 = some (.ireturn, 1, 0, 0, 0, 0) := by decide +kernel

/-! rows of the tables of class java/lang/Integer -/
def kJ6_bitCount_0f7a4 : gM := (gY mJ6_bitCount_0f7a4, gCd mJ6_bitCount_0f7a4, gL mJ6_bitCount_0f7a4, gRt mJ6_bitCount_0f7a4, gIx mJ6_bitCount_0f7a4, [(0, (.iload_n 0, 1, 0, 0, 0, 0)), (1, (.iload_n 0, 1, 0, 0, 0, 0)), (2, (.iconst 1, 1, 1, 0, 0, 0)), (3, (.iushr, 1, 0, 0, 0, 0)), (7, (.iand, 1, 0, 0, 0, 0)), (8, (.isub, 1, 0, 0, 0, 0)), (9, (.istore_n 0, 1, 0, 0, 0, 0)), (10, (.iload_n 0, 1, 0, 0, 0, 0)), (14, (.iand, 1, 0, 0, 0, 0)), (15, (.iload_n 0, 1, 0, 0, 0, 0)), (16, (.iconst 2, 1, 2, 0, 0, 0)), (17, (.iushr, 1, 0, 0, 0, 0)), (21, (.iand, 1, 0, 0, 0, 0)), (22, (.iadd, 1, 0, 0, 0, 0)), (23, (.istore_n 0, 1, 0, 0, 0, 0)), (24, (.iload_n 0, 1, 0, 0, 0, 0)), (25, (.iload_n 0, 1, 0, 0, 0, 0)), (26, (.iconst 4, 1, 4, 0, 0, 0)), (27, (.iushr, 1, 0, 0, 0, 0)), (28, (.iadd, 1, 0, 0, 0, 0)), (32, (.iand, 1, 0, 0, 0, 0)), (33, (.istore_n 0, 1, 0, 0, 0, 0)), (34, (.iload_n 0, 1, 0, 0, 0, 0)), (35, (.iload_n 0, 1, 0, 0, 0, 0)), (36, (.bipush 8, 2, 8, 0, 0, 0)), (38, (.iushr, 1, 0, 0, 0, 0)), (39, (.iadd, 1, 0, 0, 0, 0)), (40, (.istore_n 0, 1, 0, 0, 0, 0)), (41, (.iload_n 0, 1, 0, 0, 0, 0)), (42, (.iload_n 0, 1, 0, 0, 0, 0)), (43, (.bipush 16, 2, 16, 0, 0, 0)), (45, (.iushr, 1, 0, 0, 0, 0)), (46, (.iadd, 1, 0, 0, 0, 0)), (47, (.istore_n 0, 1, 0, 0, 0, 0)), (48, (.iload_n 0, 1, 0, 0, 0, 0)), (49, (.bipush 63, 2, 63, 0, 0, 0)), (51, (.iand, 1, 0, 0, 0, 0)), (52, (.ireturn, 1, 0, 0, 0, 0))])
theorem eJ6_bitCount_0f7a4_4 : decode (gCd kJ6_bitCount_0f7a4) 4 = .ok (.ldc_w 265, 3) := by decide +kernel
theorem eJ6_bitCount_0f7a4_11 : decode (gCd kJ6_bitCount_0f7a4) 11 = .ok (.ldc_w 266, 3) := by decide +kernel
theorem eJ6_bitCount_0f7a4_18 : decode (gCd kJ6_bitCount_0f7a4) 18 = .ok (.ldc_w 266, 3) := by decide +kernel
theorem eJ6_bitCount_0f7a4_29 : decode (gCd kJ6_bitCount_0f7a4) 29 = .ok (.ldc_w 267, 3) := by decide +kernel
set_option maxRecDepth 100000 in
theorem okJ6_bitCount_0f7a4 : (gTb kJ6_bitCount_0f7a4).all (okE gF gNM kJ6_bitCount_0f7a4) = true := by decide +kernel
theorem pnJ6_bitCount_0f7a4 : plainName (gY kJ6_bitCount_0f7a4).cls = true := by decide +kernel
theorem tJ6_bitCount_0f7a4_0 : gAt kJ6_bitCount_0f7a4 0 = some (.iload_n 0, 1, 0, 0, 0, 0) := by decide +kernel
theorem tJ6_bitCount_0f7a4_1 : gAt kJ6_bitCount_0f7a4 1 = some (.iload_n 0, 1, 0, 0, 0, 0) := by decide +kernel
theorem tJ6_bitCount_0f7a4_2 : gAt kJ6_bitCount_0f7a4 2 = some (.iconst 1, 1, 1, 0, 0, 0) := by decide +kernel
theorem tJ6_bitCount_0f7a4_3 : gAt kJ6_bitCount_0f7a4 3 = some (.iushr, 1, 0, 0, 0, 0) := by decide +kernel
theorem tJ6_bitCount_0f7a4_7 : gAt kJ6_bitCount_0f7a4 7 = some (.iand, 1, 0, 0, 0, 0) := by decide +kernel
theorem tJ6_bitCount_0f7a4_8 : gAt kJ6_bitCount_0f7a4 8 = some (.isub, 1, 0, 0, 0, 0) := by decide +kernel
theorem tJ6_bitCount_0f7a4_9 : gAt kJ6_bitCount_0f7a4 9 = some (.istore_n 0, 1, 0, 0, 0, 0) := by decide +kernel
theorem tJ6_bitCount_0f7a4_10 : gAt kJ6_bitCount_0f7a4 10 = some (.iload_n 0, 1, 0, 0, 0, 0) := by decide +kernel
theorem tJ6_bitCount_0f7a4_14 : gAt kJ6_bitCount_0f7a4 14 = some (.iand, 1, 0, 0, 0, 0) := by decide +kernel
theorem tJ6_bitCount_0f7a4_15 : gAt kJ6_bitCount_0f7a4 15 = some (.iload_n 0, 1, 0, 0, 0, 0) := by decide +kernel
theorem tJ6_bitCount_0f7a4_16 : gAt kJ6_bitCount_0f7a4 16 = some (.iconst 2, 1, 2, 0, 0, 0) := by decide +kernel
theorem tJ6_bitCount_0f7a4_17 : gAt kJ6_bitCount_0f7a4 17 = some (.iushr, 1, 0, 0, 0, 0) := by decide +kernel
theorem tJ6_bitCount_0f7a4_21 : gAt kJ6_bitCount_0f7a4 21 = some (.iand, 1, 0, 0, 0, 0) := by decide +kernel
theorem tJ6_bitCount_0f7a4_22 : gAt kJ6_bitCount_0f7a4 22 = some (.iadd, 1, 0, 0, 0, 0) := by decide +kernel
theorem tJ6_bitCount_0f7a4_23 : gAt kJ6_bitCount_0f7a4 23 = some (.istore_n 0, 1, 0, 0, 0, 0) := by decide +kernel
theorem tJ6_bitCount_0f7a4_24 : gAt kJ6_bitCount_0f7a4 24 = some (.iload_n 0, 1, 0, 0, 0, 0) := by decide +kernel
theorem tJ6_bitCount_0f7a4_25 : gAt kJ6_bitCount_0f7a4 25 = some (.iload_n 0, 1, 0, 0, 0, 0) := by decide +kernel
theorem tJ6_bitCount_0f7a4_26 : gAt kJ6_bitCount_0f7a4 26 = some (.iconst 4, 1, 4, 0, 0, 0) := by decide +kernel
theorem tJ6_bitCount_0f7a4_27 : gAt kJ6_bitCount_0f7a4 27 = some (.iushr, 1, 0, 0, 0, 0) := by decide +kernel
theorem tJ6_bitCount_0f7a4_28 : gAt kJ6_bitCount_0f7a4 28 = some (.iadd, 1, 0, 0, 0, 0) := by decide +kernel
theorem tJ6_bitCount_0f7a4_32 : gAt kJ6_bitCount_0f7a4 32 = some (.iand, 1, 0, 0, 0, 0) := by decide +kernel
theorem tJ6_bitCount_0f7a4_33 : gAt kJ6_bitCount_0f7a4 33 = some (.istore_n 0, 1, 0, 0, 0, 0) := by decide +kernel
theorem tJ6_bitCount_0f7a4_34 : gAt kJ6_bitCount_0f7a4 34 = some (.iload_n 0, 1, 0, 0, 0, 0) := by decide +kernel
theorem tJ6_bitCount_0f7a4_35 : gAt kJ6_bitCount_0f7a4 35 = some (.iload_n 0, 1, 0, 0, 0, 0) := by decide +kernel
theorem tJ6_bitCount_0f7a4_36 : gAt kJ6_bitCount_0f7a4 36 = some (.bipush 8, 2, 8, 0, 0, 0) := by decide +kernel
theorem tJ6_bitCount_0f7a4_38 : gAt kJ6_bitCount_0f7a4 38 = some (.iushr, 1, 0, 0, 0, 0) := by decide +kernel
theorem tJ6_bitCount_0f7a4_39 : gAt kJ6_bitCount_0f7a4 39 = some (.iadd, 1, 0, 0, 0, 0) := by decide +kernel
theorem tJ6_bitCount_0f7a4_40 : gAt kJ6_bitCount_0f7a4 40 = some (.istore_n 0, 1, 0, 0, 0, 0) := by decide +kernel
theorem tJ6_bitCount_0f7a4_41 : gAt kJ6_bitCount_0f7a4 41 = some (.iload_n 0, 1, 0, 0, 0, 0) := by decide +kernel
theorem tJ6_bitCount_0f7a4_42 : gAt kJ6_bitCount_0f7a4 42 = some (.iload_n 0, 1, 0, 0, 0, 0) := by decide +kernel
theorem tJ6_bitCount_0f7a4_43 : gAt kJ6_bitCount_0f7a4 43 = some (.bipush 16, 2, 16, 0, 0, 0) := by decide +kernel
theorem tJ6_bitCount_0f7a4_45 : gAt kJ6_bitCount_0f7a4 45 = some (.iushr, 1, 0, 0, 0, 0) := by decide +kernel
theorem tJ6_bitCount_0f7a4_46 : gAt kJ6_bitCount_0f7a4 46 = some (.iadd, 1, 0, 0, 0, 0) := by decide +kernel
theorem tJ6_bitCount_0f7a4_47 : gAt kJ6_bitCount_0f7a4 47 = some (.istore_n 0, 1, 0, 0, 0, 0) := by decide +kernel
theorem tJ6_bitCount_0f7a4_48 : gAt kJ6_bitCount_0f7a4 48 = some (.iload_n 0, 1, 0, 0, 0, 0) := by decide +kernel
theorem tJ6_bitCount_0f7a4_49 : gAt kJ6_bitCount_0f7a4 49 = some (.bipush 63, 2, 63, 0, 0, 0) := by decide +kernel
theorem tJ6_bitCount_0f7a4_51 : gAt kJ6_bitCount_0f7a4 51 = some (.iand, 1, 0, 0, 0, 0) := by decide +kernel
theorem tJ6_bitCount_0f7a4_52 : gAt kJ6_bitCount_0f7a4 52 = some (.ireturn, 1, 0, 0, 0, 0) := by decide +kernel

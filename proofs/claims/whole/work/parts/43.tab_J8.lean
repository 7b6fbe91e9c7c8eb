/-! rows of the tables of class jdk/internal/util/ArraysSupport -/
def kJ8_newLength_cabcc : gM := (gY mJ8_newLength_cabcc, gCd mJ8_newLength_cabcc, gL mJ8_newLength_cabcc, gRt mJ8_newLength_cabcc, gIx mJ8_newLength_cabcc, [(0, (.iload_n 0, 1, 0, 0, 0, 0)), (1, (.iload_n 1, 1, 0, 0, 0, 0)), (2, (.iload_n 2, 1, 0, 0, 0, 0)), (6, (.iadd, 1, 0, 0, 0, 0)), (7, (.istore_n 3, 1, 0, 0, 0, 0)), (8, (.iconst 0, 1, 0, 0, 0, 0)), (9, (.iload_n 3, 1, 0, 0, 0, 0)), (10, (.if_icmp .ge 11, 3, 21, 0, 0, 0)), (13, (.iload_n 3, 1, 0, 0, 0, 0)), (14, (.ldc 200, 2, 2147483639, 0, 0, 321)), (16, (.if_icmp .gt 5, 3, 21, 0, 0, 0)), (19, (.iload_n 3, 1, 0, 0, 0, 0)), (20, (.ireturn, 1, 0, 0, 0, 0)), (21, (.iload_n 0, 1, 0, 0, 0, 0)), (22, (.iload_n 1, 1, 0, 0, 0, 0)), (23, (.invokestatic 201, 3, 200, 2, 99, 322)), (26, (.ireturn, 1, 0, 0, 0, 0))])
theorem eJ8_newLength_cabcc_3 : decode (gCd kJ8_newLength_cabcc) 3 = .ok (.invokestatic 194, 3) := by decide +kernel
set_option maxRecDepth 100000 in
theorem okJ8_newLength_cabcc : (gTb kJ8_newLength_cabcc).all (okE gF gNM kJ8_newLength_cabcc) = true := by decide +kernel
theorem pnJ8_newLength_cabcc : plainName (gY kJ8_newLength_cabcc).cls = true := by decide +kernel
theorem tJ8_newLength_cabcc_0 : gAt kJ8_newLength_cabcc 0 = some (.iload_n 0, 1, 0, 0, 0, 0) := by decide +kernel
theorem tJ8_newLength_cabcc_1 : gAt kJ8_newLength_cabcc 1 = some (.iload_n 1, 1, 0, 0, 0, 0) := by decide +kernel
theorem tJ8_newLength_cabcc_2 : gAt kJ8_newLength_cabcc 2 = some (.iload_n 2, 1, 0, 0, 0, 0) := by decide +kernel
theorem tJ8_newLength_cabcc_6 : gAt kJ8_newLength_cabcc 6 = some (.iadd, 1, 0, 0, 0, 0) := by decide +kernel
theorem tJ8_newLength_cabcc_7 : gAt kJ8_newLength_cabcc 7 = some (.istore_n 3, 1, 0, 0, 0, 0) := by decide +kernel
theorem tJ8_newLength_cabcc_8 : gAt kJ8_newLength_cabcc 8 = some (.iconst 0, 1, 0, 0, 0, 0) := by decide +kernel
theorem tJ8_newLength_cabcc_9 : gAt kJ8_newLength_cabcc 9 = some (.iload_n 3, 1, 0, 0, 0, 0) := by decide +kernel
theorem tJ8_newLength_cabcc_10 : gAt kJ8_newLength_cabcc 10 = some (.if_icmp .ge 11, 3, 21, 0, 0, 0) := by decide +kernel
theorem tJ8_newLength_cabcc_13 : gAt kJ8_newLength_cabcc 13 = some (.iload_n 3, 1, 0, 0, 0, 0) := by decide +kernel
theorem tJ8_newLength_cabcc_14 : gAt kJ8_newLength_cabcc 14 = some (.ldc 200, 2, 2147483639, 0, 0, 321) := by decide +kernel
theorem tJ8_newLength_cabcc_16 : gAt kJ8_newLength_cabcc 16 = some (.if_icmp .gt 5, 3, 21, 0, 0, 0) := by decide +kernel
theorem tJ8_newLength_cabcc_19 : gAt kJ8_newLength_cabcc 19 = some (.iload_n 3, 1, 0, 0, 0, 0) := by decide +kernel
theorem tJ8_newLength_cabcc_20 : gAt kJ8_newLength_cabcc 20 = some (.ireturn, 1, 0, 0, 0, 0) := by decide +kernel
theorem tJ8_newLength_cabcc_21 : gAt kJ8_newLength_cabcc 21 = some (.iload_n 0, 1, 0, 0, 0, 0) := by decide +kernel
theorem tJ8_newLength_cabcc_22 : gAt kJ8_newLength_cabcc 22 = some (.iload_n 1, 1, 0, 0, 0, 0) := by decide +kernel
theorem tJ8_newLength_cabcc_23 : gAt kJ8_newLength_cabcc 23 = some (.invokestatic 201, 3, 200, 2, 99, 322) := by decide +kernel
theorem tJ8_newLength_cabcc_26 : gAt kJ8_newLength_cabcc 26 = some (.ireturn, 1, 0, 0, 0, 0) := by decide +kernel

/-! rows of the tables of class jdk/internal/util/Preconditions -/
def kJ3_checkIndex_8e157 : gM := (gY mJ3_checkIndex_8e157, gCd mJ3_checkIndex_8e157, gL mJ3_checkIndex_8e157, gRt mJ3_checkIndex_8e157, gIx mJ3_checkIndex_8e157, [(0, (.iload_n 0, 1, 0, 0, 0, 0)), (1, (.ifCond .lt 8, 3, 9, 0, 0, 0)), (4, (.iload_n 0, 1, 0, 0, 0, 0)), (5, (.iload_n 1, 1, 0, 0, 0, 0)), (6, (.if_icmp .lt 10, 3, 16, 0, 0, 0)), (9, (.aload_n 2, 1, 0, 0, 0, 0)), (10, (.iload_n 0, 1, 0, 0, 0, 0)), (11, (.iload_n 1, 1, 0, 0, 0, 0)), (16, (.iload_n 0, 1, 0, 0, 0, 0)), (17, (.ireturn, 1, 0, 0, 0, 0))])
theorem eJ3_checkIndex_8e157_12 : decode (gCd kJ3_checkIndex_8e157) 12 = .ok (.invokestatic 95, 3) := by decide +kernel
theorem eJ3_checkIndex_8e157_15 : decode (gCd kJ3_checkIndex_8e157) 15 = .ok (.athrow, 1) := by decide +kernel
set_option maxRecDepth 100000 in
theorem okJ3_checkIndex_8e157 : (gTb kJ3_checkIndex_8e157).all (okE gF gNM kJ3_checkIndex_8e157) = true := by decide +kernel
theorem pnJ3_checkIndex_8e157 : plainName (gY kJ3_checkIndex_8e157).cls = true := by decide +kernel
theorem tJ3_checkIndex_8e157_0 : gAt kJ3_checkIndex_8e157 0 = some (.iload_n 0, 1, 0, 0, 0, 0) := by decide +kernel
theorem tJ3_checkIndex_8e157_1 : gAt kJ3_checkIndex_8e157 1 = some (.ifCond .lt 8, 3, 9, 0, 0, 0) := by decide +kernel
theorem tJ3_checkIndex_8e157_4 : gAt kJ3_checkIndex_8e157 4 = some (.iload_n 0, 1, 0, 0, 0, 0) := by decide +kernel
theorem tJ3_checkIndex_8e157_5 : gAt kJ3_checkIndex_8e157 5 = some (.iload_n 1, 1, 0, 0, 0, 0) := by decide +kernel
theorem tJ3_checkIndex_8e157_6 : gAt kJ3_checkIndex_8e157 6 = some (.if_icmp .lt 10, 3, 16, 0, 0, 0) := by decide +kernel
theorem tJ3_checkIndex_8e157_9 : gAt kJ3_checkIndex_8e157 9 = some (.aload_n 2, 1, 0, 0, 0, 0) := by decide +kernel
theorem tJ3_checkIndex_8e157_10 : gAt kJ3_checkIndex_8e157 10 = some (.iload_n 0, 1, 0, 0, 0, 0) := by decide +kernel
theorem tJ3_checkIndex_8e157_11 : gAt kJ3_checkIndex_8e157 11 = some (.iload_n 1, 1, 0, 0, 0, 0) := by decide +kernel
theorem tJ3_checkIndex_8e157_16 : gAt kJ3_checkIndex_8e157 16 = some (.iload_n 0, 1, 0, 0, 0, 0) := by decide +kernel
theorem tJ3_checkIndex_8e157_17 : gAt kJ3_checkIndex_8e157 17 = some (.ireturn, 1, 0, 0, 0, 0) := by decide +kernel

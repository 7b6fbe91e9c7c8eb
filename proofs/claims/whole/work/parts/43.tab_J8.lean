/-! rows of the tables of class jdk/internal/util/ArraysSupport -/
theorem eJ8_newLength_cabcc_0 : decode (gCd mJ8_newLength_cabcc) 0 = .ok (.iload_n 0, 1) := by decide +kernel
theorem eJ8_newLength_cabcc_1 : decode (gCd mJ8_newLength_cabcc) 1 = .ok (.iload_n 1, 1) := by decide +kernel
theorem eJ8_newLength_cabcc_2 : decode (gCd mJ8_newLength_cabcc) 2 = .ok (.iload_n 2, 1) := by decide +kernel
theorem eJ8_newLength_cabcc_3 : decode (gCd mJ8_newLength_cabcc) 3 = .ok (.invokestatic 194, 3) := by decide +kernel
theorem eJ8_newLength_cabcc_6 : decode (gCd mJ8_newLength_cabcc) 6 = .ok (.iadd, 1) := by decide +kernel
theorem eJ8_newLength_cabcc_7 : decode (gCd mJ8_newLength_cabcc) 7 = .ok (.istore_n 3, 1) := by decide +kernel
theorem eJ8_newLength_cabcc_8 : decode (gCd mJ8_newLength_cabcc) 8 = .ok (.iconst 0, 1) := by decide +kernel
theorem eJ8_newLength_cabcc_9 : decode (gCd mJ8_newLength_cabcc) 9 = .ok (.iload_n 3, 1) := by decide +kernel
theorem eJ8_newLength_cabcc_10 : decode (gCd mJ8_newLength_cabcc) 10 = .ok (.if_icmp .ge 11, 3) := by decide +kernel
theorem eJ8_newLength_cabcc_13 : decode (gCd mJ8_newLength_cabcc) 13 = .ok (.iload_n 3, 1) := by decide +kernel
theorem eJ8_newLength_cabcc_14 : decode (gCd mJ8_newLength_cabcc) 14 = .ok (.ldc 200, 2) := by decide +kernel
theorem eJ8_newLength_cabcc_16 : decode (gCd mJ8_newLength_cabcc) 16 = .ok (.if_icmp .gt 5, 3) := by decide +kernel
theorem eJ8_newLength_cabcc_19 : decode (gCd mJ8_newLength_cabcc) 19 = .ok (.iload_n 3, 1) := by decide +kernel
theorem eJ8_newLength_cabcc_20 : decode (gCd mJ8_newLength_cabcc) 20 = .ok (.ireturn, 1) := by decide +kernel
theorem eJ8_newLength_cabcc_21 : decode (gCd mJ8_newLength_cabcc) 21 = .ok (.iload_n 0, 1) := by decide +kernel
theorem eJ8_newLength_cabcc_22 : decode (gCd mJ8_newLength_cabcc) 22 = .ok (.iload_n 1, 1) := by decide +kernel
theorem eJ8_newLength_cabcc_23 : decode (gCd mJ8_newLength_cabcc) 23 = .ok (.invokestatic 201, 3) := by decide +kernel
theorem eJ8_newLength_cabcc_26 : decode (gCd mJ8_newLength_cabcc) 26 = .ok (.ireturn, 1) := by decide +kernel
theorem pnJ8_newLength_cabcc : plainName (gY mJ8_newLength_cabcc).cls = true := by decide +kernel
theorem eJ8_hugeLength_7cf53_0 : decode (gCd mJ8_hugeLength_7cf53) 0 = .ok (.iload_n 0, 1) := by decide +kernel
theorem eJ8_hugeLength_7cf53_1 : decode (gCd mJ8_hugeLength_7cf53) 1 = .ok (.iload_n 1, 1) := by decide +kernel
theorem eJ8_hugeLength_7cf53_2 : decode (gCd mJ8_hugeLength_7cf53) 2 = .ok (.iadd, 1) := by decide +kernel
theorem eJ8_hugeLength_7cf53_3 : decode (gCd mJ8_hugeLength_7cf53) 3 = .ok (.istore_n 2, 1) := by decide +kernel
theorem eJ8_hugeLength_7cf53_4 : decode (gCd mJ8_hugeLength_7cf53) 4 = .ok (.iload_n 2, 1) := by decide +kernel
theorem eJ8_hugeLength_7cf53_5 : decode (gCd mJ8_hugeLength_7cf53) 5 = .ok (.ifCond .ge 44, 3) := by decide +kernel
theorem eJ8_hugeLength_7cf53_8 : decode (gCd mJ8_hugeLength_7cf53) 8 = .ok (.new 204, 3) := by decide +kernel
theorem eJ8_hugeLength_7cf53_11 : decode (gCd mJ8_hugeLength_7cf53) 11 = .ok (.dup, 1) := by decide +kernel
theorem eJ8_hugeLength_7cf53_12 : decode (gCd mJ8_hugeLength_7cf53) 12 = .ok (.new 89, 3) := by decide +kernel
theorem eJ8_hugeLength_7cf53_15 : decode (gCd mJ8_hugeLength_7cf53) 15 = .ok (.dup, 1) := by decide +kernel
theorem eJ8_hugeLength_7cf53_16 : decode (gCd mJ8_hugeLength_7cf53) 16 = .ok (.invokespecial 91, 3) := by decide +kernel
theorem eJ8_hugeLength_7cf53_19 : decode (gCd mJ8_hugeLength_7cf53) 19 = .ok (.ldc 206, 2) := by decide +kernel
theorem eJ8_hugeLength_7cf53_21 : decode (gCd mJ8_hugeLength_7cf53) 21 = .ok (.invokevirtual 94, 3) := by decide +kernel
theorem eJ8_hugeLength_7cf53_24 : decode (gCd mJ8_hugeLength_7cf53) 24 = .ok (.iload_n 0, 1) := by decide +kernel
theorem eJ8_hugeLength_7cf53_25 : decode (gCd mJ8_hugeLength_7cf53) 25 = .ok (.invokevirtual 98, 3) := by decide +kernel
theorem eJ8_hugeLength_7cf53_28 : decode (gCd mJ8_hugeLength_7cf53) 28 = .ok (.ldc 208, 2) := by decide +kernel
theorem eJ8_hugeLength_7cf53_30 : decode (gCd mJ8_hugeLength_7cf53) 30 = .ok (.invokevirtual 94, 3) := by decide +kernel
theorem eJ8_hugeLength_7cf53_33 : decode (gCd mJ8_hugeLength_7cf53) 33 = .ok (.iload_n 1, 1) := by decide +kernel
theorem eJ8_hugeLength_7cf53_34 : decode (gCd mJ8_hugeLength_7cf53) 34 = .ok (.invokevirtual 98, 3) := by decide +kernel
theorem eJ8_hugeLength_7cf53_37 : decode (gCd mJ8_hugeLength_7cf53) 37 = .ok (.ldc 210, 2) := by decide +kernel
theorem eJ8_hugeLength_7cf53_39 : decode (gCd mJ8_hugeLength_7cf53) 39 = .ok (.invokevirtual 94, 3) := by decide +kernel
theorem eJ8_hugeLength_7cf53_42 : decode (gCd mJ8_hugeLength_7cf53) 42 = .ok (.invokevirtual 101, 3) := by decide +kernel
theorem eJ8_hugeLength_7cf53_45 : decode (gCd mJ8_hugeLength_7cf53) 45 = .ok (.invokespecial 212, 3) := by decide +kernel
theorem eJ8_hugeLength_7cf53_48 : decode (gCd mJ8_hugeLength_7cf53) 48 = .ok (.athrow, 1) := by decide +kernel
theorem eJ8_hugeLength_7cf53_49 : decode (gCd mJ8_hugeLength_7cf53) 49 = .ok (.iload_n 2, 1) := by decide +kernel
theorem eJ8_hugeLength_7cf53_50 : decode (gCd mJ8_hugeLength_7cf53) 50 = .ok (.ldc 200, 2) := by decide +kernel
theorem eJ8_hugeLength_7cf53_52 : decode (gCd mJ8_hugeLength_7cf53) 52 = .ok (.if_icmp .gt 6, 3) := by decide +kernel
theorem eJ8_hugeLength_7cf53_55 : decode (gCd mJ8_hugeLength_7cf53) 55 = .ok (.ldc 200, 2) := by decide +kernel
theorem eJ8_hugeLength_7cf53_57 : decode (gCd mJ8_hugeLength_7cf53) 57 = .ok (.ireturn, 1) := by decide +kernel
theorem eJ8_hugeLength_7cf53_58 : decode (gCd mJ8_hugeLength_7cf53) 58 = .ok (.iload_n 2, 1) := by decide +kernel
theorem eJ8_hugeLength_7cf53_59 : decode (gCd mJ8_hugeLength_7cf53) 59 = .ok (.ireturn, 1) := by decide +kernel
theorem pnJ8_hugeLength_7cf53 : plainName (gY mJ8_hugeLength_7cf53).cls = true := by decide +kernel

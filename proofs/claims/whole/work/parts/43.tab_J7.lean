/-! rows of the tables of class java/util/Arrays -/
theorem eJ7_copyOf_1904c_0 : decode (gCd mJ7_copyOf_1904c) 0 = .ok (.aload_n 0, 1) := by decide +kernel
theorem eJ7_copyOf_1904c_1 : decode (gCd mJ7_copyOf_1904c) 1 = .ok (.iload_n 1, 1) := by decide +kernel
theorem eJ7_copyOf_1904c_2 : decode (gCd mJ7_copyOf_1904c) 2 = .ok (.aload_n 0, 1) := by decide +kernel
theorem eJ7_copyOf_1904c_3 : decode (gCd mJ7_copyOf_1904c) 3 = .ok (.invokevirtual 86, 3) := by decide +kernel
theorem eJ7_copyOf_1904c_6 : decode (gCd mJ7_copyOf_1904c) 6 = .ok (.invokestatic 300, 3) := by decide +kernel
theorem eJ7_copyOf_1904c_9 : decode (gCd mJ7_copyOf_1904c) 9 = .ok (.areturn, 1) := by decide +kernel
theorem pnJ7_copyOf_1904c : plainName (gY mJ7_copyOf_1904c).cls = true := by decide +kernel
theorem eJ7_copyOf_6403c_0 : decode (gCd mJ7_copyOf_6403c) 0 = .ok (.aload_n 2, 1) := by decide +kernel
theorem eJ7_copyOf_6403c_1 : decode (gCd mJ7_copyOf_6403c) 1 = .ok (.ldc 110, 2) := by decide +kernel
theorem eJ7_copyOf_6403c_3 : decode (gCd mJ7_copyOf_6403c) 3 = .ok (.if_acmp .ne 10, 3) := by decide +kernel
theorem eJ7_copyOf_6403c_6 : decode (gCd mJ7_copyOf_6403c) 6 = .ok (.iload_n 1, 1) := by decide +kernel
theorem eJ7_copyOf_6403c_7 : decode (gCd mJ7_copyOf_6403c) 7 = .ok (.anewarray 2, 3) := by decide +kernel
theorem eJ7_copyOf_6403c_10 : decode (gCd mJ7_copyOf_6403c) 10 = .ok (.goto 14, 3) := by decide +kernel
theorem eJ7_copyOf_6403c_13 : decode (gCd mJ7_copyOf_6403c) 13 = .ok (.aload_n 2, 1) := by decide +kernel
theorem eJ7_copyOf_6403c_14 : decode (gCd mJ7_copyOf_6403c) 14 = .ok (.invokevirtual 90, 3) := by decide +kernel
theorem eJ7_copyOf_6403c_17 : decode (gCd mJ7_copyOf_6403c) 17 = .ok (.iload_n 1, 1) := by decide +kernel
theorem eJ7_copyOf_6403c_18 : decode (gCd mJ7_copyOf_6403c) 18 = .ok (.invokestatic 95, 3) := by decide +kernel
theorem eJ7_copyOf_6403c_21 : decode (gCd mJ7_copyOf_6403c) 21 = .ok (.checkcast 110, 3) := by decide +kernel
theorem eJ7_copyOf_6403c_24 : decode (gCd mJ7_copyOf_6403c) 24 = .ok (.astore_n 3, 1) := by decide +kernel
theorem eJ7_copyOf_6403c_25 : decode (gCd mJ7_copyOf_6403c) 25 = .ok (.aload_n 0, 1) := by decide +kernel
theorem eJ7_copyOf_6403c_26 : decode (gCd mJ7_copyOf_6403c) 26 = .ok (.iconst 0, 1) := by decide +kernel
theorem eJ7_copyOf_6403c_27 : decode (gCd mJ7_copyOf_6403c) 27 = .ok (.aload_n 3, 1) := by decide +kernel
theorem eJ7_copyOf_6403c_28 : decode (gCd mJ7_copyOf_6403c) 28 = .ok (.iconst 0, 1) := by decide +kernel
theorem eJ7_copyOf_6403c_29 : decode (gCd mJ7_copyOf_6403c) 29 = .ok (.aload_n 0, 1) := by decide +kernel
theorem eJ7_copyOf_6403c_30 : decode (gCd mJ7_copyOf_6403c) 30 = .ok (.arraylength, 1) := by decide +kernel
theorem eJ7_copyOf_6403c_31 : decode (gCd mJ7_copyOf_6403c) 31 = .ok (.iload_n 1, 1) := by decide +kernel
theorem eJ7_copyOf_6403c_32 : decode (gCd mJ7_copyOf_6403c) 32 = .ok (.invokestatic 304, 3) := by decide +kernel
theorem eJ7_copyOf_6403c_35 : decode (gCd mJ7_copyOf_6403c) 35 = .ok (.invokestatic 150, 3) := by decide +kernel
theorem eJ7_copyOf_6403c_38 : decode (gCd mJ7_copyOf_6403c) 38 = .ok (.aload_n 3, 1) := by decide +kernel
theorem eJ7_copyOf_6403c_39 : decode (gCd mJ7_copyOf_6403c) 39 = .ok (.areturn, 1) := by decide +kernel
theorem pnJ7_copyOf_6403c : plainName (gY mJ7_copyOf_6403c).cls = true := by decide +kernel
theorem eJ7_copyOf_59c91_0 : decode (gCd mJ7_copyOf_59c91) 0 = .ok (.iload_n 1, 1) := by decide +kernel
theorem eJ7_copyOf_59c91_1 : decode (gCd mJ7_copyOf_59c91) 1 = .ok (.aload_n 0, 1) := by decide +kernel
theorem eJ7_copyOf_59c91_2 : decode (gCd mJ7_copyOf_59c91) 2 = .ok (.arraylength, 1) := by decide +kernel
theorem eJ7_copyOf_59c91_3 : decode (gCd mJ7_copyOf_59c91) 3 = .ok (.if_icmp .ne 11, 3) := by decide +kernel
theorem eJ7_copyOf_59c91_6 : decode (gCd mJ7_copyOf_59c91) 6 = .ok (.aload_n 0, 1) := by decide +kernel
theorem eJ7_copyOf_59c91_7 : decode (gCd mJ7_copyOf_59c91) 7 = .ok (.invokevirtual 316, 3) := by decide +kernel
theorem eJ7_copyOf_59c91_10 : decode (gCd mJ7_copyOf_59c91) 10 = .ok (.checkcast 317, 3) := by decide +kernel
theorem eJ7_copyOf_59c91_13 : decode (gCd mJ7_copyOf_59c91) 13 = .ok (.areturn, 1) := by decide +kernel
theorem eJ7_copyOf_59c91_14 : decode (gCd mJ7_copyOf_59c91) 14 = .ok (.iload_n 1, 1) := by decide +kernel
theorem eJ7_copyOf_59c91_15 : decode (gCd mJ7_copyOf_59c91) 15 = .ok (.newarray .int, 2) := by decide +kernel
theorem eJ7_copyOf_59c91_17 : decode (gCd mJ7_copyOf_59c91) 17 = .ok (.astore_n 2, 1) := by decide +kernel
theorem eJ7_copyOf_59c91_18 : decode (gCd mJ7_copyOf_59c91) 18 = .ok (.aload_n 0, 1) := by decide +kernel
theorem eJ7_copyOf_59c91_19 : decode (gCd mJ7_copyOf_59c91) 19 = .ok (.iconst 0, 1) := by decide +kernel
theorem eJ7_copyOf_59c91_20 : decode (gCd mJ7_copyOf_59c91) 20 = .ok (.aload_n 2, 1) := by decide +kernel
theorem eJ7_copyOf_59c91_21 : decode (gCd mJ7_copyOf_59c91) 21 = .ok (.iconst 0, 1) := by decide +kernel
theorem eJ7_copyOf_59c91_22 : decode (gCd mJ7_copyOf_59c91) 22 = .ok (.aload_n 0, 1) := by decide +kernel
theorem eJ7_copyOf_59c91_23 : decode (gCd mJ7_copyOf_59c91) 23 = .ok (.arraylength, 1) := by decide +kernel
theorem eJ7_copyOf_59c91_24 : decode (gCd mJ7_copyOf_59c91) 24 = .ok (.iload_n 1, 1) := by decide +kernel
theorem eJ7_copyOf_59c91_25 : decode (gCd mJ7_copyOf_59c91) 25 = .ok (.invokestatic 304, 3) := by decide +kernel
theorem eJ7_copyOf_59c91_28 : decode (gCd mJ7_copyOf_59c91) 28 = .ok (.invokestatic 150, 3) := by decide +kernel
theorem eJ7_copyOf_59c91_31 : decode (gCd mJ7_copyOf_59c91) 31 = .ok (.aload_n 2, 1) := by decide +kernel
theorem eJ7_copyOf_59c91_32 : decode (gCd mJ7_copyOf_59c91) 32 = .ok (.areturn, 1) := by decide +kernel
theorem pnJ7_copyOf_59c91 : plainName (gY mJ7_copyOf_59c91).cls = true := by decide +kernel

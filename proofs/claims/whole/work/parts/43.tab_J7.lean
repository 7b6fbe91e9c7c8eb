/-! rows of the tables of class java/util/Arrays -/
def kJ7_copyOf_1904c : gM := (gY mJ7_copyOf_1904c, gCd mJ7_copyOf_1904c, gL mJ7_copyOf_1904c, gRt mJ7_copyOf_1904c, gIx mJ7_copyOf_1904c, [(0, (.aload_n 0, 1, 0, 0, 0, 0)), (1, (.iload_n 1, 1, 0, 0, 0, 0)), (2, (.aload_n 0, 1, 0, 0, 0, 0)), (6, (.invokestatic 300, 3, 196, 3, 99, 344)), (9, (.areturn, 1, 0, 0, 0, 0))])
theorem eJ7_copyOf_1904c_3 : decode (gCd kJ7_copyOf_1904c) 3 = .ok (.invokevirtual 86, 3) := by decide +kernel
set_option maxRecDepth 100000 in
theorem okJ7_copyOf_1904c : (gTb kJ7_copyOf_1904c).all (okE gF gNM kJ7_copyOf_1904c) = true := by decide +kernel
theorem pnJ7_copyOf_1904c : plainName (gY kJ7_copyOf_1904c).cls = true := by decide +kernel
theorem tJ7_copyOf_1904c_0 : gAt kJ7_copyOf_1904c 0 = some (.aload_n 0, 1, 0, 0, 0, 0) := by decide +kernel
theorem tJ7_copyOf_1904c_1 : gAt kJ7_copyOf_1904c 1 = some (.iload_n 1, 1, 0, 0, 0, 0) := by decide +kernel
theorem tJ7_copyOf_1904c_2 : gAt kJ7_copyOf_1904c 2 = some (.aload_n 0, 1, 0, 0, 0, 0) := by decide +kernel
theorem tJ7_copyOf_1904c_6 : gAt kJ7_copyOf_1904c 6 = some (.invokestatic 300, 3, 196, 3, 99, 344) := by decide +kernel
theorem tJ7_copyOf_1904c_9 : gAt kJ7_copyOf_1904c 9 = some (.areturn, 1, 0, 0, 0, 0) := by decide +kernel
def kJ7_copyOf_6403c : gM := (gY mJ7_copyOf_6403c, gCd mJ7_copyOf_6403c, gL mJ7_copyOf_6403c, gRt mJ7_copyOf_6403c, gIx mJ7_copyOf_6403c, [(0, (.aload_n 2, 1, 0, 0, 0, 0)), (6, (.iload_n 1, 1, 0, 0, 0, 0)), (10, (.goto 14, 3, 24, 0, 0, 0)), (13, (.aload_n 2, 1, 0, 0, 0, 0)), (17, (.iload_n 1, 1, 0, 0, 0, 0)), (24, (.astore_n 3, 1, 0, 0, 0, 0)), (25, (.aload_n 0, 1, 0, 0, 0, 0)), (26, (.iconst 0, 1, 0, 0, 0, 0)), (27, (.aload_n 3, 1, 0, 0, 0, 0)), (28, (.iconst 0, 1, 0, 0, 0, 0)), (29, (.aload_n 0, 1, 0, 0, 0, 0)), (31, (.iload_n 1, 1, 0, 0, 0, 0)), (38, (.aload_n 3, 1, 0, 0, 0, 0)), (39, (.areturn, 1, 0, 0, 0, 0))])
theorem eJ7_copyOf_6403c_1 : decode (gCd kJ7_copyOf_6403c) 1 = .ok (.ldc 110, 2) := by decide +kernel
theorem eJ7_copyOf_6403c_3 : decode (gCd kJ7_copyOf_6403c) 3 = .ok (.if_acmp .ne 10, 3) := by decide +kernel
theorem eJ7_copyOf_6403c_7 : decode (gCd kJ7_copyOf_6403c) 7 = .ok (.anewarray 2, 3) := by decide +kernel
theorem eJ7_copyOf_6403c_14 : decode (gCd kJ7_copyOf_6403c) 14 = .ok (.invokevirtual 90, 3) := by decide +kernel
theorem eJ7_copyOf_6403c_18 : decode (gCd kJ7_copyOf_6403c) 18 = .ok (.invokestatic 95, 3) := by decide +kernel
theorem eJ7_copyOf_6403c_21 : decode (gCd kJ7_copyOf_6403c) 21 = .ok (.checkcast 110, 3) := by decide +kernel
theorem eJ7_copyOf_6403c_30 : decode (gCd kJ7_copyOf_6403c) 30 = .ok (.arraylength, 1) := by decide +kernel
theorem eJ7_copyOf_6403c_32 : decode (gCd kJ7_copyOf_6403c) 32 = .ok (.invokestatic 304, 3) := by decide +kernel
theorem eJ7_copyOf_6403c_35 : decode (gCd kJ7_copyOf_6403c) 35 = .ok (.invokestatic 150, 3) := by decide +kernel
set_option maxRecDepth 100000 in
theorem okJ7_copyOf_6403c : (gTb kJ7_copyOf_6403c).all (okE gF gNM kJ7_copyOf_6403c) = true := by decide +kernel
theorem pnJ7_copyOf_6403c : plainName (gY kJ7_copyOf_6403c).cls = true := by decide +kernel
theorem tJ7_copyOf_6403c_0 : gAt kJ7_copyOf_6403c 0 = some (.aload_n 2, 1, 0, 0, 0, 0) := by decide +kernel
theorem tJ7_copyOf_6403c_6 : gAt kJ7_copyOf_6403c 6 = some (.iload_n 1, 1, 0, 0, 0, 0) := by decide +kernel
theorem tJ7_copyOf_6403c_10 : gAt kJ7_copyOf_6403c 10 = some (.goto 14, 3, 24, 0, 0, 0) := by decide +kernel
theorem tJ7_copyOf_6403c_13 : gAt kJ7_copyOf_6403c 13 = some (.aload_n 2, 1, 0, 0, 0, 0) := by decide +kernel
theorem tJ7_copyOf_6403c_17 : gAt kJ7_copyOf_6403c 17 = some (.iload_n 1, 1, 0, 0, 0, 0) := by decide +kernel
theorem tJ7_copyOf_6403c_24 : gAt kJ7_copyOf_6403c 24 = some (.astore_n 3, 1, 0, 0, 0, 0) := by decide +kernel
theorem tJ7_copyOf_6403c_25 : gAt kJ7_copyOf_6403c 25 = some (.aload_n 0, 1, 0, 0, 0, 0) := by decide +kernel
theorem tJ7_copyOf_6403c_26 : gAt kJ7_copyOf_6403c 26 = some (.iconst 0, 1, 0, 0, 0, 0) := by decide +kernel
theorem tJ7_copyOf_6403c_27 : gAt kJ7_copyOf_6403c 27 = some (.aload_n 3, 1, 0, 0, 0, 0) := by decide +kernel
theorem tJ7_copyOf_6403c_28 : gAt kJ7_copyOf_6403c 28 = some (.iconst 0, 1, 0, 0, 0, 0) := by decide +kernel
theorem tJ7_copyOf_6403c_29 : gAt kJ7_copyOf_6403c 29 = some (.aload_n 0, 1, 0, 0, 0, 0) := by decide +kernel
theorem tJ7_copyOf_6403c_31 : gAt kJ7_copyOf_6403c 31 = some (.iload_n 1, 1, 0, 0, 0, 0) := by decide +kernel
theorem tJ7_copyOf_6403c_38 : gAt kJ7_copyOf_6403c 38 = some (.aload_n 3, 1, 0, 0, 0, 0) := by decide +kernel
theorem tJ7_copyOf_6403c_39 : gAt kJ7_copyOf_6403c 39 = some (.areturn, 1, 0, 0, 0, 0) := by decide +kernel
def kJ7_copyOf_59c91 : gM := (gY mJ7_copyOf_59c91, gCd mJ7_copyOf_59c91, gL mJ7_copyOf_59c91, gRt mJ7_copyOf_59c91, gIx mJ7_copyOf_59c91, [(0, (.iload_n 1, 1, 0, 0, 0, 0)), (1, (.aload_n 0, 1, 0, 0, 0, 0)), (3, (.if_icmp .ne 11, 3, 14, 0, 0, 0)), (6, (.aload_n 0, 1, 0, 0, 0, 0)), (13, (.areturn, 1, 0, 0, 0, 0)), (14, (.iload_n 1, 1, 0, 0, 0, 0)), (15, (.newarray .int, 2, 12, 0, 0, 139)), (17, (.astore_n 2, 1, 0, 0, 0, 0)), (18, (.aload_n 0, 1, 0, 0, 0, 0)), (19, (.iconst 0, 1, 0, 0, 0, 0)), (20, (.aload_n 2, 1, 0, 0, 0, 0)), (21, (.iconst 0, 1, 0, 0, 0, 0)), (22, (.aload_n 0, 1, 0, 0, 0, 0)), (24, (.iload_n 1, 1, 0, 0, 0, 0)), (31, (.aload_n 2, 1, 0, 0, 0, 0)), (32, (.areturn, 1, 0, 0, 0, 0))])
theorem eJ7_copyOf_59c91_2 : decode (gCd kJ7_copyOf_59c91) 2 = .ok (.arraylength, 1) := by decide +kernel
theorem eJ7_copyOf_59c91_7 : decode (gCd kJ7_copyOf_59c91) 7 = .ok (.invokevirtual 316, 3) := by decide +kernel
theorem eJ7_copyOf_59c91_10 : decode (gCd kJ7_copyOf_59c91) 10 = .ok (.checkcast 317, 3) := by decide +kernel
theorem eJ7_copyOf_59c91_23 : decode (gCd kJ7_copyOf_59c91) 23 = .ok (.arraylength, 1) := by decide +kernel
theorem eJ7_copyOf_59c91_25 : decode (gCd kJ7_copyOf_59c91) 25 = .ok (.invokestatic 304, 3) := by decide +kernel
theorem eJ7_copyOf_59c91_28 : decode (gCd kJ7_copyOf_59c91) 28 = .ok (.invokestatic 150, 3) := by decide +kernel
set_option maxRecDepth 100000 in
theorem okJ7_copyOf_59c91 : (gTb kJ7_copyOf_59c91).all (okE gF gNM kJ7_copyOf_59c91) = true := by decide +kernel
theorem pnJ7_copyOf_59c91 : plainName (gY kJ7_copyOf_59c91).cls = true := by decide +kernel
theorem tJ7_copyOf_59c91_0 : gAt kJ7_copyOf_59c91 0 = some (.iload_n 1, 1, 0, 0, 0, 0) := by decide +kernel
theorem tJ7_copyOf_59c91_1 : gAt kJ7_copyOf_59c91 1 = some (.aload_n 0, 1, 0, 0, 0, 0) := by decide +kernel
theorem tJ7_copyOf_59c91_3 : gAt kJ7_copyOf_59c91 3 = some (.if_icmp .ne 11, 3, 14, 0, 0, 0) := by decide +kernel
theorem tJ7_copyOf_59c91_6 : gAt kJ7_copyOf_59c91 6 = some (.aload_n 0, 1, 0, 0, 0, 0) := by decide +kernel
theorem tJ7_copyOf_59c91_13 : gAt kJ7_copyOf_59c91 13 = some (.areturn, 1, 0, 0, 0, 0) := by decide +kernel
theorem tJ7_copyOf_59c91_14 : gAt kJ7_copyOf_59c91 14 = some (.iload_n 1, 1, 0, 0, 0, 0) := by decide +kernel
theorem tJ7_copyOf_59c91_15 : gAt kJ7_copyOf_59c91 15 = some (.newarray .int, 2, 12, 0, 0, 139) := by decide +kernel
theorem tJ7_copyOf_59c91_17 : gAt kJ7_copyOf_59c91 17 = some (.astore_n 2, 1, 0, 0, 0, 0) := by decide +kernel
theorem tJ7_copyOf_59c91_18 : gAt kJ7_copyOf_59c91 18 = some (.aload_n 0, 1, 0, 0, 0, 0) := by decide +kernel
theorem tJ7_copyOf_59c91_19 : gAt kJ7_copyOf_59c91 19 = some (.iconst 0, 1, 0, 0, 0, 0) := by decide +kernel
theorem tJ7_copyOf_59c91_20 : gAt kJ7_copyOf_59c91 20 = some (.aload_n 2, 1, 0, 0, 0, 0) := by decide +kernel
theorem tJ7_copyOf_59c91_21 : gAt kJ7_copyOf_59c91 21 = some (.iconst 0, 1, 0, 0, 0, 0) := by decide +kernel
theorem tJ7_copyOf_59c91_22 : gAt kJ7_copyOf_59c91 22 = some (.aload_n 0, 1, 0, 0, 0, 0) := by decide +kernel
theorem tJ7_copyOf_59c91_24 : gAt kJ7_copyOf_59c91 24 = some (.iload_n 1, 1, 0, 0, 0, 0) := by decide +kernel
theorem tJ7_copyOf_59c91_31 : gAt kJ7_copyOf_59c91 31 = some (.aload_n 2, 1, 0, 0, 0, 0) := by decide +kernel
theorem tJ7_copyOf_59c91_32 : gAt kJ7_copyOf_59c91 32 = some (.areturn, 1, 0, 0, 0, 0) := by decide +kernel

/-! rows of the tables of class java/util/ArrayList -/
def kJx4a65c_init_da8c8 : gM := (gY mJx4a65c_init_da8c8, gCd mJx4a65c_init_da8c8, gL mJx4a65c_init_da8c8, gRt mJx4a65c_init_da8c8, gIx mJx4a65c_init_da8c8, [(0, (.aload_n 0, 1, 0, 0, 0, 0)), (1, (.invokespecial 1, 3, 186, 0, 99, 118)), (4, (.aload_n 0, 1, 0, 0, 0, 0)), (8, (.putfield 9, 3, 0, 1, 2, 127)), (11, (.return_, 1, 0, 0, 0, 0))])
theorem eJx4a65c_init_da8c8_5 : decode (gCd kJx4a65c_init_da8c8) 5 = .ok (.getstatic 39, 3) := by decide +kernel
set_option maxRecDepth 100000 in
theorem okJx4a65c_init_da8c8 : (gTb kJx4a65c_init_da8c8).all (okE gF gNM kJx4a65c_init_da8c8) = true := by decide +kernel
theorem pnJx4a65c_init_da8c8 : plainName (gY kJx4a65c_init_da8c8).cls = true := by decide +kernel
theorem tJx4a65c_init_da8c8_0 : gAt kJx4a65c_init_da8c8 0 = some (.aload_n 0, 1, 0, 0, 0, 0) := by decide +kernel
theorem tJx4a65c_init_da8c8_1 : gAt kJx4a65c_init_da8c8 1 = some (.invokespecial 1, 3, 186, 0, 99, 118) := by decide +kernel
theorem tJx4a65c_init_da8c8_4 : gAt kJx4a65c_init_da8c8 4 = some (.aload_n 0, 1, 0, 0, 0, 0) := by decide +kernel
theorem tJx4a65c_init_da8c8_8 : gAt kJx4a65c_init_da8c8 8 = some (.putfield 9, 3, 0, 1, 2, 127) := by decide +kernel
theorem tJx4a65c_init_da8c8_11 : gAt kJx4a65c_init_da8c8 11 = some (.return_, 1, 0, 0, 0, 0) := by decide +kernel
def kJx4a65c_grow_92f84 : gM := (gY mJx4a65c_grow_92f84, gCd mJx4a65c_grow_92f84, gL mJx4a65c_grow_92f84, gRt mJx4a65c_grow_92f84, gIx mJx4a65c_grow_92f84, [(0, (.aload_n 0, 1, 0, 0, 0, 0)), (1, (.getfield 9, 3, 0, 1, 2, 127)), (5, (.istore_n 2, 1, 0, 0, 0, 0)), (6, (.iload_n 2, 1, 0, 0, 0, 0)), (7, (.ifCond .gt 13, 3, 20, 0, 0, 0)), (10, (.aload_n 0, 1, 0, 0, 0, 0)), (11, (.getfield 9, 3, 0, 1, 2, 127)), (20, (.iload_n 2, 1, 0, 0, 0, 0)), (21, (.iload_n 1, 1, 0, 0, 0, 0)), (22, (.iload_n 2, 1, 0, 0, 0, 0)), (23, (.isub, 1, 0, 0, 0, 0)), (24, (.iload_n 2, 1, 0, 0, 0, 0)), (25, (.iconst 1, 1, 1, 0, 0, 0)), (26, (.ishr, 1, 0, 0, 0, 0)), (27, (.invokestatic 73, 3, 199, 3, 99, 315)), (30, (.istore_n 3, 1, 0, 0, 0, 0)), (31, (.aload_n 0, 1, 0, 0, 0, 0)), (32, (.aload_n 0, 1, 0, 0, 0, 0)), (33, (.getfield 9, 3, 0, 1, 2, 127)), (36, (.iload_n 3, 1, 0, 0, 0, 0)), (37, (.invokestatic 66, 3, 195, 2, 99, 325)), (40, (.dup_x1, 1, 0, 0, 0, 0)), (41, (.putfield 9, 3, 0, 1, 2, 127)), (44, (.areturn, 1, 0, 0, 0, 0)), (45, (.aload_n 0, 1, 0, 0, 0, 0)), (46, (.bipush 10, 2, 10, 0, 0, 0)), (48, (.iload_n 1, 1, 0, 0, 0, 0)), (55, (.dup_x1, 1, 0, 0, 0, 0)), (56, (.putfield 9, 3, 0, 1, 2, 127)), (59, (.areturn, 1, 0, 0, 0, 0))])
theorem eJx4a65c_grow_92f84_4 : decode (gCd kJx4a65c_grow_92f84) 4 = .ok (.arraylength, 1) := by decide +kernel
theorem eJx4a65c_grow_92f84_14 : decode (gCd kJx4a65c_grow_92f84) 14 = .ok (.getstatic 39, 3) := by decide +kernel
theorem eJx4a65c_grow_92f84_17 : decode (gCd kJx4a65c_grow_92f84) 17 = .ok (.if_acmp .eq 28, 3) := by decide +kernel
theorem eJx4a65c_grow_92f84_49 : decode (gCd kJx4a65c_grow_92f84) 49 = .ok (.invokestatic 79, 3) := by decide +kernel
theorem eJx4a65c_grow_92f84_52 : decode (gCd kJx4a65c_grow_92f84) 52 = .ok (.anewarray 7, 3) := by decide +kernel
set_option maxRecDepth 100000 in
theorem okJx4a65c_grow_92f84 : (gTb kJx4a65c_grow_92f84).all (okE gF gNM kJx4a65c_grow_92f84) = true := by decide +kernel
theorem pnJx4a65c_grow_92f84 : plainName (gY kJx4a65c_grow_92f84).cls = true := by decide +kernel
theorem tJx4a65c_grow_92f84_0 : gAt kJx4a65c_grow_92f84 0 = some (.aload_n 0, 1, 0, 0, 0, 0) := by decide +kernel
theorem tJx4a65c_grow_92f84_1 : gAt kJx4a65c_grow_92f84 1 = some (.getfield 9, 3, 0, 1, 2, 127) := by decide +kernel
theorem tJx4a65c_grow_92f84_5 : gAt kJx4a65c_grow_92f84 5 = some (.istore_n 2, 1, 0, 0, 0, 0) := by decide +kernel
theorem tJx4a65c_grow_92f84_6 : gAt kJx4a65c_grow_92f84 6 = some (.iload_n 2, 1, 0, 0, 0, 0) := by decide +kernel
theorem tJx4a65c_grow_92f84_7 : gAt kJx4a65c_grow_92f84 7 = some (.ifCond .gt 13, 3, 20, 0, 0, 0) := by decide +kernel
theorem tJx4a65c_grow_92f84_10 : gAt kJx4a65c_grow_92f84 10 = some (.aload_n 0, 1, 0, 0, 0, 0) := by decide +kernel
theorem tJx4a65c_grow_92f84_11 : gAt kJx4a65c_grow_92f84 11 = some (.getfield 9, 3, 0, 1, 2, 127) := by decide +kernel
theorem tJx4a65c_grow_92f84_20 : gAt kJx4a65c_grow_92f84 20 = some (.iload_n 2, 1, 0, 0, 0, 0) := by decide +kernel
theorem tJx4a65c_grow_92f84_21 : gAt kJx4a65c_grow_92f84 21 = some (.iload_n 1, 1, 0, 0, 0, 0) := by decide +kernel
theorem tJx4a65c_grow_92f84_22 : gAt kJx4a65c_grow_92f84 22 = some (.iload_n 2, 1, 0, 0, 0, 0) := by decide +kernel
theorem tJx4a65c_grow_92f84_23 : gAt kJx4a65c_grow_92f84 23 = some (.isub, 1, 0, 0, 0, 0) := by decide +kernel
theorem tJx4a65c_grow_92f84_24 : gAt kJx4a65c_grow_92f84 24 = some (.iload_n 2, 1, 0, 0, 0, 0) := by decide +kernel
theorem tJx4a65c_grow_92f84_25 : gAt kJx4a65c_grow_92f84 25 = some (.iconst 1, 1, 1, 0, 0, 0) := by decide +kernel
theorem tJx4a65c_grow_92f84_26 : gAt kJx4a65c_grow_92f84 26 = some (.ishr, 1, 0, 0, 0, 0) := by decide +kernel
theorem tJx4a65c_grow_92f84_27 : gAt kJx4a65c_grow_92f84 27 = some (.invokestatic 73, 3, 199, 3, 99, 315) := by decide +kernel
theorem tJx4a65c_grow_92f84_30 : gAt kJx4a65c_grow_92f84 30 = some (.istore_n 3, 1, 0, 0, 0, 0) := by decide +kernel
theorem tJx4a65c_grow_92f84_31 : gAt kJx4a65c_grow_92f84 31 = some (.aload_n 0, 1, 0, 0, 0, 0) := by decide +kernel
theorem tJx4a65c_grow_92f84_32 : gAt kJx4a65c_grow_92f84 32 = some (.aload_n 0, 1, 0, 0, 0, 0) := by decide +kernel
theorem tJx4a65c_grow_92f84_33 : gAt kJx4a65c_grow_92f84 33 = some (.getfield 9, 3, 0, 1, 2, 127) := by decide +kernel
theorem tJx4a65c_grow_92f84_36 : gAt kJx4a65c_grow_92f84 36 = some (.iload_n 3, 1, 0, 0, 0, 0) := by decide +kernel
theorem tJx4a65c_grow_92f84_37 : gAt kJx4a65c_grow_92f84 37 = some (.invokestatic 66, 3, 195, 2, 99, 325) := by decide +kernel
theorem tJx4a65c_grow_92f84_40 : gAt kJx4a65c_grow_92f84 40 = some (.dup_x1, 1, 0, 0, 0, 0) := by decide +kernel
theorem tJx4a65c_grow_92f84_41 : gAt kJx4a65c_grow_92f84 41 = some (.putfield 9, 3, 0, 1, 2, 127) := by decide +kernel
theorem tJx4a65c_grow_92f84_44 : gAt kJx4a65c_grow_92f84 44 = some (.areturn, 1, 0, 0, 0, 0) := by decide +kernel
theorem tJx4a65c_grow_92f84_45 : gAt kJx4a65c_grow_92f84 45 = some (.aload_n 0, 1, 0, 0, 0, 0) := by decide +kernel
theorem tJx4a65c_grow_92f84_46 : gAt kJx4a65c_grow_92f84 46 = some (.bipush 10, 2, 10, 0, 0, 0) := by decide +kernel
theorem tJx4a65c_grow_92f84_48 : gAt kJx4a65c_grow_92f84 48 = some (.iload_n 1, 1, 0, 0, 0, 0) := by decide +kernel
theorem tJx4a65c_grow_92f84_55 : gAt kJx4a65c_grow_92f84 55 = some (.dup_x1, 1, 0, 0, 0, 0) := by decide +kernel
theorem tJx4a65c_grow_92f84_56 : gAt kJx4a65c_grow_92f84 56 = some (.putfield 9, 3, 0, 1, 2, 127) := by decide +kernel
theorem tJx4a65c_grow_92f84_59 : gAt kJx4a65c_grow_92f84 59 = some (.areturn, 1, 0, 0, 0, 0) := by decide +kernel
set_option maxRecDepth 100000 in
theorem okJx4a65c_grow_d5877 : (gTb mJx4a65c_grow_d5877).all (okE gF gNM mJx4a65c_grow_d5877) = true := by decide +kernel
theorem pnJx4a65c_grow_d5877 : plainName (gY mJx4a65c_grow_d5877).cls = true := by decide +kernel
theorem tJx4a65c_grow_d5877_0 : gAt mJx4a65c_grow_d5877 0 = some (.aload_n 0, 1, 0, 0, 0, 0) := by decide +kernel
theorem tJx4a65c_grow_d5877_1 : gAt mJx4a65c_grow_d5877 1 = some (.aload_n 0, 1, 0, 0, 0, 0) := by decide +kernel
theorem tJx4a65c_grow_d5877_2 : gAt mJx4a65c_grow_d5877 2 = some (.getfield 48, 3, 0, 2, 0, 128) := by decide +kernel
theorem tJx4a65c_grow_d5877_5 : gAt mJx4a65c_grow_d5877 5 = some (.iconst 1, 1, 1, 0, 0, 0) := by decide +kernel
theorem tJx4a65c_grow_d5877_6 : gAt mJx4a65c_grow_d5877 6 = some (.iadd, 1, 0, 0, 0, 0) := by decide +kernel
theorem tJx4a65c_grow_d5877_7 : gAt mJx4a65c_grow_d5877 7 = some (.invokevirtual 69, 3, 188, 1, 0, 311) := by decide +kernel
theorem tJx4a65c_grow_d5877_10 : gAt mJx4a65c_grow_d5877 10 = some (.areturn, 1, 0, 0, 0, 0) := by decide +kernel
set_option maxRecDepth 100000 in
theorem okJx4a65c_size_8abf5 : (gTb mJx4a65c_size_8abf5).all (okE gF gNM mJx4a65c_size_8abf5) = true := by decide +kernel
theorem pnJx4a65c_size_8abf5 : plainName (gY mJx4a65c_size_8abf5).cls = true := by decide +kernel
theorem tJx4a65c_size_8abf5_0 : gAt mJx4a65c_size_8abf5 0 = some (.aload_n 0, 1, 0, 0, 0, 0) := by decide +kernel
theorem tJx4a65c_size_8abf5_1 : gAt mJx4a65c_size_8abf5 1 = some (.getfield 48, 3, 0, 2, 0, 128) := by decide +kernel
theorem tJx4a65c_size_8abf5_4 : gAt mJx4a65c_size_8abf5 4 = some (.ireturn, 1, 0, 0, 0, 0) := by decide +kernel
set_option maxRecDepth 100000 in
theorem okJx4a65c_elementData_915e3 : (gTb mJx4a65c_elementData_915e3).all (okE gF gNM mJx4a65c_elementData_915e3) = true := by decide +kernel
theorem pnJx4a65c_elementData_915e3 : plainName (gY mJx4a65c_elementData_915e3).cls = true := by decide +kernel
theorem tJx4a65c_elementData_915e3_0 : gAt mJx4a65c_elementData_915e3 0 = some (.aload_n 0, 1, 0, 0, 0, 0) := by decide +kernel
theorem tJx4a65c_elementData_915e3_1 : gAt mJx4a65c_elementData_915e3 1 = some (.getfield 9, 3, 0, 1, 2, 127) := by decide +kernel
theorem tJx4a65c_elementData_915e3_4 : gAt mJx4a65c_elementData_915e3 4 = some (.iload_n 1, 1, 0, 0, 0, 0) := by decide +kernel
theorem tJx4a65c_elementData_915e3_5 : gAt mJx4a65c_elementData_915e3 5 = some (.aaload, 1, 0, 0, 0, 0) := by decide +kernel
theorem tJx4a65c_elementData_915e3_6 : gAt mJx4a65c_elementData_915e3 6 = some (.areturn, 1, 0, 0, 0, 0) := by decide +kernel
set_option maxRecDepth 100000 in
theorem okJx4a65c_get_915e3 : (gTb mJx4a65c_get_915e3).all (okE gF gNM mJx4a65c_get_915e3) = true := by decide +kernel
theorem pnJx4a65c_get_915e3 : plainName (gY mJx4a65c_get_915e3).cls = true := by decide +kernel
theorem tJx4a65c_get_915e3_0 : gAt mJx4a65c_get_915e3 0 = some (.iload_n 1, 1, 0, 0, 0, 0) := by decide +kernel
theorem tJx4a65c_get_915e3_1 : gAt mJx4a65c_get_915e3 1 = some (.aload_n 0, 1, 0, 0, 0, 0) := by decide +kernel
theorem tJx4a65c_get_915e3_2 : gAt mJx4a65c_get_915e3 2 = some (.getfield 48, 3, 0, 2, 0, 128) := by decide +kernel
theorem tJx4a65c_get_915e3_5 : gAt mJx4a65c_get_915e3 5 = some (.invokestatic 118, 3, 198, 2, 99, 372) := by decide +kernel
theorem tJx4a65c_get_915e3_8 : gAt mJx4a65c_get_915e3 8 = some (.pop, 1, 0, 0, 0, 0) := by decide +kernel
theorem tJx4a65c_get_915e3_9 : gAt mJx4a65c_get_915e3 9 = some (.aload_n 0, 1, 0, 0, 0, 0) := by decide +kernel
theorem tJx4a65c_get_915e3_10 : gAt mJx4a65c_get_915e3 10 = some (.iload_n 1, 1, 0, 0, 0, 0) := by decide +kernel
theorem tJx4a65c_get_915e3_11 : gAt mJx4a65c_get_915e3 11 = some (.invokevirtual 123, 3, 191, 1, 0, 378) := by decide +kernel
theorem tJx4a65c_get_915e3_14 : gAt mJx4a65c_get_915e3 14 = some (.areturn, 1, 0, 0, 0, 0) := by decide +kernel
def kJx4a65c_add_72be8 : gM := (gY mJx4a65c_add_72be8, gCd mJx4a65c_add_72be8, gL mJx4a65c_add_72be8, gRt mJx4a65c_add_72be8, gIx mJx4a65c_add_72be8, [(0, (.iload_n 3, 1, 0, 0, 0, 0)), (1, (.aload_n 2, 1, 0, 0, 0, 0)), (3, (.if_icmp .ne 8, 3, 11, 0, 0, 0)), (6, (.aload_n 0, 1, 0, 0, 0, 0)), (7, (.invokevirtual 129, 3, 189, 0, 0, 307)), (10, (.astore_n 2, 1, 0, 0, 0, 0)), (11, (.aload_n 2, 1, 0, 0, 0, 0)), (12, (.iload_n 3, 1, 0, 0, 0, 0)), (13, (.aload_n 1, 1, 0, 0, 0, 0)), (15, (.aload_n 0, 1, 0, 0, 0, 0)), (16, (.iload_n 3, 1, 0, 0, 0, 0)), (17, (.iconst 1, 1, 1, 0, 0, 0)), (18, (.iadd, 1, 0, 0, 0, 0)), (19, (.putfield 48, 3, 0, 2, 0, 128)), (22, (.return_, 1, 0, 0, 0, 0))])
theorem eJx4a65c_add_72be8_2 : decode (gCd kJx4a65c_add_72be8) 2 = .ok (.arraylength, 1) := by decide +kernel
theorem eJx4a65c_add_72be8_14 : decode (gCd kJx4a65c_add_72be8) 14 = .ok (.aastore, 1) := by decide +kernel
set_option maxRecDepth 100000 in
theorem okJx4a65c_add_72be8 : (gTb kJx4a65c_add_72be8).all (okE gF gNM kJx4a65c_add_72be8) = true := by decide +kernel
theorem pnJx4a65c_add_72be8 : plainName (gY kJx4a65c_add_72be8).cls = true := by decide +kernel
theorem tJx4a65c_add_72be8_0 : gAt kJx4a65c_add_72be8 0 = some (.iload_n 3, 1, 0, 0, 0, 0) := by decide +kernel
theorem tJx4a65c_add_72be8_1 : gAt kJx4a65c_add_72be8 1 = some (.aload_n 2, 1, 0, 0, 0, 0) := by decide +kernel
theorem tJx4a65c_add_72be8_3 : gAt kJx4a65c_add_72be8 3 = some (.if_icmp .ne 8, 3, 11, 0, 0, 0) := by decide +kernel
theorem tJx4a65c_add_72be8_6 : gAt kJx4a65c_add_72be8 6 = some (.aload_n 0, 1, 0, 0, 0, 0) := by decide +kernel
theorem tJx4a65c_add_72be8_7 : gAt kJx4a65c_add_72be8 7 = some (.invokevirtual 129, 3, 189, 0, 0, 307) := by decide +kernel
theorem tJx4a65c_add_72be8_10 : gAt kJx4a65c_add_72be8 10 = some (.astore_n 2, 1, 0, 0, 0, 0) := by decide +kernel
theorem tJx4a65c_add_72be8_11 : gAt kJx4a65c_add_72be8 11 = some (.aload_n 2, 1, 0, 0, 0, 0) := by decide +kernel
theorem tJx4a65c_add_72be8_12 : gAt kJx4a65c_add_72be8 12 = some (.iload_n 3, 1, 0, 0, 0, 0) := by decide +kernel
theorem tJx4a65c_add_72be8_13 : gAt kJx4a65c_add_72be8 13 = some (.aload_n 1, 1, 0, 0, 0, 0) := by decide +kernel
theorem tJx4a65c_add_72be8_15 : gAt kJx4a65c_add_72be8 15 = some (.aload_n 0, 1, 0, 0, 0, 0) := by decide +kernel
theorem tJx4a65c_add_72be8_16 : gAt kJx4a65c_add_72be8 16 = some (.iload_n 3, 1, 0, 0, 0, 0) := by decide +kernel
theorem tJx4a65c_add_72be8_17 : gAt kJx4a65c_add_72be8 17 = some (.iconst 1, 1, 1, 0, 0, 0) := by decide +kernel
theorem tJx4a65c_add_72be8_18 : gAt kJx4a65c_add_72be8 18 = some (.iadd, 1, 0, 0, 0, 0) := by decide +kernel
theorem tJx4a65c_add_72be8_19 : gAt kJx4a65c_add_72be8 19 = some (.putfield 48, 3, 0, 2, 0, 128) := by decide +kernel
theorem tJx4a65c_add_72be8_22 : gAt kJx4a65c_add_72be8 22 = some (.return_, 1, 0, 0, 0, 0) := by decide +kernel
def kJx4a65c_add_9ea2d : gM := (gY mJx4a65c_add_9ea2d, gCd mJx4a65c_add_9ea2d, gL mJx4a65c_add_9ea2d, gRt mJx4a65c_add_9ea2d, gIx mJx4a65c_add_9ea2d, [(0, (.aload_n 0, 1, 0, 0, 0, 0)), (1, (.dup, 1, 0, 0, 0, 0)), (5, (.iconst 1, 1, 1, 0, 0, 0)), (6, (.iadd, 1, 0, 0, 0, 0)), (10, (.aload_n 0, 1, 0, 0, 0, 0)), (11, (.aload_n 1, 1, 0, 0, 0, 0)), (12, (.aload_n 0, 1, 0, 0, 0, 0)), (13, (.getfield 9, 3, 0, 1, 2, 127)), (16, (.aload_n 0, 1, 0, 0, 0, 0)), (17, (.getfield 48, 3, 0, 2, 0, 128)), (20, (.invokevirtual 131, 3, 193, 3, 0, 303)), (23, (.iconst 1, 1, 1, 0, 0, 0)), (24, (.ireturn, 1, 1, 0, 0, 0))])
theorem eJx4a65c_add_9ea2d_2 : decode (gCd kJx4a65c_add_9ea2d) 2 = .ok (.getfield 63, 3) := by decide +kernel
theorem eJx4a65c_add_9ea2d_7 : decode (gCd kJx4a65c_add_9ea2d) 7 = .ok (.putfield 63, 3) := by decide +kernel
set_option maxRecDepth 100000 in
theorem okJx4a65c_add_9ea2d : (gTb kJx4a65c_add_9ea2d).all (okE gF gNM kJx4a65c_add_9ea2d) = true := by decide +kernel
theorem pnJx4a65c_add_9ea2d : plainName (gY kJx4a65c_add_9ea2d).cls = true := by decide +kernel
theorem tJx4a65c_add_9ea2d_0 : gAt kJx4a65c_add_9ea2d 0 = some (.aload_n 0, 1, 0, 0, 0, 0) := by decide +kernel
theorem tJx4a65c_add_9ea2d_1 : gAt kJx4a65c_add_9ea2d 1 = some (.dup, 1, 0, 0, 0, 0) := by decide +kernel
theorem tJx4a65c_add_9ea2d_5 : gAt kJx4a65c_add_9ea2d 5 = some (.iconst 1, 1, 1, 0, 0, 0) := by decide +kernel
theorem tJx4a65c_add_9ea2d_6 : gAt kJx4a65c_add_9ea2d 6 = some (.iadd, 1, 0, 0, 0, 0) := by decide +kernel
theorem tJx4a65c_add_9ea2d_10 : gAt kJx4a65c_add_9ea2d 10 = some (.aload_n 0, 1, 0, 0, 0, 0) := by decide +kernel
theorem tJx4a65c_add_9ea2d_11 : gAt kJx4a65c_add_9ea2d 11 = some (.aload_n 1, 1, 0, 0, 0, 0) := by decide +kernel
theorem tJx4a65c_add_9ea2d_12 : gAt kJx4a65c_add_9ea2d 12 = some (.aload_n 0, 1, 0, 0, 0, 0) := by decide +kernel
theorem tJx4a65c_add_9ea2d_13 : gAt kJx4a65c_add_9ea2d 13 = some (.getfield 9, 3, 0, 1, 2, 127) := by decide +kernel
theorem tJx4a65c_add_9ea2d_16 : gAt kJx4a65c_add_9ea2d 16 = some (.aload_n 0, 1, 0, 0, 0, 0) := by decide +kernel
theorem tJx4a65c_add_9ea2d_17 : gAt kJx4a65c_add_9ea2d 17 = some (.getfield 48, 3, 0, 2, 0, 128) := by decide +kernel
theorem tJx4a65c_add_9ea2d_20 : gAt kJx4a65c_add_9ea2d 20 = some (.invokevirtual 131, 3, 193, 3, 0, 303) := by decide +kernel
theorem tJx4a65c_add_9ea2d_23 : gAt kJx4a65c_add_9ea2d 23 = some (.iconst 1, 1, 1, 0, 0, 0) := by decide +kernel
theorem tJx4a65c_add_9ea2d_24 : gAt kJx4a65c_add_9ea2d 24 = some (.ireturn, 1, 1, 0, 0, 0) := by decide +kernel

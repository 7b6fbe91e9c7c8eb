/-! rows of the tables of class java/util/ArrayList -/
theorem eJx4a65c_init_da8c8_0 : decode (gCd mJx4a65c_init_da8c8) 0 = .ok (.aload_n 0, 1) := by decide +kernel
theorem eJx4a65c_init_da8c8_1 : decode (gCd mJx4a65c_init_da8c8) 1 = .ok (.invokespecial 1, 3) := by decide +kernel
theorem eJx4a65c_init_da8c8_4 : decode (gCd mJx4a65c_init_da8c8) 4 = .ok (.aload_n 0, 1) := by decide +kernel
theorem eJx4a65c_init_da8c8_5 : decode (gCd mJx4a65c_init_da8c8) 5 = .ok (.getstatic 39, 3) := by decide +kernel
theorem eJx4a65c_init_da8c8_8 : decode (gCd mJx4a65c_init_da8c8) 8 = .ok (.putfield 9, 3) := by decide +kernel
theorem eJx4a65c_init_da8c8_11 : decode (gCd mJx4a65c_init_da8c8) 11 = .ok (.return_, 1) := by decide +kernel
theorem pnJx4a65c_init_da8c8 : plainName (gY mJx4a65c_init_da8c8).cls = true := by decide +kernel
theorem eJx4a65c_grow_92f84_0 : decode (gCd mJx4a65c_grow_92f84) 0 = .ok (.aload_n 0, 1) := by decide +kernel
theorem eJx4a65c_grow_92f84_1 : decode (gCd mJx4a65c_grow_92f84) 1 = .ok (.getfield 9, 3) := by decide +kernel
theorem eJx4a65c_grow_92f84_4 : decode (gCd mJx4a65c_grow_92f84) 4 = .ok (.arraylength, 1) := by decide +kernel
theorem eJx4a65c_grow_92f84_5 : decode (gCd mJx4a65c_grow_92f84) 5 = .ok (.istore_n 2, 1) := by decide +kernel
theorem eJx4a65c_grow_92f84_6 : decode (gCd mJx4a65c_grow_92f84) 6 = .ok (.iload_n 2, 1) := by decide +kernel
theorem eJx4a65c_grow_92f84_7 : decode (gCd mJx4a65c_grow_92f84) 7 = .ok (.ifCond .gt 13, 3) := by decide +kernel
theorem eJx4a65c_grow_92f84_10 : decode (gCd mJx4a65c_grow_92f84) 10 = .ok (.aload_n 0, 1) := by decide +kernel
theorem eJx4a65c_grow_92f84_11 : decode (gCd mJx4a65c_grow_92f84) 11 = .ok (.getfield 9, 3) := by decide +kernel
theorem eJx4a65c_grow_92f84_14 : decode (gCd mJx4a65c_grow_92f84) 14 = .ok (.getstatic 39, 3) := by decide +kernel
theorem eJx4a65c_grow_92f84_17 : decode (gCd mJx4a65c_grow_92f84) 17 = .ok (.if_acmp .eq 28, 3) := by decide +kernel
theorem eJx4a65c_grow_92f84_20 : decode (gCd mJx4a65c_grow_92f84) 20 = .ok (.iload_n 2, 1) := by decide +kernel
theorem eJx4a65c_grow_92f84_21 : decode (gCd mJx4a65c_grow_92f84) 21 = .ok (.iload_n 1, 1) := by decide +kernel
theorem eJx4a65c_grow_92f84_22 : decode (gCd mJx4a65c_grow_92f84) 22 = .ok (.iload_n 2, 1) := by decide +kernel
theorem eJx4a65c_grow_92f84_23 : decode (gCd mJx4a65c_grow_92f84) 23 = .ok (.isub, 1) := by decide +kernel
theorem eJx4a65c_grow_92f84_24 : decode (gCd mJx4a65c_grow_92f84) 24 = .ok (.iload_n 2, 1) := by decide +kernel
theorem eJx4a65c_grow_92f84_25 : decode (gCd mJx4a65c_grow_92f84) 25 = .ok (.iconst 1, 1) := by decide +kernel
theorem eJx4a65c_grow_92f84_26 : decode (gCd mJx4a65c_grow_92f84) 26 = .ok (.ishr, 1) := by decide +kernel
theorem eJx4a65c_grow_92f84_27 : decode (gCd mJx4a65c_grow_92f84) 27 = .ok (.invokestatic 73, 3) := by decide +kernel
theorem eJx4a65c_grow_92f84_30 : decode (gCd mJx4a65c_grow_92f84) 30 = .ok (.istore_n 3, 1) := by decide +kernel
theorem eJx4a65c_grow_92f84_31 : decode (gCd mJx4a65c_grow_92f84) 31 = .ok (.aload_n 0, 1) := by decide +kernel
theorem eJx4a65c_grow_92f84_32 : decode (gCd mJx4a65c_grow_92f84) 32 = .ok (.aload_n 0, 1) := by decide +kernel
theorem eJx4a65c_grow_92f84_33 : decode (gCd mJx4a65c_grow_92f84) 33 = .ok (.getfield 9, 3) := by decide +kernel
theorem eJx4a65c_grow_92f84_36 : decode (gCd mJx4a65c_grow_92f84) 36 = .ok (.iload_n 3, 1) := by decide +kernel
theorem eJx4a65c_grow_92f84_37 : decode (gCd mJx4a65c_grow_92f84) 37 = .ok (.invokestatic 66, 3) := by decide +kernel
theorem eJx4a65c_grow_92f84_40 : decode (gCd mJx4a65c_grow_92f84) 40 = .ok (.dup_x1, 1) := by decide +kernel
theorem eJx4a65c_grow_92f84_41 : decode (gCd mJx4a65c_grow_92f84) 41 = .ok (.putfield 9, 3) := by decide +kernel
theorem eJx4a65c_grow_92f84_44 : decode (gCd mJx4a65c_grow_92f84) 44 = .ok (.areturn, 1) := by decide +kernel
theorem eJx4a65c_grow_92f84_45 : decode (gCd mJx4a65c_grow_92f84) 45 = .ok (.aload_n 0, 1) := by decide +kernel
theorem eJx4a65c_grow_92f84_46 : decode (gCd mJx4a65c_grow_92f84) 46 = .ok (.bipush 10, 2) := by decide +kernel
theorem eJx4a65c_grow_92f84_48 : decode (gCd mJx4a65c_grow_92f84) 48 = .ok (.iload_n 1, 1) := by decide +kernel
theorem eJx4a65c_grow_92f84_49 : decode (gCd mJx4a65c_grow_92f84) 49 = .ok (.invokestatic 79, 3) := by decide +kernel
theorem eJx4a65c_grow_92f84_52 : decode (gCd mJx4a65c_grow_92f84) 52 = .ok (.anewarray 7, 3) := by decide +kernel
theorem eJx4a65c_grow_92f84_55 : decode (gCd mJx4a65c_grow_92f84) 55 = .ok (.dup_x1, 1) := by decide +kernel
theorem eJx4a65c_grow_92f84_56 : decode (gCd mJx4a65c_grow_92f84) 56 = .ok (.putfield 9, 3) := by decide +kernel
theorem eJx4a65c_grow_92f84_59 : decode (gCd mJx4a65c_grow_92f84) 59 = .ok (.areturn, 1) := by decide +kernel
theorem pnJx4a65c_grow_92f84 : plainName (gY mJx4a65c_grow_92f84).cls = true := by decide +kernel
theorem eJx4a65c_grow_d5877_0 : decode (gCd mJx4a65c_grow_d5877) 0 = .ok (.aload_n 0, 1) := by decide +kernel
theorem eJx4a65c_grow_d5877_1 : decode (gCd mJx4a65c_grow_d5877) 1 = .ok (.aload_n 0, 1) := by decide +kernel
theorem eJx4a65c_grow_d5877_2 : decode (gCd mJx4a65c_grow_d5877) 2 = .ok (.getfield 48, 3) := by decide +kernel
theorem eJx4a65c_grow_d5877_5 : decode (gCd mJx4a65c_grow_d5877) 5 = .ok (.iconst 1, 1) := by decide +kernel
theorem eJx4a65c_grow_d5877_6 : decode (gCd mJx4a65c_grow_d5877) 6 = .ok (.iadd, 1) := by decide +kernel
theorem eJx4a65c_grow_d5877_7 : decode (gCd mJx4a65c_grow_d5877) 7 = .ok (.invokevirtual 69, 3) := by decide +kernel
theorem eJx4a65c_grow_d5877_10 : decode (gCd mJx4a65c_grow_d5877) 10 = .ok (.areturn, 1) := by decide +kernel
set_option maxRecDepth 100000 in
theorem okJx4a65c_grow_d5877 : (gTb mJx4a65c_grow_d5877).all (okE gF gNM mJx4a65c_grow_d5877) = true := by decide +kernel
theorem pnJx4a65c_grow_d5877 : plainName (gY mJx4a65c_grow_d5877).cls = true := by decide +kernel
theorem tJx4a65c_grow_d5877_0 : gAt mJx4a65c_grow_d5877 0 = some (.aload_n 0, 1, 0, 0, 0, 0) := by decide +kernel
theorem tJx4a65c_grow_d5877_1 : gAt mJx4a65c_grow_d5877 1 = some (.aload_n 0, 1, 0, 0, 0, 0) := by decide +kernel
theorem tJx4a65c_grow_d5877_2 : gAt mJx4a65c_grow_d5877 2 = some (.getfield 48, 3, 0, 2, 0, 128) := by decide +kernel
theorem tJx4a65c_grow_d5877_5 : gAt mJx4a65c_grow_d5877 5 = some (.iconst 1, 1, 1, 0, 0, 0) := by decide +kernel
theorem tJx4a65c_grow_d5877_6 : gAt mJx4a65c_grow_d5877 6 = some (.iadd, 1, 0, 0, 0, 0) := by decide +kernel
theorem tJx4a65c_grow_d5877_7 : gAt mJx4a65c_grow_d5877 7 = some (.invokevirtual 69, 3, 186, 1, 0, 314) := by decide +kernel
theorem tJx4a65c_grow_d5877_10 : gAt mJx4a65c_grow_d5877 10 = some (.areturn, 1, 0, 0, 0, 0) := by decide +kernel
theorem eJx4a65c_size_8abf5_0 : decode (gCd mJx4a65c_size_8abf5) 0 = .ok (.aload_n 0, 1) := by decide +kernel
theorem eJx4a65c_size_8abf5_1 : decode (gCd mJx4a65c_size_8abf5) 1 = .ok (.getfield 48, 3) := by decide +kernel
theorem eJx4a65c_size_8abf5_4 : decode (gCd mJx4a65c_size_8abf5) 4 = .ok (.ireturn, 1) := by decide +kernel
set_option maxRecDepth 100000 in
theorem okJx4a65c_size_8abf5 : (gTb mJx4a65c_size_8abf5).all (okE gF gNM mJx4a65c_size_8abf5) = true := by decide +kernel
theorem pnJx4a65c_size_8abf5 : plainName (gY mJx4a65c_size_8abf5).cls = true := by decide +kernel
theorem tJx4a65c_size_8abf5_0 : gAt mJx4a65c_size_8abf5 0 = some (.aload_n 0, 1, 0, 0, 0, 0) := by decide +kernel
theorem tJx4a65c_size_8abf5_1 : gAt mJx4a65c_size_8abf5 1 = some (.getfield 48, 3, 0, 2, 0, 128) := by decide +kernel
theorem tJx4a65c_size_8abf5_4 : gAt mJx4a65c_size_8abf5 4 = some (.ireturn, 1, 0, 0, 0, 0) := by decide +kernel
theorem eJx4a65c_elementData_915e3_0 : decode (gCd mJx4a65c_elementData_915e3) 0 = .ok (.aload_n 0, 1) := by decide +kernel
theorem eJx4a65c_elementData_915e3_1 : decode (gCd mJx4a65c_elementData_915e3) 1 = .ok (.getfield 9, 3) := by decide +kernel
theorem eJx4a65c_elementData_915e3_4 : decode (gCd mJx4a65c_elementData_915e3) 4 = .ok (.iload_n 1, 1) := by decide +kernel
theorem eJx4a65c_elementData_915e3_5 : decode (gCd mJx4a65c_elementData_915e3) 5 = .ok (.aaload, 1) := by decide +kernel
theorem eJx4a65c_elementData_915e3_6 : decode (gCd mJx4a65c_elementData_915e3) 6 = .ok (.areturn, 1) := by decide +kernel
set_option maxRecDepth 100000 in
theorem okJx4a65c_elementData_915e3 : (gTb mJx4a65c_elementData_915e3).all (okE gF gNM mJx4a65c_elementData_915e3) = true := by decide +kernel
theorem pnJx4a65c_elementData_915e3 : plainName (gY mJx4a65c_elementData_915e3).cls = true := by decide +kernel
theorem tJx4a65c_elementData_915e3_0 : gAt mJx4a65c_elementData_915e3 0 = some (.aload_n 0, 1, 0, 0, 0, 0) := by decide +kernel
theorem tJx4a65c_elementData_915e3_1 : gAt mJx4a65c_elementData_915e3 1 = some (.getfield 9, 3, 0, 1, 2, 127) := by decide +kernel
theorem tJx4a65c_elementData_915e3_4 : gAt mJx4a65c_elementData_915e3 4 = some (.iload_n 1, 1, 0, 0, 0, 0) := by decide +kernel
theorem tJx4a65c_elementData_915e3_5 : gAt mJx4a65c_elementData_915e3 5 = some (.aaload, 1, 0, 0, 0, 0) := by decide +kernel
theorem tJx4a65c_elementData_915e3_6 : gAt mJx4a65c_elementData_915e3 6 = some (.areturn, 1, 0, 0, 0, 0) := by decide +kernel
theorem eJx4a65c_get_915e3_0 : decode (gCd mJx4a65c_get_915e3) 0 = .ok (.iload_n 1, 1) := by decide +kernel
theorem eJx4a65c_get_915e3_1 : decode (gCd mJx4a65c_get_915e3) 1 = .ok (.aload_n 0, 1) := by decide +kernel
theorem eJx4a65c_get_915e3_2 : decode (gCd mJx4a65c_get_915e3) 2 = .ok (.getfield 48, 3) := by decide +kernel
theorem eJx4a65c_get_915e3_5 : decode (gCd mJx4a65c_get_915e3) 5 = .ok (.invokestatic 118, 3) := by decide +kernel
theorem eJx4a65c_get_915e3_8 : decode (gCd mJx4a65c_get_915e3) 8 = .ok (.pop, 1) := by decide +kernel
theorem eJx4a65c_get_915e3_9 : decode (gCd mJx4a65c_get_915e3) 9 = .ok (.aload_n 0, 1) := by decide +kernel
theorem eJx4a65c_get_915e3_10 : decode (gCd mJx4a65c_get_915e3) 10 = .ok (.iload_n 1, 1) := by decide +kernel
theorem eJx4a65c_get_915e3_11 : decode (gCd mJx4a65c_get_915e3) 11 = .ok (.invokevirtual 123, 3) := by decide +kernel
theorem eJx4a65c_get_915e3_14 : decode (gCd mJx4a65c_get_915e3) 14 = .ok (.areturn, 1) := by decide +kernel
set_option maxRecDepth 100000 in
theorem okJx4a65c_get_915e3 : (gTb mJx4a65c_get_915e3).all (okE gF gNM mJx4a65c_get_915e3) = true := by decide +kernel
theorem pnJx4a65c_get_915e3 : plainName (gY mJx4a65c_get_915e3).cls = true := by decide +kernel
theorem tJx4a65c_get_915e3_0 : gAt mJx4a65c_get_915e3 0 = some (.iload_n 1, 1, 0, 0, 0, 0) := by decide +kernel
theorem tJx4a65c_get_915e3_1 : gAt mJx4a65c_get_915e3 1 = some (.aload_n 0, 1, 0, 0, 0, 0) := by decide +kernel
theorem tJx4a65c_get_915e3_2 : gAt mJx4a65c_get_915e3 2 = some (.getfield 48, 3, 0, 2, 0, 128) := by decide +kernel
theorem tJx4a65c_get_915e3_5 : gAt mJx4a65c_get_915e3 5 = some (.invokestatic 118, 3, 196, 2, 99, 375) := by decide +kernel
theorem tJx4a65c_get_915e3_8 : gAt mJx4a65c_get_915e3 8 = some (.pop, 1, 0, 0, 0, 0) := by decide +kernel
theorem tJx4a65c_get_915e3_9 : gAt mJx4a65c_get_915e3 9 = some (.aload_n 0, 1, 0, 0, 0, 0) := by decide +kernel
theorem tJx4a65c_get_915e3_10 : gAt mJx4a65c_get_915e3 10 = some (.iload_n 1, 1, 0, 0, 0, 0) := by decide +kernel
theorem tJx4a65c_get_915e3_11 : gAt mJx4a65c_get_915e3 11 = some (.invokevirtual 123, 3, 189, 1, 0, 381) := by decide +kernel
theorem tJx4a65c_get_915e3_14 : gAt mJx4a65c_get_915e3 14 = some (.areturn, 1, 0, 0, 0, 0) := by decide +kernel
theorem eJx4a65c_add_72be8_0 : decode (gCd mJx4a65c_add_72be8) 0 = .ok (.iload_n 3, 1) := by decide +kernel
theorem eJx4a65c_add_72be8_1 : decode (gCd mJx4a65c_add_72be8) 1 = .ok (.aload_n 2, 1) := by decide +kernel
theorem eJx4a65c_add_72be8_2 : decode (gCd mJx4a65c_add_72be8) 2 = .ok (.arraylength, 1) := by decide +kernel
theorem eJx4a65c_add_72be8_3 : decode (gCd mJx4a65c_add_72be8) 3 = .ok (.if_icmp .ne 8, 3) := by decide +kernel
theorem eJx4a65c_add_72be8_6 : decode (gCd mJx4a65c_add_72be8) 6 = .ok (.aload_n 0, 1) := by decide +kernel
theorem eJx4a65c_add_72be8_7 : decode (gCd mJx4a65c_add_72be8) 7 = .ok (.invokevirtual 129, 3) := by decide +kernel
theorem eJx4a65c_add_72be8_10 : decode (gCd mJx4a65c_add_72be8) 10 = .ok (.astore_n 2, 1) := by decide +kernel
theorem eJx4a65c_add_72be8_11 : decode (gCd mJx4a65c_add_72be8) 11 = .ok (.aload_n 2, 1) := by decide +kernel
theorem eJx4a65c_add_72be8_12 : decode (gCd mJx4a65c_add_72be8) 12 = .ok (.iload_n 3, 1) := by decide +kernel
theorem eJx4a65c_add_72be8_13 : decode (gCd mJx4a65c_add_72be8) 13 = .ok (.aload_n 1, 1) := by decide +kernel
theorem eJx4a65c_add_72be8_14 : decode (gCd mJx4a65c_add_72be8) 14 = .ok (.aastore, 1) := by decide +kernel
theorem eJx4a65c_add_72be8_15 : decode (gCd mJx4a65c_add_72be8) 15 = .ok (.aload_n 0, 1) := by decide +kernel
theorem eJx4a65c_add_72be8_16 : decode (gCd mJx4a65c_add_72be8) 16 = .ok (.iload_n 3, 1) := by decide +kernel
theorem eJx4a65c_add_72be8_17 : decode (gCd mJx4a65c_add_72be8) 17 = .ok (.iconst 1, 1) := by decide +kernel
theorem eJx4a65c_add_72be8_18 : decode (gCd mJx4a65c_add_72be8) 18 = .ok (.iadd, 1) := by decide +kernel
theorem eJx4a65c_add_72be8_19 : decode (gCd mJx4a65c_add_72be8) 19 = .ok (.putfield 48, 3) := by decide +kernel
theorem eJx4a65c_add_72be8_22 : decode (gCd mJx4a65c_add_72be8) 22 = .ok (.return_, 1) := by decide +kernel
theorem pnJx4a65c_add_72be8 : plainName (gY mJx4a65c_add_72be8).cls = true := by decide +kernel
theorem eJx4a65c_add_9ea2d_0 : decode (gCd mJx4a65c_add_9ea2d) 0 = .ok (.aload_n 0, 1) := by decide +kernel
theorem eJx4a65c_add_9ea2d_1 : decode (gCd mJx4a65c_add_9ea2d) 1 = .ok (.dup, 1) := by decide +kernel
theorem eJx4a65c_add_9ea2d_2 : decode (gCd mJx4a65c_add_9ea2d) 2 = .ok (.getfield 63, 3) := by decide +kernel
theorem eJx4a65c_add_9ea2d_5 : decode (gCd mJx4a65c_add_9ea2d) 5 = .ok (.iconst 1, 1) := by decide +kernel
theorem eJx4a65c_add_9ea2d_6 : decode (gCd mJx4a65c_add_9ea2d) 6 = .ok (.iadd, 1) := by decide +kernel
theorem eJx4a65c_add_9ea2d_7 : decode (gCd mJx4a65c_add_9ea2d) 7 = .ok (.putfield 63, 3) := by decide +kernel
theorem eJx4a65c_add_9ea2d_10 : decode (gCd mJx4a65c_add_9ea2d) 10 = .ok (.aload_n 0, 1) := by decide +kernel
theorem eJx4a65c_add_9ea2d_11 : decode (gCd mJx4a65c_add_9ea2d) 11 = .ok (.aload_n 1, 1) := by decide +kernel
theorem eJx4a65c_add_9ea2d_12 : decode (gCd mJx4a65c_add_9ea2d) 12 = .ok (.aload_n 0, 1) := by decide +kernel
theorem eJx4a65c_add_9ea2d_13 : decode (gCd mJx4a65c_add_9ea2d) 13 = .ok (.getfield 9, 3) := by decide +kernel
theorem eJx4a65c_add_9ea2d_16 : decode (gCd mJx4a65c_add_9ea2d) 16 = .ok (.aload_n 0, 1) := by decide +kernel
theorem eJx4a65c_add_9ea2d_17 : decode (gCd mJx4a65c_add_9ea2d) 17 = .ok (.getfield 48, 3) := by decide +kernel
theorem eJx4a65c_add_9ea2d_20 : decode (gCd mJx4a65c_add_9ea2d) 20 = .ok (.invokevirtual 131, 3) := by decide +kernel
theorem eJx4a65c_add_9ea2d_23 : decode (gCd mJx4a65c_add_9ea2d) 23 = .ok (.iconst 1, 1) := by decide +kernel
theorem eJx4a65c_add_9ea2d_24 : decode (gCd mJx4a65c_add_9ea2d) 24 = .ok (.ireturn, 1) := by decide +kernel
theorem pnJx4a65c_add_9ea2d : plainName (gY mJx4a65c_add_9ea2d).cls = true := by decide +kernel

/-! rows of the tables of class PapersDesk$Gift -/
set_option maxRecDepth 100000 in
theorem okX1_init : (gTb mX1_init).all (okE gF gNM mX1_init) = true := by decide +kernel
theorem pnX1_init : plainName (gY mX1_init).cls = true := by decide +kernel
theorem tX1_init_0 : gAt mX1_init 0 = some (.aload_n 0, 1, 0, 0, 0, 0) := by decide +kernel
theorem tX1_init_1 : gAt mX1_init 1 = some (.invokespecial 1, 3, 9999, 0, 0, 886) := by decide +kernel
theorem tX1_init_4 : gAt mX1_init 4 = some (.aload_n 0, 1, 0, 0, 0, 0) := by decide +kernel
theorem tX1_init_5 : gAt mX1_init 5 = some (.iload_n 1, 1, 0, 0, 0, 0) := by decide +kernel
theorem tX1_init_6 : gAt mX1_init 6 = some (.putfield 7, 3, 2, 0, 0, 895) := by decide +kernel
theorem tX1_init_9 : gAt mX1_init 9 = some (.aload_n 0, 1, 0, 0, 0, 0) := by decide +kernel
theorem tX1_init_10 : gAt mX1_init 10 = some (.aload_n 2, 1, 0, 0, 0, 0) := by decide +kernel
theorem tX1_init_11 : gAt mX1_init 11 = some (.getfield 13, 3, 3, 0, 0, 441) := by decide +kernel
theorem tX1_init_14 : gAt mX1_init 14 = some (.putfield 18, 3, 2, 1, 0, 897) := by decide +kernel
theorem tX1_init_17 : gAt mX1_init 17 = some (.aload_n 0, 1, 0, 0, 0, 0) := by decide +kernel
theorem tX1_init_18 : gAt mX1_init 18 = some (.iload_n 3, 1, 0, 0, 0, 0) := by decide +kernel
theorem tX1_init_19 : gAt mX1_init 19 = some (.putfield 21, 3, 2, 2, 0, 899) := by decide +kernel
theorem tX1_init_22 : gAt mX1_init 22 = some (.aload_n 0, 1, 0, 0, 0, 0) := by decide +kernel
theorem tX1_init_23 : gAt mX1_init 23 = some (.aload_n 2, 1, 0, 0, 0, 0) := by decide +kernel
theorem tX1_init_24 : gAt mX1_init 24 = some (.getfield 24, 3, 3, 2, 2, 445) := by decide +kernel
theorem tX1_init_27 : gAt mX1_init 27 = some (.iload 4, 2, 0, 0, 0, 0) := by decide +kernel
theorem tX1_init_29 : gAt mX1_init 29 = some (.invokevirtual 28, 3, 57, 1, 8, 887) := by decide +kernel
theorem tX1_init_32 : gAt mX1_init 32 = some (.putfield 34, 3, 2, 3, 0, 901) := by decide +kernel
theorem tX1_init_35 : gAt mX1_init 35 = some (.aload_n 0, 1, 0, 0, 0, 0) := by decide +kernel
theorem tX1_init_36 : gAt mX1_init 36 = some (.aload_n 2, 1, 0, 0, 0, 0) := by decide +kernel
theorem tX1_init_37 : gAt mX1_init 37 = some (.getfield 24, 3, 3, 2, 2, 445) := by decide +kernel
theorem tX1_init_40 : gAt mX1_init 40 = some (.getfield 37, 3, 8, 1, 2, 404) := by decide +kernel
theorem tX1_init_43 : gAt mX1_init 43 = some (.arraylength, 1, 12, 0, 0, 0) := by decide +kernel
theorem tX1_init_44 : gAt mX1_init 44 = some (.newarray .int, 2, 12, 0, 0, 139) := by decide +kernel
theorem tX1_init_46 : gAt mX1_init 46 = some (.putfield 41, 3, 2, 4, 2, 903) := by decide +kernel
theorem tX1_init_49 : gAt mX1_init 49 = some (.iconst 0, 1, 0, 0, 0, 0) := by decide +kernel
theorem tX1_init_50 : gAt mX1_init 50 = some (.istore 5, 2, 0, 0, 0, 0) := by decide +kernel
theorem tX1_init_52 : gAt mX1_init 52 = some (.iload 5, 2, 0, 0, 0, 0) := by decide +kernel
theorem tX1_init_54 : gAt mX1_init 54 = some (.aload_n 0, 1, 0, 0, 0, 0) := by decide +kernel
theorem tX1_init_55 : gAt mX1_init 55 = some (.getfield 41, 3, 2, 4, 2, 903) := by decide +kernel
theorem tX1_init_58 : gAt mX1_init 58 = some (.arraylength, 1, 12, 0, 0, 0) := by decide +kernel
theorem tX1_init_59 : gAt mX1_init 59 = some (.if_icmp .ge 27, 3, 86, 0, 0, 0) := by decide +kernel
theorem tX1_init_62 : gAt mX1_init 62 = some (.aload_n 0, 1, 0, 0, 0, 0) := by decide +kernel
theorem tX1_init_63 : gAt mX1_init 63 = some (.getfield 41, 3, 2, 4, 2, 903) := by decide +kernel
theorem tX1_init_66 : gAt mX1_init 66 = some (.iload 5, 2, 0, 0, 0, 0) := by decide +kernel
theorem tX1_init_68 : gAt mX1_init 68 = some (.aload_n 2, 1, 0, 0, 0, 0) := by decide +kernel
theorem tX1_init_69 : gAt mX1_init 69 = some (.getfield 24, 3, 3, 2, 2, 445) := by decide +kernel
theorem tX1_init_72 : gAt mX1_init 72 = some (.iload 5, 2, 0, 0, 0, 0) := by decide +kernel
theorem tX1_init_74 : gAt mX1_init 74 = some (.iload 4, 2, 0, 0, 0, 0) := by decide +kernel
theorem tX1_init_76 : gAt mX1_init 76 = some (.invokevirtual 42, 3, 56, 2, 8, 891) := by decide +kernel
theorem tX1_init_79 : gAt mX1_init 79 = some (.iastore, 1, 12, 0, 0, 0) := by decide +kernel
theorem tX1_init_80 : gAt mX1_init 80 = some (.iinc 5 1, 3, 1, 0, 0, 0) := by decide +kernel
theorem tX1_init_83 : gAt mX1_init 83 = some (.goto (-31), 3, 52, 0, 0, 0) := by decide +kernel
theorem tX1_init_86 : gAt mX1_init 86 = some (.return_, 1, 0, 0, 0, 0) := by decide +kernel

/-! rows of the tables of class PapersDesk$Rules -/
set_option maxRecDepth 100000 in
theorem okX5_init : (gTb mX5_init).all (okE gF gNM mX5_init) = true := by decide +kernel
theorem pnX5_init : plainName (gY mX5_init).cls = true := by decide +kernel
theorem tX5_init_0 : gAt mX5_init 0 = some (.aload_n 0, 1, 0, 0, 0, 0) := by decide +kernel
theorem tX5_init_1 : gAt mX5_init 1 = some (.invokespecial 3, 3, 9999, 0, 0, 166) := by decide +kernel
theorem tX5_init_4 : gAt mX5_init 4 = some (.aload_n 0, 1, 0, 0, 0, 0) := by decide +kernel
theorem tX5_init_5 : gAt mX5_init 5 = some (.iconst 0, 1, 0, 0, 0, 0) := by decide +kernel
theorem tX5_init_6 : gAt mX5_init 6 = some (.putfield 9, 3, 6, 0, 0, 167) := by decide +kernel
theorem tX5_init_9 : gAt mX5_init 9 = some (.aload_n 0, 1, 0, 0, 0, 0) := by decide +kernel
theorem tX5_init_10 : gAt mX5_init 10 = some (.bipush 16, 2, 16, 0, 0, 0) := by decide +kernel
theorem tX5_init_12 : gAt mX5_init 12 = some (.newarray .int, 2, 12, 0, 0, 139) := by decide +kernel
theorem tX5_init_14 : gAt mX5_init 14 = some (.putfield 15, 3, 6, 1, 2, 170) := by decide +kernel
theorem tX5_init_17 : gAt mX5_init 17 = some (.aload_n 0, 1, 0, 0, 0, 0) := by decide +kernel
theorem tX5_init_18 : gAt mX5_init 18 = some (.bipush 16, 2, 16, 0, 0, 0) := by decide +kernel
theorem tX5_init_20 : gAt mX5_init 20 = some (.newarray .int, 2, 12, 0, 0, 139) := by decide +kernel
theorem tX5_init_22 : gAt mX5_init 22 = some (.putfield 19, 3, 6, 2, 2, 171) := by decide +kernel
theorem tX5_init_25 : gAt mX5_init 25 = some (.aload_n 0, 1, 0, 0, 0, 0) := by decide +kernel
theorem tX5_init_26 : gAt mX5_init 26 = some (.sipush 600, 3, 600, 0, 0, 0) := by decide +kernel
theorem tX5_init_29 : gAt mX5_init 29 = some (.newarray .int, 2, 12, 0, 0, 139) := by decide +kernel
theorem tX5_init_31 : gAt mX5_init 31 = some (.putfield 22, 3, 6, 3, 2, 172) := by decide +kernel
theorem tX5_init_34 : gAt mX5_init 34 = some (.aload_n 0, 1, 0, 0, 0, 0) := by decide +kernel
theorem tX5_init_35 : gAt mX5_init 35 = some (.iconst 0, 1, 0, 0, 0, 0) := by decide +kernel
theorem tX5_init_36 : gAt mX5_init 36 = some (.putfield 25, 3, 6, 4, 0, 173) := by decide +kernel
theorem tX5_init_39 : gAt mX5_init 39 = some (.aload_n 0, 1, 0, 0, 0, 0) := by decide +kernel
theorem tX5_init_40 : gAt mX5_init 40 = some (.bipush 16, 2, 16, 0, 0, 0) := by decide +kernel
theorem tX5_init_42 : gAt mX5_init 42 = some (.newarray .int, 2, 12, 0, 0, 139) := by decide +kernel
theorem tX5_init_44 : gAt mX5_init 44 = some (.putfield 28, 3, 6, 5, 2, 174) := by decide +kernel
theorem tX5_init_47 : gAt mX5_init 47 = some (.return_, 1, 0, 0, 0, 0) := by decide +kernel
set_option maxRecDepth 100000 in
theorem okX5_wipe : (gTb mX5_wipe).all (okE gF gNM mX5_wipe) = true := by decide +kernel
theorem pnX5_wipe : plainName (gY mX5_wipe).cls = true := by decide +kernel
theorem tX5_wipe_0 : gAt mX5_wipe 0 = some (.aload_n 0, 1, 0, 0, 0, 0) := by decide +kernel
theorem tX5_wipe_1 : gAt mX5_wipe 1 = some (.iconst 0, 1, 0, 0, 0, 0) := by decide +kernel
theorem tX5_wipe_2 : gAt mX5_wipe 2 = some (.putfield 9, 3, 6, 0, 0, 167) := by decide +kernel
theorem tX5_wipe_5 : gAt mX5_wipe 5 = some (.aload_n 0, 1, 0, 0, 0, 0) := by decide +kernel
theorem tX5_wipe_6 : gAt mX5_wipe 6 = some (.iconst 0, 1, 0, 0, 0, 0) := by decide +kernel
theorem tX5_wipe_7 : gAt mX5_wipe 7 = some (.putfield 25, 3, 6, 4, 0, 173) := by decide +kernel
theorem tX5_wipe_10 : gAt mX5_wipe 10 = some (.return_, 1, 0, 0, 0, 0) := by decide +kernel
set_option maxRecDepth 100000 in
theorem okX5_isOperand : (gTb mX5_isOperand).all (okE gF gNM mX5_isOperand) = true := by decide +kernel
theorem pnX5_isOperand : plainName (gY mX5_isOperand).cls = true := by decide +kernel
theorem tX5_isOperand_0 : gAt mX5_isOperand 0 = some (.iload_n 0, 1, 0, 0, 0, 0) := by decide +kernel
theorem tX5_isOperand_1 : gAt mX5_isOperand 1 = some (.bipush (-5), 2, 5, 1, 0, 0) := by decide +kernel
theorem tX5_isOperand_3 : gAt mX5_isOperand 3 = some (.if_icmp .lt 7, 3, 10, 0, 0, 0) := by decide +kernel
theorem tX5_isOperand_6 : gAt mX5_isOperand 6 = some (.iconst 1, 1, 1, 0, 0, 0) := by decide +kernel
theorem tX5_isOperand_7 : gAt mX5_isOperand 7 = some (.goto 4, 3, 11, 0, 0, 0) := by decide +kernel
theorem tX5_isOperand_10 : gAt mX5_isOperand 10 = some (.iconst 0, 1, 0, 0, 0, 0) := by decide +kernel
theorem tX5_isOperand_11 : gAt mX5_isOperand 11 = some (.ireturn, 1, 1, 0, 0, 0) := by decide +kernel
set_option maxRecDepth 100000 in
theorem okX5_putCode : (gTb mX5_putCode).all (okE gF gNM mX5_putCode) = true := by decide +kernel
theorem pnX5_putCode : plainName (gY mX5_putCode).cls = true := by decide +kernel
theorem tX5_putCode_0 : gAt mX5_putCode 0 = some (.aload_n 0, 1, 0, 0, 0, 0) := by decide +kernel
theorem tX5_putCode_1 : gAt mX5_putCode 1 = some (.getfield 25, 3, 6, 4, 0, 173) := by decide +kernel
theorem tX5_putCode_4 : gAt mX5_putCode 4 = some (.sipush 600, 3, 600, 0, 0, 0) := by decide +kernel
theorem tX5_putCode_7 : gAt mX5_putCode 7 = some (.if_icmp .ge 23, 3, 30, 0, 0, 0) := by decide +kernel
theorem tX5_putCode_10 : gAt mX5_putCode 10 = some (.aload_n 0, 1, 0, 0, 0, 0) := by decide +kernel
theorem tX5_putCode_11 : gAt mX5_putCode 11 = some (.getfield 22, 3, 6, 3, 2, 172) := by decide +kernel
theorem tX5_putCode_14 : gAt mX5_putCode 14 = some (.aload_n 0, 1, 0, 0, 0, 0) := by decide +kernel
theorem tX5_putCode_15 : gAt mX5_putCode 15 = some (.getfield 25, 3, 6, 4, 0, 173) := by decide +kernel
theorem tX5_putCode_18 : gAt mX5_putCode 18 = some (.iload_n 1, 1, 0, 0, 0, 0) := by decide +kernel
theorem tX5_putCode_19 : gAt mX5_putCode 19 = some (.iastore, 1, 12, 0, 0, 0) := by decide +kernel
theorem tX5_putCode_20 : gAt mX5_putCode 20 = some (.aload_n 0, 1, 0, 0, 0, 0) := by decide +kernel
theorem tX5_putCode_21 : gAt mX5_putCode 21 = some (.dup, 1, 0, 0, 0, 0) := by decide +kernel
theorem tX5_putCode_22 : gAt mX5_putCode 22 = some (.getfield 25, 3, 6, 4, 0, 173) := by decide +kernel
theorem tX5_putCode_25 : gAt mX5_putCode 25 = some (.iconst 1, 1, 1, 0, 0, 0) := by decide +kernel
theorem tX5_putCode_26 : gAt mX5_putCode 26 = some (.iadd, 1, 0, 0, 0, 0) := by decide +kernel
theorem tX5_putCode_27 : gAt mX5_putCode 27 = some (.putfield 25, 3, 6, 4, 0, 173) := by decide +kernel
theorem tX5_putCode_30 : gAt mX5_putCode 30 = some (.return_, 1, 0, 0, 0, 0) := by decide +kernel
set_option maxRecDepth 100000 in
theorem okX5_closeLine : (gTb mX5_closeLine).all (okE gF gNM mX5_closeLine) = true := by decide +kernel
theorem pnX5_closeLine : plainName (gY mX5_closeLine).cls = true := by decide +kernel
theorem tX5_closeLine_0 : gAt mX5_closeLine 0 = some (.aload_n 0, 1, 0, 0, 0, 0) := by decide +kernel
theorem tX5_closeLine_1 : gAt mX5_closeLine 1 = some (.getfield 9, 3, 6, 0, 0, 167) := by decide +kernel
theorem tX5_closeLine_4 : gAt mX5_closeLine 4 = some (.bipush 16, 2, 16, 0, 0, 0) := by decide +kernel
theorem tX5_closeLine_6 : gAt mX5_closeLine 6 = some (.if_icmp .ge 36, 3, 42, 0, 0, 0) := by decide +kernel
theorem tX5_closeLine_9 : gAt mX5_closeLine 9 = some (.aload_n 0, 1, 0, 0, 0, 0) := by decide +kernel
theorem tX5_closeLine_10 : gAt mX5_closeLine 10 = some (.getfield 15, 3, 6, 1, 2, 170) := by decide +kernel
theorem tX5_closeLine_13 : gAt mX5_closeLine 13 = some (.aload_n 0, 1, 0, 0, 0, 0) := by decide +kernel
theorem tX5_closeLine_14 : gAt mX5_closeLine 14 = some (.getfield 9, 3, 6, 0, 0, 167) := by decide +kernel
theorem tX5_closeLine_17 : gAt mX5_closeLine 17 = some (.iload_n 1, 1, 0, 0, 0, 0) := by decide +kernel
theorem tX5_closeLine_18 : gAt mX5_closeLine 18 = some (.iastore, 1, 12, 0, 0, 0) := by decide +kernel
theorem tX5_closeLine_19 : gAt mX5_closeLine 19 = some (.aload_n 0, 1, 0, 0, 0, 0) := by decide +kernel
theorem tX5_closeLine_20 : gAt mX5_closeLine 20 = some (.getfield 19, 3, 6, 2, 2, 171) := by decide +kernel
theorem tX5_closeLine_23 : gAt mX5_closeLine 23 = some (.aload_n 0, 1, 0, 0, 0, 0) := by decide +kernel
theorem tX5_closeLine_24 : gAt mX5_closeLine 24 = some (.getfield 9, 3, 6, 0, 0, 167) := by decide +kernel
theorem tX5_closeLine_27 : gAt mX5_closeLine 27 = some (.aload_n 0, 1, 0, 0, 0, 0) := by decide +kernel
theorem tX5_closeLine_28 : gAt mX5_closeLine 28 = some (.getfield 25, 3, 6, 4, 0, 173) := by decide +kernel
theorem tX5_closeLine_31 : gAt mX5_closeLine 31 = some (.iastore, 1, 12, 0, 0, 0) := by decide +kernel
theorem tX5_closeLine_32 : gAt mX5_closeLine 32 = some (.aload_n 0, 1, 0, 0, 0, 0) := by decide +kernel
theorem tX5_closeLine_33 : gAt mX5_closeLine 33 = some (.dup, 1, 0, 0, 0, 0) := by decide +kernel
theorem tX5_closeLine_34 : gAt mX5_closeLine 34 = some (.getfield 9, 3, 6, 0, 0, 167) := by decide +kernel
theorem tX5_closeLine_37 : gAt mX5_closeLine 37 = some (.iconst 1, 1, 1, 0, 0, 0) := by decide +kernel
theorem tX5_closeLine_38 : gAt mX5_closeLine 38 = some (.iadd, 1, 0, 0, 0, 0) := by decide +kernel
theorem tX5_closeLine_39 : gAt mX5_closeLine 39 = some (.putfield 9, 3, 6, 0, 0, 167) := by decide +kernel
theorem tX5_closeLine_42 : gAt mX5_closeLine 42 = some (.return_, 1, 0, 0, 0, 0) := by decide +kernel
set_option maxRecDepth 100000 in
theorem okX5_groundsHolding : (gTb mX5_groundsHolding).all (okE gF gNM mX5_groundsHolding) = true := by decide +kernel
theorem pnX5_groundsHolding : plainName (gY mX5_groundsHolding).cls = true := by decide +kernel
theorem tX5_groundsHolding_0 : gAt mX5_groundsHolding 0 = some (.iconst 0, 1, 0, 0, 0, 0) := by decide +kernel
theorem tX5_groundsHolding_1 : gAt mX5_groundsHolding 1 = some (.istore_n 3, 1, 0, 0, 0, 0) := by decide +kernel
theorem tX5_groundsHolding_2 : gAt mX5_groundsHolding 2 = some (.iconst 0, 1, 0, 0, 0, 0) := by decide +kernel
theorem tX5_groundsHolding_3 : gAt mX5_groundsHolding 3 = some (.istore 4, 2, 0, 0, 0, 0) := by decide +kernel
theorem tX5_groundsHolding_5 : gAt mX5_groundsHolding 5 = some (.iconst 0, 1, 0, 0, 0, 0) := by decide +kernel
theorem tX5_groundsHolding_6 : gAt mX5_groundsHolding 6 = some (.istore 5, 2, 0, 0, 0, 0) := by decide +kernel
theorem tX5_groundsHolding_8 : gAt mX5_groundsHolding 8 = some (.iload 5, 2, 0, 0, 0, 0) := by decide +kernel
theorem tX5_groundsHolding_10 : gAt mX5_groundsHolding 10 = some (.aload_n 0, 1, 0, 0, 0, 0) := by decide +kernel
theorem tX5_groundsHolding_11 : gAt mX5_groundsHolding 11 = some (.getfield 9, 3, 6, 0, 0, 167) := by decide +kernel
theorem tX5_groundsHolding_14 : gAt mX5_groundsHolding 14 = some (.if_icmp .ge 74, 3, 88, 0, 0, 0) := by decide +kernel
theorem tX5_groundsHolding_17 : gAt mX5_groundsHolding 17 = some (.iload_n 3, 1, 0, 0, 0, 0) := by decide +kernel
theorem tX5_groundsHolding_18 : gAt mX5_groundsHolding 18 = some (.aload_n 0, 1, 0, 0, 0, 0) := by decide +kernel
theorem tX5_groundsHolding_19 : gAt mX5_groundsHolding 19 = some (.getfield 15, 3, 6, 1, 2, 170) := by decide +kernel
theorem tX5_groundsHolding_22 : gAt mX5_groundsHolding 22 = some (.iload 5, 2, 0, 0, 0, 0) := by decide +kernel
theorem tX5_groundsHolding_24 : gAt mX5_groundsHolding 24 = some (.iaload, 1, 12, 0, 0, 0) := by decide +kernel
theorem tX5_groundsHolding_25 : gAt mX5_groundsHolding 25 = some (.ishr, 1, 0, 0, 0, 0) := by decide +kernel
theorem tX5_groundsHolding_26 : gAt mX5_groundsHolding 26 = some (.iconst 1, 1, 1, 0, 0, 0) := by decide +kernel
theorem tX5_groundsHolding_27 : gAt mX5_groundsHolding 27 = some (.iand, 1, 0, 0, 0, 0) := by decide +kernel
theorem tX5_groundsHolding_28 : gAt mX5_groundsHolding 28 = some (.ifCond .eq 7, 3, 35, 0, 0, 0) := by decide +kernel
theorem tX5_groundsHolding_31 : gAt mX5_groundsHolding 31 = some (.iconst 1, 1, 1, 0, 0, 0) := by decide +kernel
theorem tX5_groundsHolding_32 : gAt mX5_groundsHolding 32 = some (.goto 4, 3, 36, 0, 0, 0) := by decide +kernel
theorem tX5_groundsHolding_35 : gAt mX5_groundsHolding 35 = some (.iconst 0, 1, 0, 0, 0, 0) := by decide +kernel
theorem tX5_groundsHolding_36 : gAt mX5_groundsHolding 36 = some (.istore 6, 2, 0, 0, 0, 0) := by decide +kernel
theorem tX5_groundsHolding_38 : gAt mX5_groundsHolding 38 = some (.iload 6, 2, 0, 0, 0, 0) := by decide +kernel
theorem tX5_groundsHolding_40 : gAt mX5_groundsHolding 40 = some (.ifCond .ne 33, 3, 73, 0, 0, 0) := by decide +kernel
theorem tX5_groundsHolding_43 : gAt mX5_groundsHolding 43 = some (.aload_n 0, 1, 0, 0, 0, 0) := by decide +kernel
theorem tX5_groundsHolding_44 : gAt mX5_groundsHolding 44 = some (.iload 4, 2, 0, 0, 0, 0) := by decide +kernel
theorem tX5_groundsHolding_46 : gAt mX5_groundsHolding 46 = some (.aload_n 0, 1, 0, 0, 0, 0) := by decide +kernel
theorem tX5_groundsHolding_47 : gAt mX5_groundsHolding 47 = some (.getfield 19, 3, 6, 2, 2, 171) := by decide +kernel
theorem tX5_groundsHolding_50 : gAt mX5_groundsHolding 50 = some (.iload 5, 2, 0, 0, 0, 0) := by decide +kernel
theorem tX5_groundsHolding_52 : gAt mX5_groundsHolding 52 = some (.iaload, 1, 12, 0, 0, 0) := by decide +kernel
theorem tX5_groundsHolding_53 : gAt mX5_groundsHolding 53 = some (.aload_n 1, 1, 0, 0, 0, 0) := by decide +kernel
theorem tX5_groundsHolding_54 : gAt mX5_groundsHolding 54 = some (.iload_n 2, 1, 0, 0, 0, 0) := by decide +kernel
theorem tX5_groundsHolding_55 : gAt mX5_groundsHolding 55 = some (.invokevirtual 33, 3, 30, 4, 6, 796) := by decide +kernel
theorem tX5_groundsHolding_58 : gAt mX5_groundsHolding 58 = some (.ifCond .eq 15, 3, 73, 0, 0, 0) := by decide +kernel
theorem tX5_groundsHolding_61 : gAt mX5_groundsHolding 61 = some (.iload_n 3, 1, 0, 0, 0, 0) := by decide +kernel
theorem tX5_groundsHolding_62 : gAt mX5_groundsHolding 62 = some (.iconst 1, 1, 1, 0, 0, 0) := by decide +kernel
theorem tX5_groundsHolding_63 : gAt mX5_groundsHolding 63 = some (.aload_n 0, 1, 0, 0, 0, 0) := by decide +kernel
theorem tX5_groundsHolding_64 : gAt mX5_groundsHolding 64 = some (.getfield 15, 3, 6, 1, 2, 170) := by decide +kernel
theorem tX5_groundsHolding_67 : gAt mX5_groundsHolding 67 = some (.iload 5, 2, 0, 0, 0, 0) := by decide +kernel
theorem tX5_groundsHolding_69 : gAt mX5_groundsHolding 69 = some (.iaload, 1, 12, 0, 0, 0) := by decide +kernel
theorem tX5_groundsHolding_70 : gAt mX5_groundsHolding 70 = some (.ishl, 1, 0, 0, 0, 0) := by decide +kernel
theorem tX5_groundsHolding_71 : gAt mX5_groundsHolding 71 = some (.ior, 1, 0, 0, 0, 0) := by decide +kernel
theorem tX5_groundsHolding_72 : gAt mX5_groundsHolding 72 = some (.istore_n 3, 1, 0, 0, 0, 0) := by decide +kernel
theorem tX5_groundsHolding_73 : gAt mX5_groundsHolding 73 = some (.aload_n 0, 1, 0, 0, 0, 0) := by decide +kernel
theorem tX5_groundsHolding_74 : gAt mX5_groundsHolding 74 = some (.getfield 19, 3, 6, 2, 2, 171) := by decide +kernel
theorem tX5_groundsHolding_77 : gAt mX5_groundsHolding 77 = some (.iload 5, 2, 0, 0, 0, 0) := by decide +kernel
theorem tX5_groundsHolding_79 : gAt mX5_groundsHolding 79 = some (.iaload, 1, 12, 0, 0, 0) := by decide +kernel
theorem tX5_groundsHolding_80 : gAt mX5_groundsHolding 80 = some (.istore 4, 2, 0, 0, 0, 0) := by decide +kernel
theorem tX5_groundsHolding_82 : gAt mX5_groundsHolding 82 = some (.iinc 5 1, 3, 1, 0, 0, 0) := by decide +kernel
theorem tX5_groundsHolding_85 : gAt mX5_groundsHolding 85 = some (.goto (-77), 3, 8, 0, 0, 0) := by decide +kernel
theorem tX5_groundsHolding_88 : gAt mX5_groundsHolding 88 = some (.iload_n 3, 1, 0, 0, 0, 0) := by decide +kernel
theorem tX5_groundsHolding_89 : gAt mX5_groundsHolding 89 = some (.ireturn, 1, 0, 0, 0, 0) := by decide +kernel
set_option maxRecDepth 100000 in
theorem okX5_valueOf : (gTb mX5_valueOf).all (okE gF gNM mX5_valueOf) = true := by decide +kernel
theorem pnX5_valueOf : plainName (gY mX5_valueOf).cls = true := by decide +kernel
theorem tX5_valueOf_0 : gAt mX5_valueOf 0 = some (.iconst 0, 1, 0, 0, 0, 0) := by decide +kernel
theorem tX5_valueOf_1 : gAt mX5_valueOf 1 = some (.istore 5, 2, 0, 0, 0, 0) := by decide +kernel
theorem tX5_valueOf_3 : gAt mX5_valueOf 3 = some (.iload_n 1, 1, 0, 0, 0, 0) := by decide +kernel
theorem tX5_valueOf_4 : gAt mX5_valueOf 4 = some (.istore 6, 2, 0, 0, 0, 0) := by decide +kernel
theorem tX5_valueOf_6 : gAt mX5_valueOf 6 = some (.iload 6, 2, 0, 0, 0, 0) := by decide +kernel
theorem tX5_valueOf_8 : gAt mX5_valueOf 8 = some (.iload_n 2, 1, 0, 0, 0, 0) := by decide +kernel
theorem tX5_valueOf_9 : gAt mX5_valueOf 9 = some (.if_icmp .ge 101, 3, 110, 0, 0, 0) := by decide +kernel
theorem tX5_valueOf_12 : gAt mX5_valueOf 12 = some (.iload 6, 2, 0, 0, 0, 0) := by decide +kernel
theorem tX5_valueOf_14 : gAt mX5_valueOf 14 = some (.sipush 600, 3, 600, 0, 0, 0) := by decide +kernel
theorem tX5_valueOf_17 : gAt mX5_valueOf 17 = some (.if_icmp .ge 93, 3, 110, 0, 0, 0) := by decide +kernel
theorem tX5_valueOf_20 : gAt mX5_valueOf 20 = some (.aload_n 0, 1, 0, 0, 0, 0) := by decide +kernel
theorem tX5_valueOf_21 : gAt mX5_valueOf 21 = some (.getfield 22, 3, 6, 3, 2, 172) := by decide +kernel
theorem tX5_valueOf_24 : gAt mX5_valueOf 24 = some (.iload 6, 2, 0, 0, 0, 0) := by decide +kernel
theorem tX5_valueOf_26 : gAt mX5_valueOf 26 = some (.iaload, 1, 12, 0, 0, 0) := by decide +kernel
theorem tX5_valueOf_27 : gAt mX5_valueOf 27 = some (.istore 7, 2, 0, 0, 0, 0) := by decide +kernel
theorem tX5_valueOf_29 : gAt mX5_valueOf 29 = some (.iload 7, 2, 0, 0, 0, 0) := by decide +kernel
theorem tX5_valueOf_31 : gAt mX5_valueOf 31 = some (.invokestatic 37, 3, 26, 1, 6, 800) := by decide +kernel
theorem tX5_valueOf_34 : gAt mX5_valueOf 34 = some (.ifCond .eq 31, 3, 65, 0, 0, 0) := by decide +kernel
theorem tX5_valueOf_37 : gAt mX5_valueOf 37 = some (.iload 5, 2, 0, 0, 0, 0) := by decide +kernel
theorem tX5_valueOf_39 : gAt mX5_valueOf 39 = some (.bipush 16, 2, 16, 0, 0, 0) := by decide +kernel
theorem tX5_valueOf_41 : gAt mX5_valueOf 41 = some (.if_icmp .ge 63, 3, 104, 0, 0, 0) := by decide +kernel
theorem tX5_valueOf_44 : gAt mX5_valueOf 44 = some (.aload_n 0, 1, 0, 0, 0, 0) := by decide +kernel
theorem tX5_valueOf_45 : gAt mX5_valueOf 45 = some (.getfield 28, 3, 6, 5, 2, 174) := by decide +kernel
theorem tX5_valueOf_48 : gAt mX5_valueOf 48 = some (.iload 5, 2, 0, 0, 0, 0) := by decide +kernel
theorem tX5_valueOf_50 : gAt mX5_valueOf 50 = some (.iload 7, 2, 0, 0, 0, 0) := by decide +kernel
theorem tX5_valueOf_52 : gAt mX5_valueOf 52 = some (.aload_n 3, 1, 0, 0, 0, 0) := by decide +kernel
theorem tX5_valueOf_53 : gAt mX5_valueOf 53 = some (.iload 4, 2, 0, 0, 0, 0) := by decide +kernel
theorem tX5_valueOf_55 : gAt mX5_valueOf 55 = some (.invokestatic 41, 3, 31, 3, 6, 801) := by decide +kernel
theorem tX5_valueOf_58 : gAt mX5_valueOf 58 = some (.iastore, 1, 12, 0, 0, 0) := by decide +kernel
theorem tX5_valueOf_59 : gAt mX5_valueOf 59 = some (.iinc 5 1, 3, 1, 0, 0, 0) := by decide +kernel
theorem tX5_valueOf_62 : gAt mX5_valueOf 62 = some (.goto 42, 3, 104, 0, 0, 0) := by decide +kernel
theorem tX5_valueOf_65 : gAt mX5_valueOf 65 = some (.iload 5, 2, 0, 0, 0, 0) := by decide +kernel
theorem tX5_valueOf_67 : gAt mX5_valueOf 67 = some (.iconst 2, 1, 2, 0, 0, 0) := by decide +kernel
theorem tX5_valueOf_68 : gAt mX5_valueOf 68 = some (.if_icmp .lt 36, 3, 104, 0, 0, 0) := by decide +kernel
theorem tX5_valueOf_71 : gAt mX5_valueOf 71 = some (.iinc 5 (-1), 3, 1, 1, 0, 0) := by decide +kernel
theorem tX5_valueOf_74 : gAt mX5_valueOf 74 = some (.aload_n 0, 1, 0, 0, 0, 0) := by decide +kernel
theorem tX5_valueOf_75 : gAt mX5_valueOf 75 = some (.getfield 28, 3, 6, 5, 2, 174) := by decide +kernel
theorem tX5_valueOf_78 : gAt mX5_valueOf 78 = some (.iload 5, 2, 0, 0, 0, 0) := by decide +kernel
theorem tX5_valueOf_80 : gAt mX5_valueOf 80 = some (.iconst 1, 1, 1, 0, 0, 0) := by decide +kernel
theorem tX5_valueOf_81 : gAt mX5_valueOf 81 = some (.isub, 1, 0, 0, 0, 0) := by decide +kernel
theorem tX5_valueOf_82 : gAt mX5_valueOf 82 = some (.iload 7, 2, 0, 0, 0, 0) := by decide +kernel
theorem tX5_valueOf_84 : gAt mX5_valueOf 84 = some (.aload_n 0, 1, 0, 0, 0, 0) := by decide +kernel
theorem tX5_valueOf_85 : gAt mX5_valueOf 85 = some (.getfield 28, 3, 6, 5, 2, 174) := by decide +kernel
theorem tX5_valueOf_88 : gAt mX5_valueOf 88 = some (.iload 5, 2, 0, 0, 0, 0) := by decide +kernel
theorem tX5_valueOf_90 : gAt mX5_valueOf 90 = some (.iconst 1, 1, 1, 0, 0, 0) := by decide +kernel
theorem tX5_valueOf_91 : gAt mX5_valueOf 91 = some (.isub, 1, 0, 0, 0, 0) := by decide +kernel
theorem tX5_valueOf_92 : gAt mX5_valueOf 92 = some (.iaload, 1, 12, 0, 0, 0) := by decide +kernel
theorem tX5_valueOf_93 : gAt mX5_valueOf 93 = some (.aload_n 0, 1, 0, 0, 0, 0) := by decide +kernel
theorem tX5_valueOf_94 : gAt mX5_valueOf 94 = some (.getfield 28, 3, 6, 5, 2, 174) := by decide +kernel
theorem tX5_valueOf_97 : gAt mX5_valueOf 97 = some (.iload 5, 2, 0, 0, 0, 0) := by decide +kernel
theorem tX5_valueOf_99 : gAt mX5_valueOf 99 = some (.iaload, 1, 12, 0, 0, 0) := by decide +kernel
theorem tX5_valueOf_100 : gAt mX5_valueOf 100 = some (.invokestatic 45, 3, 32, 3, 6, 811) := by decide +kernel
theorem tX5_valueOf_103 : gAt mX5_valueOf 103 = some (.iastore, 1, 12, 0, 0, 0) := by decide +kernel
theorem tX5_valueOf_104 : gAt mX5_valueOf 104 = some (.iinc 6 1, 3, 1, 0, 0, 0) := by decide +kernel
theorem tX5_valueOf_107 : gAt mX5_valueOf 107 = some (.goto (-101), 3, 6, 0, 0, 0) := by decide +kernel
theorem tX5_valueOf_110 : gAt mX5_valueOf 110 = some (.aload_n 0, 1, 0, 0, 0, 0) := by decide +kernel
theorem tX5_valueOf_111 : gAt mX5_valueOf 111 = some (.getfield 28, 3, 6, 5, 2, 174) := by decide +kernel
theorem tX5_valueOf_114 : gAt mX5_valueOf 114 = some (.iconst 0, 1, 0, 0, 0, 0) := by decide +kernel
theorem tX5_valueOf_115 : gAt mX5_valueOf 115 = some (.iaload, 1, 12, 0, 0, 0) := by decide +kernel
theorem tX5_valueOf_116 : gAt mX5_valueOf 116 = some (.ireturn, 1, 0, 0, 0, 0) := by decide +kernel
set_option maxRecDepth 100000 in
theorem okX5_valueOfOperand : (gTb mX5_valueOfOperand).all (okE gF gNM mX5_valueOfOperand) = true := by decide +kernel
theorem pnX5_valueOfOperand : plainName (gY mX5_valueOfOperand).cls = true := by decide +kernel
theorem tX5_valueOfOperand_0 : gAt mX5_valueOfOperand 0 = some (.iload_n 0, 1, 0, 0, 0, 0) := by decide +kernel
theorem tX5_valueOfOperand_1 : gAt mX5_valueOfOperand 1 = some (.tableswitch 68 (-5) (-1) #[60, 52, 47, 42, 35], 35, 0, 0, 0, 0) := by decide +kernel
theorem tX5_valueOfOperand_36 : gAt mX5_valueOfOperand 36 = some (.iload_n 2, 1, 0, 0, 0, 0) := by decide +kernel
theorem tX5_valueOfOperand_37 : gAt mX5_valueOfOperand 37 = some (.aload_n 1, 1, 0, 0, 0, 0) := by decide +kernel
theorem tX5_valueOfOperand_38 : gAt mX5_valueOfOperand 38 = some (.getfield 49, 3, 4, 2, 0, 276) := by decide +kernel
theorem tX5_valueOfOperand_41 : gAt mX5_valueOfOperand 41 = some (.isub, 1, 0, 0, 0, 0) := by decide +kernel
theorem tX5_valueOfOperand_42 : gAt mX5_valueOfOperand 42 = some (.ireturn, 1, 0, 0, 0, 0) := by decide +kernel
theorem tX5_valueOfOperand_43 : gAt mX5_valueOfOperand 43 = some (.aload_n 1, 1, 0, 0, 0, 0) := by decide +kernel
theorem tX5_valueOfOperand_44 : gAt mX5_valueOfOperand 44 = some (.getfield 49, 3, 4, 2, 0, 276) := by decide +kernel
theorem tX5_valueOfOperand_47 : gAt mX5_valueOfOperand 47 = some (.ireturn, 1, 0, 0, 0, 0) := by decide +kernel
theorem tX5_valueOfOperand_48 : gAt mX5_valueOfOperand 48 = some (.aload_n 1, 1, 0, 0, 0, 0) := by decide +kernel
theorem tX5_valueOfOperand_49 : gAt mX5_valueOfOperand 49 = some (.getfield 54, 3, 4, 1, 0, 273) := by decide +kernel
theorem tX5_valueOfOperand_52 : gAt mX5_valueOfOperand 52 = some (.ireturn, 1, 0, 0, 0, 0) := by decide +kernel
theorem tX5_valueOfOperand_53 : gAt mX5_valueOfOperand 53 = some (.aload_n 1, 1, 0, 0, 0, 0) := by decide +kernel
theorem tX5_valueOfOperand_54 : gAt mX5_valueOfOperand 54 = some (.getfield 57, 3, 4, 3, 2, 279) := by decide +kernel
theorem tX5_valueOfOperand_57 : gAt mX5_valueOfOperand 57 = some (.invokevirtual 61, 3, 190, 0, 0, 804) := by decide +kernel
theorem tX5_valueOfOperand_60 : gAt mX5_valueOfOperand 60 = some (.ireturn, 1, 0, 0, 0, 0) := by decide +kernel
theorem tX5_valueOfOperand_61 : gAt mX5_valueOfOperand 61 = some (.aload_n 1, 1, 0, 0, 0, 0) := by decide +kernel
theorem tX5_valueOfOperand_62 : gAt mX5_valueOfOperand 62 = some (.getfield 67, 3, 4, 4, 0, 283) := by decide +kernel
theorem tX5_valueOfOperand_65 : gAt mX5_valueOfOperand 65 = some (.invokestatic 70, 3, 174, 1, 99, 805) := by decide +kernel
theorem tX5_valueOfOperand_68 : gAt mX5_valueOfOperand 68 = some (.ireturn, 1, 0, 0, 0, 0) := by decide +kernel
theorem tX5_valueOfOperand_69 : gAt mX5_valueOfOperand 69 = some (.iload_n 0, 1, 0, 0, 0, 0) := by decide +kernel
theorem tX5_valueOfOperand_70 : gAt mX5_valueOfOperand 70 = some (.ireturn, 1, 0, 0, 0, 0) := by decide +kernel
set_option maxRecDepth 100000 in
theorem okX5_join : (gTb mX5_join).all (okE gF gNM mX5_join) = true := by decide +kernel
theorem pnX5_join : plainName (gY mX5_join).cls = true := by decide +kernel
theorem tX5_join_0 : gAt mX5_join 0 = some (.iload_n 0, 1, 0, 0, 0, 0) := by decide +kernel
theorem tX5_join_1 : gAt mX5_join 1 = some (.tableswitch 61 (-9) (-6) #[50, 39, 35, 31], 31, 0, 0, 0, 0) := by decide +kernel
theorem tX5_join_32 : gAt mX5_join 32 = some (.iload_n 1, 1, 0, 0, 0, 0) := by decide +kernel
theorem tX5_join_33 : gAt mX5_join 33 = some (.iload_n 2, 1, 0, 0, 0, 0) := by decide +kernel
theorem tX5_join_34 : gAt mX5_join 34 = some (.iadd, 1, 0, 0, 0, 0) := by decide +kernel
theorem tX5_join_35 : gAt mX5_join 35 = some (.ireturn, 1, 0, 0, 0, 0) := by decide +kernel
theorem tX5_join_36 : gAt mX5_join 36 = some (.iload_n 1, 1, 0, 0, 0, 0) := by decide +kernel
theorem tX5_join_37 : gAt mX5_join 37 = some (.iload_n 2, 1, 0, 0, 0, 0) := by decide +kernel
theorem tX5_join_38 : gAt mX5_join 38 = some (.isub, 1, 0, 0, 0, 0) := by decide +kernel
theorem tX5_join_39 : gAt mX5_join 39 = some (.ireturn, 1, 0, 0, 0, 0) := by decide +kernel
theorem tX5_join_40 : gAt mX5_join 40 = some (.iload_n 1, 1, 0, 0, 0, 0) := by decide +kernel
theorem tX5_join_41 : gAt mX5_join 41 = some (.iload_n 2, 1, 0, 0, 0, 0) := by decide +kernel
theorem tX5_join_42 : gAt mX5_join 42 = some (.if_icmp .ge 7, 3, 49, 0, 0, 0) := by decide +kernel
theorem tX5_join_45 : gAt mX5_join 45 = some (.iconst 1, 1, 1, 0, 0, 0) := by decide +kernel
theorem tX5_join_46 : gAt mX5_join 46 = some (.goto 4, 3, 50, 0, 0, 0) := by decide +kernel
theorem tX5_join_49 : gAt mX5_join 49 = some (.iconst 0, 1, 0, 0, 0, 0) := by decide +kernel
theorem tX5_join_50 : gAt mX5_join 50 = some (.ireturn, 1, 0, 0, 0, 0) := by decide +kernel
theorem tX5_join_51 : gAt mX5_join 51 = some (.iload_n 1, 1, 0, 0, 0, 0) := by decide +kernel
theorem tX5_join_52 : gAt mX5_join 52 = some (.iload_n 2, 1, 0, 0, 0, 0) := by decide +kernel
theorem tX5_join_53 : gAt mX5_join 53 = some (.if_icmp .ne 7, 3, 60, 0, 0, 0) := by decide +kernel
theorem tX5_join_56 : gAt mX5_join 56 = some (.iconst 1, 1, 1, 0, 0, 0) := by decide +kernel
theorem tX5_join_57 : gAt mX5_join 57 = some (.goto 4, 3, 61, 0, 0, 0) := by decide +kernel
theorem tX5_join_60 : gAt mX5_join 60 = some (.iconst 0, 1, 0, 0, 0, 0) := by decide +kernel
theorem tX5_join_61 : gAt mX5_join 61 = some (.ireturn, 1, 0, 0, 0, 0) := by decide +kernel
theorem tX5_join_62 : gAt mX5_join 62 = some (.iload_n 1, 1, 0, 0, 0, 0) := by decide +kernel
theorem tX5_join_63 : gAt mX5_join 63 = some (.ifCond .eq 11, 3, 74, 0, 0, 0) := by decide +kernel
theorem tX5_join_66 : gAt mX5_join 66 = some (.iload_n 2, 1, 0, 0, 0, 0) := by decide +kernel
theorem tX5_join_67 : gAt mX5_join 67 = some (.ifCond .eq 7, 3, 74, 0, 0, 0) := by decide +kernel
theorem tX5_join_70 : gAt mX5_join 70 = some (.iconst 1, 1, 1, 0, 0, 0) := by decide +kernel
theorem tX5_join_71 : gAt mX5_join 71 = some (.goto 4, 3, 75, 0, 0, 0) := by decide +kernel
theorem tX5_join_74 : gAt mX5_join 74 = some (.iconst 0, 1, 0, 0, 0, 0) := by decide +kernel
theorem tX5_join_75 : gAt mX5_join 75 = some (.ireturn, 1, 0, 0, 0, 0) := by decide +kernel

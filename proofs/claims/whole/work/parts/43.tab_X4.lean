/-! rows of the tables of class PapersDesk$RuleReader -/
set_option maxRecDepth 100000 in
theorem okX4_init : (gTb mX4_init).all (okE gF gNM mX4_init) = true := by decide +kernel
theorem pnX4_init : plainName (gY mX4_init).cls = true := by decide +kernel
theorem tX4_init_0 : gAt mX4_init 0 = some (.aload_n 0, 1, 0, 0, 0, 0) := by decide +kernel
theorem tX4_init_1 : gAt mX4_init 1 = some (.invokespecial 3, 3, 9999, 0, 0, 521) := by decide +kernel
theorem tX4_init_4 : gAt mX4_init 4 = some (.aload_n 0, 1, 0, 0, 0, 0) := by decide +kernel
theorem tX4_init_5 : gAt mX4_init 5 = some (.iconst 0, 1, 0, 0, 0, 0) := by decide +kernel
theorem tX4_init_6 : gAt mX4_init 6 = some (.putfield 9, 3, 5, 2, 0, 524) := by decide +kernel
theorem tX4_init_9 : gAt mX4_init 9 = some (.aload_n 0, 1, 0, 0, 0, 0) := by decide +kernel
theorem tX4_init_10 : gAt mX4_init 10 = some (.bipush (-16), 2, 16, 1, 0, 0) := by decide +kernel
theorem tX4_init_12 : gAt mX4_init 12 = some (.putfield 17, 3, 5, 3, 0, 525) := by decide +kernel
theorem tX4_init_15 : gAt mX4_init 15 = some (.aload_n 0, 1, 0, 0, 0, 0) := by decide +kernel
theorem tX4_init_16 : gAt mX4_init 16 = some (.iconst 0, 1, 0, 0, 0, 0) := by decide +kernel
theorem tX4_init_17 : gAt mX4_init 17 = some (.putfield 20, 3, 5, 4, 0, 526) := by decide +kernel
theorem tX4_init_20 : gAt mX4_init 20 = some (.aload_n 0, 1, 0, 0, 0, 0) := by decide +kernel
theorem tX4_init_21 : gAt mX4_init 21 = some (.aload_n 1, 1, 0, 0, 0, 0) := by decide +kernel
theorem tX4_init_22 : gAt mX4_init 22 = some (.putfield 23, 3, 5, 0, 2, 522) := by decide +kernel
theorem tX4_init_25 : gAt mX4_init 25 = some (.aload_n 0, 1, 0, 0, 0, 0) := by decide +kernel
theorem tX4_init_26 : gAt mX4_init 26 = some (.aload_n 2, 1, 0, 0, 0, 0) := by decide +kernel
theorem tX4_init_27 : gAt mX4_init 27 = some (.putfield 27, 3, 5, 1, 2, 523) := by decide +kernel
theorem tX4_init_30 : gAt mX4_init 30 = some (.return_, 1, 0, 0, 0, 0) := by decide +kernel
set_option maxRecDepth 100000 in
theorem okX4_readAll : (gTb mX4_readAll).all (okE gF gNM mX4_readAll) = true := by decide +kernel
theorem pnX4_readAll : plainName (gY mX4_readAll).cls = true := by decide +kernel
theorem tX4_readAll_0 : gAt mX4_readAll 0 = some (.aload_n 0, 1, 0, 0, 0, 0) := by decide +kernel
theorem tX4_readAll_1 : gAt mX4_readAll 1 = some (.getfield 27, 3, 5, 1, 2, 523) := by decide +kernel
theorem tX4_readAll_4 : gAt mX4_readAll 4 = some (.invokevirtual 31, 3, 25, 0, 6, 542) := by decide +kernel
theorem tX4_readAll_7 : gAt mX4_readAll 7 = some (.aload_n 0, 1, 0, 0, 0, 0) := by decide +kernel
theorem tX4_readAll_8 : gAt mX4_readAll 8 = some (.getfield 23, 3, 5, 0, 2, 522) := by decide +kernel
theorem tX4_readAll_11 : gAt mX4_readAll 11 = some (.invokevirtual 36, 3, 39, 0, 7, 546) := by decide +kernel
theorem tX4_readAll_14 : gAt mX4_readAll 14 = some (.aload_n 0, 1, 0, 0, 0, 0) := by decide +kernel
theorem tX4_readAll_15 : gAt mX4_readAll 15 = some (.aload_n 0, 1, 0, 0, 0, 0) := by decide +kernel
theorem tX4_readAll_16 : gAt mX4_readAll 16 = some (.getfield 23, 3, 5, 0, 2, 522) := by decide +kernel
theorem tX4_readAll_19 : gAt mX4_readAll 19 = some (.iconst 0, 1, 0, 0, 0, 0) := by decide +kernel
theorem tX4_readAll_20 : gAt mX4_readAll 20 = some (.invokevirtual 39, 3, 37, 1, 7, 637) := by decide +kernel
theorem tX4_readAll_23 : gAt mX4_readAll 23 = some (.putfield 17, 3, 5, 3, 0, 525) := by decide +kernel
theorem tX4_readAll_26 : gAt mX4_readAll 26 = some (.iconst 0, 1, 0, 0, 0, 0) := by decide +kernel
theorem tX4_readAll_27 : gAt mX4_readAll 27 = some (.istore_n 1, 1, 0, 0, 0, 0) := by decide +kernel
theorem tX4_readAll_28 : gAt mX4_readAll 28 = some (.iload_n 1, 1, 0, 0, 0, 0) := by decide +kernel
theorem tX4_readAll_29 : gAt mX4_readAll 29 = some (.bipush 16, 2, 16, 0, 0, 0) := by decide +kernel
theorem tX4_readAll_31 : gAt mX4_readAll 31 = some (.if_icmp .gt 30, 3, 61, 0, 0, 0) := by decide +kernel
theorem tX4_readAll_34 : gAt mX4_readAll 34 = some (.aload_n 0, 1, 0, 0, 0, 0) := by decide +kernel
theorem tX4_readAll_35 : gAt mX4_readAll 35 = some (.getfield 17, 3, 5, 3, 0, 525) := by decide +kernel
theorem tX4_readAll_38 : gAt mX4_readAll 38 = some (.bipush (-16), 2, 16, 1, 0, 0) := by decide +kernel
theorem tX4_readAll_40 : gAt mX4_readAll 40 = some (.if_icmp .eq 21, 3, 61, 0, 0, 0) := by decide +kernel
theorem tX4_readAll_43 : gAt mX4_readAll 43 = some (.aload_n 0, 1, 0, 0, 0, 0) := by decide +kernel
theorem tX4_readAll_44 : gAt mX4_readAll 44 = some (.invokevirtual 43, 3, 19, 0, 5, 641) := by decide +kernel
theorem tX4_readAll_47 : gAt mX4_readAll 47 = some (.ifCond .ne 8, 3, 55, 0, 0, 0) := by decide +kernel
theorem tX4_readAll_50 : gAt mX4_readAll 50 = some (.aload_n 0, 1, 0, 0, 0, 0) := by decide +kernel
theorem tX4_readAll_51 : gAt mX4_readAll 51 = some (.getfield 20, 3, 5, 4, 0, 526) := by decide +kernel
theorem tX4_readAll_54 : gAt mX4_readAll 54 = some (.ireturn, 1, 0, 0, 0, 0) := by decide +kernel
theorem tX4_readAll_55 : gAt mX4_readAll 55 = some (.iinc 1 1, 3, 1, 0, 0, 0) := by decide +kernel
theorem tX4_readAll_58 : gAt mX4_readAll 58 = some (.goto (-30), 3, 28, 0, 0, 0) := by decide +kernel
theorem tX4_readAll_61 : gAt mX4_readAll 61 = some (.iconst 0, 1, 0, 0, 0, 0) := by decide +kernel
theorem tX4_readAll_62 : gAt mX4_readAll 62 = some (.ireturn, 1, 0, 0, 0, 0) := by decide +kernel
set_option maxRecDepth 100000 in
theorem okX4_step : (gTb mX4_step).all (okE gF gNM mX4_step) = true := by decide +kernel
theorem pnX4_step : plainName (gY mX4_step).cls = true := by decide +kernel
theorem tX4_step_0 : gAt mX4_step 0 = some (.aload_n 0, 1, 0, 0, 0, 0) := by decide +kernel
theorem tX4_step_1 : gAt mX4_step 1 = some (.getfield 17, 3, 5, 3, 0, 525) := by decide +kernel
theorem tX4_step_4 : gAt mX4_step 4 = some (.bipush (-16), 2, 16, 1, 0, 0) := by decide +kernel
theorem tX4_step_6 : gAt mX4_step 6 = some (.if_icmp .eq 28, 3, 34, 0, 0, 0) := by decide +kernel
theorem tX4_step_9 : gAt mX4_step 9 = some (.aload_n 0, 1, 0, 0, 0, 0) := by decide +kernel
theorem tX4_step_10 : gAt mX4_step 10 = some (.dup, 1, 0, 0, 0, 0) := by decide +kernel
theorem tX4_step_11 : gAt mX4_step 11 = some (.getfield 9, 3, 5, 2, 0, 524) := by decide +kernel
theorem tX4_step_14 : gAt mX4_step 14 = some (.iconst 1, 1, 1, 0, 0, 0) := by decide +kernel
theorem tX4_step_15 : gAt mX4_step 15 = some (.iadd, 1, 0, 0, 0, 0) := by decide +kernel
theorem tX4_step_16 : gAt mX4_step 16 = some (.putfield 9, 3, 5, 2, 0, 524) := by decide +kernel
theorem tX4_step_19 : gAt mX4_step 19 = some (.aload_n 0, 1, 0, 0, 0, 0) := by decide +kernel
theorem tX4_step_20 : gAt mX4_step 20 = some (.aload_n 0, 1, 0, 0, 0, 0) := by decide +kernel
theorem tX4_step_21 : gAt mX4_step 21 = some (.getfield 23, 3, 5, 0, 2, 522) := by decide +kernel
theorem tX4_step_24 : gAt mX4_step 24 = some (.aload_n 0, 1, 0, 0, 0, 0) := by decide +kernel
theorem tX4_step_25 : gAt mX4_step 25 = some (.getfield 9, 3, 5, 2, 0, 524) := by decide +kernel
theorem tX4_step_28 : gAt mX4_step 28 = some (.invokevirtual 39, 3, 37, 1, 7, 637) := by decide +kernel
theorem tX4_step_31 : gAt mX4_step 31 = some (.putfield 17, 3, 5, 3, 0, 525) := by decide +kernel
theorem tX4_step_34 : gAt mX4_step 34 = some (.return_, 1, 0, 0, 0, 0) := by decide +kernel
set_option maxRecDepth 100000 in
theorem okX4_refuse : (gTb mX4_refuse).all (okE gF gNM mX4_refuse) = true := by decide +kernel
theorem pnX4_refuse : plainName (gY mX4_refuse).cls = true := by decide +kernel
theorem tX4_refuse_0 : gAt mX4_refuse 0 = some (.aload_n 0, 1, 0, 0, 0, 0) := by decide +kernel
theorem tX4_refuse_1 : gAt mX4_refuse 1 = some (.iload_n 1, 1, 0, 0, 0, 0) := by decide +kernel
theorem tX4_refuse_2 : gAt mX4_refuse 2 = some (.bipush 16, 2, 16, 0, 0, 0) := by decide +kernel
theorem tX4_refuse_4 : gAt mX4_refuse 4 = some (.aload_n 0, 1, 0, 0, 0, 0) := by decide +kernel
theorem tX4_refuse_5 : gAt mX4_refuse 5 = some (.getfield 23, 3, 5, 0, 2, 522) := by decide +kernel
theorem tX4_refuse_8 : gAt mX4_refuse 8 = some (.aload_n 0, 1, 0, 0, 0, 0) := by decide +kernel
theorem tX4_refuse_9 : gAt mX4_refuse 9 = some (.getfield 9, 3, 5, 2, 0, 524) := by decide +kernel
theorem tX4_refuse_12 : gAt mX4_refuse 12 = some (.invokevirtual 47, 3, 38, 1, 7, 649) := by decide +kernel
theorem tX4_refuse_15 : gAt mX4_refuse 15 = some (.imul, 1, 0, 0, 0, 0) := by decide +kernel
theorem tX4_refuse_16 : gAt mX4_refuse 16 = some (.iadd, 1, 0, 0, 0, 0) := by decide +kernel
theorem tX4_refuse_17 : gAt mX4_refuse 17 = some (.putfield 20, 3, 5, 4, 0, 526) := by decide +kernel
theorem tX4_refuse_20 : gAt mX4_refuse 20 = some (.iconst 0, 1, 0, 0, 0, 0) := by decide +kernel
theorem tX4_refuse_21 : gAt mX4_refuse 21 = some (.ireturn, 1, 1, 0, 0, 0) := by decide +kernel
set_option maxRecDepth 100000 in
theorem okX4_take : (gTb mX4_take).all (okE gF gNM mX4_take) = true := by decide +kernel
theorem pnX4_take : plainName (gY mX4_take).cls = true := by decide +kernel
theorem tX4_take_0 : gAt mX4_take 0 = some (.aload_n 0, 1, 0, 0, 0, 0) := by decide +kernel
theorem tX4_take_1 : gAt mX4_take 1 = some (.getfield 17, 3, 5, 3, 0, 525) := by decide +kernel
theorem tX4_take_4 : gAt mX4_take 4 = some (.iload_n 1, 1, 0, 0, 0, 0) := by decide +kernel
theorem tX4_take_5 : gAt mX4_take 5 = some (.if_icmp .eq 9, 3, 14, 0, 0, 0) := by decide +kernel
theorem tX4_take_8 : gAt mX4_take 8 = some (.aload_n 0, 1, 0, 0, 0, 0) := by decide +kernel
theorem tX4_take_9 : gAt mX4_take 9 = some (.iconst 1, 1, 1, 0, 0, 0) := by decide +kernel
theorem tX4_take_10 : gAt mX4_take 10 = some (.invokevirtual 50, 3, 17, 1, 5, 645) := by decide +kernel
theorem tX4_take_13 : gAt mX4_take 13 = some (.ireturn, 1, 1, 0, 0, 0) := by decide +kernel
theorem tX4_take_14 : gAt mX4_take 14 = some (.aload_n 0, 1, 0, 0, 0, 0) := by decide +kernel
theorem tX4_take_15 : gAt mX4_take 15 = some (.invokevirtual 54, 3, 16, 0, 5, 657) := by decide +kernel
theorem tX4_take_18 : gAt mX4_take 18 = some (.iconst 1, 1, 1, 0, 0, 0) := by decide +kernel
theorem tX4_take_19 : gAt mX4_take 19 = some (.ireturn, 1, 1, 0, 0, 0) := by decide +kernel
set_option maxRecDepth 100000 in
theorem okX4_readLine : (gTb mX4_readLine).all (okE gF gNM mX4_readLine) = true := by decide +kernel
theorem pnX4_readLine : plainName (gY mX4_readLine).cls = true := by decide +kernel
theorem tX4_readLine_0 : gAt mX4_readLine 0 = some (.aload_n 0, 1, 0, 0, 0, 0) := by decide +kernel
theorem tX4_readLine_1 : gAt mX4_readLine 1 = some (.getfield 17, 3, 5, 3, 0, 525) := by decide +kernel
theorem tX4_readLine_4 : gAt mX4_readLine 4 = some (.bipush (-11), 2, 11, 1, 0, 0) := by decide +kernel
theorem tX4_readLine_6 : gAt mX4_readLine 6 = some (.if_icmp .ne 21, 3, 27, 0, 0, 0) := by decide +kernel
theorem tX4_readLine_9 : gAt mX4_readLine 9 = some (.aload_n 0, 1, 0, 0, 0, 0) := by decide +kernel
theorem tX4_readLine_10 : gAt mX4_readLine 10 = some (.getfield 27, 3, 5, 1, 2, 523) := by decide +kernel
theorem tX4_readLine_13 : gAt mX4_readLine 13 = some (.getfield 57, 3, 6, 0, 0, 168) := by decide +kernel
theorem tX4_readLine_16 : gAt mX4_readLine 16 = some (.bipush 16, 2, 16, 0, 0, 0) := by decide +kernel
theorem tX4_readLine_18 : gAt mX4_readLine 18 = some (.if_icmp .lt 9, 3, 27, 0, 0, 0) := by decide +kernel
theorem tX4_readLine_21 : gAt mX4_readLine 21 = some (.aload_n 0, 1, 0, 0, 0, 0) := by decide +kernel
theorem tX4_readLine_22 : gAt mX4_readLine 22 = some (.iconst 5, 1, 5, 0, 0, 0) := by decide +kernel
theorem tX4_readLine_23 : gAt mX4_readLine 23 = some (.invokevirtual 50, 3, 17, 1, 5, 645) := by decide +kernel
theorem tX4_readLine_26 : gAt mX4_readLine 26 = some (.ireturn, 1, 1, 0, 0, 0) := by decide +kernel
theorem tX4_readLine_27 : gAt mX4_readLine 27 = some (.aload_n 0, 1, 0, 0, 0, 0) := by decide +kernel
theorem tX4_readLine_28 : gAt mX4_readLine 28 = some (.bipush (-11), 2, 11, 1, 0, 0) := by decide +kernel
theorem tX4_readLine_30 : gAt mX4_readLine 30 = some (.invokevirtual 60, 3, 18, 1, 5, 653) := by decide +kernel
theorem tX4_readLine_33 : gAt mX4_readLine 33 = some (.ifCond .ne 5, 3, 38, 0, 0, 0) := by decide +kernel
theorem tX4_readLine_36 : gAt mX4_readLine 36 = some (.iconst 0, 1, 0, 0, 0, 0) := by decide +kernel
theorem tX4_readLine_37 : gAt mX4_readLine 37 = some (.ireturn, 1, 1, 0, 0, 0) := by decide +kernel
theorem tX4_readLine_38 : gAt mX4_readLine 38 = some (.aload_n 0, 1, 0, 0, 0, 0) := by decide +kernel
theorem tX4_readLine_39 : gAt mX4_readLine 39 = some (.getfield 17, 3, 5, 3, 0, 525) := by decide +kernel
theorem tX4_readLine_42 : gAt mX4_readLine 42 = some (.istore_n 1, 1, 0, 0, 0, 0) := by decide +kernel
theorem tX4_readLine_43 : gAt mX4_readLine 43 = some (.iload_n 1, 1, 0, 0, 0, 0) := by decide +kernel
theorem tX4_readLine_44 : gAt mX4_readLine 44 = some (.ifCond .ge 9, 3, 53, 0, 0, 0) := by decide +kernel
theorem tX4_readLine_47 : gAt mX4_readLine 47 = some (.aload_n 0, 1, 0, 0, 0, 0) := by decide +kernel
theorem tX4_readLine_48 : gAt mX4_readLine 48 = some (.iconst 1, 1, 1, 0, 0, 0) := by decide +kernel
theorem tX4_readLine_49 : gAt mX4_readLine 49 = some (.invokevirtual 50, 3, 17, 1, 5, 645) := by decide +kernel
theorem tX4_readLine_52 : gAt mX4_readLine 52 = some (.ireturn, 1, 1, 0, 0, 0) := by decide +kernel
theorem tX4_readLine_53 : gAt mX4_readLine 53 = some (.iload_n 1, 1, 0, 0, 0, 0) := by decide +kernel
theorem tX4_readLine_54 : gAt mX4_readLine 54 = some (.bipush 9, 2, 9, 0, 0, 0) := by decide +kernel
theorem tX4_readLine_56 : gAt mX4_readLine 56 = some (.if_icmp .le 9, 3, 65, 0, 0, 0) := by decide +kernel
theorem tX4_readLine_59 : gAt mX4_readLine 59 = some (.aload_n 0, 1, 0, 0, 0, 0) := by decide +kernel
theorem tX4_readLine_60 : gAt mX4_readLine 60 = some (.iconst 4, 1, 4, 0, 0, 0) := by decide +kernel
theorem tX4_readLine_61 : gAt mX4_readLine 61 = some (.invokevirtual 50, 3, 17, 1, 5, 645) := by decide +kernel
theorem tX4_readLine_64 : gAt mX4_readLine 64 = some (.ireturn, 1, 1, 0, 0, 0) := by decide +kernel
theorem tX4_readLine_65 : gAt mX4_readLine 65 = some (.aload_n 0, 1, 0, 0, 0, 0) := by decide +kernel
theorem tX4_readLine_66 : gAt mX4_readLine 66 = some (.invokevirtual 54, 3, 16, 0, 5, 657) := by decide +kernel
theorem tX4_readLine_69 : gAt mX4_readLine 69 = some (.aload_n 0, 1, 0, 0, 0, 0) := by decide +kernel
theorem tX4_readLine_70 : gAt mX4_readLine 70 = some (.bipush (-12), 2, 12, 1, 0, 0) := by decide +kernel
theorem tX4_readLine_72 : gAt mX4_readLine 72 = some (.invokevirtual 60, 3, 18, 1, 5, 653) := by decide +kernel
theorem tX4_readLine_75 : gAt mX4_readLine 75 = some (.ifCond .eq 20, 3, 95, 0, 0, 0) := by decide +kernel
theorem tX4_readLine_78 : gAt mX4_readLine 78 = some (.aload_n 0, 1, 0, 0, 0, 0) := by decide +kernel
theorem tX4_readLine_79 : gAt mX4_readLine 79 = some (.iconst 0, 1, 0, 0, 0, 0) := by decide +kernel
theorem tX4_readLine_80 : gAt mX4_readLine 80 = some (.invokevirtual 63, 3, 20, 1, 5, 661) := by decide +kernel
theorem tX4_readLine_83 : gAt mX4_readLine 83 = some (.ifCond .eq 12, 3, 95, 0, 0, 0) := by decide +kernel
theorem tX4_readLine_86 : gAt mX4_readLine 86 = some (.aload_n 0, 1, 0, 0, 0, 0) := by decide +kernel
theorem tX4_readLine_87 : gAt mX4_readLine 87 = some (.bipush (-15), 2, 15, 1, 0, 0) := by decide +kernel
theorem tX4_readLine_89 : gAt mX4_readLine 89 = some (.invokevirtual 60, 3, 18, 1, 5, 653) := by decide +kernel
theorem tX4_readLine_92 : gAt mX4_readLine 92 = some (.ifCond .ne 5, 3, 97, 0, 0, 0) := by decide +kernel
theorem tX4_readLine_95 : gAt mX4_readLine 95 = some (.iconst 0, 1, 0, 0, 0, 0) := by decide +kernel
theorem tX4_readLine_96 : gAt mX4_readLine 96 = some (.ireturn, 1, 1, 0, 0, 0) := by decide +kernel
theorem tX4_readLine_97 : gAt mX4_readLine 97 = some (.aload_n 0, 1, 0, 0, 0, 0) := by decide +kernel
theorem tX4_readLine_98 : gAt mX4_readLine 98 = some (.getfield 27, 3, 5, 1, 2, 523) := by decide +kernel
theorem tX4_readLine_101 : gAt mX4_readLine 101 = some (.iload_n 1, 1, 0, 0, 0, 0) := by decide +kernel
theorem tX4_readLine_102 : gAt mX4_readLine 102 = some (.invokevirtual 66, 3, 28, 1, 6, 684) := by decide +kernel
theorem tX4_readLine_105 : gAt mX4_readLine 105 = some (.iconst 1, 1, 1, 0, 0, 0) := by decide +kernel
theorem tX4_readLine_106 : gAt mX4_readLine 106 = some (.ireturn, 1, 1, 0, 0, 0) := by decide +kernel
set_option maxRecDepth 100000 in
theorem okX4_readExpression : (gTb mX4_readExpression).all (okE gF gNM mX4_readExpression) = true := by decide +kernel
theorem pnX4_readExpression : plainName (gY mX4_readExpression).cls = true := by decide +kernel
theorem tX4_readExpression_0 : gAt mX4_readExpression 0 = some (.aload_n 0, 1, 0, 0, 0, 0) := by decide +kernel
theorem tX4_readExpression_1 : gAt mX4_readExpression 1 = some (.iload_n 1, 1, 0, 0, 0, 0) := by decide +kernel
theorem tX4_readExpression_2 : gAt mX4_readExpression 2 = some (.invokevirtual 70, 3, 21, 1, 5, 665) := by decide +kernel
theorem tX4_readExpression_5 : gAt mX4_readExpression 5 = some (.ifCond .ne 5, 3, 10, 0, 0, 0) := by decide +kernel
theorem tX4_readExpression_8 : gAt mX4_readExpression 8 = some (.iconst 0, 1, 0, 0, 0, 0) := by decide +kernel
theorem tX4_readExpression_9 : gAt mX4_readExpression 9 = some (.ireturn, 1, 1, 0, 0, 0) := by decide +kernel
theorem tX4_readExpression_10 : gAt mX4_readExpression 10 = some (.iconst 0, 1, 0, 0, 0, 0) := by decide +kernel
theorem tX4_readExpression_11 : gAt mX4_readExpression 11 = some (.istore_n 2, 1, 0, 0, 0, 0) := by decide +kernel
theorem tX4_readExpression_12 : gAt mX4_readExpression 12 = some (.iload_n 2, 1, 0, 0, 0, 0) := by decide +kernel
theorem tX4_readExpression_13 : gAt mX4_readExpression 13 = some (.sipush 600, 3, 600, 0, 0, 0) := by decide +kernel
theorem tX4_readExpression_16 : gAt mX4_readExpression 16 = some (.if_icmp .ge 41, 3, 57, 0, 0, 0) := by decide +kernel
theorem tX4_readExpression_19 : gAt mX4_readExpression 19 = some (.aload_n 0, 1, 0, 0, 0, 0) := by decide +kernel
theorem tX4_readExpression_20 : gAt mX4_readExpression 20 = some (.getfield 17, 3, 5, 3, 0, 525) := by decide +kernel
theorem tX4_readExpression_23 : gAt mX4_readExpression 23 = some (.bipush (-10), 2, 10, 1, 0, 0) := by decide +kernel
theorem tX4_readExpression_25 : gAt mX4_readExpression 25 = some (.if_icmp .ne 32, 3, 57, 0, 0, 0) := by decide +kernel
theorem tX4_readExpression_28 : gAt mX4_readExpression 28 = some (.aload_n 0, 1, 0, 0, 0, 0) := by decide +kernel
theorem tX4_readExpression_29 : gAt mX4_readExpression 29 = some (.invokevirtual 54, 3, 16, 0, 5, 657) := by decide +kernel
theorem tX4_readExpression_32 : gAt mX4_readExpression 32 = some (.aload_n 0, 1, 0, 0, 0, 0) := by decide +kernel
theorem tX4_readExpression_33 : gAt mX4_readExpression 33 = some (.iload_n 1, 1, 0, 0, 0, 0) := by decide +kernel
theorem tX4_readExpression_34 : gAt mX4_readExpression 34 = some (.invokevirtual 70, 3, 21, 1, 5, 665) := by decide +kernel
theorem tX4_readExpression_37 : gAt mX4_readExpression 37 = some (.ifCond .ne 5, 3, 42, 0, 0, 0) := by decide +kernel
theorem tX4_readExpression_40 : gAt mX4_readExpression 40 = some (.iconst 0, 1, 0, 0, 0, 0) := by decide +kernel
theorem tX4_readExpression_41 : gAt mX4_readExpression 41 = some (.ireturn, 1, 1, 0, 0, 0) := by decide +kernel
theorem tX4_readExpression_42 : gAt mX4_readExpression 42 = some (.aload_n 0, 1, 0, 0, 0, 0) := by decide +kernel
theorem tX4_readExpression_43 : gAt mX4_readExpression 43 = some (.getfield 27, 3, 5, 1, 2, 523) := by decide +kernel
theorem tX4_readExpression_46 : gAt mX4_readExpression 46 = some (.bipush (-10), 2, 10, 1, 0, 0) := by decide +kernel
theorem tX4_readExpression_48 : gAt mX4_readExpression 48 = some (.invokevirtual 73, 3, 27, 1, 6, 680) := by decide +kernel
theorem tX4_readExpression_51 : gAt mX4_readExpression 51 = some (.iinc 2 1, 3, 1, 0, 0, 0) := by decide +kernel
theorem tX4_readExpression_54 : gAt mX4_readExpression 54 = some (.goto (-42), 3, 12, 0, 0, 0) := by decide +kernel
theorem tX4_readExpression_57 : gAt mX4_readExpression 57 = some (.iconst 1, 1, 1, 0, 0, 0) := by decide +kernel
theorem tX4_readExpression_58 : gAt mX4_readExpression 58 = some (.ireturn, 1, 1, 0, 0, 0) := by decide +kernel
set_option maxRecDepth 100000 in
theorem okX4_readTest : (gTb mX4_readTest).all (okE gF gNM mX4_readTest) = true := by decide +kernel
theorem pnX4_readTest : plainName (gY mX4_readTest).cls = true := by decide +kernel
theorem tX4_readTest_0 : gAt mX4_readTest 0 = some (.aload_n 0, 1, 0, 0, 0, 0) := by decide +kernel
theorem tX4_readTest_1 : gAt mX4_readTest 1 = some (.iload_n 1, 1, 0, 0, 0, 0) := by decide +kernel
theorem tX4_readTest_2 : gAt mX4_readTest 2 = some (.invokevirtual 76, 3, 22, 1, 5, 669) := by decide +kernel
theorem tX4_readTest_5 : gAt mX4_readTest 5 = some (.ifCond .ne 5, 3, 10, 0, 0, 0) := by decide +kernel
theorem tX4_readTest_8 : gAt mX4_readTest 8 = some (.iconst 0, 1, 0, 0, 0, 0) := by decide +kernel
theorem tX4_readTest_9 : gAt mX4_readTest 9 = some (.ireturn, 1, 1, 0, 0, 0) := by decide +kernel
theorem tX4_readTest_10 : gAt mX4_readTest 10 = some (.aload_n 0, 1, 0, 0, 0, 0) := by decide +kernel
theorem tX4_readTest_11 : gAt mX4_readTest 11 = some (.getfield 17, 3, 5, 3, 0, 525) := by decide +kernel
theorem tX4_readTest_14 : gAt mX4_readTest 14 = some (.istore_n 2, 1, 0, 0, 0, 0) := by decide +kernel
theorem tX4_readTest_15 : gAt mX4_readTest 15 = some (.iload_n 2, 1, 0, 0, 0, 0) := by decide +kernel
theorem tX4_readTest_16 : gAt mX4_readTest 16 = some (.bipush (-8), 2, 8, 1, 0, 0) := by decide +kernel
theorem tX4_readTest_18 : gAt mX4_readTest 18 = some (.if_icmp .eq 11, 3, 29, 0, 0, 0) := by decide +kernel
theorem tX4_readTest_21 : gAt mX4_readTest 21 = some (.iload_n 2, 1, 0, 0, 0, 0) := by decide +kernel
theorem tX4_readTest_22 : gAt mX4_readTest 22 = some (.bipush (-9), 2, 9, 1, 0, 0) := by decide +kernel
theorem tX4_readTest_24 : gAt mX4_readTest 24 = some (.if_icmp .eq 5, 3, 29, 0, 0, 0) := by decide +kernel
theorem tX4_readTest_27 : gAt mX4_readTest 27 = some (.iconst 1, 1, 1, 0, 0, 0) := by decide +kernel
theorem tX4_readTest_28 : gAt mX4_readTest 28 = some (.ireturn, 1, 1, 0, 0, 0) := by decide +kernel
theorem tX4_readTest_29 : gAt mX4_readTest 29 = some (.aload_n 0, 1, 0, 0, 0, 0) := by decide +kernel
theorem tX4_readTest_30 : gAt mX4_readTest 30 = some (.invokevirtual 54, 3, 16, 0, 5, 657) := by decide +kernel
theorem tX4_readTest_33 : gAt mX4_readTest 33 = some (.aload_n 0, 1, 0, 0, 0, 0) := by decide +kernel
theorem tX4_readTest_34 : gAt mX4_readTest 34 = some (.iload_n 1, 1, 0, 0, 0, 0) := by decide +kernel
theorem tX4_readTest_35 : gAt mX4_readTest 35 = some (.invokevirtual 76, 3, 22, 1, 5, 669) := by decide +kernel
theorem tX4_readTest_38 : gAt mX4_readTest 38 = some (.ifCond .ne 5, 3, 43, 0, 0, 0) := by decide +kernel
theorem tX4_readTest_41 : gAt mX4_readTest 41 = some (.iconst 0, 1, 0, 0, 0, 0) := by decide +kernel
theorem tX4_readTest_42 : gAt mX4_readTest 42 = some (.ireturn, 1, 1, 0, 0, 0) := by decide +kernel
theorem tX4_readTest_43 : gAt mX4_readTest 43 = some (.aload_n 0, 1, 0, 0, 0, 0) := by decide +kernel
theorem tX4_readTest_44 : gAt mX4_readTest 44 = some (.getfield 27, 3, 5, 1, 2, 523) := by decide +kernel
theorem tX4_readTest_47 : gAt mX4_readTest 47 = some (.iload_n 2, 1, 0, 0, 0, 0) := by decide +kernel
theorem tX4_readTest_48 : gAt mX4_readTest 48 = some (.invokevirtual 73, 3, 27, 1, 6, 680) := by decide +kernel
theorem tX4_readTest_51 : gAt mX4_readTest 51 = some (.iconst 1, 1, 1, 0, 0, 0) := by decide +kernel
theorem tX4_readTest_52 : gAt mX4_readTest 52 = some (.ireturn, 1, 1, 0, 0, 0) := by decide +kernel
set_option maxRecDepth 100000 in
theorem okX4_readSum : (gTb mX4_readSum).all (okE gF gNM mX4_readSum) = true := by decide +kernel
theorem pnX4_readSum : plainName (gY mX4_readSum).cls = true := by decide +kernel
theorem tX4_readSum_0 : gAt mX4_readSum 0 = some (.aload_n 0, 1, 0, 0, 0, 0) := by decide +kernel
theorem tX4_readSum_1 : gAt mX4_readSum 1 = some (.iload_n 1, 1, 0, 0, 0, 0) := by decide +kernel
theorem tX4_readSum_2 : gAt mX4_readSum 2 = some (.invokevirtual 79, 3, 23, 1, 5, 673) := by decide +kernel
theorem tX4_readSum_5 : gAt mX4_readSum 5 = some (.ifCond .ne 5, 3, 10, 0, 0, 0) := by decide +kernel
theorem tX4_readSum_8 : gAt mX4_readSum 8 = some (.iconst 0, 1, 0, 0, 0, 0) := by decide +kernel
theorem tX4_readSum_9 : gAt mX4_readSum 9 = some (.ireturn, 1, 1, 0, 0, 0) := by decide +kernel
theorem tX4_readSum_10 : gAt mX4_readSum 10 = some (.iconst 0, 1, 0, 0, 0, 0) := by decide +kernel
theorem tX4_readSum_11 : gAt mX4_readSum 11 = some (.istore_n 2, 1, 0, 0, 0, 0) := by decide +kernel
theorem tX4_readSum_12 : gAt mX4_readSum 12 = some (.iload_n 2, 1, 0, 0, 0, 0) := by decide +kernel
theorem tX4_readSum_13 : gAt mX4_readSum 13 = some (.sipush 600, 3, 600, 0, 0, 0) := by decide +kernel
theorem tX4_readSum_16 : gAt mX4_readSum 16 = some (.if_icmp .ge 54, 3, 70, 0, 0, 0) := by decide +kernel
theorem tX4_readSum_19 : gAt mX4_readSum 19 = some (.aload_n 0, 1, 0, 0, 0, 0) := by decide +kernel
theorem tX4_readSum_20 : gAt mX4_readSum 20 = some (.getfield 17, 3, 5, 3, 0, 525) := by decide +kernel
theorem tX4_readSum_23 : gAt mX4_readSum 23 = some (.bipush (-6), 2, 6, 1, 0, 0) := by decide +kernel
theorem tX4_readSum_25 : gAt mX4_readSum 25 = some (.if_icmp .eq 12, 3, 37, 0, 0, 0) := by decide +kernel
theorem tX4_readSum_28 : gAt mX4_readSum 28 = some (.aload_n 0, 1, 0, 0, 0, 0) := by decide +kernel
theorem tX4_readSum_29 : gAt mX4_readSum 29 = some (.getfield 17, 3, 5, 3, 0, 525) := by decide +kernel
theorem tX4_readSum_32 : gAt mX4_readSum 32 = some (.bipush (-7), 2, 7, 1, 0, 0) := by decide +kernel
theorem tX4_readSum_34 : gAt mX4_readSum 34 = some (.if_icmp .ne 36, 3, 70, 0, 0, 0) := by decide +kernel
theorem tX4_readSum_37 : gAt mX4_readSum 37 = some (.aload_n 0, 1, 0, 0, 0, 0) := by decide +kernel
theorem tX4_readSum_38 : gAt mX4_readSum 38 = some (.getfield 17, 3, 5, 3, 0, 525) := by decide +kernel
theorem tX4_readSum_41 : gAt mX4_readSum 41 = some (.istore_n 3, 1, 0, 0, 0, 0) := by decide +kernel
theorem tX4_readSum_42 : gAt mX4_readSum 42 = some (.aload_n 0, 1, 0, 0, 0, 0) := by decide +kernel
theorem tX4_readSum_43 : gAt mX4_readSum 43 = some (.invokevirtual 54, 3, 16, 0, 5, 657) := by decide +kernel
theorem tX4_readSum_46 : gAt mX4_readSum 46 = some (.aload_n 0, 1, 0, 0, 0, 0) := by decide +kernel
theorem tX4_readSum_47 : gAt mX4_readSum 47 = some (.iload_n 1, 1, 0, 0, 0, 0) := by decide +kernel
theorem tX4_readSum_48 : gAt mX4_readSum 48 = some (.invokevirtual 79, 3, 23, 1, 5, 673) := by decide +kernel
theorem tX4_readSum_51 : gAt mX4_readSum 51 = some (.ifCond .ne 5, 3, 56, 0, 0, 0) := by decide +kernel
theorem tX4_readSum_54 : gAt mX4_readSum 54 = some (.iconst 0, 1, 0, 0, 0, 0) := by decide +kernel
theorem tX4_readSum_55 : gAt mX4_readSum 55 = some (.ireturn, 1, 1, 0, 0, 0) := by decide +kernel
theorem tX4_readSum_56 : gAt mX4_readSum 56 = some (.aload_n 0, 1, 0, 0, 0, 0) := by decide +kernel
theorem tX4_readSum_57 : gAt mX4_readSum 57 = some (.getfield 27, 3, 5, 1, 2, 523) := by decide +kernel
theorem tX4_readSum_60 : gAt mX4_readSum 60 = some (.iload_n 3, 1, 0, 0, 0, 0) := by decide +kernel
theorem tX4_readSum_61 : gAt mX4_readSum 61 = some (.invokevirtual 73, 3, 27, 1, 6, 680) := by decide +kernel
theorem tX4_readSum_64 : gAt mX4_readSum 64 = some (.iinc 2 1, 3, 1, 0, 0, 0) := by decide +kernel
theorem tX4_readSum_67 : gAt mX4_readSum 67 = some (.goto (-55), 3, 12, 0, 0, 0) := by decide +kernel
theorem tX4_readSum_70 : gAt mX4_readSum 70 = some (.iconst 1, 1, 1, 0, 0, 0) := by decide +kernel
theorem tX4_readSum_71 : gAt mX4_readSum 71 = some (.ireturn, 1, 1, 0, 0, 0) := by decide +kernel
set_option maxRecDepth 100000 in
theorem okX4_readPart : (gTb mX4_readPart).all (okE gF gNM mX4_readPart) = true := by decide +kernel
theorem pnX4_readPart : plainName (gY mX4_readPart).cls = true := by decide +kernel
theorem tX4_readPart_0 : gAt mX4_readPart 0 = some (.aload_n 0, 1, 0, 0, 0, 0) := by decide +kernel
theorem tX4_readPart_1 : gAt mX4_readPart 1 = some (.getfield 17, 3, 5, 3, 0, 525) := by decide +kernel
theorem tX4_readPart_4 : gAt mX4_readPart 4 = some (.invokestatic 82, 3, 26, 1, 6, 677) := by decide +kernel
theorem tX4_readPart_7 : gAt mX4_readPart 7 = some (.istore_n 2, 1, 0, 0, 0, 0) := by decide +kernel
theorem tX4_readPart_8 : gAt mX4_readPart 8 = some (.iload_n 2, 1, 0, 0, 0, 0) := by decide +kernel
theorem tX4_readPart_9 : gAt mX4_readPart 9 = some (.ifCond .ne 18, 3, 27, 0, 0, 0) := by decide +kernel
theorem tX4_readPart_12 : gAt mX4_readPart 12 = some (.aload_n 0, 1, 0, 0, 0, 0) := by decide +kernel
theorem tX4_readPart_13 : gAt mX4_readPart 13 = some (.getfield 17, 3, 5, 3, 0, 525) := by decide +kernel
theorem tX4_readPart_16 : gAt mX4_readPart 16 = some (.bipush (-13), 2, 13, 1, 0, 0) := by decide +kernel
theorem tX4_readPart_18 : gAt mX4_readPart 18 = some (.if_icmp .eq 9, 3, 27, 0, 0, 0) := by decide +kernel
theorem tX4_readPart_21 : gAt mX4_readPart 21 = some (.aload_n 0, 1, 0, 0, 0, 0) := by decide +kernel
theorem tX4_readPart_22 : gAt mX4_readPart 22 = some (.iconst 1, 1, 1, 0, 0, 0) := by decide +kernel
theorem tX4_readPart_23 : gAt mX4_readPart 23 = some (.invokevirtual 50, 3, 17, 1, 5, 645) := by decide +kernel
theorem tX4_readPart_26 : gAt mX4_readPart 26 = some (.ireturn, 1, 1, 0, 0, 0) := by decide +kernel
theorem tX4_readPart_27 : gAt mX4_readPart 27 = some (.iload_n 1, 1, 0, 0, 0, 0) := by decide +kernel
theorem tX4_readPart_28 : gAt mX4_readPart 28 = some (.iconst 5, 1, 5, 0, 0, 0) := by decide +kernel
theorem tX4_readPart_29 : gAt mX4_readPart 29 = some (.if_icmp .lt 9, 3, 38, 0, 0, 0) := by decide +kernel
theorem tX4_readPart_32 : gAt mX4_readPart 32 = some (.aload_n 0, 1, 0, 0, 0, 0) := by decide +kernel
theorem tX4_readPart_33 : gAt mX4_readPart 33 = some (.iconst 5, 1, 5, 0, 0, 0) := by decide +kernel
theorem tX4_readPart_34 : gAt mX4_readPart 34 = some (.invokevirtual 50, 3, 17, 1, 5, 645) := by decide +kernel
theorem tX4_readPart_37 : gAt mX4_readPart 37 = some (.ireturn, 1, 1, 0, 0, 0) := by decide +kernel
theorem tX4_readPart_38 : gAt mX4_readPart 38 = some (.iload_n 2, 1, 0, 0, 0, 0) := by decide +kernel
theorem tX4_readPart_39 : gAt mX4_readPart 39 = some (.ifCond .eq 20, 3, 59, 0, 0, 0) := by decide +kernel
theorem tX4_readPart_42 : gAt mX4_readPart 42 = some (.aload_n 0, 1, 0, 0, 0, 0) := by decide +kernel
theorem tX4_readPart_43 : gAt mX4_readPart 43 = some (.getfield 27, 3, 5, 1, 2, 523) := by decide +kernel
theorem tX4_readPart_46 : gAt mX4_readPart 46 = some (.aload_n 0, 1, 0, 0, 0, 0) := by decide +kernel
theorem tX4_readPart_47 : gAt mX4_readPart 47 = some (.getfield 17, 3, 5, 3, 0, 525) := by decide +kernel
theorem tX4_readPart_50 : gAt mX4_readPart 50 = some (.invokevirtual 73, 3, 27, 1, 6, 680) := by decide +kernel
theorem tX4_readPart_53 : gAt mX4_readPart 53 = some (.aload_n 0, 1, 0, 0, 0, 0) := by decide +kernel
theorem tX4_readPart_54 : gAt mX4_readPart 54 = some (.invokevirtual 54, 3, 16, 0, 5, 657) := by decide +kernel
theorem tX4_readPart_57 : gAt mX4_readPart 57 = some (.iconst 1, 1, 1, 0, 0, 0) := by decide +kernel
theorem tX4_readPart_58 : gAt mX4_readPart 58 = some (.ireturn, 1, 1, 0, 0, 0) := by decide +kernel
theorem tX4_readPart_59 : gAt mX4_readPart 59 = some (.aload_n 0, 1, 0, 0, 0, 0) := by decide +kernel
theorem tX4_readPart_60 : gAt mX4_readPart 60 = some (.invokevirtual 54, 3, 16, 0, 5, 657) := by decide +kernel
theorem tX4_readPart_63 : gAt mX4_readPart 63 = some (.aload_n 0, 1, 0, 0, 0, 0) := by decide +kernel
theorem tX4_readPart_64 : gAt mX4_readPart 64 = some (.iload_n 1, 1, 0, 0, 0, 0) := by decide +kernel
theorem tX4_readPart_65 : gAt mX4_readPart 65 = some (.iconst 1, 1, 1, 0, 0, 0) := by decide +kernel
theorem tX4_readPart_66 : gAt mX4_readPart 66 = some (.iadd, 1, 0, 0, 0, 0) := by decide +kernel
theorem tX4_readPart_67 : gAt mX4_readPart 67 = some (.invokevirtual 63, 3, 20, 1, 5, 661) := by decide +kernel
theorem tX4_readPart_70 : gAt mX4_readPart 70 = some (.ifCond .eq 16, 3, 86, 0, 0, 0) := by decide +kernel
theorem tX4_readPart_73 : gAt mX4_readPart 73 = some (.aload_n 0, 1, 0, 0, 0, 0) := by decide +kernel
theorem tX4_readPart_74 : gAt mX4_readPart 74 = some (.bipush (-14), 2, 14, 1, 0, 0) := by decide +kernel
theorem tX4_readPart_76 : gAt mX4_readPart 76 = some (.invokevirtual 60, 3, 18, 1, 5, 653) := by decide +kernel
theorem tX4_readPart_79 : gAt mX4_readPart 79 = some (.ifCond .eq 7, 3, 86, 0, 0, 0) := by decide +kernel
theorem tX4_readPart_82 : gAt mX4_readPart 82 = some (.iconst 1, 1, 1, 0, 0, 0) := by decide +kernel
theorem tX4_readPart_83 : gAt mX4_readPart 83 = some (.goto 4, 3, 87, 0, 0, 0) := by decide +kernel
theorem tX4_readPart_86 : gAt mX4_readPart 86 = some (.iconst 0, 1, 0, 0, 0, 0) := by decide +kernel
theorem tX4_readPart_87 : gAt mX4_readPart 87 = some (.ireturn, 1, 1, 0, 0, 0) := by decide +kernel

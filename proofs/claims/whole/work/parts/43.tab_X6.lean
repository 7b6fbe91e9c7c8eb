/-! rows of the tables of class PapersDesk$Tape -/
set_option maxRecDepth 100000 in
theorem okX6_init : (gTb mX6_init).all (okE gF gNM mX6_init) = true := by decide +kernel
theorem pnX6_init : plainName (gY mX6_init).cls = true := by decide +kernel
theorem tX6_init_0 : gAt mX6_init 0 = some (.aload_n 0, 1, 0, 0, 0, 0) := by decide +kernel
theorem tX6_init_1 : gAt mX6_init 1 = some (.invokespecial 3, 3, 9999, 0, 0, 145) := by decide +kernel
theorem tX6_init_4 : gAt mX6_init 4 = some (.aload_n 0, 1, 0, 0, 0, 0) := by decide +kernel
theorem tX6_init_5 : gAt mX6_init 5 = some (.sipush 600, 3, 600, 0, 0, 0) := by decide +kernel
theorem tX6_init_8 : gAt mX6_init 8 = some (.newarray .char, 2, 15, 0, 0, 160) := by decide +kernel
theorem tX6_init_10 : gAt mX6_init 10 = some (.putfield 9, 3, 7, 0, 2, 146) := by decide +kernel
theorem tX6_init_13 : gAt mX6_init 13 = some (.aload_n 0, 1, 0, 0, 0, 0) := by decide +kernel
theorem tX6_init_14 : gAt mX6_init 14 = some (.iconst 0, 1, 0, 0, 0, 0) := by decide +kernel
theorem tX6_init_15 : gAt mX6_init 15 = some (.putfield 15, 3, 7, 1, 0, 147) := by decide +kernel
theorem tX6_init_18 : gAt mX6_init 18 = some (.aload_n 0, 1, 0, 0, 0, 0) := by decide +kernel
theorem tX6_init_19 : gAt mX6_init 19 = some (.sipush 601, 3, 601, 0, 0, 0) := by decide +kernel
theorem tX6_init_22 : gAt mX6_init 22 = some (.newarray .int, 2, 12, 0, 0, 139) := by decide +kernel
theorem tX6_init_24 : gAt mX6_init 24 = some (.putfield 19, 3, 7, 2, 2, 149) := by decide +kernel
theorem tX6_init_27 : gAt mX6_init 27 = some (.aload_n 0, 1, 0, 0, 0, 0) := by decide +kernel
theorem tX6_init_28 : gAt mX6_init 28 = some (.sipush 601, 3, 601, 0, 0, 0) := by decide +kernel
theorem tX6_init_31 : gAt mX6_init 31 = some (.newarray .int, 2, 12, 0, 0, 139) := by decide +kernel
theorem tX6_init_33 : gAt mX6_init 33 = some (.putfield 23, 3, 7, 3, 2, 150) := by decide +kernel
theorem tX6_init_36 : gAt mX6_init 36 = some (.return_, 1, 0, 0, 0, 0) := by decide +kernel
set_option maxRecDepth 100000 in
theorem okX6_putBytes : (gTb mX6_putBytes).all (okE gF gNM mX6_putBytes) = true := by decide +kernel
theorem pnX6_putBytes : plainName (gY mX6_putBytes).cls = true := by decide +kernel
theorem tX6_putBytes_0 : gAt mX6_putBytes 0 = some (.bipush 56, 2, 56, 0, 0, 0) := by decide +kernel
theorem tX6_putBytes_2 : gAt mX6_putBytes 2 = some (.istore_n 3, 1, 0, 0, 0, 0) := by decide +kernel
theorem tX6_putBytes_3 : gAt mX6_putBytes 3 = some (.iload_n 3, 1, 0, 0, 0, 0) := by decide +kernel
theorem tX6_putBytes_4 : gAt mX6_putBytes 4 = some (.ifCond .lt 22, 3, 26, 0, 0, 0) := by decide +kernel
theorem tX6_putBytes_7 : gAt mX6_putBytes 7 = some (.aload_n 0, 1, 0, 0, 0, 0) := by decide +kernel
theorem tX6_putBytes_8 : gAt mX6_putBytes 8 = some (.lload_n 1, 1, 0, 0, 0, 0) := by decide +kernel
theorem tX6_putBytes_9 : gAt mX6_putBytes 9 = some (.iload_n 3, 1, 0, 0, 0, 0) := by decide +kernel
theorem tX6_putBytes_10 : gAt mX6_putBytes 10 = some (.lushr, 1, 0, 0, 0, 0) := by decide +kernel
theorem tX6_putBytes_11 : gAt mX6_putBytes 11 = some (.ldc2_w 26, 3, 255, 0, 0, 507) := by decide +kernel
theorem tX6_putBytes_14 : gAt mX6_putBytes 14 = some (.land, 1, 0, 0, 0, 0) := by decide +kernel
theorem tX6_putBytes_15 : gAt mX6_putBytes 15 = some (.l2i, 1, 0, 0, 0, 0) := by decide +kernel
theorem tX6_putBytes_16 : gAt mX6_putBytes 16 = some (.i2c, 1, 0, 0, 0, 0) := by decide +kernel
theorem tX6_putBytes_17 : gAt mX6_putBytes 17 = some (.invokevirtual 28, 3, 35, 1, 7, 508) := by decide +kernel
theorem tX6_putBytes_20 : gAt mX6_putBytes 20 = some (.iinc 3 (-8), 3, 8, 1, 0, 0) := by decide +kernel
theorem tX6_putBytes_23 : gAt mX6_putBytes 23 = some (.goto (-20), 3, 3, 0, 0, 0) := by decide +kernel
theorem tX6_putBytes_26 : gAt mX6_putBytes 26 = some (.return_, 1, 0, 0, 0, 0) := by decide +kernel
set_option maxRecDepth 100000 in
theorem okX6_putSign : (gTb mX6_putSign).all (okE gF gNM mX6_putSign) = true := by decide +kernel
theorem pnX6_putSign : plainName (gY mX6_putSign).cls = true := by decide +kernel
theorem tX6_putSign_0 : gAt mX6_putSign 0 = some (.iload_n 1, 1, 0, 0, 0, 0) := by decide +kernel
theorem tX6_putSign_1 : gAt mX6_putSign 1 = some (.bipush 10, 2, 10, 0, 0, 0) := by decide +kernel
theorem tX6_putSign_3 : gAt mX6_putSign 3 = some (.if_icmp .eq 15, 3, 18, 0, 0, 0) := by decide +kernel
theorem tX6_putSign_6 : gAt mX6_putSign 6 = some (.iload_n 1, 1, 0, 0, 0, 0) := by decide +kernel
theorem tX6_putSign_7 : gAt mX6_putSign 7 = some (.bipush 32, 2, 32, 0, 0, 0) := by decide +kernel
theorem tX6_putSign_9 : gAt mX6_putSign 9 = some (.if_icmp .lt 13, 3, 22, 0, 0, 0) := by decide +kernel
theorem tX6_putSign_12 : gAt mX6_putSign 12 = some (.iload_n 1, 1, 0, 0, 0, 0) := by decide +kernel
theorem tX6_putSign_13 : gAt mX6_putSign 13 = some (.bipush 126, 2, 126, 0, 0, 0) := by decide +kernel
theorem tX6_putSign_15 : gAt mX6_putSign 15 = some (.if_icmp .gt 7, 3, 22, 0, 0, 0) := by decide +kernel
theorem tX6_putSign_18 : gAt mX6_putSign 18 = some (.iconst 1, 1, 1, 0, 0, 0) := by decide +kernel
theorem tX6_putSign_19 : gAt mX6_putSign 19 = some (.goto 4, 3, 23, 0, 0, 0) := by decide +kernel
theorem tX6_putSign_22 : gAt mX6_putSign 22 = some (.iconst 0, 1, 0, 0, 0, 0) := by decide +kernel
theorem tX6_putSign_23 : gAt mX6_putSign 23 = some (.istore_n 2, 1, 0, 0, 0, 0) := by decide +kernel
theorem tX6_putSign_24 : gAt mX6_putSign 24 = some (.iload_n 2, 1, 0, 0, 0, 0) := by decide +kernel
theorem tX6_putSign_25 : gAt mX6_putSign 25 = some (.ifCond .eq 33, 3, 58, 0, 0, 0) := by decide +kernel
theorem tX6_putSign_28 : gAt mX6_putSign 28 = some (.aload_n 0, 1, 0, 0, 0, 0) := by decide +kernel
theorem tX6_putSign_29 : gAt mX6_putSign 29 = some (.getfield 15, 3, 7, 1, 0, 147) := by decide +kernel
theorem tX6_putSign_32 : gAt mX6_putSign 32 = some (.sipush 600, 3, 600, 0, 0, 0) := by decide +kernel
theorem tX6_putSign_35 : gAt mX6_putSign 35 = some (.if_icmp .ge 23, 3, 58, 0, 0, 0) := by decide +kernel
theorem tX6_putSign_38 : gAt mX6_putSign 38 = some (.aload_n 0, 1, 0, 0, 0, 0) := by decide +kernel
theorem tX6_putSign_39 : gAt mX6_putSign 39 = some (.getfield 9, 3, 7, 0, 2, 146) := by decide +kernel
theorem tX6_putSign_42 : gAt mX6_putSign 42 = some (.aload_n 0, 1, 0, 0, 0, 0) := by decide +kernel
theorem tX6_putSign_43 : gAt mX6_putSign 43 = some (.getfield 15, 3, 7, 1, 0, 147) := by decide +kernel
theorem tX6_putSign_46 : gAt mX6_putSign 46 = some (.iload_n 1, 1, 0, 0, 0, 0) := by decide +kernel
theorem tX6_putSign_47 : gAt mX6_putSign 47 = some (.castore, 1, 15, 0, 0, 0) := by decide +kernel
theorem tX6_putSign_48 : gAt mX6_putSign 48 = some (.aload_n 0, 1, 0, 0, 0, 0) := by decide +kernel
theorem tX6_putSign_49 : gAt mX6_putSign 49 = some (.dup, 1, 0, 0, 0, 0) := by decide +kernel
theorem tX6_putSign_50 : gAt mX6_putSign 50 = some (.getfield 15, 3, 7, 1, 0, 147) := by decide +kernel
theorem tX6_putSign_53 : gAt mX6_putSign 53 = some (.iconst 1, 1, 1, 0, 0, 0) := by decide +kernel
theorem tX6_putSign_54 : gAt mX6_putSign 54 = some (.iadd, 1, 0, 0, 0, 0) := by decide +kernel
theorem tX6_putSign_55 : gAt mX6_putSign 55 = some (.putfield 15, 3, 7, 1, 0, 147) := by decide +kernel
theorem tX6_putSign_58 : gAt mX6_putSign 58 = some (.return_, 1, 0, 0, 0, 0) := by decide +kernel
set_option maxRecDepth 100000 in
theorem okX6_wipe : (gTb mX6_wipe).all (okE gF gNM mX6_wipe) = true := by decide +kernel
theorem pnX6_wipe : plainName (gY mX6_wipe).cls = true := by decide +kernel
theorem tX6_wipe_0 : gAt mX6_wipe 0 = some (.aload_n 0, 1, 0, 0, 0, 0) := by decide +kernel
theorem tX6_wipe_1 : gAt mX6_wipe 1 = some (.iconst 0, 1, 0, 0, 0, 0) := by decide +kernel
theorem tX6_wipe_2 : gAt mX6_wipe 2 = some (.putfield 15, 3, 7, 1, 0, 147) := by decide +kernel
theorem tX6_wipe_5 : gAt mX6_wipe 5 = some (.return_, 1, 0, 0, 0, 0) := by decide +kernel
set_option maxRecDepth 100000 in
theorem okX6_tokenAt : (gTb mX6_tokenAt).all (okE gF gNM mX6_tokenAt) = true := by decide +kernel
theorem pnX6_tokenAt : plainName (gY mX6_tokenAt).cls = true := by decide +kernel
theorem tX6_tokenAt_0 : gAt mX6_tokenAt 0 = some (.iload_n 1, 1, 0, 0, 0, 0) := by decide +kernel
theorem tX6_tokenAt_1 : gAt mX6_tokenAt 1 = some (.ifCond .lt 19, 3, 20, 0, 0, 0) := by decide +kernel
theorem tX6_tokenAt_4 : gAt mX6_tokenAt 4 = some (.iload_n 1, 1, 0, 0, 0, 0) := by decide +kernel
theorem tX6_tokenAt_5 : gAt mX6_tokenAt 5 = some (.sipush 600, 3, 600, 0, 0, 0) := by decide +kernel
theorem tX6_tokenAt_8 : gAt mX6_tokenAt 8 = some (.if_icmp .gt 12, 3, 20, 0, 0, 0) := by decide +kernel
theorem tX6_tokenAt_11 : gAt mX6_tokenAt 11 = some (.aload_n 0, 1, 0, 0, 0, 0) := by decide +kernel
theorem tX6_tokenAt_12 : gAt mX6_tokenAt 12 = some (.getfield 19, 3, 7, 2, 2, 149) := by decide +kernel
theorem tX6_tokenAt_15 : gAt mX6_tokenAt 15 = some (.iload_n 1, 1, 0, 0, 0, 0) := by decide +kernel
theorem tX6_tokenAt_16 : gAt mX6_tokenAt 16 = some (.iaload, 1, 12, 0, 0, 0) := by decide +kernel
theorem tX6_tokenAt_17 : gAt mX6_tokenAt 17 = some (.goto 5, 3, 22, 0, 0, 0) := by decide +kernel
theorem tX6_tokenAt_20 : gAt mX6_tokenAt 20 = some (.bipush (-16), 2, 16, 1, 0, 0) := by decide +kernel
theorem tX6_tokenAt_22 : gAt mX6_tokenAt 22 = some (.ireturn, 1, 0, 0, 0, 0) := by decide +kernel
set_option maxRecDepth 100000 in
theorem okX6_placeOf : (gTb mX6_placeOf).all (okE gF gNM mX6_placeOf) = true := by decide +kernel
theorem pnX6_placeOf : plainName (gY mX6_placeOf).cls = true := by decide +kernel
theorem tX6_placeOf_0 : gAt mX6_placeOf 0 = some (.iload_n 1, 1, 0, 0, 0, 0) := by decide +kernel
theorem tX6_placeOf_1 : gAt mX6_placeOf 1 = some (.ifCond .lt 19, 3, 20, 0, 0, 0) := by decide +kernel
theorem tX6_placeOf_4 : gAt mX6_placeOf 4 = some (.iload_n 1, 1, 0, 0, 0, 0) := by decide +kernel
theorem tX6_placeOf_5 : gAt mX6_placeOf 5 = some (.sipush 600, 3, 600, 0, 0, 0) := by decide +kernel
theorem tX6_placeOf_8 : gAt mX6_placeOf 8 = some (.if_icmp .gt 12, 3, 20, 0, 0, 0) := by decide +kernel
theorem tX6_placeOf_11 : gAt mX6_placeOf 11 = some (.aload_n 0, 1, 0, 0, 0, 0) := by decide +kernel
theorem tX6_placeOf_12 : gAt mX6_placeOf 12 = some (.getfield 23, 3, 7, 3, 2, 150) := by decide +kernel
theorem tX6_placeOf_15 : gAt mX6_placeOf 15 = some (.iload_n 1, 1, 0, 0, 0, 0) := by decide +kernel
theorem tX6_placeOf_16 : gAt mX6_placeOf 16 = some (.iaload, 1, 12, 0, 0, 0) := by decide +kernel
theorem tX6_placeOf_17 : gAt mX6_placeOf 17 = some (.goto 7, 3, 24, 0, 0, 0) := by decide +kernel
theorem tX6_placeOf_20 : gAt mX6_placeOf 20 = some (.aload_n 0, 1, 0, 0, 0, 0) := by decide +kernel
theorem tX6_placeOf_21 : gAt mX6_placeOf 21 = some (.getfield 15, 3, 7, 1, 0, 147) := by decide +kernel
theorem tX6_placeOf_24 : gAt mX6_placeOf 24 = some (.ireturn, 1, 0, 0, 0, 0) := by decide +kernel
set_option maxRecDepth 100000 in
theorem okX6_cut : (gTb mX6_cut).all (okE gF gNM mX6_cut) = true := by decide +kernel
theorem pnX6_cut : plainName (gY mX6_cut).cls = true := by decide +kernel
theorem tX6_cut_0 : gAt mX6_cut 0 = some (.iconst 0, 1, 0, 0, 0, 0) := by decide +kernel
theorem tX6_cut_1 : gAt mX6_cut 1 = some (.istore_n 1, 1, 0, 0, 0, 0) := by decide +kernel
theorem tX6_cut_2 : gAt mX6_cut 2 = some (.iconst 0, 1, 0, 0, 0, 0) := by decide +kernel
theorem tX6_cut_3 : gAt mX6_cut 3 = some (.istore_n 2, 1, 0, 0, 0, 0) := by decide +kernel
theorem tX6_cut_4 : gAt mX6_cut 4 = some (.iload_n 2, 1, 0, 0, 0, 0) := by decide +kernel
theorem tX6_cut_5 : gAt mX6_cut 5 = some (.sipush 600, 3, 600, 0, 0, 0) := by decide +kernel
theorem tX6_cut_8 : gAt mX6_cut 8 = some (.if_icmp .gt 57, 3, 65, 0, 0, 0) := by decide +kernel
theorem tX6_cut_11 : gAt mX6_cut 11 = some (.aload_n 0, 1, 0, 0, 0, 0) := by decide +kernel
theorem tX6_cut_12 : gAt mX6_cut 12 = some (.iload_n 1, 1, 0, 0, 0, 0) := by decide +kernel
theorem tX6_cut_13 : gAt mX6_cut 13 = some (.invokevirtual 32, 3, 40, 1, 7, 550) := by decide +kernel
theorem tX6_cut_16 : gAt mX6_cut 16 = some (.istore_n 3, 1, 0, 0, 0, 0) := by decide +kernel
theorem tX6_cut_17 : gAt mX6_cut 17 = some (.aload_n 0, 1, 0, 0, 0, 0) := by decide +kernel
theorem tX6_cut_18 : gAt mX6_cut 18 = some (.iload_n 3, 1, 0, 0, 0, 0) := by decide +kernel
theorem tX6_cut_19 : gAt mX6_cut 19 = some (.invokevirtual 36, 3, 41, 1, 7, 554) := by decide +kernel
theorem tX6_cut_22 : gAt mX6_cut 22 = some (.istore 4, 2, 0, 0, 0, 0) := by decide +kernel
theorem tX6_cut_24 : gAt mX6_cut 24 = some (.aload_n 0, 1, 0, 0, 0, 0) := by decide +kernel
theorem tX6_cut_25 : gAt mX6_cut 25 = some (.getfield 19, 3, 7, 2, 2, 149) := by decide +kernel
theorem tX6_cut_28 : gAt mX6_cut 28 = some (.iload_n 2, 1, 0, 0, 0, 0) := by decide +kernel
theorem tX6_cut_29 : gAt mX6_cut 29 = some (.aload_n 0, 1, 0, 0, 0, 0) := by decide +kernel
theorem tX6_cut_30 : gAt mX6_cut 30 = some (.iload_n 3, 1, 0, 0, 0, 0) := by decide +kernel
theorem tX6_cut_31 : gAt mX6_cut 31 = some (.iload 4, 2, 0, 0, 0, 0) := by decide +kernel
theorem tX6_cut_33 : gAt mX6_cut 33 = some (.invokevirtual 39, 3, 44, 2, 7, 564) := by decide +kernel
theorem tX6_cut_36 : gAt mX6_cut 36 = some (.iastore, 1, 12, 0, 0, 0) := by decide +kernel
theorem tX6_cut_37 : gAt mX6_cut 37 = some (.aload_n 0, 1, 0, 0, 0, 0) := by decide +kernel
theorem tX6_cut_38 : gAt mX6_cut 38 = some (.getfield 23, 3, 7, 3, 2, 150) := by decide +kernel
theorem tX6_cut_41 : gAt mX6_cut 41 = some (.iload_n 2, 1, 0, 0, 0, 0) := by decide +kernel
theorem tX6_cut_42 : gAt mX6_cut 42 = some (.iload_n 3, 1, 0, 0, 0, 0) := by decide +kernel
theorem tX6_cut_43 : gAt mX6_cut 43 = some (.iastore, 1, 12, 0, 0, 0) := by decide +kernel
theorem tX6_cut_44 : gAt mX6_cut 44 = some (.aload_n 0, 1, 0, 0, 0, 0) := by decide +kernel
theorem tX6_cut_45 : gAt mX6_cut 45 = some (.getfield 19, 3, 7, 2, 2, 149) := by decide +kernel
theorem tX6_cut_48 : gAt mX6_cut 48 = some (.iload_n 2, 1, 0, 0, 0, 0) := by decide +kernel
theorem tX6_cut_49 : gAt mX6_cut 49 = some (.iaload, 1, 12, 0, 0, 0) := by decide +kernel
theorem tX6_cut_50 : gAt mX6_cut 50 = some (.bipush (-16), 2, 16, 1, 0, 0) := by decide +kernel
theorem tX6_cut_52 : gAt mX6_cut 52 = some (.if_icmp .ne 4, 3, 56, 0, 0, 0) := by decide +kernel
theorem tX6_cut_55 : gAt mX6_cut 55 = some (.return_, 1, 0, 0, 0, 0) := by decide +kernel
theorem tX6_cut_56 : gAt mX6_cut 56 = some (.iload 4, 2, 0, 0, 0, 0) := by decide +kernel
theorem tX6_cut_58 : gAt mX6_cut 58 = some (.istore_n 1, 1, 0, 0, 0, 0) := by decide +kernel
theorem tX6_cut_59 : gAt mX6_cut 59 = some (.iinc 2 1, 3, 1, 0, 0, 0) := by decide +kernel
theorem tX6_cut_62 : gAt mX6_cut 62 = some (.goto (-58), 3, 4, 0, 0, 0) := by decide +kernel
theorem tX6_cut_65 : gAt mX6_cut 65 = some (.return_, 1, 0, 0, 0, 0) := by decide +kernel
set_option maxRecDepth 100000 in
theorem okX6_skipBlanks : (gTb mX6_skipBlanks).all (okE gF gNM mX6_skipBlanks) = true := by decide +kernel
theorem pnX6_skipBlanks : plainName (gY mX6_skipBlanks).cls = true := by decide +kernel
theorem tX6_skipBlanks_0 : gAt mX6_skipBlanks 0 = some (.iload_n 1, 1, 0, 0, 0, 0) := by decide +kernel
theorem tX6_skipBlanks_1 : gAt mX6_skipBlanks 1 = some (.istore_n 2, 1, 0, 0, 0, 0) := by decide +kernel
theorem tX6_skipBlanks_2 : gAt mX6_skipBlanks 2 = some (.iload_n 2, 1, 0, 0, 0, 0) := by decide +kernel
theorem tX6_skipBlanks_3 : gAt mX6_skipBlanks 3 = some (.aload_n 0, 1, 0, 0, 0, 0) := by decide +kernel
theorem tX6_skipBlanks_4 : gAt mX6_skipBlanks 4 = some (.getfield 15, 3, 7, 1, 0, 147) := by decide +kernel
theorem tX6_skipBlanks_7 : gAt mX6_skipBlanks 7 = some (.if_icmp .ge 31, 3, 38, 0, 0, 0) := by decide +kernel
theorem tX6_skipBlanks_10 : gAt mX6_skipBlanks 10 = some (.aload_n 0, 1, 0, 0, 0, 0) := by decide +kernel
theorem tX6_skipBlanks_11 : gAt mX6_skipBlanks 11 = some (.getfield 9, 3, 7, 0, 2, 146) := by decide +kernel
theorem tX6_skipBlanks_14 : gAt mX6_skipBlanks 14 = some (.iload_n 2, 1, 0, 0, 0, 0) := by decide +kernel
theorem tX6_skipBlanks_15 : gAt mX6_skipBlanks 15 = some (.caload, 1, 15, 0, 0, 0) := by decide +kernel
theorem tX6_skipBlanks_16 : gAt mX6_skipBlanks 16 = some (.bipush 10, 2, 10, 0, 0, 0) := by decide +kernel
theorem tX6_skipBlanks_18 : gAt mX6_skipBlanks 18 = some (.if_icmp .eq 14, 3, 32, 0, 0, 0) := by decide +kernel
theorem tX6_skipBlanks_21 : gAt mX6_skipBlanks 21 = some (.aload_n 0, 1, 0, 0, 0, 0) := by decide +kernel
theorem tX6_skipBlanks_22 : gAt mX6_skipBlanks 22 = some (.getfield 9, 3, 7, 0, 2, 146) := by decide +kernel
theorem tX6_skipBlanks_25 : gAt mX6_skipBlanks 25 = some (.iload_n 2, 1, 0, 0, 0, 0) := by decide +kernel
theorem tX6_skipBlanks_26 : gAt mX6_skipBlanks 26 = some (.caload, 1, 15, 0, 0, 0) := by decide +kernel
theorem tX6_skipBlanks_27 : gAt mX6_skipBlanks 27 = some (.bipush 32, 2, 32, 0, 0, 0) := by decide +kernel
theorem tX6_skipBlanks_29 : gAt mX6_skipBlanks 29 = some (.if_icmp .ne 9, 3, 38, 0, 0, 0) := by decide +kernel
theorem tX6_skipBlanks_32 : gAt mX6_skipBlanks 32 = some (.iinc 2 1, 3, 1, 0, 0, 0) := by decide +kernel
theorem tX6_skipBlanks_35 : gAt mX6_skipBlanks 35 = some (.goto (-33), 3, 2, 0, 0, 0) := by decide +kernel
theorem tX6_skipBlanks_38 : gAt mX6_skipBlanks 38 = some (.iload_n 2, 1, 0, 0, 0, 0) := by decide +kernel
theorem tX6_skipBlanks_39 : gAt mX6_skipBlanks 39 = some (.ireturn, 1, 0, 0, 0, 0) := by decide +kernel
set_option maxRecDepth 100000 in
theorem okX6_endOfToken : (gTb mX6_endOfToken).all (okE gF gNM mX6_endOfToken) = true := by decide +kernel
theorem pnX6_endOfToken : plainName (gY mX6_endOfToken).cls = true := by decide +kernel
theorem tX6_endOfToken_0 : gAt mX6_endOfToken 0 = some (.iload_n 1, 1, 0, 0, 0, 0) := by decide +kernel
theorem tX6_endOfToken_1 : gAt mX6_endOfToken 1 = some (.istore_n 2, 1, 0, 0, 0, 0) := by decide +kernel
theorem tX6_endOfToken_2 : gAt mX6_endOfToken 2 = some (.iload_n 2, 1, 0, 0, 0, 0) := by decide +kernel
theorem tX6_endOfToken_3 : gAt mX6_endOfToken 3 = some (.aload_n 0, 1, 0, 0, 0, 0) := by decide +kernel
theorem tX6_endOfToken_4 : gAt mX6_endOfToken 4 = some (.getfield 15, 3, 7, 1, 0, 147) := by decide +kernel
theorem tX6_endOfToken_7 : gAt mX6_endOfToken 7 = some (.if_icmp .ge 21, 3, 28, 0, 0, 0) := by decide +kernel
theorem tX6_endOfToken_10 : gAt mX6_endOfToken 10 = some (.aload_n 0, 1, 0, 0, 0, 0) := by decide +kernel
theorem tX6_endOfToken_11 : gAt mX6_endOfToken 11 = some (.getfield 9, 3, 7, 0, 2, 146) := by decide +kernel
theorem tX6_endOfToken_14 : gAt mX6_endOfToken 14 = some (.iload_n 2, 1, 0, 0, 0, 0) := by decide +kernel
theorem tX6_endOfToken_15 : gAt mX6_endOfToken 15 = some (.caload, 1, 15, 0, 0, 0) := by decide +kernel
theorem tX6_endOfToken_16 : gAt mX6_endOfToken 16 = some (.invokestatic 43, 3, 42, 1, 7, 558) := by decide +kernel
theorem tX6_endOfToken_19 : gAt mX6_endOfToken 19 = some (.ifCond .eq 9, 3, 28, 0, 0, 0) := by decide +kernel
theorem tX6_endOfToken_22 : gAt mX6_endOfToken 22 = some (.iinc 2 1, 3, 1, 0, 0, 0) := by decide +kernel
theorem tX6_endOfToken_25 : gAt mX6_endOfToken 25 = some (.goto (-23), 3, 2, 0, 0, 0) := by decide +kernel
theorem tX6_endOfToken_28 : gAt mX6_endOfToken 28 = some (.iload_n 2, 1, 0, 0, 0, 0) := by decide +kernel
theorem tX6_endOfToken_29 : gAt mX6_endOfToken 29 = some (.aload_n 0, 1, 0, 0, 0, 0) := by decide +kernel
theorem tX6_endOfToken_30 : gAt mX6_endOfToken 30 = some (.getfield 15, 3, 7, 1, 0, 147) := by decide +kernel
theorem tX6_endOfToken_33 : gAt mX6_endOfToken 33 = some (.if_icmp .ge 33, 3, 66, 0, 0, 0) := by decide +kernel
theorem tX6_endOfToken_36 : gAt mX6_endOfToken 36 = some (.aload_n 0, 1, 0, 0, 0, 0) := by decide +kernel
theorem tX6_endOfToken_37 : gAt mX6_endOfToken 37 = some (.getfield 9, 3, 7, 0, 2, 146) := by decide +kernel
theorem tX6_endOfToken_40 : gAt mX6_endOfToken 40 = some (.iload_n 2, 1, 0, 0, 0, 0) := by decide +kernel
theorem tX6_endOfToken_41 : gAt mX6_endOfToken 41 = some (.caload, 1, 15, 0, 0, 0) := by decide +kernel
theorem tX6_endOfToken_42 : gAt mX6_endOfToken 42 = some (.invokestatic 47, 3, 43, 1, 7, 561) := by decide +kernel
theorem tX6_endOfToken_45 : gAt mX6_endOfToken 45 = some (.ifCond .eq 21, 3, 66, 0, 0, 0) := by decide +kernel
theorem tX6_endOfToken_48 : gAt mX6_endOfToken 48 = some (.aload_n 0, 1, 0, 0, 0, 0) := by decide +kernel
theorem tX6_endOfToken_49 : gAt mX6_endOfToken 49 = some (.getfield 9, 3, 7, 0, 2, 146) := by decide +kernel
theorem tX6_endOfToken_52 : gAt mX6_endOfToken 52 = some (.iload_n 1, 1, 0, 0, 0, 0) := by decide +kernel
theorem tX6_endOfToken_53 : gAt mX6_endOfToken 53 = some (.caload, 1, 15, 0, 0, 0) := by decide +kernel
theorem tX6_endOfToken_54 : gAt mX6_endOfToken 54 = some (.invokestatic 47, 3, 43, 1, 7, 561) := by decide +kernel
theorem tX6_endOfToken_57 : gAt mX6_endOfToken 57 = some (.ifCond .eq 9, 3, 66, 0, 0, 0) := by decide +kernel
theorem tX6_endOfToken_60 : gAt mX6_endOfToken 60 = some (.iinc 2 1, 3, 1, 0, 0, 0) := by decide +kernel
theorem tX6_endOfToken_63 : gAt mX6_endOfToken 63 = some (.goto (-35), 3, 28, 0, 0, 0) := by decide +kernel
theorem tX6_endOfToken_66 : gAt mX6_endOfToken 66 = some (.iload_n 2, 1, 0, 0, 0, 0) := by decide +kernel
theorem tX6_endOfToken_67 : gAt mX6_endOfToken 67 = some (.iload_n 1, 1, 0, 0, 0, 0) := by decide +kernel
theorem tX6_endOfToken_68 : gAt mX6_endOfToken 68 = some (.if_icmp .le 7, 3, 75, 0, 0, 0) := by decide +kernel
theorem tX6_endOfToken_71 : gAt mX6_endOfToken 71 = some (.iload_n 2, 1, 0, 0, 0, 0) := by decide +kernel
theorem tX6_endOfToken_72 : gAt mX6_endOfToken 72 = some (.goto 6, 3, 78, 0, 0, 0) := by decide +kernel
theorem tX6_endOfToken_75 : gAt mX6_endOfToken 75 = some (.iload_n 1, 1, 0, 0, 0, 0) := by decide +kernel
theorem tX6_endOfToken_76 : gAt mX6_endOfToken 76 = some (.iconst 1, 1, 1, 0, 0, 0) := by decide +kernel
theorem tX6_endOfToken_77 : gAt mX6_endOfToken 77 = some (.iadd, 1, 0, 0, 0, 0) := by decide +kernel
theorem tX6_endOfToken_78 : gAt mX6_endOfToken 78 = some (.ireturn, 1, 0, 0, 0, 0) := by decide +kernel
set_option maxRecDepth 100000 in
theorem okX6_isLetter : (gTb mX6_isLetter).all (okE gF gNM mX6_isLetter) = true := by decide +kernel
theorem pnX6_isLetter : plainName (gY mX6_isLetter).cls = true := by decide +kernel
theorem tX6_isLetter_0 : gAt mX6_isLetter 0 = some (.iload_n 0, 1, 0, 0, 0, 0) := by decide +kernel
theorem tX6_isLetter_1 : gAt mX6_isLetter 1 = some (.bipush 97, 2, 97, 0, 0, 0) := by decide +kernel
theorem tX6_isLetter_3 : gAt mX6_isLetter 3 = some (.if_icmp .lt 13, 3, 16, 0, 0, 0) := by decide +kernel
theorem tX6_isLetter_6 : gAt mX6_isLetter 6 = some (.iload_n 0, 1, 0, 0, 0, 0) := by decide +kernel
theorem tX6_isLetter_7 : gAt mX6_isLetter 7 = some (.bipush 122, 2, 122, 0, 0, 0) := by decide +kernel
theorem tX6_isLetter_9 : gAt mX6_isLetter 9 = some (.if_icmp .gt 7, 3, 16, 0, 0, 0) := by decide +kernel
theorem tX6_isLetter_12 : gAt mX6_isLetter 12 = some (.iconst 1, 1, 1, 0, 0, 0) := by decide +kernel
theorem tX6_isLetter_13 : gAt mX6_isLetter 13 = some (.goto 4, 3, 17, 0, 0, 0) := by decide +kernel
theorem tX6_isLetter_16 : gAt mX6_isLetter 16 = some (.iconst 0, 1, 0, 0, 0, 0) := by decide +kernel
theorem tX6_isLetter_17 : gAt mX6_isLetter 17 = some (.ireturn, 1, 1, 0, 0, 0) := by decide +kernel
set_option maxRecDepth 100000 in
theorem okX6_isDigit : (gTb mX6_isDigit).all (okE gF gNM mX6_isDigit) = true := by decide +kernel
theorem pnX6_isDigit : plainName (gY mX6_isDigit).cls = true := by decide +kernel
theorem tX6_isDigit_0 : gAt mX6_isDigit 0 = some (.iload_n 0, 1, 0, 0, 0, 0) := by decide +kernel
theorem tX6_isDigit_1 : gAt mX6_isDigit 1 = some (.bipush 48, 2, 48, 0, 0, 0) := by decide +kernel
theorem tX6_isDigit_3 : gAt mX6_isDigit 3 = some (.if_icmp .lt 13, 3, 16, 0, 0, 0) := by decide +kernel
theorem tX6_isDigit_6 : gAt mX6_isDigit 6 = some (.iload_n 0, 1, 0, 0, 0, 0) := by decide +kernel
theorem tX6_isDigit_7 : gAt mX6_isDigit 7 = some (.bipush 57, 2, 57, 0, 0, 0) := by decide +kernel
theorem tX6_isDigit_9 : gAt mX6_isDigit 9 = some (.if_icmp .gt 7, 3, 16, 0, 0, 0) := by decide +kernel
theorem tX6_isDigit_12 : gAt mX6_isDigit 12 = some (.iconst 1, 1, 1, 0, 0, 0) := by decide +kernel
theorem tX6_isDigit_13 : gAt mX6_isDigit 13 = some (.goto 4, 3, 17, 0, 0, 0) := by decide +kernel
theorem tX6_isDigit_16 : gAt mX6_isDigit 16 = some (.iconst 0, 1, 0, 0, 0, 0) := by decide +kernel
theorem tX6_isDigit_17 : gAt mX6_isDigit 17 = some (.ireturn, 1, 1, 0, 0, 0) := by decide +kernel
set_option maxRecDepth 100000 in
theorem okX6_kindOf : (gTb mX6_kindOf).all (okE gF gNM mX6_kindOf) = true := by decide +kernel
theorem pnX6_kindOf : plainName (gY mX6_kindOf).cls = true := by decide +kernel
theorem tX6_kindOf_0 : gAt mX6_kindOf 0 = some (.iload_n 1, 1, 0, 0, 0, 0) := by decide +kernel
theorem tX6_kindOf_1 : gAt mX6_kindOf 1 = some (.ifCond .lt 11, 3, 12, 0, 0, 0) := by decide +kernel
theorem tX6_kindOf_4 : gAt mX6_kindOf 4 = some (.iload_n 1, 1, 0, 0, 0, 0) := by decide +kernel
theorem tX6_kindOf_5 : gAt mX6_kindOf 5 = some (.aload_n 0, 1, 0, 0, 0, 0) := by decide +kernel
theorem tX6_kindOf_6 : gAt mX6_kindOf 6 = some (.getfield 15, 3, 7, 1, 0, 147) := by decide +kernel
theorem tX6_kindOf_9 : gAt mX6_kindOf 9 = some (.if_icmp .lt 6, 3, 15, 0, 0, 0) := by decide +kernel
theorem tX6_kindOf_12 : gAt mX6_kindOf 12 = some (.bipush (-16), 2, 16, 1, 0, 0) := by decide +kernel
theorem tX6_kindOf_14 : gAt mX6_kindOf 14 = some (.ireturn, 1, 0, 0, 0, 0) := by decide +kernel
theorem tX6_kindOf_15 : gAt mX6_kindOf 15 = some (.aload_n 0, 1, 0, 0, 0, 0) := by decide +kernel
theorem tX6_kindOf_16 : gAt mX6_kindOf 16 = some (.getfield 9, 3, 7, 0, 2, 146) := by decide +kernel
theorem tX6_kindOf_19 : gAt mX6_kindOf 19 = some (.iload_n 1, 1, 0, 0, 0, 0) := by decide +kernel
theorem tX6_kindOf_20 : gAt mX6_kindOf 20 = some (.caload, 1, 15, 0, 0, 0) := by decide +kernel
theorem tX6_kindOf_21 : gAt mX6_kindOf 21 = some (.invokestatic 43, 3, 42, 1, 7, 558) := by decide +kernel
theorem tX6_kindOf_24 : gAt mX6_kindOf 24 = some (.ifCond .eq 23, 3, 47, 0, 0, 0) := by decide +kernel
theorem tX6_kindOf_27 : gAt mX6_kindOf 27 = some (.iload_n 2, 1, 0, 0, 0, 0) := by decide +kernel
theorem tX6_kindOf_28 : gAt mX6_kindOf 28 = some (.iload_n 1, 1, 0, 0, 0, 0) := by decide +kernel
theorem tX6_kindOf_29 : gAt mX6_kindOf 29 = some (.isub, 1, 0, 0, 0, 0) := by decide +kernel
theorem tX6_kindOf_30 : gAt mX6_kindOf 30 = some (.bipush 8, 2, 8, 0, 0, 0) := by decide +kernel
theorem tX6_kindOf_32 : gAt mX6_kindOf 32 = some (.if_icmp .le 8, 3, 40, 0, 0, 0) := by decide +kernel
theorem tX6_kindOf_35 : gAt mX6_kindOf 35 = some (.bipush (-17), 2, 17, 1, 0, 0) := by decide +kernel
theorem tX6_kindOf_37 : gAt mX6_kindOf 37 = some (.goto 9, 3, 46, 0, 0, 0) := by decide +kernel
theorem tX6_kindOf_40 : gAt mX6_kindOf 40 = some (.aload_n 0, 1, 0, 0, 0, 0) := by decide +kernel
theorem tX6_kindOf_41 : gAt mX6_kindOf 41 = some (.iload_n 1, 1, 0, 0, 0, 0) := by decide +kernel
theorem tX6_kindOf_42 : gAt mX6_kindOf 42 = some (.iload_n 2, 1, 0, 0, 0, 0) := by decide +kernel
theorem tX6_kindOf_43 : gAt mX6_kindOf 43 = some (.invokevirtual 50, 3, 47, 2, 7, 568) := by decide +kernel
theorem tX6_kindOf_46 : gAt mX6_kindOf 46 = some (.ireturn, 1, 0, 0, 0, 0) := by decide +kernel
theorem tX6_kindOf_47 : gAt mX6_kindOf 47 = some (.aload_n 0, 1, 0, 0, 0, 0) := by decide +kernel
theorem tX6_kindOf_48 : gAt mX6_kindOf 48 = some (.getfield 9, 3, 7, 0, 2, 146) := by decide +kernel
theorem tX6_kindOf_51 : gAt mX6_kindOf 51 = some (.iload_n 1, 1, 0, 0, 0, 0) := by decide +kernel
theorem tX6_kindOf_52 : gAt mX6_kindOf 52 = some (.caload, 1, 15, 0, 0, 0) := by decide +kernel
theorem tX6_kindOf_53 : gAt mX6_kindOf 53 = some (.invokestatic 47, 3, 43, 1, 7, 561) := by decide +kernel
theorem tX6_kindOf_56 : gAt mX6_kindOf 56 = some (.ifCond .eq 22, 3, 78, 0, 0, 0) := by decide +kernel
theorem tX6_kindOf_59 : gAt mX6_kindOf 59 = some (.iload_n 2, 1, 0, 0, 0, 0) := by decide +kernel
theorem tX6_kindOf_60 : gAt mX6_kindOf 60 = some (.iload_n 1, 1, 0, 0, 0, 0) := by decide +kernel
theorem tX6_kindOf_61 : gAt mX6_kindOf 61 = some (.isub, 1, 0, 0, 0, 0) := by decide +kernel
theorem tX6_kindOf_62 : gAt mX6_kindOf 62 = some (.iconst 4, 1, 4, 0, 0, 0) := by decide +kernel
theorem tX6_kindOf_63 : gAt mX6_kindOf 63 = some (.if_icmp .le 8, 3, 71, 0, 0, 0) := by decide +kernel
theorem tX6_kindOf_66 : gAt mX6_kindOf 66 = some (.bipush (-17), 2, 17, 1, 0, 0) := by decide +kernel
theorem tX6_kindOf_68 : gAt mX6_kindOf 68 = some (.goto 9, 3, 77, 0, 0, 0) := by decide +kernel
theorem tX6_kindOf_71 : gAt mX6_kindOf 71 = some (.aload_n 0, 1, 0, 0, 0, 0) := by decide +kernel
theorem tX6_kindOf_72 : gAt mX6_kindOf 72 = some (.iload_n 1, 1, 0, 0, 0, 0) := by decide +kernel
theorem tX6_kindOf_73 : gAt mX6_kindOf 73 = some (.iload_n 2, 1, 0, 0, 0, 0) := by decide +kernel
theorem tX6_kindOf_74 : gAt mX6_kindOf 74 = some (.invokevirtual 53, 3, 45, 2, 7, 630) := by decide +kernel
theorem tX6_kindOf_77 : gAt mX6_kindOf 77 = some (.ireturn, 1, 0, 0, 0, 0) := by decide +kernel
theorem tX6_kindOf_78 : gAt mX6_kindOf 78 = some (.aload_n 0, 1, 0, 0, 0, 0) := by decide +kernel
theorem tX6_kindOf_79 : gAt mX6_kindOf 79 = some (.getfield 9, 3, 7, 0, 2, 146) := by decide +kernel
theorem tX6_kindOf_82 : gAt mX6_kindOf 82 = some (.iload_n 1, 1, 0, 0, 0, 0) := by decide +kernel
theorem tX6_kindOf_83 : gAt mX6_kindOf 83 = some (.caload, 1, 15, 0, 0, 0) := by decide +kernel
theorem tX6_kindOf_84 : gAt mX6_kindOf 84 = some (.invokestatic 56, 3, 46, 1, 7, 634) := by decide +kernel
theorem tX6_kindOf_87 : gAt mX6_kindOf 87 = some (.ireturn, 1, 0, 0, 0, 0) := by decide +kernel
set_option maxRecDepth 100000 in
theorem okX6_valueOfDigits : (gTb mX6_valueOfDigits).all (okE gF gNM mX6_valueOfDigits) = true := by decide +kernel
theorem pnX6_valueOfDigits : plainName (gY mX6_valueOfDigits).cls = true := by decide +kernel
theorem tX6_valueOfDigits_0 : gAt mX6_valueOfDigits 0 = some (.iconst 0, 1, 0, 0, 0, 0) := by decide +kernel
theorem tX6_valueOfDigits_1 : gAt mX6_valueOfDigits 1 = some (.istore_n 3, 1, 0, 0, 0, 0) := by decide +kernel
theorem tX6_valueOfDigits_2 : gAt mX6_valueOfDigits 2 = some (.iload_n 1, 1, 0, 0, 0, 0) := by decide +kernel
theorem tX6_valueOfDigits_3 : gAt mX6_valueOfDigits 3 = some (.istore 4, 2, 0, 0, 0, 0) := by decide +kernel
theorem tX6_valueOfDigits_5 : gAt mX6_valueOfDigits 5 = some (.iload 4, 2, 0, 0, 0, 0) := by decide +kernel
theorem tX6_valueOfDigits_7 : gAt mX6_valueOfDigits 7 = some (.iload_n 2, 1, 0, 0, 0, 0) := by decide +kernel
theorem tX6_valueOfDigits_8 : gAt mX6_valueOfDigits 8 = some (.if_icmp .ge 34, 3, 42, 0, 0, 0) := by decide +kernel
theorem tX6_valueOfDigits_11 : gAt mX6_valueOfDigits 11 = some (.iload 4, 2, 0, 0, 0, 0) := by decide +kernel
theorem tX6_valueOfDigits_13 : gAt mX6_valueOfDigits 13 = some (.aload_n 0, 1, 0, 0, 0, 0) := by decide +kernel
theorem tX6_valueOfDigits_14 : gAt mX6_valueOfDigits 14 = some (.getfield 15, 3, 7, 1, 0, 147) := by decide +kernel
theorem tX6_valueOfDigits_17 : gAt mX6_valueOfDigits 17 = some (.if_icmp .ge 25, 3, 42, 0, 0, 0) := by decide +kernel
theorem tX6_valueOfDigits_20 : gAt mX6_valueOfDigits 20 = some (.iload_n 3, 1, 0, 0, 0, 0) := by decide +kernel
theorem tX6_valueOfDigits_21 : gAt mX6_valueOfDigits 21 = some (.bipush 10, 2, 10, 0, 0, 0) := by decide +kernel
theorem tX6_valueOfDigits_23 : gAt mX6_valueOfDigits 23 = some (.imul, 1, 0, 0, 0, 0) := by decide +kernel
theorem tX6_valueOfDigits_24 : gAt mX6_valueOfDigits 24 = some (.aload_n 0, 1, 0, 0, 0, 0) := by decide +kernel
theorem tX6_valueOfDigits_25 : gAt mX6_valueOfDigits 25 = some (.getfield 9, 3, 7, 0, 2, 146) := by decide +kernel
theorem tX6_valueOfDigits_28 : gAt mX6_valueOfDigits 28 = some (.iload 4, 2, 0, 0, 0, 0) := by decide +kernel
theorem tX6_valueOfDigits_30 : gAt mX6_valueOfDigits 30 = some (.caload, 1, 15, 0, 0, 0) := by decide +kernel
theorem tX6_valueOfDigits_31 : gAt mX6_valueOfDigits 31 = some (.bipush 48, 2, 48, 0, 0, 0) := by decide +kernel
theorem tX6_valueOfDigits_33 : gAt mX6_valueOfDigits 33 = some (.isub, 1, 0, 0, 0, 0) := by decide +kernel
theorem tX6_valueOfDigits_34 : gAt mX6_valueOfDigits 34 = some (.iadd, 1, 0, 0, 0, 0) := by decide +kernel
theorem tX6_valueOfDigits_35 : gAt mX6_valueOfDigits 35 = some (.istore_n 3, 1, 0, 0, 0, 0) := by decide +kernel
theorem tX6_valueOfDigits_36 : gAt mX6_valueOfDigits 36 = some (.iinc 4 1, 3, 1, 0, 0, 0) := by decide +kernel
theorem tX6_valueOfDigits_39 : gAt mX6_valueOfDigits 39 = some (.goto (-34), 3, 5, 0, 0, 0) := by decide +kernel
theorem tX6_valueOfDigits_42 : gAt mX6_valueOfDigits 42 = some (.iload_n 3, 1, 0, 0, 0, 0) := by decide +kernel
theorem tX6_valueOfDigits_43 : gAt mX6_valueOfDigits 43 = some (.ireturn, 1, 0, 0, 0, 0) := by decide +kernel
set_option maxRecDepth 100000 in
theorem okX6_kindOfSign : (gTb mX6_kindOfSign).all (okE gF gNM mX6_kindOfSign) = true := by decide +kernel
theorem pnX6_kindOfSign : plainName (gY mX6_kindOfSign).cls = true := by decide +kernel
theorem tX6_kindOfSign_0 : gAt mX6_kindOfSign 0 = some (.iload_n 0, 1, 0, 0, 0, 0) := by decide +kernel
theorem tX6_kindOfSign_1 : gAt mX6_kindOfSign 1 = some (.tableswitch 124 40 61 #[103, 106, 124, 115, 124, 118, 124, 124, 124, 124, 124, 124, 124, 124, 124, 124, 124, 124, 124, 121, 109, 112], 103, 0, 0, 0, 0) := by decide +kernel
theorem tX6_kindOfSign_104 : gAt mX6_kindOfSign 104 = some (.bipush (-13), 2, 13, 1, 0, 0) := by decide +kernel
theorem tX6_kindOfSign_106 : gAt mX6_kindOfSign 106 = some (.ireturn, 1, 0, 0, 0, 0) := by decide +kernel
theorem tX6_kindOfSign_107 : gAt mX6_kindOfSign 107 = some (.bipush (-14), 2, 14, 1, 0, 0) := by decide +kernel
theorem tX6_kindOfSign_109 : gAt mX6_kindOfSign 109 = some (.ireturn, 1, 0, 0, 0, 0) := by decide +kernel
theorem tX6_kindOfSign_110 : gAt mX6_kindOfSign 110 = some (.bipush (-8), 2, 8, 1, 0, 0) := by decide +kernel
theorem tX6_kindOfSign_112 : gAt mX6_kindOfSign 112 = some (.ireturn, 1, 0, 0, 0, 0) := by decide +kernel
theorem tX6_kindOfSign_113 : gAt mX6_kindOfSign 113 = some (.bipush (-9), 2, 9, 1, 0, 0) := by decide +kernel
theorem tX6_kindOfSign_115 : gAt mX6_kindOfSign 115 = some (.ireturn, 1, 0, 0, 0, 0) := by decide +kernel
theorem tX6_kindOfSign_116 : gAt mX6_kindOfSign 116 = some (.bipush (-6), 2, 6, 1, 0, 0) := by decide +kernel
theorem tX6_kindOfSign_118 : gAt mX6_kindOfSign 118 = some (.ireturn, 1, 0, 0, 0, 0) := by decide +kernel
theorem tX6_kindOfSign_119 : gAt mX6_kindOfSign 119 = some (.bipush (-7), 2, 7, 1, 0, 0) := by decide +kernel
theorem tX6_kindOfSign_121 : gAt mX6_kindOfSign 121 = some (.ireturn, 1, 0, 0, 0, 0) := by decide +kernel
theorem tX6_kindOfSign_122 : gAt mX6_kindOfSign 122 = some (.bipush (-15), 2, 15, 1, 0, 0) := by decide +kernel
theorem tX6_kindOfSign_124 : gAt mX6_kindOfSign 124 = some (.ireturn, 1, 0, 0, 0, 0) := by decide +kernel
theorem tX6_kindOfSign_125 : gAt mX6_kindOfSign 125 = some (.bipush (-17), 2, 17, 1, 0, 0) := by decide +kernel
theorem tX6_kindOfSign_127 : gAt mX6_kindOfSign 127 = some (.ireturn, 1, 0, 0, 0, 0) := by decide +kernel
set_option maxRecDepth 100000 in
theorem okX6_kindOfWord : (gTb mX6_kindOfWord).all (okE gF gNM mX6_kindOfWord) = true := by decide +kernel
theorem pnX6_kindOfWord : plainName (gY mX6_kindOfWord).cls = true := by decide +kernel
theorem tX6_kindOfWord_0 : gAt mX6_kindOfWord 0 = some (.aload_n 0, 1, 0, 0, 0, 0) := by decide +kernel
theorem tX6_kindOfWord_1 : gAt mX6_kindOfWord 1 = some (.iload_n 1, 1, 0, 0, 0, 0) := by decide +kernel
theorem tX6_kindOfWord_2 : gAt mX6_kindOfWord 2 = some (.iload_n 2, 1, 0, 0, 0, 0) := by decide +kernel
theorem tX6_kindOfWord_3 : gAt mX6_kindOfWord 3 = some (.ldc 59, 2, 0, 0, 7, 0) := by decide +kernel
theorem tX6_kindOfWord_5 : gAt mX6_kindOfWord 5 = some (.invokevirtual 61, 3, 48, 3, 7, 573) := by decide +kernel
theorem tX6_kindOfWord_8 : gAt mX6_kindOfWord 8 = some (.ifCond .eq 6, 3, 14, 0, 0, 0) := by decide +kernel
theorem tX6_kindOfWord_11 : gAt mX6_kindOfWord 11 = some (.bipush (-11), 2, 11, 1, 0, 0) := by decide +kernel
theorem tX6_kindOfWord_13 : gAt mX6_kindOfWord 13 = some (.ireturn, 1, 0, 0, 0, 0) := by decide +kernel
theorem tX6_kindOfWord_14 : gAt mX6_kindOfWord 14 = some (.aload_n 0, 1, 0, 0, 0, 0) := by decide +kernel
theorem tX6_kindOfWord_15 : gAt mX6_kindOfWord 15 = some (.iload_n 1, 1, 0, 0, 0, 0) := by decide +kernel
theorem tX6_kindOfWord_16 : gAt mX6_kindOfWord 16 = some (.iload_n 2, 1, 0, 0, 0, 0) := by decide +kernel
theorem tX6_kindOfWord_17 : gAt mX6_kindOfWord 17 = some (.ldc 65, 2, 0, 0, 7, 0) := by decide +kernel
theorem tX6_kindOfWord_19 : gAt mX6_kindOfWord 19 = some (.invokevirtual 61, 3, 48, 3, 7, 573) := by decide +kernel
theorem tX6_kindOfWord_22 : gAt mX6_kindOfWord 22 = some (.ifCond .eq 6, 3, 28, 0, 0, 0) := by decide +kernel
theorem tX6_kindOfWord_25 : gAt mX6_kindOfWord 25 = some (.bipush (-12), 2, 12, 1, 0, 0) := by decide +kernel
theorem tX6_kindOfWord_27 : gAt mX6_kindOfWord 27 = some (.ireturn, 1, 0, 0, 0, 0) := by decide +kernel
theorem tX6_kindOfWord_28 : gAt mX6_kindOfWord 28 = some (.aload_n 0, 1, 0, 0, 0, 0) := by decide +kernel
theorem tX6_kindOfWord_29 : gAt mX6_kindOfWord 29 = some (.iload_n 1, 1, 0, 0, 0, 0) := by decide +kernel
theorem tX6_kindOfWord_30 : gAt mX6_kindOfWord 30 = some (.iload_n 2, 1, 0, 0, 0, 0) := by decide +kernel
theorem tX6_kindOfWord_31 : gAt mX6_kindOfWord 31 = some (.ldc 67, 2, 0, 0, 7, 0) := by decide +kernel
theorem tX6_kindOfWord_33 : gAt mX6_kindOfWord 33 = some (.invokevirtual 61, 3, 48, 3, 7, 573) := by decide +kernel
theorem tX6_kindOfWord_36 : gAt mX6_kindOfWord 36 = some (.ifCond .eq 6, 3, 42, 0, 0, 0) := by decide +kernel
theorem tX6_kindOfWord_39 : gAt mX6_kindOfWord 39 = some (.bipush (-10), 2, 10, 1, 0, 0) := by decide +kernel
theorem tX6_kindOfWord_41 : gAt mX6_kindOfWord 41 = some (.ireturn, 1, 0, 0, 0, 0) := by decide +kernel
theorem tX6_kindOfWord_42 : gAt mX6_kindOfWord 42 = some (.aload_n 0, 1, 0, 0, 0, 0) := by decide +kernel
theorem tX6_kindOfWord_43 : gAt mX6_kindOfWord 43 = some (.iload_n 1, 1, 0, 0, 0, 0) := by decide +kernel
theorem tX6_kindOfWord_44 : gAt mX6_kindOfWord 44 = some (.iload_n 2, 1, 0, 0, 0, 0) := by decide +kernel
theorem tX6_kindOfWord_45 : gAt mX6_kindOfWord 45 = some (.ldc 69, 2, 0, 0, 7, 0) := by decide +kernel
theorem tX6_kindOfWord_47 : gAt mX6_kindOfWord 47 = some (.invokevirtual 61, 3, 48, 3, 7, 573) := by decide +kernel
theorem tX6_kindOfWord_50 : gAt mX6_kindOfWord 50 = some (.ifCond .eq 5, 3, 55, 0, 0, 0) := by decide +kernel
theorem tX6_kindOfWord_53 : gAt mX6_kindOfWord 53 = some (.iconst (-1), 1, 1, 1, 0, 0) := by decide +kernel
theorem tX6_kindOfWord_54 : gAt mX6_kindOfWord 54 = some (.ireturn, 1, 0, 0, 0, 0) := by decide +kernel
theorem tX6_kindOfWord_55 : gAt mX6_kindOfWord 55 = some (.aload_n 0, 1, 0, 0, 0, 0) := by decide +kernel
theorem tX6_kindOfWord_56 : gAt mX6_kindOfWord 56 = some (.iload_n 1, 1, 0, 0, 0, 0) := by decide +kernel
theorem tX6_kindOfWord_57 : gAt mX6_kindOfWord 57 = some (.iload_n 2, 1, 0, 0, 0, 0) := by decide +kernel
theorem tX6_kindOfWord_58 : gAt mX6_kindOfWord 58 = some (.ldc 71, 2, 0, 0, 7, 0) := by decide +kernel
theorem tX6_kindOfWord_60 : gAt mX6_kindOfWord 60 = some (.invokevirtual 61, 3, 48, 3, 7, 573) := by decide +kernel
theorem tX6_kindOfWord_63 : gAt mX6_kindOfWord 63 = some (.ifCond .eq 6, 3, 69, 0, 0, 0) := by decide +kernel
theorem tX6_kindOfWord_66 : gAt mX6_kindOfWord 66 = some (.bipush (-2), 2, 2, 1, 0, 0) := by decide +kernel
theorem tX6_kindOfWord_68 : gAt mX6_kindOfWord 68 = some (.ireturn, 1, 0, 0, 0, 0) := by decide +kernel
theorem tX6_kindOfWord_69 : gAt mX6_kindOfWord 69 = some (.aload_n 0, 1, 0, 0, 0, 0) := by decide +kernel
theorem tX6_kindOfWord_70 : gAt mX6_kindOfWord 70 = some (.iload_n 1, 1, 0, 0, 0, 0) := by decide +kernel
theorem tX6_kindOfWord_71 : gAt mX6_kindOfWord 71 = some (.iload_n 2, 1, 0, 0, 0, 0) := by decide +kernel
theorem tX6_kindOfWord_72 : gAt mX6_kindOfWord 72 = some (.ldc 73, 2, 0, 0, 7, 0) := by decide +kernel
theorem tX6_kindOfWord_74 : gAt mX6_kindOfWord 74 = some (.invokevirtual 61, 3, 48, 3, 7, 573) := by decide +kernel
theorem tX6_kindOfWord_77 : gAt mX6_kindOfWord 77 = some (.ifCond .eq 6, 3, 83, 0, 0, 0) := by decide +kernel
theorem tX6_kindOfWord_80 : gAt mX6_kindOfWord 80 = some (.bipush (-3), 2, 3, 1, 0, 0) := by decide +kernel
theorem tX6_kindOfWord_82 : gAt mX6_kindOfWord 82 = some (.ireturn, 1, 0, 0, 0, 0) := by decide +kernel
theorem tX6_kindOfWord_83 : gAt mX6_kindOfWord 83 = some (.aload_n 0, 1, 0, 0, 0, 0) := by decide +kernel
theorem tX6_kindOfWord_84 : gAt mX6_kindOfWord 84 = some (.iload_n 1, 1, 0, 0, 0, 0) := by decide +kernel
theorem tX6_kindOfWord_85 : gAt mX6_kindOfWord 85 = some (.iload_n 2, 1, 0, 0, 0, 0) := by decide +kernel
theorem tX6_kindOfWord_86 : gAt mX6_kindOfWord 86 = some (.ldc 75, 2, 0, 0, 7, 0) := by decide +kernel
theorem tX6_kindOfWord_88 : gAt mX6_kindOfWord 88 = some (.invokevirtual 61, 3, 48, 3, 7, 573) := by decide +kernel
theorem tX6_kindOfWord_91 : gAt mX6_kindOfWord 91 = some (.ifCond .eq 6, 3, 97, 0, 0, 0) := by decide +kernel
theorem tX6_kindOfWord_94 : gAt mX6_kindOfWord 94 = some (.bipush (-4), 2, 4, 1, 0, 0) := by decide +kernel
theorem tX6_kindOfWord_96 : gAt mX6_kindOfWord 96 = some (.ireturn, 1, 0, 0, 0, 0) := by decide +kernel
theorem tX6_kindOfWord_97 : gAt mX6_kindOfWord 97 = some (.aload_n 0, 1, 0, 0, 0, 0) := by decide +kernel
theorem tX6_kindOfWord_98 : gAt mX6_kindOfWord 98 = some (.iload_n 1, 1, 0, 0, 0, 0) := by decide +kernel
theorem tX6_kindOfWord_99 : gAt mX6_kindOfWord 99 = some (.iload_n 2, 1, 0, 0, 0, 0) := by decide +kernel
theorem tX6_kindOfWord_100 : gAt mX6_kindOfWord 100 = some (.ldc 77, 2, 0, 0, 7, 0) := by decide +kernel
theorem tX6_kindOfWord_102 : gAt mX6_kindOfWord 102 = some (.invokevirtual 61, 3, 48, 3, 7, 573) := by decide +kernel
theorem tX6_kindOfWord_105 : gAt mX6_kindOfWord 105 = some (.ifCond .eq 8, 3, 113, 0, 0, 0) := by decide +kernel
theorem tX6_kindOfWord_108 : gAt mX6_kindOfWord 108 = some (.bipush (-5), 2, 5, 1, 0, 0) := by decide +kernel
theorem tX6_kindOfWord_110 : gAt mX6_kindOfWord 110 = some (.goto 5, 3, 115, 0, 0, 0) := by decide +kernel
theorem tX6_kindOfWord_113 : gAt mX6_kindOfWord 113 = some (.bipush (-17), 2, 17, 1, 0, 0) := by decide +kernel
theorem tX6_kindOfWord_115 : gAt mX6_kindOfWord 115 = some (.ireturn, 1, 0, 0, 0, 0) := by decide +kernel
def kX6_spells : gM := (gY mX6_spells, gCd mX6_spells, gL mX6_spells, gRt mX6_spells, gIx mX6_spells, [(0, (.iload_n 2, 1, 0, 0, 0, 0)), (1, (.iload_n 1, 1, 0, 0, 0, 0)), (2, (.isub, 1, 0, 0, 0, 0)), (3, (.aload_n 3, 1, 0, 0, 0, 0)), (7, (.if_icmp .ne 11, 3, 18, 0, 0, 0)), (10, (.iload_n 2, 1, 0, 0, 0, 0)), (11, (.aload_n 0, 1, 0, 0, 0, 0)), (12, (.getfield 15, 3, 7, 1, 0, 147)), (15, (.if_icmp .le 5, 3, 20, 0, 0, 0)), (18, (.iconst 0, 1, 0, 0, 0, 0)), (19, (.ireturn, 1, 1, 0, 0, 0)), (20, (.iconst 0, 1, 0, 0, 0, 0)), (21, (.istore 4, 2, 0, 0, 0, 0)), (23, (.iload 4, 2, 0, 0, 0, 0)), (25, (.aload_n 3, 1, 0, 0, 0, 0)), (29, (.if_icmp .ge 29, 3, 58, 0, 0, 0)), (32, (.aload_n 0, 1, 0, 0, 0, 0)), (33, (.getfield 9, 3, 7, 0, 2, 146)), (36, (.iload_n 1, 1, 0, 0, 0, 0)), (37, (.iload 4, 2, 0, 0, 0, 0)), (39, (.iadd, 1, 0, 0, 0, 0)), (40, (.caload, 1, 15, 0, 0, 0)), (41, (.aload_n 3, 1, 0, 0, 0, 0)), (42, (.iload 4, 2, 0, 0, 0, 0)), (47, (.if_icmp .eq 5, 3, 52, 0, 0, 0)), (50, (.iconst 0, 1, 0, 0, 0, 0)), (51, (.ireturn, 1, 1, 0, 0, 0)), (52, (.iinc 4 1, 3, 1, 0, 0, 0)), (55, (.goto (-32), 3, 23, 0, 0, 0)), (58, (.iconst 1, 1, 1, 0, 0, 0)), (59, (.ireturn, 1, 1, 0, 0, 0))])
theorem eX6_spells_4 : decode (gCd kX6_spells) 4 = .ok (.invokevirtual 79, 3) := by decide +kernel
theorem eX6_spells_26 : decode (gCd kX6_spells) 26 = .ok (.invokevirtual 79, 3) := by decide +kernel
theorem eX6_spells_44 : decode (gCd kX6_spells) 44 = .ok (.invokevirtual 84, 3) := by decide +kernel
set_option maxRecDepth 100000 in
theorem okX6_spells : (gTb kX6_spells).all (okE gF gNM kX6_spells) = true := by decide +kernel
theorem pnX6_spells : plainName (gY kX6_spells).cls = true := by decide +kernel
theorem tX6_spells_0 : gAt kX6_spells 0 = some (.iload_n 2, 1, 0, 0, 0, 0) := by decide +kernel
theorem tX6_spells_1 : gAt kX6_spells 1 = some (.iload_n 1, 1, 0, 0, 0, 0) := by decide +kernel
theorem tX6_spells_2 : gAt kX6_spells 2 = some (.isub, 1, 0, 0, 0, 0) := by decide +kernel
theorem tX6_spells_3 : gAt kX6_spells 3 = some (.aload_n 3, 1, 0, 0, 0, 0) := by decide +kernel
theorem tX6_spells_7 : gAt kX6_spells 7 = some (.if_icmp .ne 11, 3, 18, 0, 0, 0) := by decide +kernel
theorem tX6_spells_10 : gAt kX6_spells 10 = some (.iload_n 2, 1, 0, 0, 0, 0) := by decide +kernel
theorem tX6_spells_11 : gAt kX6_spells 11 = some (.aload_n 0, 1, 0, 0, 0, 0) := by decide +kernel
theorem tX6_spells_12 : gAt kX6_spells 12 = some (.getfield 15, 3, 7, 1, 0, 147) := by decide +kernel
theorem tX6_spells_15 : gAt kX6_spells 15 = some (.if_icmp .le 5, 3, 20, 0, 0, 0) := by decide +kernel
theorem tX6_spells_18 : gAt kX6_spells 18 = some (.iconst 0, 1, 0, 0, 0, 0) := by decide +kernel
theorem tX6_spells_19 : gAt kX6_spells 19 = some (.ireturn, 1, 1, 0, 0, 0) := by decide +kernel
theorem tX6_spells_20 : gAt kX6_spells 20 = some (.iconst 0, 1, 0, 0, 0, 0) := by decide +kernel
theorem tX6_spells_21 : gAt kX6_spells 21 = some (.istore 4, 2, 0, 0, 0, 0) := by decide +kernel
theorem tX6_spells_23 : gAt kX6_spells 23 = some (.iload 4, 2, 0, 0, 0, 0) := by decide +kernel
theorem tX6_spells_25 : gAt kX6_spells 25 = some (.aload_n 3, 1, 0, 0, 0, 0) := by decide +kernel
theorem tX6_spells_29 : gAt kX6_spells 29 = some (.if_icmp .ge 29, 3, 58, 0, 0, 0) := by decide +kernel
theorem tX6_spells_32 : gAt kX6_spells 32 = some (.aload_n 0, 1, 0, 0, 0, 0) := by decide +kernel
theorem tX6_spells_33 : gAt kX6_spells 33 = some (.getfield 9, 3, 7, 0, 2, 146) := by decide +kernel
theorem tX6_spells_36 : gAt kX6_spells 36 = some (.iload_n 1, 1, 0, 0, 0, 0) := by decide +kernel
theorem tX6_spells_37 : gAt kX6_spells 37 = some (.iload 4, 2, 0, 0, 0, 0) := by decide +kernel
theorem tX6_spells_39 : gAt kX6_spells 39 = some (.iadd, 1, 0, 0, 0, 0) := by decide +kernel
theorem tX6_spells_40 : gAt kX6_spells 40 = some (.caload, 1, 15, 0, 0, 0) := by decide +kernel
theorem tX6_spells_41 : gAt kX6_spells 41 = some (.aload_n 3, 1, 0, 0, 0, 0) := by decide +kernel
theorem tX6_spells_42 : gAt kX6_spells 42 = some (.iload 4, 2, 0, 0, 0, 0) := by decide +kernel
theorem tX6_spells_47 : gAt kX6_spells 47 = some (.if_icmp .eq 5, 3, 52, 0, 0, 0) := by decide +kernel
theorem tX6_spells_50 : gAt kX6_spells 50 = some (.iconst 0, 1, 0, 0, 0, 0) := by decide +kernel
theorem tX6_spells_51 : gAt kX6_spells 51 = some (.ireturn, 1, 1, 0, 0, 0) := by decide +kernel
theorem tX6_spells_52 : gAt kX6_spells 52 = some (.iinc 4 1, 3, 1, 0, 0, 0) := by decide +kernel
theorem tX6_spells_55 : gAt kX6_spells 55 = some (.goto (-32), 3, 23, 0, 0, 0) := by decide +kernel
theorem tX6_spells_58 : gAt kX6_spells 58 = some (.iconst 1, 1, 1, 0, 0, 0) := by decide +kernel
theorem tX6_spells_59 : gAt kX6_spells 59 = some (.ireturn, 1, 1, 0, 0, 0) := by decide +kernel

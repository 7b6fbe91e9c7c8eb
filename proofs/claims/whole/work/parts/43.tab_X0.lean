/-! rows of the tables of class PapersDesk$Ask -/
set_option maxRecDepth 100000 in
theorem okX0_init : (gTb mX0_init).all (okE gF gNM mX0_init) = true := by decide +kernel
theorem pnX0_init : plainName (gY mX0_init).cls = true := by decide +kernel
theorem tX0_init_0 : gAt mX0_init 0 = some (.aload_n 0, 1, 0, 0, 0, 0) := by decide +kernel
theorem tX0_init_1 : gAt mX0_init 1 = some (.invokespecial 3, 3, 9999, 0, 0, 702) := by decide +kernel
theorem tX0_init_4 : gAt mX0_init 4 = some (.aload_n 0, 1, 0, 0, 0, 0) := by decide +kernel
theorem tX0_init_5 : gAt mX0_init 5 = some (.iconst 4, 1, 4, 0, 0, 0) := by decide +kernel
theorem tX0_init_6 : gAt mX0_init 6 = some (.newarray .int, 2, 12, 0, 0, 139) := by decide +kernel
theorem tX0_init_8 : gAt mX0_init 8 = some (.putfield 9, 3, 1, 5, 2, 714) := by decide +kernel
theorem tX0_init_11 : gAt mX0_init 11 = some (.aload_n 0, 1, 0, 0, 0, 0) := by decide +kernel
theorem tX0_init_12 : gAt mX0_init 12 = some (.iconst 0, 1, 0, 0, 0, 0) := by decide +kernel
theorem tX0_init_13 : gAt mX0_init 13 = some (.putfield 15, 3, 1, 6, 0, 716) := by decide +kernel
theorem tX0_init_16 : gAt mX0_init 16 = some (.aload_n 0, 1, 0, 0, 0, 0) := by decide +kernel
theorem tX0_init_17 : gAt mX0_init 17 = some (.iconst (-1), 1, 1, 1, 0, 0) := by decide +kernel
theorem tX0_init_18 : gAt mX0_init 18 = some (.putfield 19, 3, 1, 7, 0, 718) := by decide +kernel
theorem tX0_init_21 : gAt mX0_init 21 = some (.aload_n 0, 1, 0, 0, 0, 0) := by decide +kernel
theorem tX0_init_22 : gAt mX0_init 22 = some (.iconst 0, 1, 0, 0, 0, 0) := by decide +kernel
theorem tX0_init_23 : gAt mX0_init 23 = some (.putfield 22, 3, 1, 8, 0, 720) := by decide +kernel
theorem tX0_init_26 : gAt mX0_init 26 = some (.aload_n 0, 1, 0, 0, 0, 0) := by decide +kernel
theorem tX0_init_27 : gAt mX0_init 27 = some (.iconst 0, 1, 0, 0, 0, 0) := by decide +kernel
theorem tX0_init_28 : gAt mX0_init 28 = some (.putfield 25, 3, 1, 9, 1, 722) := by decide +kernel
theorem tX0_init_31 : gAt mX0_init 31 = some (.aload_n 0, 1, 0, 0, 0, 0) := by decide +kernel
theorem tX0_init_32 : gAt mX0_init 32 = some (.iconst 0, 1, 0, 0, 0, 0) := by decide +kernel
theorem tX0_init_33 : gAt mX0_init 33 = some (.putfield 29, 3, 1, 11, 0, 725) := by decide +kernel
theorem tX0_init_36 : gAt mX0_init 36 = some (.aload_n 0, 1, 0, 0, 0, 0) := by decide +kernel
theorem tX0_init_37 : gAt mX0_init 37 = some (.iload_n 1, 1, 0, 0, 0, 0) := by decide +kernel
theorem tX0_init_38 : gAt mX0_init 38 = some (.putfield 32, 3, 1, 0, 0, 703) := by decide +kernel
theorem tX0_init_41 : gAt mX0_init 41 = some (.aload_n 0, 1, 0, 0, 0, 0) := by decide +kernel
theorem tX0_init_42 : gAt mX0_init 42 = some (.iload_n 2, 1, 0, 0, 0, 0) := by decide +kernel
theorem tX0_init_43 : gAt mX0_init 43 = some (.putfield 35, 3, 1, 1, 0, 706) := by decide +kernel
theorem tX0_init_46 : gAt mX0_init 46 = some (.aload_n 0, 1, 0, 0, 0, 0) := by decide +kernel
theorem tX0_init_47 : gAt mX0_init 47 = some (.iload_n 3, 1, 0, 0, 0, 0) := by decide +kernel
theorem tX0_init_48 : gAt mX0_init 48 = some (.putfield 38, 3, 1, 2, 0, 708) := by decide +kernel
theorem tX0_init_51 : gAt mX0_init 51 = some (.aload_n 0, 1, 0, 0, 0, 0) := by decide +kernel
theorem tX0_init_52 : gAt mX0_init 52 = some (.iload 4, 2, 0, 0, 0, 0) := by decide +kernel
theorem tX0_init_54 : gAt mX0_init 54 = some (.putfield 41, 3, 1, 3, 0, 710) := by decide +kernel
theorem tX0_init_57 : gAt mX0_init 57 = some (.aload_n 0, 1, 0, 0, 0, 0) := by decide +kernel
theorem tX0_init_58 : gAt mX0_init 58 = some (.iload 5, 2, 0, 0, 0, 0) := by decide +kernel
theorem tX0_init_60 : gAt mX0_init 60 = some (.putfield 44, 3, 1, 4, 0, 712) := by decide +kernel
theorem tX0_init_63 : gAt mX0_init 63 = some (.aload_n 0, 1, 0, 0, 0, 0) := by decide +kernel
theorem tX0_init_64 : gAt mX0_init 64 = some (.iload 5, 2, 0, 0, 0, 0) := by decide +kernel
theorem tX0_init_66 : gAt mX0_init 66 = some (.putfield 47, 3, 1, 10, 0, 724) := by decide +kernel
theorem tX0_init_69 : gAt mX0_init 69 = some (.return_, 1, 0, 0, 0, 0) := by decide +kernel
set_option maxRecDepth 100000 in
theorem okX0_addWord : (gTb mX0_addWord).all (okE gF gNM mX0_addWord) = true := by decide +kernel
theorem pnX0_addWord : plainName (gY mX0_addWord).cls = true := by decide +kernel
theorem tX0_addWord_0 : gAt mX0_addWord 0 = some (.aload_n 0, 1, 0, 0, 0, 0) := by decide +kernel
theorem tX0_addWord_1 : gAt mX0_addWord 1 = some (.getfield 15, 3, 1, 6, 0, 716) := by decide +kernel
theorem tX0_addWord_4 : gAt mX0_addWord 4 = some (.iconst 4, 1, 4, 0, 0, 0) := by decide +kernel
theorem tX0_addWord_5 : gAt mX0_addWord 5 = some (.if_icmp .ge 23, 3, 28, 0, 0, 0) := by decide +kernel
theorem tX0_addWord_8 : gAt mX0_addWord 8 = some (.aload_n 0, 1, 0, 0, 0, 0) := by decide +kernel
theorem tX0_addWord_9 : gAt mX0_addWord 9 = some (.getfield 9, 3, 1, 5, 2, 714) := by decide +kernel
theorem tX0_addWord_12 : gAt mX0_addWord 12 = some (.aload_n 0, 1, 0, 0, 0, 0) := by decide +kernel
theorem tX0_addWord_13 : gAt mX0_addWord 13 = some (.getfield 15, 3, 1, 6, 0, 716) := by decide +kernel
theorem tX0_addWord_16 : gAt mX0_addWord 16 = some (.iload_n 1, 1, 0, 0, 0, 0) := by decide +kernel
theorem tX0_addWord_17 : gAt mX0_addWord 17 = some (.iastore, 1, 12, 0, 0, 0) := by decide +kernel
theorem tX0_addWord_18 : gAt mX0_addWord 18 = some (.aload_n 0, 1, 0, 0, 0, 0) := by decide +kernel
theorem tX0_addWord_19 : gAt mX0_addWord 19 = some (.dup, 1, 0, 0, 0, 0) := by decide +kernel
theorem tX0_addWord_20 : gAt mX0_addWord 20 = some (.getfield 15, 3, 1, 6, 0, 716) := by decide +kernel
theorem tX0_addWord_23 : gAt mX0_addWord 23 = some (.iconst 1, 1, 1, 0, 0, 0) := by decide +kernel
theorem tX0_addWord_24 : gAt mX0_addWord 24 = some (.iadd, 1, 0, 0, 0, 0) := by decide +kernel
theorem tX0_addWord_25 : gAt mX0_addWord 25 = some (.putfield 15, 3, 1, 6, 0, 716) := by decide +kernel
theorem tX0_addWord_28 : gAt mX0_addWord 28 = some (.return_, 1, 0, 0, 0, 0) := by decide +kernel
set_option maxRecDepth 100000 in
theorem okX0_hasWord : (gTb mX0_hasWord).all (okE gF gNM mX0_hasWord) = true := by decide +kernel
theorem pnX0_hasWord : plainName (gY mX0_hasWord).cls = true := by decide +kernel
theorem tX0_hasWord_0 : gAt mX0_hasWord 0 = some (.iconst 0, 1, 0, 0, 0, 0) := by decide +kernel
theorem tX0_hasWord_1 : gAt mX0_hasWord 1 = some (.istore_n 2, 1, 0, 0, 0, 0) := by decide +kernel
theorem tX0_hasWord_2 : gAt mX0_hasWord 2 = some (.iload_n 2, 1, 0, 0, 0, 0) := by decide +kernel
theorem tX0_hasWord_3 : gAt mX0_hasWord 3 = some (.aload_n 0, 1, 0, 0, 0, 0) := by decide +kernel
theorem tX0_hasWord_4 : gAt mX0_hasWord 4 = some (.getfield 15, 3, 1, 6, 0, 716) := by decide +kernel
theorem tX0_hasWord_7 : gAt mX0_hasWord 7 = some (.if_icmp .ge 21, 3, 28, 0, 0, 0) := by decide +kernel
theorem tX0_hasWord_10 : gAt mX0_hasWord 10 = some (.aload_n 0, 1, 0, 0, 0, 0) := by decide +kernel
theorem tX0_hasWord_11 : gAt mX0_hasWord 11 = some (.getfield 9, 3, 1, 5, 2, 714) := by decide +kernel
theorem tX0_hasWord_14 : gAt mX0_hasWord 14 = some (.iload_n 2, 1, 0, 0, 0, 0) := by decide +kernel
theorem tX0_hasWord_15 : gAt mX0_hasWord 15 = some (.iaload, 1, 12, 0, 0, 0) := by decide +kernel
theorem tX0_hasWord_16 : gAt mX0_hasWord 16 = some (.iload_n 1, 1, 0, 0, 0, 0) := by decide +kernel
theorem tX0_hasWord_17 : gAt mX0_hasWord 17 = some (.if_icmp .ne 5, 3, 22, 0, 0, 0) := by decide +kernel
theorem tX0_hasWord_20 : gAt mX0_hasWord 20 = some (.iconst 1, 1, 1, 0, 0, 0) := by decide +kernel
theorem tX0_hasWord_21 : gAt mX0_hasWord 21 = some (.ireturn, 1, 1, 0, 0, 0) := by decide +kernel
theorem tX0_hasWord_22 : gAt mX0_hasWord 22 = some (.iinc 2 1, 3, 1, 0, 0, 0) := by decide +kernel
theorem tX0_hasWord_25 : gAt mX0_hasWord 25 = some (.goto (-23), 3, 2, 0, 0, 0) := by decide +kernel
theorem tX0_hasWord_28 : gAt mX0_hasWord 28 = some (.iconst 0, 1, 0, 0, 0, 0) := by decide +kernel
theorem tX0_hasWord_29 : gAt mX0_hasWord 29 = some (.ireturn, 1, 1, 0, 0, 0) := by decide +kernel
set_option maxRecDepth 100000 in
theorem okX0_hasWordsOf : (gTb mX0_hasWordsOf).all (okE gF gNM mX0_hasWordsOf) = true := by decide +kernel
theorem pnX0_hasWordsOf : plainName (gY mX0_hasWordsOf).cls = true := by decide +kernel
theorem tX0_hasWordsOf_0 : gAt mX0_hasWordsOf 0 = some (.iconst 0, 1, 0, 0, 0, 0) := by decide +kernel
theorem tX0_hasWordsOf_1 : gAt mX0_hasWordsOf 1 = some (.istore_n 2, 1, 0, 0, 0, 0) := by decide +kernel
theorem tX0_hasWordsOf_2 : gAt mX0_hasWordsOf 2 = some (.iload_n 2, 1, 0, 0, 0, 0) := by decide +kernel
theorem tX0_hasWordsOf_3 : gAt mX0_hasWordsOf 3 = some (.aload_n 1, 1, 0, 0, 0, 0) := by decide +kernel
theorem tX0_hasWordsOf_4 : gAt mX0_hasWordsOf 4 = some (.getfield 15, 3, 1, 6, 0, 716) := by decide +kernel
theorem tX0_hasWordsOf_7 : gAt mX0_hasWordsOf 7 = some (.if_icmp .ge 24, 3, 31, 0, 0, 0) := by decide +kernel
theorem tX0_hasWordsOf_10 : gAt mX0_hasWordsOf 10 = some (.aload_n 0, 1, 0, 0, 0, 0) := by decide +kernel
theorem tX0_hasWordsOf_11 : gAt mX0_hasWordsOf 11 = some (.aload_n 1, 1, 0, 0, 0, 0) := by decide +kernel
theorem tX0_hasWordsOf_12 : gAt mX0_hasWordsOf 12 = some (.getfield 9, 3, 1, 5, 2, 714) := by decide +kernel
theorem tX0_hasWordsOf_15 : gAt mX0_hasWordsOf 15 = some (.iload_n 2, 1, 0, 0, 0, 0) := by decide +kernel
theorem tX0_hasWordsOf_16 : gAt mX0_hasWordsOf 16 = some (.iaload, 1, 12, 0, 0, 0) := by decide +kernel
theorem tX0_hasWordsOf_17 : gAt mX0_hasWordsOf 17 = some (.invokevirtual 50, 3, 2, 1, 1, 767) := by decide +kernel
theorem tX0_hasWordsOf_20 : gAt mX0_hasWordsOf 20 = some (.ifCond .ne 5, 3, 25, 0, 0, 0) := by decide +kernel
theorem tX0_hasWordsOf_23 : gAt mX0_hasWordsOf 23 = some (.iconst 0, 1, 0, 0, 0, 0) := by decide +kernel
theorem tX0_hasWordsOf_24 : gAt mX0_hasWordsOf 24 = some (.ireturn, 1, 1, 0, 0, 0) := by decide +kernel
theorem tX0_hasWordsOf_25 : gAt mX0_hasWordsOf 25 = some (.iinc 2 1, 3, 1, 0, 0, 0) := by decide +kernel
theorem tX0_hasWordsOf_28 : gAt mX0_hasWordsOf 28 = some (.goto (-26), 3, 2, 0, 0, 0) := by decide +kernel
theorem tX0_hasWordsOf_31 : gAt mX0_hasWordsOf 31 = some (.iconst 1, 1, 1, 0, 0, 0) := by decide +kernel
theorem tX0_hasWordsOf_32 : gAt mX0_hasWordsOf 32 = some (.ireturn, 1, 1, 0, 0, 0) := by decide +kernel
set_option maxRecDepth 100000 in
theorem okX0_asksSameAs : (gTb mX0_asksSameAs).all (okE gF gNM mX0_asksSameAs) = true := by decide +kernel
theorem pnX0_asksSameAs : plainName (gY mX0_asksSameAs).cls = true := by decide +kernel
theorem tX0_asksSameAs_0 : gAt mX0_asksSameAs 0 = some (.aload_n 0, 1, 0, 0, 0, 0) := by decide +kernel
theorem tX0_asksSameAs_1 : gAt mX0_asksSameAs 1 = some (.getfield 35, 3, 1, 1, 0, 706) := by decide +kernel
theorem tX0_asksSameAs_4 : gAt mX0_asksSameAs 4 = some (.aload_n 1, 1, 0, 0, 0, 0) := by decide +kernel
theorem tX0_asksSameAs_5 : gAt mX0_asksSameAs 5 = some (.getfield 35, 3, 1, 1, 0, 706) := by decide +kernel
theorem tX0_asksSameAs_8 : gAt mX0_asksSameAs 8 = some (.if_icmp .ne 29, 3, 37, 0, 0, 0) := by decide +kernel
theorem tX0_asksSameAs_11 : gAt mX0_asksSameAs 11 = some (.aload_n 0, 1, 0, 0, 0, 0) := by decide +kernel
theorem tX0_asksSameAs_12 : gAt mX0_asksSameAs 12 = some (.getfield 38, 3, 1, 2, 0, 708) := by decide +kernel
theorem tX0_asksSameAs_15 : gAt mX0_asksSameAs 15 = some (.aload_n 1, 1, 0, 0, 0, 0) := by decide +kernel
theorem tX0_asksSameAs_16 : gAt mX0_asksSameAs 16 = some (.getfield 38, 3, 1, 2, 0, 708) := by decide +kernel
theorem tX0_asksSameAs_19 : gAt mX0_asksSameAs 19 = some (.if_icmp .ne 18, 3, 37, 0, 0, 0) := by decide +kernel
theorem tX0_asksSameAs_22 : gAt mX0_asksSameAs 22 = some (.aload_n 0, 1, 0, 0, 0, 0) := by decide +kernel
theorem tX0_asksSameAs_23 : gAt mX0_asksSameAs 23 = some (.getfield 41, 3, 1, 3, 0, 710) := by decide +kernel
theorem tX0_asksSameAs_26 : gAt mX0_asksSameAs 26 = some (.aload_n 1, 1, 0, 0, 0, 0) := by decide +kernel
theorem tX0_asksSameAs_27 : gAt mX0_asksSameAs 27 = some (.getfield 41, 3, 1, 3, 0, 710) := by decide +kernel
theorem tX0_asksSameAs_30 : gAt mX0_asksSameAs 30 = some (.if_icmp .ne 7, 3, 37, 0, 0, 0) := by decide +kernel
theorem tX0_asksSameAs_33 : gAt mX0_asksSameAs 33 = some (.iconst 1, 1, 1, 0, 0, 0) := by decide +kernel
theorem tX0_asksSameAs_34 : gAt mX0_asksSameAs 34 = some (.goto 4, 3, 38, 0, 0, 0) := by decide +kernel
theorem tX0_asksSameAs_37 : gAt mX0_asksSameAs 37 = some (.iconst 0, 1, 0, 0, 0, 0) := by decide +kernel
theorem tX0_asksSameAs_38 : gAt mX0_asksSameAs 38 = some (.istore_n 2, 1, 0, 0, 0, 0) := by decide +kernel
theorem tX0_asksSameAs_39 : gAt mX0_asksSameAs 39 = some (.iload_n 2, 1, 0, 0, 0, 0) := by decide +kernel
theorem tX0_asksSameAs_40 : gAt mX0_asksSameAs 40 = some (.ifCond .eq 23, 3, 63, 0, 0, 0) := by decide +kernel
theorem tX0_asksSameAs_43 : gAt mX0_asksSameAs 43 = some (.aload_n 0, 1, 0, 0, 0, 0) := by decide +kernel
theorem tX0_asksSameAs_44 : gAt mX0_asksSameAs 44 = some (.aload_n 1, 1, 0, 0, 0, 0) := by decide +kernel
theorem tX0_asksSameAs_45 : gAt mX0_asksSameAs 45 = some (.invokevirtual 54, 3, 3, 1, 1, 763) := by decide +kernel
theorem tX0_asksSameAs_48 : gAt mX0_asksSameAs 48 = some (.ifCond .eq 15, 3, 63, 0, 0, 0) := by decide +kernel
theorem tX0_asksSameAs_51 : gAt mX0_asksSameAs 51 = some (.aload_n 1, 1, 0, 0, 0, 0) := by decide +kernel
theorem tX0_asksSameAs_52 : gAt mX0_asksSameAs 52 = some (.aload_n 0, 1, 0, 0, 0, 0) := by decide +kernel
theorem tX0_asksSameAs_53 : gAt mX0_asksSameAs 53 = some (.invokevirtual 54, 3, 3, 1, 1, 763) := by decide +kernel
theorem tX0_asksSameAs_56 : gAt mX0_asksSameAs 56 = some (.ifCond .eq 7, 3, 63, 0, 0, 0) := by decide +kernel
theorem tX0_asksSameAs_59 : gAt mX0_asksSameAs 59 = some (.iconst 1, 1, 1, 0, 0, 0) := by decide +kernel
theorem tX0_asksSameAs_60 : gAt mX0_asksSameAs 60 = some (.goto 4, 3, 64, 0, 0, 0) := by decide +kernel
theorem tX0_asksSameAs_63 : gAt mX0_asksSameAs 63 = some (.iconst 0, 1, 0, 0, 0, 0) := by decide +kernel
theorem tX0_asksSameAs_64 : gAt mX0_asksSameAs 64 = some (.ireturn, 1, 1, 0, 0, 0) := by decide +kernel
set_option maxRecDepth 100000 in
theorem okX0_isWorkingDay : (gTb mX0_isWorkingDay).all (okE gF gNM mX0_isWorkingDay) = true := by decide +kernel
theorem pnX0_isWorkingDay : plainName (gY mX0_isWorkingDay).cls = true := by decide +kernel
theorem tX0_isWorkingDay_0 : gAt mX0_isWorkingDay 0 = some (.iload_n 0, 1, 0, 0, 0, 0) := by decide +kernel
theorem tX0_isWorkingDay_1 : gAt mX0_isWorkingDay 1 = some (.bipush 7, 2, 7, 0, 0, 0) := by decide +kernel
theorem tX0_isWorkingDay_3 : gAt mX0_isWorkingDay 3 = some (.irem, 1, 0, 0, 0, 0) := by decide +kernel
theorem tX0_isWorkingDay_4 : gAt mX0_isWorkingDay 4 = some (.iconst 5, 1, 5, 0, 0, 0) := by decide +kernel
theorem tX0_isWorkingDay_5 : gAt mX0_isWorkingDay 5 = some (.if_icmp .ge 7, 3, 12, 0, 0, 0) := by decide +kernel
theorem tX0_isWorkingDay_8 : gAt mX0_isWorkingDay 8 = some (.iconst 1, 1, 1, 0, 0, 0) := by decide +kernel
theorem tX0_isWorkingDay_9 : gAt mX0_isWorkingDay 9 = some (.goto 4, 3, 13, 0, 0, 0) := by decide +kernel
theorem tX0_isWorkingDay_12 : gAt mX0_isWorkingDay 12 = some (.iconst 0, 1, 0, 0, 0, 0) := by decide +kernel
theorem tX0_isWorkingDay_13 : gAt mX0_isWorkingDay 13 = some (.ireturn, 1, 1, 0, 0, 0) := by decide +kernel
set_option maxRecDepth 100000 in
theorem okX0_countThrough : (gTb mX0_countThrough).all (okE gF gNM mX0_countThrough) = true := by decide +kernel
theorem pnX0_countThrough : plainName (gY mX0_countThrough).cls = true := by decide +kernel
theorem tX0_countThrough_0 : gAt mX0_countThrough 0 = some (.aload_n 0, 1, 0, 0, 0, 0) := by decide +kernel
theorem tX0_countThrough_1 : gAt mX0_countThrough 1 = some (.getfield 47, 3, 1, 10, 0, 724) := by decide +kernel
theorem tX0_countThrough_4 : gAt mX0_countThrough 4 = some (.iconst 1, 1, 1, 0, 0, 0) := by decide +kernel
theorem tX0_countThrough_5 : gAt mX0_countThrough 5 = some (.iadd, 1, 0, 0, 0, 0) := by decide +kernel
theorem tX0_countThrough_6 : gAt mX0_countThrough 6 = some (.istore_n 2, 1, 0, 0, 0, 0) := by decide +kernel
theorem tX0_countThrough_7 : gAt mX0_countThrough 7 = some (.iload_n 2, 1, 0, 0, 0, 0) := by decide +kernel
theorem tX0_countThrough_8 : gAt mX0_countThrough 8 = some (.iload_n 1, 1, 0, 0, 0, 0) := by decide +kernel
theorem tX0_countThrough_9 : gAt mX0_countThrough 9 = some (.if_icmp .gt 40, 3, 49, 0, 0, 0) := by decide +kernel
theorem tX0_countThrough_12 : gAt mX0_countThrough 12 = some (.aload_n 0, 1, 0, 0, 0, 0) := by decide +kernel
theorem tX0_countThrough_13 : gAt mX0_countThrough 13 = some (.getfield 29, 3, 1, 11, 0, 725) := by decide +kernel
theorem tX0_countThrough_16 : gAt mX0_countThrough 16 = some (.bipush 20, 2, 20, 0, 0, 0) := by decide +kernel
theorem tX0_countThrough_18 : gAt mX0_countThrough 18 = some (.if_icmp .ge 31, 3, 49, 0, 0, 0) := by decide +kernel
theorem tX0_countThrough_21 : gAt mX0_countThrough 21 = some (.aload_n 0, 1, 0, 0, 0, 0) := by decide +kernel
theorem tX0_countThrough_22 : gAt mX0_countThrough 22 = some (.iload_n 2, 1, 0, 0, 0, 0) := by decide +kernel
theorem tX0_countThrough_23 : gAt mX0_countThrough 23 = some (.putfield 47, 3, 1, 10, 0, 724) := by decide +kernel
theorem tX0_countThrough_26 : gAt mX0_countThrough 26 = some (.iload_n 2, 1, 0, 0, 0, 0) := by decide +kernel
theorem tX0_countThrough_27 : gAt mX0_countThrough 27 = some (.invokestatic 58, 3, 5, 1, 1, 837) := by decide +kernel
theorem tX0_countThrough_30 : gAt mX0_countThrough 30 = some (.ifCond .eq 13, 3, 43, 0, 0, 0) := by decide +kernel
theorem tX0_countThrough_33 : gAt mX0_countThrough 33 = some (.aload_n 0, 1, 0, 0, 0, 0) := by decide +kernel
theorem tX0_countThrough_34 : gAt mX0_countThrough 34 = some (.dup, 1, 0, 0, 0, 0) := by decide +kernel
theorem tX0_countThrough_35 : gAt mX0_countThrough 35 = some (.getfield 29, 3, 1, 11, 0, 725) := by decide +kernel
theorem tX0_countThrough_38 : gAt mX0_countThrough 38 = some (.iconst 1, 1, 1, 0, 0, 0) := by decide +kernel
theorem tX0_countThrough_39 : gAt mX0_countThrough 39 = some (.iadd, 1, 0, 0, 0, 0) := by decide +kernel
theorem tX0_countThrough_40 : gAt mX0_countThrough 40 = some (.putfield 29, 3, 1, 11, 0, 725) := by decide +kernel
theorem tX0_countThrough_43 : gAt mX0_countThrough 43 = some (.iinc 2 1, 3, 1, 0, 0, 0) := by decide +kernel
theorem tX0_countThrough_46 : gAt mX0_countThrough 46 = some (.goto (-39), 3, 7, 0, 0, 0) := by decide +kernel
theorem tX0_countThrough_49 : gAt mX0_countThrough 49 = some (.return_, 1, 0, 0, 0, 0) := by decide +kernel
set_option maxRecDepth 100000 in
theorem okX0_skipThrough : (gTb mX0_skipThrough).all (okE gF gNM mX0_skipThrough) = true := by decide +kernel
theorem pnX0_skipThrough : plainName (gY mX0_skipThrough).cls = true := by decide +kernel
theorem tX0_skipThrough_0 : gAt mX0_skipThrough 0 = some (.aload_n 0, 1, 0, 0, 0, 0) := by decide +kernel
theorem tX0_skipThrough_1 : gAt mX0_skipThrough 1 = some (.getfield 29, 3, 1, 11, 0, 725) := by decide +kernel
theorem tX0_skipThrough_4 : gAt mX0_skipThrough 4 = some (.bipush 20, 2, 20, 0, 0, 0) := by decide +kernel
theorem tX0_skipThrough_6 : gAt mX0_skipThrough 6 = some (.if_icmp .ge 16, 3, 22, 0, 0, 0) := by decide +kernel
theorem tX0_skipThrough_9 : gAt mX0_skipThrough 9 = some (.iload_n 1, 1, 0, 0, 0, 0) := by decide +kernel
theorem tX0_skipThrough_10 : gAt mX0_skipThrough 10 = some (.aload_n 0, 1, 0, 0, 0, 0) := by decide +kernel
theorem tX0_skipThrough_11 : gAt mX0_skipThrough 11 = some (.getfield 47, 3, 1, 10, 0, 724) := by decide +kernel
theorem tX0_skipThrough_14 : gAt mX0_skipThrough 14 = some (.if_icmp .le 8, 3, 22, 0, 0, 0) := by decide +kernel
theorem tX0_skipThrough_17 : gAt mX0_skipThrough 17 = some (.aload_n 0, 1, 0, 0, 0, 0) := by decide +kernel
theorem tX0_skipThrough_18 : gAt mX0_skipThrough 18 = some (.iload_n 1, 1, 0, 0, 0, 0) := by decide +kernel
theorem tX0_skipThrough_19 : gAt mX0_skipThrough 19 = some (.putfield 47, 3, 1, 10, 0, 724) := by decide +kernel
theorem tX0_skipThrough_22 : gAt mX0_skipThrough 22 = some (.return_, 1, 0, 0, 0, 0) := by decide +kernel
set_option maxRecDepth 100000 in
theorem okX0_dueDay : (gTb mX0_dueDay).all (okE gF gNM mX0_dueDay) = true := by decide +kernel
theorem pnX0_dueDay : plainName (gY mX0_dueDay).cls = true := by decide +kernel
theorem tX0_dueDay_0 : gAt mX0_dueDay 0 = some (.aload_n 0, 1, 0, 0, 0, 0) := by decide +kernel
theorem tX0_dueDay_1 : gAt mX0_dueDay 1 = some (.getfield 47, 3, 1, 10, 0, 724) := by decide +kernel
theorem tX0_dueDay_4 : gAt mX0_dueDay 4 = some (.istore_n 1, 1, 0, 0, 0, 0) := by decide +kernel
theorem tX0_dueDay_5 : gAt mX0_dueDay 5 = some (.aload_n 0, 1, 0, 0, 0, 0) := by decide +kernel
theorem tX0_dueDay_6 : gAt mX0_dueDay 6 = some (.getfield 29, 3, 1, 11, 0, 725) := by decide +kernel
theorem tX0_dueDay_9 : gAt mX0_dueDay 9 = some (.istore_n 2, 1, 0, 0, 0, 0) := by decide +kernel
theorem tX0_dueDay_10 : gAt mX0_dueDay 10 = some (.iload_n 2, 1, 0, 0, 0, 0) := by decide +kernel
theorem tX0_dueDay_11 : gAt mX0_dueDay 11 = some (.bipush 20, 2, 20, 0, 0, 0) := by decide +kernel
theorem tX0_dueDay_13 : gAt mX0_dueDay 13 = some (.if_icmp .ge 26, 3, 39, 0, 0, 0) := by decide +kernel
theorem tX0_dueDay_16 : gAt mX0_dueDay 16 = some (.iload_n 1, 1, 0, 0, 0, 0) := by decide +kernel
theorem tX0_dueDay_17 : gAt mX0_dueDay 17 = some (.sipush 4999, 3, 4999, 0, 0, 0) := by decide +kernel
theorem tX0_dueDay_20 : gAt mX0_dueDay 20 = some (.if_icmp .ge 19, 3, 39, 0, 0, 0) := by decide +kernel
theorem tX0_dueDay_23 : gAt mX0_dueDay 23 = some (.iinc 1 1, 3, 1, 0, 0, 0) := by decide +kernel
theorem tX0_dueDay_26 : gAt mX0_dueDay 26 = some (.iload_n 1, 1, 0, 0, 0, 0) := by decide +kernel
theorem tX0_dueDay_27 : gAt mX0_dueDay 27 = some (.invokestatic 58, 3, 5, 1, 1, 837) := by decide +kernel
theorem tX0_dueDay_30 : gAt mX0_dueDay 30 = some (.ifCond .eq (-20), 3, 10, 0, 0, 0) := by decide +kernel
theorem tX0_dueDay_33 : gAt mX0_dueDay 33 = some (.iinc 2 1, 3, 1, 0, 0, 0) := by decide +kernel
theorem tX0_dueDay_36 : gAt mX0_dueDay 36 = some (.goto (-26), 3, 10, 0, 0, 0) := by decide +kernel
theorem tX0_dueDay_39 : gAt mX0_dueDay 39 = some (.iload_n 1, 1, 0, 0, 0, 0) := by decide +kernel
theorem tX0_dueDay_40 : gAt mX0_dueDay 40 = some (.ireturn, 1, 0, 0, 0, 0) := by decide +kernel
set_option maxRecDepth 100000 in
theorem okX0_isOverdueOn : (gTb mX0_isOverdueOn).all (okE gF gNM mX0_isOverdueOn) = true := by decide +kernel
theorem pnX0_isOverdueOn : plainName (gY mX0_isOverdueOn).cls = true := by decide +kernel
theorem tX0_isOverdueOn_0 : gAt mX0_isOverdueOn 0 = some (.aload_n 0, 1, 0, 0, 0, 0) := by decide +kernel
theorem tX0_isOverdueOn_1 : gAt mX0_isOverdueOn 1 = some (.getfield 25, 3, 1, 9, 1, 722) := by decide +kernel
theorem tX0_isOverdueOn_4 : gAt mX0_isOverdueOn 4 = some (.ifCond .ne 15, 3, 19, 0, 0, 0) := by decide +kernel
theorem tX0_isOverdueOn_7 : gAt mX0_isOverdueOn 7 = some (.iload_n 1, 1, 0, 0, 0, 0) := by decide +kernel
theorem tX0_isOverdueOn_8 : gAt mX0_isOverdueOn 8 = some (.aload_n 0, 1, 0, 0, 0, 0) := by decide +kernel
theorem tX0_isOverdueOn_9 : gAt mX0_isOverdueOn 9 = some (.invokevirtual 61, 3, 8, 0, 1, 1022) := by decide +kernel
theorem tX0_isOverdueOn_12 : gAt mX0_isOverdueOn 12 = some (.if_icmp .le 7, 3, 19, 0, 0, 0) := by decide +kernel
theorem tX0_isOverdueOn_15 : gAt mX0_isOverdueOn 15 = some (.iconst 1, 1, 1, 0, 0, 0) := by decide +kernel
theorem tX0_isOverdueOn_16 : gAt mX0_isOverdueOn 16 = some (.goto 4, 3, 20, 0, 0, 0) := by decide +kernel
theorem tX0_isOverdueOn_19 : gAt mX0_isOverdueOn 19 = some (.iconst 0, 1, 0, 0, 0, 0) := by decide +kernel
theorem tX0_isOverdueOn_20 : gAt mX0_isOverdueOn 20 = some (.ireturn, 1, 1, 0, 0, 0) := by decide +kernel

/-! rows of the tables of class PapersDesk -/
set_option maxRecDepth 100000 in
theorem okX8_init : (gTb mX8_init).all (okE gF gNM mX8_init) = true := by decide +kernel
theorem pnX8_init : plainName (gY mX8_init).cls = true := by decide +kernel
theorem tX8_init_0 : gAt mX8_init 0 = some (.aload_n 0, 1, 0, 0, 0, 0) := by decide +kernel
theorem tX8_init_1 : gAt mX8_init 1 = some (.invokespecial 1, 3, 9999, 0, 0, 110) := by decide +kernel
theorem tX8_init_4 : gAt mX8_init 4 = some (.aload_n 0, 1, 0, 0, 0, 0) := by decide +kernel
theorem tX8_init_5 : gAt mX8_init 5 = some (.iconst 0, 1, 0, 0, 0, 0) := by decide +kernel
theorem tX8_init_6 : gAt mX8_init 6 = some (.putfield 7, 3, 9, 0, 0, 188) := by decide +kernel
theorem tX8_init_9 : gAt mX8_init 9 = some (.aload_n 0, 1, 0, 0, 0, 0) := by decide +kernel
theorem tX8_init_10 : gAt mX8_init 10 = some (.bipush 20, 2, 20, 0, 0, 0) := by decide +kernel
theorem tX8_init_12 : gAt mX8_init 12 = some (.newarray .int, 2, 12, 0, 0, 139) := by decide +kernel
theorem tX8_init_14 : gAt mX8_init 14 = some (.putfield 13, 3, 9, 1, 2, 189) := by decide +kernel
theorem tX8_init_17 : gAt mX8_init 17 = some (.aload_n 0, 1, 0, 0, 0, 0) := by decide +kernel
theorem tX8_init_18 : gAt mX8_init 18 = some (.iconst 1, 1, 1, 0, 0, 0) := by decide +kernel
theorem tX8_init_19 : gAt mX8_init 19 = some (.putfield 17, 3, 9, 2, 0, 190) := by decide +kernel
theorem tX8_init_22 : gAt mX8_init 22 = some (.aload_n 0, 1, 0, 0, 0, 0) := by decide +kernel
theorem tX8_init_23 : gAt mX8_init 23 = some (.bipush 12, 2, 12, 0, 0, 0) := by decide +kernel
theorem tX8_init_25 : gAt mX8_init 25 = some (.newarray .int, 2, 12, 0, 0, 139) := by decide +kernel
theorem tX8_init_27 : gAt mX8_init 27 = some (.putfield 20, 3, 9, 3, 2, 191) := by decide +kernel
theorem tX8_init_30 : gAt mX8_init 30 = some (.aload_n 0, 1, 0, 0, 0, 0) := by decide +kernel
theorem tX8_init_31 : gAt mX8_init 31 = some (.iconst 0, 1, 0, 0, 0, 0) := by decide +kernel
theorem tX8_init_32 : gAt mX8_init 32 = some (.putfield 23, 3, 9, 4, 0, 192) := by decide +kernel
theorem tX8_init_35 : gAt mX8_init 35 = some (.aload_n 0, 1, 0, 0, 0, 0) := by decide +kernel
theorem tX8_init_36 : gAt mX8_init 36 = some (.new 26, 3, 0, 0, 0, 113) := by decide +kernel
theorem tX8_init_39 : gAt mX8_init 39 = some (.dup, 1, 0, 0, 0, 0) := by decide +kernel
theorem tX8_init_40 : gAt mX8_init 40 = some (.invokespecial 28, 3, 187, 0, 0, 115) := by decide +kernel
theorem tX8_init_43 : gAt mX8_init 43 = some (.putfield 29, 3, 9, 5, 2, 193) := by decide +kernel
theorem tX8_init_46 : gAt mX8_init 46 = some (.aload_n 0, 1, 0, 0, 0, 0) := by decide +kernel
theorem tX8_init_47 : gAt mX8_init 47 = some (.new 26, 3, 0, 0, 0, 113) := by decide +kernel
theorem tX8_init_50 : gAt mX8_init 50 = some (.dup, 1, 0, 0, 0, 0) := by decide +kernel
theorem tX8_init_51 : gAt mX8_init 51 = some (.invokespecial 28, 3, 187, 0, 0, 115) := by decide +kernel
theorem tX8_init_54 : gAt mX8_init 54 = some (.putfield 33, 3, 9, 6, 2, 194) := by decide +kernel
theorem tX8_init_57 : gAt mX8_init 57 = some (.aload_n 0, 1, 0, 0, 0, 0) := by decide +kernel
theorem tX8_init_58 : gAt mX8_init 58 = some (.new 26, 3, 0, 0, 0, 113) := by decide +kernel
theorem tX8_init_61 : gAt mX8_init 61 = some (.dup, 1, 0, 0, 0, 0) := by decide +kernel
theorem tX8_init_62 : gAt mX8_init 62 = some (.invokespecial 28, 3, 187, 0, 0, 115) := by decide +kernel
theorem tX8_init_65 : gAt mX8_init 65 = some (.putfield 36, 3, 9, 7, 2, 195) := by decide +kernel
theorem tX8_init_68 : gAt mX8_init 68 = some (.aload_n 0, 1, 0, 0, 0, 0) := by decide +kernel
theorem tX8_init_69 : gAt mX8_init 69 = some (.new 26, 3, 0, 0, 0, 113) := by decide +kernel
theorem tX8_init_72 : gAt mX8_init 72 = some (.dup, 1, 0, 0, 0, 0) := by decide +kernel
theorem tX8_init_73 : gAt mX8_init 73 = some (.invokespecial 28, 3, 187, 0, 0, 115) := by decide +kernel
theorem tX8_init_76 : gAt mX8_init 76 = some (.putfield 39, 3, 9, 8, 2, 196) := by decide +kernel
theorem tX8_init_79 : gAt mX8_init 79 = some (.aload_n 0, 1, 0, 0, 0, 0) := by decide +kernel
theorem tX8_init_80 : gAt mX8_init 80 = some (.new 26, 3, 0, 0, 0, 113) := by decide +kernel
theorem tX8_init_83 : gAt mX8_init 83 = some (.dup, 1, 0, 0, 0, 0) := by decide +kernel
theorem tX8_init_84 : gAt mX8_init 84 = some (.invokespecial 28, 3, 187, 0, 0, 115) := by decide +kernel
theorem tX8_init_87 : gAt mX8_init 87 = some (.putfield 42, 3, 9, 9, 2, 197) := by decide +kernel
theorem tX8_init_90 : gAt mX8_init 90 = some (.aload_n 0, 1, 0, 0, 0, 0) := by decide +kernel
theorem tX8_init_91 : gAt mX8_init 91 = some (.iconst 0, 1, 0, 0, 0, 0) := by decide +kernel
theorem tX8_init_92 : gAt mX8_init 92 = some (.putfield 45, 3, 9, 10, 0, 198) := by decide +kernel
theorem tX8_init_95 : gAt mX8_init 95 = some (.aload_n 0, 1, 0, 0, 0, 0) := by decide +kernel
theorem tX8_init_96 : gAt mX8_init 96 = some (.new 48, 3, 7, 0, 0, 140) := by decide +kernel
theorem tX8_init_99 : gAt mX8_init 99 = some (.dup, 1, 0, 0, 0, 0) := by decide +kernel
theorem tX8_init_100 : gAt mX8_init 100 = some (.invokespecial 50, 3, 9998, 0, 0, 0) := by decide +kernel
theorem tX8_init_103 : gAt mX8_init 103 = some (.putfield 51, 3, 9, 11, 2, 199) := by decide +kernel
theorem tX8_init_106 : gAt mX8_init 106 = some (.aload_n 0, 1, 0, 0, 0, 0) := by decide +kernel
theorem tX8_init_107 : gAt mX8_init 107 = some (.new 55, 3, 6, 0, 0, 161) := by decide +kernel
theorem tX8_init_110 : gAt mX8_init 110 = some (.dup, 1, 0, 0, 0, 0) := by decide +kernel
theorem tX8_init_111 : gAt mX8_init 111 = some (.invokespecial 57, 3, 9998, 0, 0, 0) := by decide +kernel
theorem tX8_init_114 : gAt mX8_init 114 = some (.putfield 58, 3, 9, 12, 2, 200) := by decide +kernel
theorem tX8_init_117 : gAt mX8_init 117 = some (.aload_n 0, 1, 0, 0, 0, 0) := by decide +kernel
theorem tX8_init_118 : gAt mX8_init 118 = some (.new 55, 3, 6, 0, 0, 161) := by decide +kernel
theorem tX8_init_121 : gAt mX8_init 121 = some (.dup, 1, 0, 0, 0, 0) := by decide +kernel
theorem tX8_init_122 : gAt mX8_init 122 = some (.invokespecial 57, 3, 9998, 0, 0, 0) := by decide +kernel
theorem tX8_init_125 : gAt mX8_init 125 = some (.putfield 62, 3, 9, 13, 2, 201) := by decide +kernel
theorem tX8_init_128 : gAt mX8_init 128 = some (.aload_n 0, 1, 0, 0, 0, 0) := by decide +kernel
theorem tX8_init_129 : gAt mX8_init 129 = some (.getfield 13, 3, 9, 1, 2, 189) := by decide +kernel
theorem tX8_init_132 : gAt mX8_init 132 = some (.iconst 0, 1, 0, 0, 0, 0) := by decide +kernel
theorem tX8_init_133 : gAt mX8_init 133 = some (.iconst (-1), 1, 1, 1, 0, 0) := by decide +kernel
theorem tX8_init_134 : gAt mX8_init 134 = some (.iastore, 1, 12, 0, 0, 0) := by decide +kernel
theorem tX8_init_135 : gAt mX8_init 135 = some (.return_, 1, 0, 0, 0, 0) := by decide +kernel
set_option maxRecDepth 100000 in
theorem okX8_days : (gTb mX8_days).all (okE gF gNM mX8_days) = true := by decide +kernel
theorem pnX8_days : plainName (gY mX8_days).cls = true := by decide +kernel
theorem tX8_days_0 : gAt mX8_days 0 = some (.iload_n 1, 1, 0, 0, 0, 0) := by decide +kernel
theorem tX8_days_1 : gAt mX8_days 1 = some (.ifCond .lt 22, 3, 23, 0, 0, 0) := by decide +kernel
theorem tX8_days_4 : gAt mX8_days 4 = some (.iload_n 1, 1, 0, 0, 0, 0) := by decide +kernel
theorem tX8_days_5 : gAt mX8_days 5 = some (.sipush 500, 3, 500, 0, 0, 0) := by decide +kernel
theorem tX8_days_8 : gAt mX8_days 8 = some (.if_icmp .gt 15, 3, 23, 0, 0, 0) := by decide +kernel
theorem tX8_days_11 : gAt mX8_days 11 = some (.iload_n 1, 1, 0, 0, 0, 0) := by decide +kernel
theorem tX8_days_12 : gAt mX8_days 12 = some (.sipush 4999, 3, 4999, 0, 0, 0) := by decide +kernel
theorem tX8_days_15 : gAt mX8_days 15 = some (.aload_n 0, 1, 0, 0, 0, 0) := by decide +kernel
theorem tX8_days_16 : gAt mX8_days 16 = some (.getfield 7, 3, 9, 0, 0, 188) := by decide +kernel
theorem tX8_days_19 : gAt mX8_days 19 = some (.isub, 1, 0, 0, 0, 0) := by decide +kernel
theorem tX8_days_20 : gAt mX8_days 20 = some (.if_icmp .le 5, 3, 25, 0, 0, 0) := by decide +kernel
theorem tX8_days_23 : gAt mX8_days 23 = some (.iconst (-1), 1, 1, 1, 0, 0) := by decide +kernel
theorem tX8_days_24 : gAt mX8_days 24 = some (.ireturn, 1, 0, 0, 0, 0) := by decide +kernel
theorem tX8_days_25 : gAt mX8_days 25 = some (.aload_n 0, 1, 0, 0, 0, 0) := by decide +kernel
theorem tX8_days_26 : gAt mX8_days 26 = some (.dup, 1, 0, 0, 0, 0) := by decide +kernel
theorem tX8_days_27 : gAt mX8_days 27 = some (.getfield 7, 3, 9, 0, 0, 188) := by decide +kernel
theorem tX8_days_30 : gAt mX8_days 30 = some (.iload_n 1, 1, 0, 0, 0, 0) := by decide +kernel
theorem tX8_days_31 : gAt mX8_days 31 = some (.iadd, 1, 0, 0, 0, 0) := by decide +kernel
theorem tX8_days_32 : gAt mX8_days 32 = some (.putfield 7, 3, 9, 0, 0, 188) := by decide +kernel
theorem tX8_days_35 : gAt mX8_days 35 = some (.aload_n 0, 1, 0, 0, 0, 0) := by decide +kernel
theorem tX8_days_36 : gAt mX8_days 36 = some (.getfield 7, 3, 9, 0, 0, 188) := by decide +kernel
theorem tX8_days_39 : gAt mX8_days 39 = some (.ireturn, 1, 0, 0, 0, 0) := by decide +kernel
set_option maxRecDepth 100000 in
theorem okX8_folder : (gTb mX8_folder).all (okE gF gNM mX8_folder) = true := by decide +kernel
theorem pnX8_folder : plainName (gY mX8_folder).cls = true := by decide +kernel
theorem tX8_folder_0 : gAt mX8_folder 0 = some (.aload_n 0, 1, 0, 0, 0, 0) := by decide +kernel
theorem tX8_folder_1 : gAt mX8_folder 1 = some (.iload_n 1, 1, 0, 0, 0, 0) := by decide +kernel
theorem tX8_folder_2 : gAt mX8_folder 2 = some (.invokevirtual 65, 3, 83, 1, 9, 239) := by decide +kernel
theorem tX8_folder_5 : gAt mX8_folder 5 = some (.ifCond .eq 12, 3, 17, 0, 0, 0) := by decide +kernel
theorem tX8_folder_8 : gAt mX8_folder 8 = some (.aload_n 0, 1, 0, 0, 0, 0) := by decide +kernel
theorem tX8_folder_9 : gAt mX8_folder 9 = some (.getfield 17, 3, 9, 2, 0, 190) := by decide +kernel
theorem tX8_folder_12 : gAt mX8_folder 12 = some (.bipush 20, 2, 20, 0, 0, 0) := by decide +kernel
theorem tX8_folder_14 : gAt mX8_folder 14 = some (.if_icmp .lt 5, 3, 19, 0, 0, 0) := by decide +kernel
theorem tX8_folder_17 : gAt mX8_folder 17 = some (.iconst (-1), 1, 1, 1, 0, 0) := by decide +kernel
theorem tX8_folder_18 : gAt mX8_folder 18 = some (.ireturn, 1, 0, 0, 0, 0) := by decide +kernel
theorem tX8_folder_19 : gAt mX8_folder 19 = some (.aload_n 0, 1, 0, 0, 0, 0) := by decide +kernel
theorem tX8_folder_20 : gAt mX8_folder 20 = some (.getfield 13, 3, 9, 1, 2, 189) := by decide +kernel
theorem tX8_folder_23 : gAt mX8_folder 23 = some (.aload_n 0, 1, 0, 0, 0, 0) := by decide +kernel
theorem tX8_folder_24 : gAt mX8_folder 24 = some (.getfield 17, 3, 9, 2, 0, 190) := by decide +kernel
theorem tX8_folder_27 : gAt mX8_folder 27 = some (.iload_n 1, 1, 0, 0, 0, 0) := by decide +kernel
theorem tX8_folder_28 : gAt mX8_folder 28 = some (.iastore, 1, 12, 0, 0, 0) := by decide +kernel
theorem tX8_folder_29 : gAt mX8_folder 29 = some (.aload_n 0, 1, 0, 0, 0, 0) := by decide +kernel
theorem tX8_folder_30 : gAt mX8_folder 30 = some (.dup, 1, 0, 0, 0, 0) := by decide +kernel
theorem tX8_folder_31 : gAt mX8_folder 31 = some (.getfield 17, 3, 9, 2, 0, 190) := by decide +kernel
theorem tX8_folder_34 : gAt mX8_folder 34 = some (.iconst 1, 1, 1, 0, 0, 0) := by decide +kernel
theorem tX8_folder_35 : gAt mX8_folder 35 = some (.iadd, 1, 0, 0, 0, 0) := by decide +kernel
theorem tX8_folder_36 : gAt mX8_folder 36 = some (.putfield 17, 3, 9, 2, 0, 190) := by decide +kernel
theorem tX8_folder_39 : gAt mX8_folder 39 = some (.aload_n 0, 1, 0, 0, 0, 0) := by decide +kernel
theorem tX8_folder_40 : gAt mX8_folder 40 = some (.getfield 17, 3, 9, 2, 0, 190) := by decide +kernel
theorem tX8_folder_43 : gAt mX8_folder 43 = some (.iconst 1, 1, 1, 0, 0, 0) := by decide +kernel
theorem tX8_folder_44 : gAt mX8_folder 44 = some (.isub, 1, 0, 0, 0, 0) := by decide +kernel
theorem tX8_folder_45 : gAt mX8_folder 45 = some (.ireturn, 1, 0, 0, 0, 0) := by decide +kernel
set_option maxRecDepth 100000 in
theorem okX8_word : (gTb mX8_word).all (okE gF gNM mX8_word) = true := by decide +kernel
theorem pnX8_word : plainName (gY mX8_word).cls = true := by decide +kernel
theorem tX8_word_0 : gAt mX8_word 0 = some (.iload_n 1, 1, 0, 0, 0, 0) := by decide +kernel
theorem tX8_word_1 : gAt mX8_word 1 = some (.invokestatic 69, 3, 84, 1, 9, 247) := by decide +kernel
theorem tX8_word_4 : gAt mX8_word 4 = some (.ifCond .eq 12, 3, 16, 0, 0, 0) := by decide +kernel
theorem tX8_word_7 : gAt mX8_word 7 = some (.aload_n 0, 1, 0, 0, 0, 0) := by decide +kernel
theorem tX8_word_8 : gAt mX8_word 8 = some (.getfield 23, 3, 9, 4, 0, 192) := by decide +kernel
theorem tX8_word_11 : gAt mX8_word 11 = some (.bipush 12, 2, 12, 0, 0, 0) := by decide +kernel
theorem tX8_word_13 : gAt mX8_word 13 = some (.if_icmp .lt 5, 3, 18, 0, 0, 0) := by decide +kernel
theorem tX8_word_16 : gAt mX8_word 16 = some (.iconst (-1), 1, 1, 1, 0, 0) := by decide +kernel
theorem tX8_word_17 : gAt mX8_word 17 = some (.ireturn, 1, 0, 0, 0, 0) := by decide +kernel
theorem tX8_word_18 : gAt mX8_word 18 = some (.aload_n 0, 1, 0, 0, 0, 0) := by decide +kernel
theorem tX8_word_19 : gAt mX8_word 19 = some (.getfield 20, 3, 9, 3, 2, 191) := by decide +kernel
theorem tX8_word_22 : gAt mX8_word 22 = some (.aload_n 0, 1, 0, 0, 0, 0) := by decide +kernel
theorem tX8_word_23 : gAt mX8_word 23 = some (.getfield 23, 3, 9, 4, 0, 192) := by decide +kernel
theorem tX8_word_26 : gAt mX8_word 26 = some (.iload_n 1, 1, 0, 0, 0, 0) := by decide +kernel
theorem tX8_word_27 : gAt mX8_word 27 = some (.iastore, 1, 12, 0, 0, 0) := by decide +kernel
theorem tX8_word_28 : gAt mX8_word 28 = some (.aload_n 0, 1, 0, 0, 0, 0) := by decide +kernel
theorem tX8_word_29 : gAt mX8_word 29 = some (.dup, 1, 0, 0, 0, 0) := by decide +kernel
theorem tX8_word_30 : gAt mX8_word 30 = some (.getfield 23, 3, 9, 4, 0, 192) := by decide +kernel
theorem tX8_word_33 : gAt mX8_word 33 = some (.iconst 1, 1, 1, 0, 0, 0) := by decide +kernel
theorem tX8_word_34 : gAt mX8_word 34 = some (.iadd, 1, 0, 0, 0, 0) := by decide +kernel
theorem tX8_word_35 : gAt mX8_word 35 = some (.putfield 23, 3, 9, 4, 0, 192) := by decide +kernel
theorem tX8_word_38 : gAt mX8_word 38 = some (.aload_n 0, 1, 0, 0, 0, 0) := by decide +kernel
theorem tX8_word_39 : gAt mX8_word 39 = some (.getfield 23, 3, 9, 4, 0, 192) := by decide +kernel
theorem tX8_word_42 : gAt mX8_word 42 = some (.ireturn, 1, 0, 0, 0, 0) := by decide +kernel
set_option maxRecDepth 100000 in
theorem okX8_paper : (gTb mX8_paper).all (okE gF gNM mX8_paper) = true := by decide +kernel
theorem pnX8_paper : plainName (gY mX8_paper).cls = true := by decide +kernel
theorem tX8_paper_0 : gAt mX8_paper 0 = some (.aload_n 0, 1, 0, 0, 0, 0) := by decide +kernel
theorem tX8_paper_1 : gAt mX8_paper 1 = some (.iload_n 1, 1, 0, 0, 0, 0) := by decide +kernel
theorem tX8_paper_2 : gAt mX8_paper 2 = some (.invokevirtual 65, 3, 83, 1, 9, 239) := by decide +kernel
theorem tX8_paper_5 : gAt mX8_paper 5 = some (.ifCond .eq 15, 3, 20, 0, 0, 0) := by decide +kernel
theorem tX8_paper_8 : gAt mX8_paper 8 = some (.iload_n 2, 1, 0, 0, 0, 0) := by decide +kernel
theorem tX8_paper_9 : gAt mX8_paper 9 = some (.ifCond .lt 11, 3, 20, 0, 0, 0) := by decide +kernel
theorem tX8_paper_12 : gAt mX8_paper 12 = some (.iload_n 2, 1, 0, 0, 0, 0) := by decide +kernel
theorem tX8_paper_13 : gAt mX8_paper 13 = some (.aload_n 0, 1, 0, 0, 0, 0) := by decide +kernel
theorem tX8_paper_14 : gAt mX8_paper 14 = some (.getfield 7, 3, 9, 0, 0, 188) := by decide +kernel
theorem tX8_paper_17 : gAt mX8_paper 17 = some (.if_icmp .le 5, 3, 22, 0, 0, 0) := by decide +kernel
theorem tX8_paper_20 : gAt mX8_paper 20 = some (.iconst (-1), 1, 1, 1, 0, 0) := by decide +kernel
theorem tX8_paper_21 : gAt mX8_paper 21 = some (.ireturn, 1, 0, 0, 0, 0) := by decide +kernel
theorem tX8_paper_22 : gAt mX8_paper 22 = some (.aload_n 0, 1, 0, 0, 0, 0) := by decide +kernel
theorem tX8_paper_23 : gAt mX8_paper 23 = some (.invokevirtual 72, 3, 90, 0, 9, 254) := by decide +kernel
theorem tX8_paper_26 : gAt mX8_paper 26 = some (.ifCond .eq 15, 3, 41, 0, 0, 0) := by decide +kernel
theorem tX8_paper_29 : gAt mX8_paper 29 = some (.aload_n 0, 1, 0, 0, 0, 0) := by decide +kernel
theorem tX8_paper_30 : gAt mX8_paper 30 = some (.getfield 29, 3, 9, 5, 2, 193) := by decide +kernel
theorem tX8_paper_33 : gAt mX8_paper 33 = some (.invokevirtual 76, 3, 190, 0, 0, 258) := by decide +kernel
theorem tX8_paper_36 : gAt mX8_paper 36 = some (.bipush 40, 2, 40, 0, 0, 0) := by decide +kernel
theorem tX8_paper_38 : gAt mX8_paper 38 = some (.if_icmp .lt 5, 3, 43, 0, 0, 0) := by decide +kernel
theorem tX8_paper_41 : gAt mX8_paper 41 = some (.iconst (-1), 1, 1, 1, 0, 0) := by decide +kernel
theorem tX8_paper_42 : gAt mX8_paper 42 = some (.ireturn, 1, 0, 0, 0, 0) := by decide +kernel
theorem tX8_paper_43 : gAt mX8_paper 43 = some (.new 80, 3, 4, 0, 0, 262) := by decide +kernel
theorem tX8_paper_46 : gAt mX8_paper 46 = some (.dup, 1, 0, 0, 0, 0) := by decide +kernel
theorem tX8_paper_47 : gAt mX8_paper 47 = some (.aload_n 0, 1, 0, 0, 0, 0) := by decide +kernel
theorem tX8_paper_48 : gAt mX8_paper 48 = some (.getfield 29, 3, 9, 5, 2, 193) := by decide +kernel
theorem tX8_paper_51 : gAt mX8_paper 51 = some (.invokevirtual 76, 3, 190, 0, 0, 258) := by decide +kernel
theorem tX8_paper_54 : gAt mX8_paper 54 = some (.iload_n 1, 1, 0, 0, 0, 0) := by decide +kernel
theorem tX8_paper_55 : gAt mX8_paper 55 = some (.iload_n 2, 1, 0, 0, 0, 0) := by decide +kernel
theorem tX8_paper_56 : gAt mX8_paper 56 = some (.invokespecial 82, 3, 12, 3, 4, 264) := by decide +kernel
theorem tX8_paper_59 : gAt mX8_paper 59 = some (.astore_n 3, 1, 0, 0, 0, 0) := by decide +kernel
theorem tX8_paper_60 : gAt mX8_paper 60 = some (.aload_n 0, 1, 0, 0, 0, 0) := by decide +kernel
theorem tX8_paper_61 : gAt mX8_paper 61 = some (.getfield 29, 3, 9, 5, 2, 193) := by decide +kernel
theorem tX8_paper_64 : gAt mX8_paper 64 = some (.aload_n 3, 1, 0, 0, 0, 0) := by decide +kernel
theorem tX8_paper_65 : gAt mX8_paper 65 = some (.invokevirtual 85, 3, 194, 1, 0, 299) := by decide +kernel
theorem tX8_paper_68 : gAt mX8_paper 68 = some (.pop, 1, 0, 0, 0, 0) := by decide +kernel
theorem tX8_paper_69 : gAt mX8_paper 69 = some (.aload_n 0, 1, 0, 0, 0, 0) := by decide +kernel
theorem tX8_paper_70 : gAt mX8_paper 70 = some (.aload_n 3, 1, 0, 0, 0, 0) := by decide +kernel
theorem tX8_paper_71 : gAt mX8_paper 71 = some (.invokevirtual 89, 3, 91, 1, 9, 358) := by decide +kernel
theorem tX8_paper_74 : gAt mX8_paper 74 = some (.aload_n 3, 1, 0, 0, 0, 0) := by decide +kernel
theorem tX8_paper_75 : gAt mX8_paper 75 = some (.getfield 93, 3, 4, 0, 0, 271) := by decide +kernel
theorem tX8_paper_78 : gAt mX8_paper 78 = some (.ireturn, 1, 0, 0, 0, 0) := by decide +kernel
set_option maxRecDepth 100000 in
theorem okX8_page : (gTb mX8_page).all (okE gF gNM mX8_page) = true := by decide +kernel
theorem pnX8_page : plainName (gY mX8_page).cls = true := by decide +kernel
theorem tX8_page_0 : gAt mX8_page 0 = some (.aload_n 0, 1, 0, 0, 0, 0) := by decide +kernel
theorem tX8_page_1 : gAt mX8_page 1 = some (.iload_n 1, 1, 0, 0, 0, 0) := by decide +kernel
theorem tX8_page_2 : gAt mX8_page 2 = some (.invokevirtual 96, 3, 86, 1, 9, 459) := by decide +kernel
theorem tX8_page_5 : gAt mX8_page 5 = some (.astore_n 2, 1, 0, 0, 0, 0) := by decide +kernel
theorem tX8_page_6 : gAt mX8_page 6 = some (.aload_n 2, 1, 0, 0, 0, 0) := by decide +kernel
theorem tX8_page_7 : gAt mX8_page 7 = some (.ifnull 10, 3, 17, 0, 0, 0) := by decide +kernel
theorem tX8_page_10 : gAt mX8_page 10 = some (.aload_n 0, 1, 0, 0, 0, 0) := by decide +kernel
theorem tX8_page_11 : gAt mX8_page 11 = some (.invokevirtual 72, 3, 90, 0, 9, 254) := by decide +kernel
theorem tX8_page_14 : gAt mX8_page 14 = some (.ifCond .ne 5, 3, 19, 0, 0, 0) := by decide +kernel
theorem tX8_page_17 : gAt mX8_page 17 = some (.iconst (-1), 1, 1, 1, 0, 0) := by decide +kernel
theorem tX8_page_18 : gAt mX8_page 18 = some (.ireturn, 1, 0, 0, 0, 0) := by decide +kernel
theorem tX8_page_19 : gAt mX8_page 19 = some (.aload_n 0, 1, 0, 0, 0, 0) := by decide +kernel
theorem tX8_page_20 : gAt mX8_page 20 = some (.aload_n 2, 1, 0, 0, 0, 0) := by decide +kernel
theorem tX8_page_21 : gAt mX8_page 21 = some (.invokevirtual 89, 3, 91, 1, 9, 358) := by decide +kernel
theorem tX8_page_24 : gAt mX8_page 24 = some (.aload_n 0, 1, 0, 0, 0, 0) := by decide +kernel
theorem tX8_page_25 : gAt mX8_page 25 = some (.getfield 33, 3, 9, 6, 2, 194) := by decide +kernel
theorem tX8_page_28 : gAt mX8_page 28 = some (.invokevirtual 76, 3, 190, 0, 0, 258) := by decide +kernel
theorem tX8_page_31 : gAt mX8_page 31 = some (.iconst 1, 1, 1, 0, 0, 0) := by decide +kernel
theorem tX8_page_32 : gAt mX8_page 32 = some (.isub, 1, 0, 0, 0, 0) := by decide +kernel
theorem tX8_page_33 : gAt mX8_page 33 = some (.ireturn, 1, 0, 0, 0, 0) := by decide +kernel
set_option maxRecDepth 100000 in
theorem okX8_third : (gTb mX8_third).all (okE gF gNM mX8_third) = true := by decide +kernel
theorem pnX8_third : plainName (gY mX8_third).cls = true := by decide +kernel
theorem tX8_third_0 : gAt mX8_third 0 = some (.aload_n 0, 1, 0, 0, 0, 0) := by decide +kernel
theorem tX8_third_1 : gAt mX8_third 1 = some (.iload_n 1, 1, 0, 0, 0, 0) := by decide +kernel
theorem tX8_third_2 : gAt mX8_third 2 = some (.invokevirtual 96, 3, 86, 1, 9, 459) := by decide +kernel
theorem tX8_third_5 : gAt mX8_third 5 = some (.astore 4, 2, 0, 0, 0, 0) := by decide +kernel
theorem tX8_third_7 : gAt mX8_third 7 = some (.aload 4, 2, 0, 0, 0, 0) := by decide +kernel
theorem tX8_third_9 : gAt mX8_third 9 = some (.ifnull 10, 3, 19, 0, 0, 0) := by decide +kernel
theorem tX8_third_12 : gAt mX8_third 12 = some (.iload_n 2, 1, 0, 0, 0, 0) := by decide +kernel
theorem tX8_third_13 : gAt mX8_third 13 = some (.invokestatic 100, 3, 85, 1, 9, 467) := by decide +kernel
theorem tX8_third_16 : gAt mX8_third 16 = some (.ifCond .ne 5, 3, 21, 0, 0, 0) := by decide +kernel
theorem tX8_third_19 : gAt mX8_third 19 = some (.iconst 0, 1, 0, 0, 0, 0) := by decide +kernel
theorem tX8_third_20 : gAt mX8_third 20 = some (.ireturn, 1, 1, 0, 0, 0) := by decide +kernel
theorem tX8_third_21 : gAt mX8_third 21 = some (.iconst 1, 1, 1, 0, 0, 0) := by decide +kernel
theorem tX8_third_22 : gAt mX8_third 22 = some (.iload_n 2, 1, 0, 0, 0, 0) := by decide +kernel
theorem tX8_third_23 : gAt mX8_third 23 = some (.ishl, 1, 0, 0, 0, 0) := by decide +kernel
theorem tX8_third_24 : gAt mX8_third 24 = some (.istore 5, 2, 0, 0, 0, 0) := by decide +kernel
theorem tX8_third_26 : gAt mX8_third 26 = some (.aload 4, 2, 0, 0, 0, 0) := by decide +kernel
theorem tX8_third_28 : gAt mX8_third 28 = some (.iload_n 3, 1, 0, 0, 0, 0) := by decide +kernel
theorem tX8_third_29 : gAt mX8_third 29 = some (.ifCond .eq 14, 3, 43, 0, 0, 0) := by decide +kernel
theorem tX8_third_32 : gAt mX8_third 32 = some (.aload 4, 2, 0, 0, 0, 0) := by decide +kernel
theorem tX8_third_34 : gAt mX8_third 34 = some (.getfield 103, 3, 4, 4, 0, 282) := by decide +kernel
theorem tX8_third_37 : gAt mX8_third 37 = some (.iload 5, 2, 0, 0, 0, 0) := by decide +kernel
theorem tX8_third_39 : gAt mX8_third 39 = some (.ior, 1, 0, 0, 0, 0) := by decide +kernel
theorem tX8_third_40 : gAt mX8_third 40 = some (.goto 13, 3, 53, 0, 0, 0) := by decide +kernel
theorem tX8_third_43 : gAt mX8_third 43 = some (.aload 4, 2, 0, 0, 0, 0) := by decide +kernel
theorem tX8_third_45 : gAt mX8_third 45 = some (.getfield 103, 3, 4, 4, 0, 282) := by decide +kernel
theorem tX8_third_48 : gAt mX8_third 48 = some (.iload 5, 2, 0, 0, 0, 0) := by decide +kernel
theorem tX8_third_50 : gAt mX8_third 50 = some (.iconst (-1), 1, 1, 1, 0, 0) := by decide +kernel
theorem tX8_third_51 : gAt mX8_third 51 = some (.ixor, 1, 0, 0, 0, 0) := by decide +kernel
theorem tX8_third_52 : gAt mX8_third 52 = some (.iand, 1, 0, 0, 0, 0) := by decide +kernel
theorem tX8_third_53 : gAt mX8_third 53 = some (.putfield 103, 3, 4, 4, 0, 282) := by decide +kernel
theorem tX8_third_56 : gAt mX8_third 56 = some (.iconst 1, 1, 1, 0, 0, 0) := by decide +kernel
theorem tX8_third_57 : gAt mX8_third 57 = some (.ireturn, 1, 1, 0, 0, 0) := by decide +kernel
set_option maxRecDepth 100000 in
theorem okX8_heard : (gTb mX8_heard).all (okE gF gNM mX8_heard) = true := by decide +kernel
theorem pnX8_heard : plainName (gY mX8_heard).cls = true := by decide +kernel
theorem tX8_heard_0 : gAt mX8_heard 0 = some (.iload_n 1, 1, 0, 0, 0, 0) := by decide +kernel
theorem tX8_heard_1 : gAt mX8_heard 1 = some (.invokestatic 100, 3, 85, 1, 9, 467) := by decide +kernel
theorem tX8_heard_4 : gAt mX8_heard 4 = some (.ifCond .eq 14, 3, 18, 0, 0, 0) := by decide +kernel
theorem tX8_heard_7 : gAt mX8_heard 7 = some (.aload_n 0, 1, 0, 0, 0, 0) := by decide +kernel
theorem tX8_heard_8 : gAt mX8_heard 8 = some (.getfield 45, 3, 9, 10, 0, 198) := by decide +kernel
theorem tX8_heard_11 : gAt mX8_heard 11 = some (.iload_n 1, 1, 0, 0, 0, 0) := by decide +kernel
theorem tX8_heard_12 : gAt mX8_heard 12 = some (.ishr, 1, 0, 0, 0, 0) := by decide +kernel
theorem tX8_heard_13 : gAt mX8_heard 13 = some (.iconst 1, 1, 1, 0, 0, 0) := by decide +kernel
theorem tX8_heard_14 : gAt mX8_heard 14 = some (.iand, 1, 0, 0, 0, 0) := by decide +kernel
theorem tX8_heard_15 : gAt mX8_heard 15 = some (.ifCond .eq 5, 3, 20, 0, 0, 0) := by decide +kernel
theorem tX8_heard_18 : gAt mX8_heard 18 = some (.iconst 0, 1, 0, 0, 0, 0) := by decide +kernel
theorem tX8_heard_19 : gAt mX8_heard 19 = some (.ireturn, 1, 1, 0, 0, 0) := by decide +kernel
theorem tX8_heard_20 : gAt mX8_heard 20 = some (.aload_n 0, 1, 0, 0, 0, 0) := by decide +kernel
theorem tX8_heard_21 : gAt mX8_heard 21 = some (.dup, 1, 0, 0, 0, 0) := by decide +kernel
theorem tX8_heard_22 : gAt mX8_heard 22 = some (.getfield 45, 3, 9, 10, 0, 198) := by decide +kernel
theorem tX8_heard_25 : gAt mX8_heard 25 = some (.iconst 1, 1, 1, 0, 0, 0) := by decide +kernel
theorem tX8_heard_26 : gAt mX8_heard 26 = some (.iload_n 1, 1, 0, 0, 0, 0) := by decide +kernel
theorem tX8_heard_27 : gAt mX8_heard 27 = some (.ishl, 1, 0, 0, 0, 0) := by decide +kernel
theorem tX8_heard_28 : gAt mX8_heard 28 = some (.ior, 1, 0, 0, 0, 0) := by decide +kernel
theorem tX8_heard_29 : gAt mX8_heard 29 = some (.putfield 45, 3, 9, 10, 0, 198) := by decide +kernel
theorem tX8_heard_32 : gAt mX8_heard 32 = some (.iconst 1, 1, 1, 0, 0, 0) := by decide +kernel
theorem tX8_heard_33 : gAt mX8_heard 33 = some (.ireturn, 1, 1, 0, 0, 0) := by decide +kernel
set_option maxRecDepth 100000 in
theorem okX8_judge : (gTb mX8_judge).all (okE gF gNM mX8_judge) = true := by decide +kernel
theorem pnX8_judge : plainName (gY mX8_judge).cls = true := by decide +kernel
theorem tX8_judge_0 : gAt mX8_judge 0 = some (.aload_n 0, 1, 0, 0, 0, 0) := by decide +kernel
theorem tX8_judge_1 : gAt mX8_judge 1 = some (.iload_n 1, 1, 0, 0, 0, 0) := by decide +kernel
theorem tX8_judge_2 : gAt mX8_judge 2 = some (.invokevirtual 106, 3, 87, 1, 9, 478) := by decide +kernel
theorem tX8_judge_5 : gAt mX8_judge 5 = some (.astore_n 3, 1, 0, 0, 0, 0) := by decide +kernel
theorem tX8_judge_6 : gAt mX8_judge 6 = some (.aload_n 3, 1, 0, 0, 0, 0) := by decide +kernel
theorem tX8_judge_7 : gAt mX8_judge 7 = some (.ifnonnull 5, 3, 12, 0, 0, 0) := by decide +kernel
theorem tX8_judge_10 : gAt mX8_judge 10 = some (.iconst 0, 1, 0, 0, 0, 0) := by decide +kernel
theorem tX8_judge_11 : gAt mX8_judge 11 = some (.ireturn, 1, 1, 0, 0, 0) := by decide +kernel
theorem tX8_judge_12 : gAt mX8_judge 12 = some (.aload_n 3, 1, 0, 0, 0, 0) := by decide +kernel
theorem tX8_judge_13 : gAt mX8_judge 13 = some (.iload_n 2, 1, 0, 0, 0, 0) := by decide +kernel
theorem tX8_judge_14 : gAt mX8_judge 14 = some (.putfield 110, 3, 8, 2, 1, 408) := by decide +kernel
theorem tX8_judge_17 : gAt mX8_judge 17 = some (.iconst 1, 1, 1, 0, 0, 0) := by decide +kernel
theorem tX8_judge_18 : gAt mX8_judge 18 = some (.ireturn, 1, 1, 0, 0, 0) := by decide +kernel
set_option maxRecDepth 100000 in
theorem okX8_black : (gTb mX8_black).all (okE gF gNM mX8_black) = true := by decide +kernel
theorem pnX8_black : plainName (gY mX8_black).cls = true := by decide +kernel
theorem tX8_black_0 : gAt mX8_black 0 = some (.aload_n 0, 1, 0, 0, 0, 0) := by decide +kernel
theorem tX8_black_1 : gAt mX8_black 1 = some (.iload_n 1, 1, 0, 0, 0, 0) := by decide +kernel
theorem tX8_black_2 : gAt mX8_black 2 = some (.invokevirtual 106, 3, 87, 1, 9, 478) := by decide +kernel
theorem tX8_black_5 : gAt mX8_black 5 = some (.astore 5, 2, 0, 0, 0, 0) := by decide +kernel
theorem tX8_black_7 : gAt mX8_black 7 = some (.aload 5, 2, 0, 0, 0, 0) := by decide +kernel
theorem tX8_black_9 : gAt mX8_black 9 = some (.ifnull 15, 3, 24, 0, 0, 0) := by decide +kernel
theorem tX8_black_12 : gAt mX8_black 12 = some (.iload 4, 2, 0, 0, 0, 0) := by decide +kernel
theorem tX8_black_14 : gAt mX8_black 14 = some (.ifCond .lt 10, 3, 24, 0, 0, 0) := by decide +kernel
theorem tX8_black_17 : gAt mX8_black 17 = some (.iload 4, 2, 0, 0, 0, 0) := by decide +kernel
theorem tX8_black_19 : gAt mX8_black 19 = some (.bipush 9, 2, 9, 0, 0, 0) := by decide +kernel
theorem tX8_black_21 : gAt mX8_black 21 = some (.if_icmp .le 5, 3, 26, 0, 0, 0) := by decide +kernel
theorem tX8_black_24 : gAt mX8_black 24 = some (.iconst (-1), 1, 1, 1, 0, 0) := by decide +kernel
theorem tX8_black_25 : gAt mX8_black 25 = some (.ireturn, 1, 0, 0, 0, 0) := by decide +kernel
theorem tX8_black_26 : gAt mX8_black 26 = some (.iload_n 2, 1, 0, 0, 0, 0) := by decide +kernel
theorem tX8_black_27 : gAt mX8_black 27 = some (.ifCond .lt 27, 3, 54, 0, 0, 0) := by decide +kernel
theorem tX8_black_30 : gAt mX8_black 30 = some (.iload_n 2, 1, 0, 0, 0, 0) := by decide +kernel
theorem tX8_black_31 : gAt mX8_black 31 = some (.iload_n 3, 1, 0, 0, 0, 0) := by decide +kernel
theorem tX8_black_32 : gAt mX8_black 32 = some (.if_icmp .gt 22, 3, 54, 0, 0, 0) := by decide +kernel
theorem tX8_black_35 : gAt mX8_black 35 = some (.iload_n 3, 1, 0, 0, 0, 0) := by decide +kernel
theorem tX8_black_36 : gAt mX8_black 36 = some (.aload 5, 2, 0, 0, 0, 0) := by decide +kernel
theorem tX8_black_38 : gAt mX8_black 38 = some (.getfield 116, 3, 8, 1, 2, 406) := by decide +kernel
theorem tX8_black_41 : gAt mX8_black 41 = some (.arraylength, 1, 12, 0, 0, 0) := by decide +kernel
theorem tX8_black_42 : gAt mX8_black 42 = some (.if_icmp .ge 12, 3, 54, 0, 0, 0) := by decide +kernel
theorem tX8_black_45 : gAt mX8_black 45 = some (.aload 5, 2, 0, 0, 0, 0) := by decide +kernel
theorem tX8_black_47 : gAt mX8_black 47 = some (.getfield 119, 3, 8, 5, 0, 413) := by decide +kernel
theorem tX8_black_50 : gAt mX8_black 50 = some (.iconst 4, 1, 4, 0, 0, 0) := by decide +kernel
theorem tX8_black_51 : gAt mX8_black 51 = some (.if_icmp .lt 5, 3, 56, 0, 0, 0) := by decide +kernel
theorem tX8_black_54 : gAt mX8_black 54 = some (.iconst (-1), 1, 1, 1, 0, 0) := by decide +kernel
theorem tX8_black_55 : gAt mX8_black 55 = some (.ireturn, 1, 0, 0, 0, 0) := by decide +kernel
theorem tX8_black_56 : gAt mX8_black 56 = some (.aload 5, 2, 0, 0, 0, 0) := by decide +kernel
theorem tX8_black_58 : gAt mX8_black 58 = some (.iload_n 2, 1, 0, 0, 0, 0) := by decide +kernel
theorem tX8_black_59 : gAt mX8_black 59 = some (.iload_n 3, 1, 0, 0, 0, 0) := by decide +kernel
theorem tX8_black_60 : gAt mX8_black 60 = some (.iload 4, 2, 0, 0, 0, 0) := by decide +kernel
theorem tX8_black_62 : gAt mX8_black 62 = some (.invokevirtual 122, 3, 53, 3, 8, 486) := by decide +kernel
theorem tX8_black_65 : gAt mX8_black 65 = some (.aload 5, 2, 0, 0, 0, 0) := by decide +kernel
theorem tX8_black_67 : gAt mX8_black 67 = some (.getfield 119, 3, 8, 5, 0, 413) := by decide +kernel
theorem tX8_black_70 : gAt mX8_black 70 = some (.ireturn, 1, 0, 0, 0, 0) := by decide +kernel
set_option maxRecDepth 100000 in
theorem okX8_clear : (gTb mX8_clear).all (okE gF gNM mX8_clear) = true := by decide +kernel
theorem pnX8_clear : plainName (gY mX8_clear).cls = true := by decide +kernel
theorem tX8_clear_0 : gAt mX8_clear 0 = some (.aload_n 0, 1, 0, 0, 0, 0) := by decide +kernel
theorem tX8_clear_1 : gAt mX8_clear 1 = some (.iload_n 1, 1, 0, 0, 0, 0) := by decide +kernel
theorem tX8_clear_2 : gAt mX8_clear 2 = some (.invokevirtual 106, 3, 87, 1, 9, 478) := by decide +kernel
theorem tX8_clear_5 : gAt mX8_clear 5 = some (.astore_n 3, 1, 0, 0, 0, 0) := by decide +kernel
theorem tX8_clear_6 : gAt mX8_clear 6 = some (.aload_n 3, 1, 0, 0, 0, 0) := by decide +kernel
theorem tX8_clear_7 : gAt mX8_clear 7 = some (.ifnull 15, 3, 22, 0, 0, 0) := by decide +kernel
theorem tX8_clear_10 : gAt mX8_clear 10 = some (.iload_n 2, 1, 0, 0, 0, 0) := by decide +kernel
theorem tX8_clear_11 : gAt mX8_clear 11 = some (.ifCond .lt 11, 3, 22, 0, 0, 0) := by decide +kernel
theorem tX8_clear_14 : gAt mX8_clear 14 = some (.iload_n 2, 1, 0, 0, 0, 0) := by decide +kernel
theorem tX8_clear_15 : gAt mX8_clear 15 = some (.aload_n 3, 1, 0, 0, 0, 0) := by decide +kernel
theorem tX8_clear_16 : gAt mX8_clear 16 = some (.getfield 119, 3, 8, 5, 0, 413) := by decide +kernel
theorem tX8_clear_19 : gAt mX8_clear 19 = some (.if_icmp .lt 5, 3, 24, 0, 0, 0) := by decide +kernel
theorem tX8_clear_22 : gAt mX8_clear 22 = some (.iconst 0, 1, 0, 0, 0, 0) := by decide +kernel
theorem tX8_clear_23 : gAt mX8_clear 23 = some (.ireturn, 1, 1, 0, 0, 0) := by decide +kernel
theorem tX8_clear_24 : gAt mX8_clear 24 = some (.aload_n 3, 1, 0, 0, 0, 0) := by decide +kernel
theorem tX8_clear_25 : gAt mX8_clear 25 = some (.iload_n 2, 1, 0, 0, 0, 0) := by decide +kernel
theorem tX8_clear_26 : gAt mX8_clear 26 = some (.invokevirtual 125, 3, 54, 1, 8, 494) := by decide +kernel
theorem tX8_clear_29 : gAt mX8_clear 29 = some (.iconst 1, 1, 1, 0, 0, 0) := by decide +kernel
theorem tX8_clear_30 : gAt mX8_clear 30 = some (.ireturn, 1, 1, 0, 0, 0) := by decide +kernel
set_option maxRecDepth 100000 in
theorem okX8_feed : (gTb mX8_feed).all (okE gF gNM mX8_feed) = true := by decide +kernel
theorem pnX8_feed : plainName (gY mX8_feed).cls = true := by decide +kernel
theorem tX8_feed_0 : gAt mX8_feed 0 = some (.aload_n 0, 1, 0, 0, 0, 0) := by decide +kernel
theorem tX8_feed_1 : gAt mX8_feed 1 = some (.getfield 51, 3, 9, 11, 2, 199) := by decide +kernel
theorem tX8_feed_4 : gAt mX8_feed 4 = some (.lload_n 1, 1, 0, 0, 0, 0) := by decide +kernel
theorem tX8_feed_5 : gAt mX8_feed 5 = some (.invokevirtual 129, 3, 34, 1, 7, 503) := by decide +kernel
theorem tX8_feed_8 : gAt mX8_feed 8 = some (.aload_n 0, 1, 0, 0, 0, 0) := by decide +kernel
theorem tX8_feed_9 : gAt mX8_feed 9 = some (.getfield 51, 3, 9, 11, 2, 199) := by decide +kernel
theorem tX8_feed_12 : gAt mX8_feed 12 = some (.lload_n 3, 1, 0, 0, 0, 0) := by decide +kernel
theorem tX8_feed_13 : gAt mX8_feed 13 = some (.invokevirtual 129, 3, 34, 1, 7, 503) := by decide +kernel
theorem tX8_feed_16 : gAt mX8_feed 16 = some (.aload_n 0, 1, 0, 0, 0, 0) := by decide +kernel
theorem tX8_feed_17 : gAt mX8_feed 17 = some (.getfield 51, 3, 9, 11, 2, 199) := by decide +kernel
theorem tX8_feed_20 : gAt mX8_feed 20 = some (.lload 5, 2, 0, 0, 0, 0) := by decide +kernel
theorem tX8_feed_22 : gAt mX8_feed 22 = some (.invokevirtual 129, 3, 34, 1, 7, 503) := by decide +kernel
theorem tX8_feed_25 : gAt mX8_feed 25 = some (.aload_n 0, 1, 0, 0, 0, 0) := by decide +kernel
theorem tX8_feed_26 : gAt mX8_feed 26 = some (.getfield 51, 3, 9, 11, 2, 199) := by decide +kernel
theorem tX8_feed_29 : gAt mX8_feed 29 = some (.getfield 133, 3, 7, 1, 0, 148) := by decide +kernel
theorem tX8_feed_32 : gAt mX8_feed 32 = some (.ireturn, 1, 0, 0, 0, 0) := by decide +kernel
set_option maxRecDepth 100000 in
theorem okX8_rules : (gTb mX8_rules).all (okE gF gNM mX8_rules) = true := by decide +kernel
theorem pnX8_rules : plainName (gY mX8_rules).cls = true := by decide +kernel
theorem tX8_rules_0 : gAt mX8_rules 0 = some (.new 136, 3, 5, 0, 0, 516) := by decide +kernel
theorem tX8_rules_3 : gAt mX8_rules 3 = some (.dup, 1, 0, 0, 0, 0) := by decide +kernel
theorem tX8_rules_4 : gAt mX8_rules 4 = some (.aload_n 0, 1, 0, 0, 0, 0) := by decide +kernel
theorem tX8_rules_5 : gAt mX8_rules 5 = some (.getfield 51, 3, 9, 11, 2, 199) := by decide +kernel
theorem tX8_rules_8 : gAt mX8_rules 8 = some (.aload_n 0, 1, 0, 0, 0, 0) := by decide +kernel
theorem tX8_rules_9 : gAt mX8_rules 9 = some (.getfield 62, 3, 9, 13, 2, 201) := by decide +kernel
theorem tX8_rules_12 : gAt mX8_rules 12 = some (.invokespecial 138, 3, 14, 2, 5, 518) := by decide +kernel
theorem tX8_rules_15 : gAt mX8_rules 15 = some (.invokevirtual 141, 3, 15, 0, 5, 538) := by decide +kernel
theorem tX8_rules_18 : gAt mX8_rules 18 = some (.istore_n 1, 1, 0, 0, 0, 0) := by decide +kernel
theorem tX8_rules_19 : gAt mX8_rules 19 = some (.aload_n 0, 1, 0, 0, 0, 0) := by decide +kernel
theorem tX8_rules_20 : gAt mX8_rules 20 = some (.getfield 51, 3, 9, 11, 2, 199) := by decide +kernel
theorem tX8_rules_23 : gAt mX8_rules 23 = some (.invokevirtual 144, 3, 36, 0, 7, 688) := by decide +kernel
theorem tX8_rules_26 : gAt mX8_rules 26 = some (.iload_n 1, 1, 0, 0, 0, 0) := by decide +kernel
theorem tX8_rules_27 : gAt mX8_rules 27 = some (.ifCond .ne 21, 3, 48, 0, 0, 0) := by decide +kernel
theorem tX8_rules_30 : gAt mX8_rules 30 = some (.aload_n 0, 1, 0, 0, 0, 0) := by decide +kernel
theorem tX8_rules_31 : gAt mX8_rules 31 = some (.getfield 58, 3, 9, 12, 2, 200) := by decide +kernel
theorem tX8_rules_34 : gAt mX8_rules 34 = some (.astore_n 2, 1, 0, 0, 0, 0) := by decide +kernel
theorem tX8_rules_35 : gAt mX8_rules 35 = some (.aload_n 0, 1, 0, 0, 0, 0) := by decide +kernel
theorem tX8_rules_36 : gAt mX8_rules 36 = some (.aload_n 0, 1, 0, 0, 0, 0) := by decide +kernel
theorem tX8_rules_37 : gAt mX8_rules 37 = some (.getfield 62, 3, 9, 13, 2, 201) := by decide +kernel
theorem tX8_rules_40 : gAt mX8_rules 40 = some (.putfield 58, 3, 9, 12, 2, 200) := by decide +kernel
theorem tX8_rules_43 : gAt mX8_rules 43 = some (.aload_n 0, 1, 0, 0, 0, 0) := by decide +kernel
theorem tX8_rules_44 : gAt mX8_rules 44 = some (.aload_n 2, 1, 0, 0, 0, 0) := by decide +kernel
theorem tX8_rules_45 : gAt mX8_rules 45 = some (.putfield 62, 3, 9, 13, 2, 201) := by decide +kernel
theorem tX8_rules_48 : gAt mX8_rules 48 = some (.iload_n 1, 1, 0, 0, 0, 0) := by decide +kernel
theorem tX8_rules_49 : gAt mX8_rules 49 = some (.ireturn, 1, 0, 0, 0, 0) := by decide +kernel
set_option maxRecDepth 100000 in
theorem okX8_ask : (gTb mX8_ask).all (okE gF gNM mX8_ask) = true := by decide +kernel
theorem pnX8_ask : plainName (gY mX8_ask).cls = true := by decide +kernel
theorem tX8_ask_0 : gAt mX8_ask 0 = some (.aload_n 0, 1, 0, 0, 0, 0) := by decide +kernel
theorem tX8_ask_1 : gAt mX8_ask 1 = some (.iload_n 1, 1, 0, 0, 0, 0) := by decide +kernel
theorem tX8_ask_2 : gAt mX8_ask 2 = some (.invokevirtual 65, 3, 83, 1, 9, 239) := by decide +kernel
theorem tX8_ask_5 : gAt mX8_ask 5 = some (.ifCond .eq 19, 3, 24, 0, 0, 0) := by decide +kernel
theorem tX8_ask_8 : gAt mX8_ask 8 = some (.iload_n 2, 1, 0, 0, 0, 0) := by decide +kernel
theorem tX8_ask_9 : gAt mX8_ask 9 = some (.ifCond .lt 15, 3, 24, 0, 0, 0) := by decide +kernel
theorem tX8_ask_12 : gAt mX8_ask 12 = some (.iload_n 2, 1, 0, 0, 0, 0) := by decide +kernel
theorem tX8_ask_13 : gAt mX8_ask 13 = some (.iload_n 3, 1, 0, 0, 0, 0) := by decide +kernel
theorem tX8_ask_14 : gAt mX8_ask 14 = some (.if_icmp .gt 10, 3, 24, 0, 0, 0) := by decide +kernel
theorem tX8_ask_17 : gAt mX8_ask 17 = some (.iload_n 3, 1, 0, 0, 0, 0) := by decide +kernel
theorem tX8_ask_18 : gAt mX8_ask 18 = some (.sipush 4999, 3, 4999, 0, 0, 0) := by decide +kernel
theorem tX8_ask_21 : gAt mX8_ask 21 = some (.if_icmp .le 5, 3, 26, 0, 0, 0) := by decide +kernel
theorem tX8_ask_24 : gAt mX8_ask 24 = some (.iconst (-1), 1, 1, 1, 0, 0) := by decide +kernel
theorem tX8_ask_25 : gAt mX8_ask 25 = some (.ireturn, 1, 0, 0, 0, 0) := by decide +kernel
theorem tX8_ask_26 : gAt mX8_ask 26 = some (.aload_n 0, 1, 0, 0, 0, 0) := by decide +kernel
theorem tX8_ask_27 : gAt mX8_ask 27 = some (.getfield 23, 3, 9, 4, 0, 192) := by decide +kernel
theorem tX8_ask_30 : gAt mX8_ask 30 = some (.iconst 4, 1, 4, 0, 0, 0) := by decide +kernel
theorem tX8_ask_31 : gAt mX8_ask 31 = some (.if_icmp .gt 15, 3, 46, 0, 0, 0) := by decide +kernel
theorem tX8_ask_34 : gAt mX8_ask 34 = some (.aload_n 0, 1, 0, 0, 0, 0) := by decide +kernel
theorem tX8_ask_35 : gAt mX8_ask 35 = some (.getfield 39, 3, 9, 8, 2, 196) := by decide +kernel
theorem tX8_ask_38 : gAt mX8_ask 38 = some (.invokevirtual 76, 3, 190, 0, 0, 258) := by decide +kernel
theorem tX8_ask_41 : gAt mX8_ask 41 = some (.bipush 20, 2, 20, 0, 0, 0) := by decide +kernel
theorem tX8_ask_43 : gAt mX8_ask 43 = some (.if_icmp .lt 5, 3, 48, 0, 0, 0) := by decide +kernel
theorem tX8_ask_46 : gAt mX8_ask 46 = some (.iconst (-1), 1, 1, 1, 0, 0) := by decide +kernel
theorem tX8_ask_47 : gAt mX8_ask 47 = some (.ireturn, 1, 0, 0, 0, 0) := by decide +kernel
theorem tX8_ask_48 : gAt mX8_ask 48 = some (.new 147, 3, 1, 0, 0, 697) := by decide +kernel
theorem tX8_ask_51 : gAt mX8_ask 51 = some (.dup, 1, 0, 0, 0, 0) := by decide +kernel
theorem tX8_ask_52 : gAt mX8_ask 52 = some (.aload_n 0, 1, 0, 0, 0, 0) := by decide +kernel
theorem tX8_ask_53 : gAt mX8_ask 53 = some (.getfield 39, 3, 9, 8, 2, 196) := by decide +kernel
theorem tX8_ask_56 : gAt mX8_ask 56 = some (.invokevirtual 76, 3, 190, 0, 0, 258) := by decide +kernel
theorem tX8_ask_59 : gAt mX8_ask 59 = some (.iload_n 1, 1, 0, 0, 0, 0) := by decide +kernel
theorem tX8_ask_60 : gAt mX8_ask 60 = some (.iload_n 2, 1, 0, 0, 0, 0) := by decide +kernel
theorem tX8_ask_61 : gAt mX8_ask 61 = some (.iload_n 3, 1, 0, 0, 0, 0) := by decide +kernel
theorem tX8_ask_62 : gAt mX8_ask 62 = some (.aload_n 0, 1, 0, 0, 0, 0) := by decide +kernel
theorem tX8_ask_63 : gAt mX8_ask 63 = some (.getfield 7, 3, 9, 0, 0, 188) := by decide +kernel
theorem tX8_ask_66 : gAt mX8_ask 66 = some (.invokespecial 149, 3, 0, 5, 1, 699) := by decide +kernel
theorem tX8_ask_69 : gAt mX8_ask 69 = some (.astore 4, 2, 0, 0, 0, 0) := by decide +kernel
theorem tX8_ask_71 : gAt mX8_ask 71 = some (.iconst 0, 1, 0, 0, 0, 0) := by decide +kernel
theorem tX8_ask_72 : gAt mX8_ask 72 = some (.istore 5, 2, 0, 0, 0, 0) := by decide +kernel
theorem tX8_ask_74 : gAt mX8_ask 74 = some (.iload 5, 2, 0, 0, 0, 0) := by decide +kernel
theorem tX8_ask_76 : gAt mX8_ask 76 = some (.aload_n 0, 1, 0, 0, 0, 0) := by decide +kernel
theorem tX8_ask_77 : gAt mX8_ask 77 = some (.getfield 23, 3, 9, 4, 0, 192) := by decide +kernel
theorem tX8_ask_80 : gAt mX8_ask 80 = some (.if_icmp .ge 21, 3, 101, 0, 0, 0) := by decide +kernel
theorem tX8_ask_83 : gAt mX8_ask 83 = some (.aload 4, 2, 0, 0, 0, 0) := by decide +kernel
theorem tX8_ask_85 : gAt mX8_ask 85 = some (.aload_n 0, 1, 0, 0, 0, 0) := by decide +kernel
theorem tX8_ask_86 : gAt mX8_ask 86 = some (.getfield 20, 3, 9, 3, 2, 191) := by decide +kernel
theorem tX8_ask_89 : gAt mX8_ask 89 = some (.iload 5, 2, 0, 0, 0, 0) := by decide +kernel
theorem tX8_ask_91 : gAt mX8_ask 91 = some (.iaload, 1, 12, 0, 0, 0) := by decide +kernel
theorem tX8_ask_92 : gAt mX8_ask 92 = some (.invokevirtual 152, 3, 1, 1, 1, 751) := by decide +kernel
theorem tX8_ask_95 : gAt mX8_ask 95 = some (.iinc 5 1, 3, 1, 0, 0, 0) := by decide +kernel
theorem tX8_ask_98 : gAt mX8_ask 98 = some (.goto (-24), 3, 74, 0, 0, 0) := by decide +kernel
theorem tX8_ask_101 : gAt mX8_ask 101 = some (.aload_n 0, 1, 0, 0, 0, 0) := by decide +kernel
theorem tX8_ask_102 : gAt mX8_ask 102 = some (.iconst 0, 1, 0, 0, 0, 0) := by decide +kernel
theorem tX8_ask_103 : gAt mX8_ask 103 = some (.putfield 23, 3, 9, 4, 0, 192) := by decide +kernel
theorem tX8_ask_106 : gAt mX8_ask 106 = some (.aload 4, 2, 0, 0, 0, 0) := by decide +kernel
theorem tX8_ask_108 : gAt mX8_ask 108 = some (.aload_n 0, 1, 0, 0, 0, 0) := by decide +kernel
theorem tX8_ask_109 : gAt mX8_ask 109 = some (.aload 4, 2, 0, 0, 0, 0) := by decide +kernel
theorem tX8_ask_111 : gAt mX8_ask 111 = some (.invokevirtual 155, 3, 94, 1, 9, 755) := by decide +kernel
theorem tX8_ask_114 : gAt mX8_ask 114 = some (.putfield 159, 3, 1, 7, 0, 719) := by decide +kernel
theorem tX8_ask_117 : gAt mX8_ask 117 = some (.aload_n 0, 1, 0, 0, 0, 0) := by decide +kernel
theorem tX8_ask_118 : gAt mX8_ask 118 = some (.getfield 39, 3, 9, 8, 2, 196) := by decide +kernel
theorem tX8_ask_121 : gAt mX8_ask 121 = some (.aload 4, 2, 0, 0, 0, 0) := by decide +kernel
theorem tX8_ask_123 : gAt mX8_ask 123 = some (.invokevirtual 85, 3, 194, 1, 0, 299) := by decide +kernel
theorem tX8_ask_126 : gAt mX8_ask 126 = some (.pop, 1, 0, 0, 0, 0) := by decide +kernel
theorem tX8_ask_127 : gAt mX8_ask 127 = some (.aload 4, 2, 0, 0, 0, 0) := by decide +kernel
theorem tX8_ask_129 : gAt mX8_ask 129 = some (.getfield 162, 3, 1, 0, 0, 705) := by decide +kernel
theorem tX8_ask_132 : gAt mX8_ask 132 = some (.ireturn, 1, 0, 0, 0, 0) := by decide +kernel
set_option maxRecDepth 100000 in
theorem okX8_narrow : (gTb mX8_narrow).all (okE gF gNM mX8_narrow) = true := by decide +kernel
theorem pnX8_narrow : plainName (gY mX8_narrow).cls = true := by decide +kernel
theorem tX8_narrow_0 : gAt mX8_narrow 0 = some (.aload_n 0, 1, 0, 0, 0, 0) := by decide +kernel
theorem tX8_narrow_1 : gAt mX8_narrow 1 = some (.iload_n 1, 1, 0, 0, 0, 0) := by decide +kernel
theorem tX8_narrow_2 : gAt mX8_narrow 2 = some (.invokevirtual 163, 3, 88, 1, 9, 775) := by decide +kernel
theorem tX8_narrow_5 : gAt mX8_narrow 5 = some (.astore_n 3, 1, 0, 0, 0, 0) := by decide +kernel
theorem tX8_narrow_6 : gAt mX8_narrow 6 = some (.aload_n 3, 1, 0, 0, 0, 0) := by decide +kernel
theorem tX8_narrow_7 : gAt mX8_narrow 7 = some (.ifnull 26, 3, 33, 0, 0, 0) := by decide +kernel
theorem tX8_narrow_10 : gAt mX8_narrow 10 = some (.iload_n 2, 1, 0, 0, 0, 0) := by decide +kernel
theorem tX8_narrow_11 : gAt mX8_narrow 11 = some (.invokestatic 69, 3, 84, 1, 9, 247) := by decide +kernel
theorem tX8_narrow_14 : gAt mX8_narrow 14 = some (.ifCond .eq 19, 3, 33, 0, 0, 0) := by decide +kernel
theorem tX8_narrow_17 : gAt mX8_narrow 17 = some (.aload_n 3, 1, 0, 0, 0, 0) := by decide +kernel
theorem tX8_narrow_18 : gAt mX8_narrow 18 = some (.getfield 167, 3, 1, 6, 0, 717) := by decide +kernel
theorem tX8_narrow_21 : gAt mX8_narrow 21 = some (.iconst 4, 1, 4, 0, 0, 0) := by decide +kernel
theorem tX8_narrow_22 : gAt mX8_narrow 22 = some (.if_icmp .ge 11, 3, 33, 0, 0, 0) := by decide +kernel
theorem tX8_narrow_25 : gAt mX8_narrow 25 = some (.aload_n 3, 1, 0, 0, 0, 0) := by decide +kernel
theorem tX8_narrow_26 : gAt mX8_narrow 26 = some (.iload_n 2, 1, 0, 0, 0, 0) := by decide +kernel
theorem tX8_narrow_27 : gAt mX8_narrow 27 = some (.invokevirtual 170, 3, 2, 1, 1, 779) := by decide +kernel
theorem tX8_narrow_30 : gAt mX8_narrow 30 = some (.ifCond .eq 5, 3, 35, 0, 0, 0) := by decide +kernel
theorem tX8_narrow_33 : gAt mX8_narrow 33 = some (.iconst (-1), 1, 1, 1, 0, 0) := by decide +kernel
theorem tX8_narrow_34 : gAt mX8_narrow 34 = some (.ireturn, 1, 0, 0, 0, 0) := by decide +kernel
theorem tX8_narrow_35 : gAt mX8_narrow 35 = some (.aload_n 0, 1, 0, 0, 0, 0) := by decide +kernel
theorem tX8_narrow_36 : gAt mX8_narrow 36 = some (.aload_n 3, 1, 0, 0, 0, 0) := by decide +kernel
theorem tX8_narrow_37 : gAt mX8_narrow 37 = some (.invokevirtual 173, 3, 95, 1, 9, 780) := by decide +kernel
theorem tX8_narrow_40 : gAt mX8_narrow 40 = some (.istore 4, 2, 0, 0, 0, 0) := by decide +kernel
theorem tX8_narrow_42 : gAt mX8_narrow 42 = some (.aload_n 3, 1, 0, 0, 0, 0) := by decide +kernel
theorem tX8_narrow_43 : gAt mX8_narrow 43 = some (.iload_n 2, 1, 0, 0, 0, 0) := by decide +kernel
theorem tX8_narrow_44 : gAt mX8_narrow 44 = some (.invokevirtual 152, 3, 1, 1, 1, 751) := by decide +kernel
theorem tX8_narrow_47 : gAt mX8_narrow 47 = some (.iload 4, 2, 0, 0, 0, 0) := by decide +kernel
theorem tX8_narrow_49 : gAt mX8_narrow 49 = some (.aload_n 0, 1, 0, 0, 0, 0) := by decide +kernel
theorem tX8_narrow_50 : gAt mX8_narrow 50 = some (.aload_n 3, 1, 0, 0, 0, 0) := by decide +kernel
theorem tX8_narrow_51 : gAt mX8_narrow 51 = some (.invokevirtual 173, 3, 95, 1, 9, 780) := by decide +kernel
theorem tX8_narrow_54 : gAt mX8_narrow 54 = some (.isub, 1, 0, 0, 0, 0) := by decide +kernel
theorem tX8_narrow_55 : gAt mX8_narrow 55 = some (.ireturn, 1, 0, 0, 0, 0) := by decide +kernel
set_option maxRecDepth 100000 in
theorem okX8_stop : (gTb mX8_stop).all (okE gF gNM mX8_stop) = true := by decide +kernel
theorem pnX8_stop : plainName (gY mX8_stop).cls = true := by decide +kernel
theorem tX8_stop_0 : gAt mX8_stop 0 = some (.aload_n 0, 1, 0, 0, 0, 0) := by decide +kernel
theorem tX8_stop_1 : gAt mX8_stop 1 = some (.iload_n 1, 1, 0, 0, 0, 0) := by decide +kernel
theorem tX8_stop_2 : gAt mX8_stop 2 = some (.invokevirtual 163, 3, 88, 1, 9, 775) := by decide +kernel
theorem tX8_stop_5 : gAt mX8_stop 5 = some (.astore_n 3, 1, 0, 0, 0, 0) := by decide +kernel
theorem tX8_stop_6 : gAt mX8_stop 6 = some (.aload_n 3, 1, 0, 0, 0, 0) := by decide +kernel
theorem tX8_stop_7 : gAt mX8_stop 7 = some (.ifnull 11, 3, 18, 0, 0, 0) := by decide +kernel
theorem tX8_stop_10 : gAt mX8_stop 10 = some (.aload_n 3, 1, 0, 0, 0, 0) := by decide +kernel
theorem tX8_stop_11 : gAt mX8_stop 11 = some (.getfield 176, 3, 1, 9, 1, 723) := by decide +kernel
theorem tX8_stop_14 : gAt mX8_stop 14 = some (.iload_n 2, 1, 0, 0, 0, 0) := by decide +kernel
theorem tX8_stop_15 : gAt mX8_stop 15 = some (.if_icmp .ne 5, 3, 20, 0, 0, 0) := by decide +kernel
theorem tX8_stop_18 : gAt mX8_stop 18 = some (.iconst 0, 1, 0, 0, 0, 0) := by decide +kernel
theorem tX8_stop_19 : gAt mX8_stop 19 = some (.ireturn, 1, 1, 0, 0, 0) := by decide +kernel
theorem tX8_stop_20 : gAt mX8_stop 20 = some (.iload_n 2, 1, 0, 0, 0, 0) := by decide +kernel
theorem tX8_stop_21 : gAt mX8_stop 21 = some (.ifCond .eq 16, 3, 37, 0, 0, 0) := by decide +kernel
theorem tX8_stop_24 : gAt mX8_stop 24 = some (.aload_n 3, 1, 0, 0, 0, 0) := by decide +kernel
theorem tX8_stop_25 : gAt mX8_stop 25 = some (.aload_n 0, 1, 0, 0, 0, 0) := by decide +kernel
theorem tX8_stop_26 : gAt mX8_stop 26 = some (.getfield 7, 3, 9, 0, 0, 188) := by decide +kernel
theorem tX8_stop_29 : gAt mX8_stop 29 = some (.iconst 1, 1, 1, 0, 0, 0) := by decide +kernel
theorem tX8_stop_30 : gAt mX8_stop 30 = some (.isub, 1, 0, 0, 0, 0) := by decide +kernel
theorem tX8_stop_31 : gAt mX8_stop 31 = some (.invokevirtual 179, 3, 6, 1, 1, 833) := by decide +kernel
theorem tX8_stop_34 : gAt mX8_stop 34 = some (.goto 13, 3, 47, 0, 0, 0) := by decide +kernel
theorem tX8_stop_37 : gAt mX8_stop 37 = some (.aload_n 3, 1, 0, 0, 0, 0) := by decide +kernel
theorem tX8_stop_38 : gAt mX8_stop 38 = some (.aload_n 0, 1, 0, 0, 0, 0) := by decide +kernel
theorem tX8_stop_39 : gAt mX8_stop 39 = some (.getfield 7, 3, 9, 0, 0, 188) := by decide +kernel
theorem tX8_stop_42 : gAt mX8_stop 42 = some (.iconst 1, 1, 1, 0, 0, 0) := by decide +kernel
theorem tX8_stop_43 : gAt mX8_stop 43 = some (.isub, 1, 0, 0, 0, 0) := by decide +kernel
theorem tX8_stop_44 : gAt mX8_stop 44 = some (.invokevirtual 182, 3, 7, 1, 1, 840) := by decide +kernel
theorem tX8_stop_47 : gAt mX8_stop 47 = some (.aload_n 3, 1, 0, 0, 0, 0) := by decide +kernel
theorem tX8_stop_48 : gAt mX8_stop 48 = some (.iload_n 2, 1, 0, 0, 0, 0) := by decide +kernel
theorem tX8_stop_49 : gAt mX8_stop 49 = some (.putfield 176, 3, 1, 9, 1, 723) := by decide +kernel
theorem tX8_stop_52 : gAt mX8_stop 52 = some (.iconst 1, 1, 1, 0, 0, 0) := by decide +kernel
theorem tX8_stop_53 : gAt mX8_stop 53 = some (.ireturn, 1, 1, 0, 0, 0) := by decide +kernel
set_option maxRecDepth 100000 in
theorem okX8_due : (gTb mX8_due).all (okE gF gNM mX8_due) = true := by decide +kernel
theorem pnX8_due : plainName (gY mX8_due).cls = true := by decide +kernel
theorem tX8_due_0 : gAt mX8_due 0 = some (.aload_n 0, 1, 0, 0, 0, 0) := by decide +kernel
theorem tX8_due_1 : gAt mX8_due 1 = some (.iload_n 1, 1, 0, 0, 0, 0) := by decide +kernel
theorem tX8_due_2 : gAt mX8_due 2 = some (.invokevirtual 163, 3, 88, 1, 9, 775) := by decide +kernel
theorem tX8_due_5 : gAt mX8_due 5 = some (.astore_n 2, 1, 0, 0, 0, 0) := by decide +kernel
theorem tX8_due_6 : gAt mX8_due 6 = some (.aload_n 2, 1, 0, 0, 0, 0) := by decide +kernel
theorem tX8_due_7 : gAt mX8_due 7 = some (.ifnull 10, 3, 17, 0, 0, 0) := by decide +kernel
theorem tX8_due_10 : gAt mX8_due 10 = some (.aload_n 2, 1, 0, 0, 0, 0) := by decide +kernel
theorem tX8_due_11 : gAt mX8_due 11 = some (.getfield 176, 3, 1, 9, 1, 723) := by decide +kernel
theorem tX8_due_14 : gAt mX8_due 14 = some (.ifCond .eq 7, 3, 21, 0, 0, 0) := by decide +kernel
theorem tX8_due_17 : gAt mX8_due 17 = some (.iconst (-1), 1, 1, 1, 0, 0) := by decide +kernel
theorem tX8_due_18 : gAt mX8_due 18 = some (.goto 7, 3, 25, 0, 0, 0) := by decide +kernel
theorem tX8_due_21 : gAt mX8_due 21 = some (.aload_n 2, 1, 0, 0, 0, 0) := by decide +kernel
theorem tX8_due_22 : gAt mX8_due 22 = some (.invokevirtual 185, 3, 8, 0, 1, 848) := by decide +kernel
theorem tX8_due_25 : gAt mX8_due 25 = some (.ireturn, 1, 0, 0, 0, 0) := by decide +kernel
set_option maxRecDepth 100000 in
theorem okX8_found : (gTb mX8_found).all (okE gF gNM mX8_found) = true := by decide +kernel
theorem pnX8_found : plainName (gY mX8_found).cls = true := by decide +kernel
theorem tX8_found_0 : gAt mX8_found 0 = some (.aload_n 0, 1, 0, 0, 0, 0) := by decide +kernel
theorem tX8_found_1 : gAt mX8_found 1 = some (.iload_n 1, 1, 0, 0, 0, 0) := by decide +kernel
theorem tX8_found_2 : gAt mX8_found 2 = some (.invokevirtual 163, 3, 88, 1, 9, 775) := by decide +kernel
theorem tX8_found_5 : gAt mX8_found 5 = some (.astore_n 2, 1, 0, 0, 0, 0) := by decide +kernel
theorem tX8_found_6 : gAt mX8_found 6 = some (.aload_n 2, 1, 0, 0, 0, 0) := by decide +kernel
theorem tX8_found_7 : gAt mX8_found 7 = some (.ifnonnull 7, 3, 14, 0, 0, 0) := by decide +kernel
theorem tX8_found_10 : gAt mX8_found 10 = some (.iconst (-1), 1, 1, 1, 0, 0) := by decide +kernel
theorem tX8_found_11 : gAt mX8_found 11 = some (.goto 8, 3, 19, 0, 0, 0) := by decide +kernel
theorem tX8_found_14 : gAt mX8_found 14 = some (.aload_n 0, 1, 0, 0, 0, 0) := by decide +kernel
theorem tX8_found_15 : gAt mX8_found 15 = some (.aload_n 2, 1, 0, 0, 0, 0) := by decide +kernel
theorem tX8_found_16 : gAt mX8_found 16 = some (.invokevirtual 173, 3, 95, 1, 9, 780) := by decide +kernel
theorem tX8_found_19 : gAt mX8_found 19 = some (.ireturn, 1, 0, 0, 0, 0) := by decide +kernel
set_option maxRecDepth 100000 in
theorem okX8_finds : (gTb mX8_finds).all (okE gF gNM mX8_finds) = true := by decide +kernel
theorem pnX8_finds : plainName (gY mX8_finds).cls = true := by decide +kernel
theorem tX8_finds_0 : gAt mX8_finds 0 = some (.aload_n 0, 1, 0, 0, 0, 0) := by decide +kernel
theorem tX8_finds_1 : gAt mX8_finds 1 = some (.iload_n 1, 1, 0, 0, 0, 0) := by decide +kernel
theorem tX8_finds_2 : gAt mX8_finds 2 = some (.invokevirtual 163, 3, 88, 1, 9, 775) := by decide +kernel
theorem tX8_finds_5 : gAt mX8_finds 5 = some (.astore_n 3, 1, 0, 0, 0, 0) := by decide +kernel
theorem tX8_finds_6 : gAt mX8_finds 6 = some (.aload_n 3, 1, 0, 0, 0, 0) := by decide +kernel
theorem tX8_finds_7 : gAt mX8_finds 7 = some (.ifnonnull 5, 3, 12, 0, 0, 0) := by decide +kernel
theorem tX8_finds_10 : gAt mX8_finds 10 = some (.iconst (-1), 1, 1, 1, 0, 0) := by decide +kernel
theorem tX8_finds_11 : gAt mX8_finds 11 = some (.ireturn, 1, 0, 0, 0, 0) := by decide +kernel
theorem tX8_finds_12 : gAt mX8_finds 12 = some (.aload_n 0, 1, 0, 0, 0, 0) := by decide +kernel
theorem tX8_finds_13 : gAt mX8_finds 13 = some (.aload_n 3, 1, 0, 0, 0, 0) := by decide +kernel
theorem tX8_finds_14 : gAt mX8_finds 14 = some (.invokevirtual 173, 3, 95, 1, 9, 780) := by decide +kernel
theorem tX8_finds_17 : gAt mX8_finds 17 = some (.pop, 1, 0, 0, 0, 0) := by decide +kernel
theorem tX8_finds_18 : gAt mX8_finds 18 = some (.iconst 0, 1, 0, 0, 0, 0) := by decide +kernel
theorem tX8_finds_19 : gAt mX8_finds 19 = some (.istore 4, 2, 0, 0, 0, 0) := by decide +kernel
theorem tX8_finds_21 : gAt mX8_finds 21 = some (.iconst 0, 1, 0, 0, 0, 0) := by decide +kernel
theorem tX8_finds_22 : gAt mX8_finds 22 = some (.istore 5, 2, 0, 0, 0, 0) := by decide +kernel
theorem tX8_finds_24 : gAt mX8_finds 24 = some (.iload 5, 2, 0, 0, 0, 0) := by decide +kernel
theorem tX8_finds_26 : gAt mX8_finds 26 = some (.aload_n 0, 1, 0, 0, 0, 0) := by decide +kernel
theorem tX8_finds_27 : gAt mX8_finds 27 = some (.getfield 29, 3, 9, 5, 2, 193) := by decide +kernel
theorem tX8_finds_30 : gAt mX8_finds 30 = some (.invokevirtual 76, 3, 190, 0, 0, 258) := by decide +kernel
theorem tX8_finds_33 : gAt mX8_finds 33 = some (.if_icmp .ge 39, 3, 72, 0, 0, 0) := by decide +kernel
theorem tX8_finds_36 : gAt mX8_finds 36 = some (.aload_n 0, 1, 0, 0, 0, 0) := by decide +kernel
theorem tX8_finds_37 : gAt mX8_finds 37 = some (.getfield 29, 3, 9, 5, 2, 193) := by decide +kernel
theorem tX8_finds_40 : gAt mX8_finds 40 = some (.iload 5, 2, 0, 0, 0, 0) := by decide +kernel
theorem tX8_finds_42 : gAt mX8_finds 42 = some (.invokevirtual 188, 3, 192, 1, 0, 368) := by decide +kernel
theorem tX8_finds_45 : gAt mX8_finds 45 = some (.checkcast 80, 3, 4, 0, 0, 262) := by decide +kernel
theorem tX8_finds_48 : gAt mX8_finds 48 = some (.getfield 192, 3, 4, 5, 1, 285) := by decide +kernel
theorem tX8_finds_51 : gAt mX8_finds 51 = some (.ifCond .eq 15, 3, 66, 0, 0, 0) := by decide +kernel
theorem tX8_finds_54 : gAt mX8_finds 54 = some (.iload 4, 2, 0, 0, 0, 0) := by decide +kernel
theorem tX8_finds_56 : gAt mX8_finds 56 = some (.iload_n 2, 1, 0, 0, 0, 0) := by decide +kernel
theorem tX8_finds_57 : gAt mX8_finds 57 = some (.if_icmp .ne 6, 3, 63, 0, 0, 0) := by decide +kernel
theorem tX8_finds_60 : gAt mX8_finds 60 = some (.iload 5, 2, 0, 0, 0, 0) := by decide +kernel
theorem tX8_finds_62 : gAt mX8_finds 62 = some (.ireturn, 1, 0, 0, 0, 0) := by decide +kernel
theorem tX8_finds_63 : gAt mX8_finds 63 = some (.iinc 4 1, 3, 1, 0, 0, 0) := by decide +kernel
theorem tX8_finds_66 : gAt mX8_finds 66 = some (.iinc 5 1, 3, 1, 0, 0, 0) := by decide +kernel
theorem tX8_finds_69 : gAt mX8_finds 69 = some (.goto (-45), 3, 24, 0, 0, 0) := by decide +kernel
theorem tX8_finds_72 : gAt mX8_finds 72 = some (.iconst (-1), 1, 1, 1, 0, 0) := by decide +kernel
theorem tX8_finds_73 : gAt mX8_finds 73 = some (.ireturn, 1, 0, 0, 0, 0) := by decide +kernel
def kX8_answer : gM := (gY mX8_answer, gCd mX8_answer, gL mX8_answer, gRt mX8_answer, gIx mX8_answer, [(0, (.aload_n 0, 1, 0, 0, 0, 0)), (1, (.iload_n 1, 1, 0, 0, 0, 0)), (2, (.invokevirtual 163, 3, 88, 1, 9, 775)), (5, (.astore_n 3, 1, 0, 0, 0, 0)), (6, (.aload_n 3, 1, 0, 0, 0, 0)), (7, (.ifnull 14, 3, 21, 0, 0, 0)), (10, (.iload_n 2, 1, 0, 0, 0, 0)), (11, (.iconst 1, 1, 1, 0, 0, 0)), (12, (.if_icmp .lt 9, 3, 21, 0, 0, 0)), (15, (.iload_n 2, 1, 0, 0, 0, 0)), (16, (.bipush 50, 2, 50, 0, 0, 0)), (18, (.if_icmp .le 5, 3, 23, 0, 0, 0)), (21, (.iconst (-1), 1, 1, 1, 0, 0)), (22, (.ireturn, 1, 0, 0, 0, 0)), (23, (.aload_n 0, 1, 0, 0, 0, 0)), (24, (.aload_n 3, 1, 0, 0, 0, 0)), (25, (.invokevirtual 173, 3, 95, 1, 9, 780)), (28, (.pop, 1, 0, 0, 0, 0)), (29, (.iload_n 2, 1, 0, 0, 0, 0)), (30, (.sipush 300, 3, 300, 0, 0, 0)), (33, (.aload_n 0, 1, 0, 0, 0, 0)), (34, (.getfield 42, 3, 9, 9, 2, 197)), (37, (.invokevirtual 76, 3, 190, 0, 0, 258)), (40, (.isub, 1, 0, 0, 0, 0)), (44, (.istore 4, 2, 0, 0, 0, 0)), (46, (.aload_n 0, 1, 0, 0, 0, 0)), (47, (.aload_n 3, 1, 0, 0, 0, 0)), (48, (.getfield 159, 3, 1, 7, 0, 719)), (51, (.invokevirtual 163, 3, 88, 1, 9, 775)), (54, (.astore 5, 2, 0, 0, 0, 0)), (56, (.aload 5, 2, 0, 0, 0, 0)), (58, (.ifnonnull 7, 3, 65, 0, 0, 0)), (61, (.iconst 0, 1, 0, 0, 0, 0)), (62, (.goto 12, 3, 74, 0, 0, 0)), (65, (.aload_n 0, 1, 0, 0, 0, 0)), (66, (.aload_n 3, 1, 0, 0, 0, 0)), (67, (.aload 5, 2, 0, 0, 0, 0)), (69, (.iload 4, 2, 0, 0, 0, 0)), (71, (.invokevirtual 201, 3, 98, 3, 9, 865)), (74, (.istore 6, 2, 0, 0, 0, 0)), (76, (.iload 6, 2, 0, 0, 0, 0)), (78, (.aload_n 0, 1, 0, 0, 0, 0)), (79, (.aload_n 3, 1, 0, 0, 0, 0)), (80, (.aconst_null, 1, 0, 0, 0, 0)), (81, (.iload 4, 2, 0, 0, 0, 0)), (83, (.iload 6, 2, 0, 0, 0, 0)), (85, (.isub, 1, 0, 0, 0, 0)), (86, (.invokevirtual 201, 3, 98, 3, 9, 865)), (89, (.iadd, 1, 0, 0, 0, 0)), (90, (.ireturn, 1, 0, 0, 0, 0))])
theorem eX8_answer_41 : decode (gCd kX8_answer) 41 = .ok (.invokestatic 195, 3) := by decide +kernel
set_option maxRecDepth 100000 in
theorem okX8_answer : (gTb kX8_answer).all (okE gF gNM kX8_answer) = true := by decide +kernel
theorem pnX8_answer : plainName (gY kX8_answer).cls = true := by decide +kernel
theorem tX8_answer_0 : gAt kX8_answer 0 = some (.aload_n 0, 1, 0, 0, 0, 0) := by decide +kernel
theorem tX8_answer_1 : gAt kX8_answer 1 = some (.iload_n 1, 1, 0, 0, 0, 0) := by decide +kernel
theorem tX8_answer_2 : gAt kX8_answer 2 = some (.invokevirtual 163, 3, 88, 1, 9, 775) := by decide +kernel
theorem tX8_answer_5 : gAt kX8_answer 5 = some (.astore_n 3, 1, 0, 0, 0, 0) := by decide +kernel
theorem tX8_answer_6 : gAt kX8_answer 6 = some (.aload_n 3, 1, 0, 0, 0, 0) := by decide +kernel
theorem tX8_answer_7 : gAt kX8_answer 7 = some (.ifnull 14, 3, 21, 0, 0, 0) := by decide +kernel
theorem tX8_answer_10 : gAt kX8_answer 10 = some (.iload_n 2, 1, 0, 0, 0, 0) := by decide +kernel
theorem tX8_answer_11 : gAt kX8_answer 11 = some (.iconst 1, 1, 1, 0, 0, 0) := by decide +kernel
theorem tX8_answer_12 : gAt kX8_answer 12 = some (.if_icmp .lt 9, 3, 21, 0, 0, 0) := by decide +kernel
theorem tX8_answer_15 : gAt kX8_answer 15 = some (.iload_n 2, 1, 0, 0, 0, 0) := by decide +kernel
theorem tX8_answer_16 : gAt kX8_answer 16 = some (.bipush 50, 2, 50, 0, 0, 0) := by decide +kernel
theorem tX8_answer_18 : gAt kX8_answer 18 = some (.if_icmp .le 5, 3, 23, 0, 0, 0) := by decide +kernel
theorem tX8_answer_21 : gAt kX8_answer 21 = some (.iconst (-1), 1, 1, 1, 0, 0) := by decide +kernel
theorem tX8_answer_22 : gAt kX8_answer 22 = some (.ireturn, 1, 0, 0, 0, 0) := by decide +kernel
theorem tX8_answer_23 : gAt kX8_answer 23 = some (.aload_n 0, 1, 0, 0, 0, 0) := by decide +kernel
theorem tX8_answer_24 : gAt kX8_answer 24 = some (.aload_n 3, 1, 0, 0, 0, 0) := by decide +kernel
theorem tX8_answer_25 : gAt kX8_answer 25 = some (.invokevirtual 173, 3, 95, 1, 9, 780) := by decide +kernel
theorem tX8_answer_28 : gAt kX8_answer 28 = some (.pop, 1, 0, 0, 0, 0) := by decide +kernel
theorem tX8_answer_29 : gAt kX8_answer 29 = some (.iload_n 2, 1, 0, 0, 0, 0) := by decide +kernel
theorem tX8_answer_30 : gAt kX8_answer 30 = some (.sipush 300, 3, 300, 0, 0, 0) := by decide +kernel
theorem tX8_answer_33 : gAt kX8_answer 33 = some (.aload_n 0, 1, 0, 0, 0, 0) := by decide +kernel
theorem tX8_answer_34 : gAt kX8_answer 34 = some (.getfield 42, 3, 9, 9, 2, 197) := by decide +kernel
theorem tX8_answer_37 : gAt kX8_answer 37 = some (.invokevirtual 76, 3, 190, 0, 0, 258) := by decide +kernel
theorem tX8_answer_40 : gAt kX8_answer 40 = some (.isub, 1, 0, 0, 0, 0) := by decide +kernel
theorem tX8_answer_44 : gAt kX8_answer 44 = some (.istore 4, 2, 0, 0, 0, 0) := by decide +kernel
theorem tX8_answer_46 : gAt kX8_answer 46 = some (.aload_n 0, 1, 0, 0, 0, 0) := by decide +kernel
theorem tX8_answer_47 : gAt kX8_answer 47 = some (.aload_n 3, 1, 0, 0, 0, 0) := by decide +kernel
theorem tX8_answer_48 : gAt kX8_answer 48 = some (.getfield 159, 3, 1, 7, 0, 719) := by decide +kernel
theorem tX8_answer_51 : gAt kX8_answer 51 = some (.invokevirtual 163, 3, 88, 1, 9, 775) := by decide +kernel
theorem tX8_answer_54 : gAt kX8_answer 54 = some (.astore 5, 2, 0, 0, 0, 0) := by decide +kernel
theorem tX8_answer_56 : gAt kX8_answer 56 = some (.aload 5, 2, 0, 0, 0, 0) := by decide +kernel
theorem tX8_answer_58 : gAt kX8_answer 58 = some (.ifnonnull 7, 3, 65, 0, 0, 0) := by decide +kernel
theorem tX8_answer_61 : gAt kX8_answer 61 = some (.iconst 0, 1, 0, 0, 0, 0) := by decide +kernel
theorem tX8_answer_62 : gAt kX8_answer 62 = some (.goto 12, 3, 74, 0, 0, 0) := by decide +kernel
theorem tX8_answer_65 : gAt kX8_answer 65 = some (.aload_n 0, 1, 0, 0, 0, 0) := by decide +kernel
theorem tX8_answer_66 : gAt kX8_answer 66 = some (.aload_n 3, 1, 0, 0, 0, 0) := by decide +kernel
theorem tX8_answer_67 : gAt kX8_answer 67 = some (.aload 5, 2, 0, 0, 0, 0) := by decide +kernel
theorem tX8_answer_69 : gAt kX8_answer 69 = some (.iload 4, 2, 0, 0, 0, 0) := by decide +kernel
theorem tX8_answer_71 : gAt kX8_answer 71 = some (.invokevirtual 201, 3, 98, 3, 9, 865) := by decide +kernel
theorem tX8_answer_74 : gAt kX8_answer 74 = some (.istore 6, 2, 0, 0, 0, 0) := by decide +kernel
theorem tX8_answer_76 : gAt kX8_answer 76 = some (.iload 6, 2, 0, 0, 0, 0) := by decide +kernel
theorem tX8_answer_78 : gAt kX8_answer 78 = some (.aload_n 0, 1, 0, 0, 0, 0) := by decide +kernel
theorem tX8_answer_79 : gAt kX8_answer 79 = some (.aload_n 3, 1, 0, 0, 0, 0) := by decide +kernel
theorem tX8_answer_80 : gAt kX8_answer 80 = some (.aconst_null, 1, 0, 0, 0, 0) := by decide +kernel
theorem tX8_answer_81 : gAt kX8_answer 81 = some (.iload 4, 2, 0, 0, 0, 0) := by decide +kernel
theorem tX8_answer_83 : gAt kX8_answer 83 = some (.iload 6, 2, 0, 0, 0, 0) := by decide +kernel
theorem tX8_answer_85 : gAt kX8_answer 85 = some (.isub, 1, 0, 0, 0, 0) := by decide +kernel
theorem tX8_answer_86 : gAt kX8_answer 86 = some (.invokevirtual 201, 3, 98, 3, 9, 865) := by decide +kernel
theorem tX8_answer_89 : gAt kX8_answer 89 = some (.iadd, 1, 0, 0, 0, 0) := by decide +kernel
theorem tX8_answer_90 : gAt kX8_answer 90 = some (.ireturn, 1, 0, 0, 0, 0) := by decide +kernel
set_option maxRecDepth 100000 in
theorem okX8_given : (gTb mX8_given).all (okE gF gNM mX8_given) = true := by decide +kernel
theorem pnX8_given : plainName (gY mX8_given).cls = true := by decide +kernel
theorem tX8_given_0 : gAt mX8_given 0 = some (.iload_n 1, 1, 0, 0, 0, 0) := by decide +kernel
theorem tX8_given_1 : gAt mX8_given 1 = some (.ifCond .lt 14, 3, 15, 0, 0, 0) := by decide +kernel
theorem tX8_given_4 : gAt mX8_given 4 = some (.iload_n 1, 1, 0, 0, 0, 0) := by decide +kernel
theorem tX8_given_5 : gAt mX8_given 5 = some (.aload_n 0, 1, 0, 0, 0, 0) := by decide +kernel
theorem tX8_given_6 : gAt mX8_given 6 = some (.getfield 42, 3, 9, 9, 2, 197) := by decide +kernel
theorem tX8_given_9 : gAt mX8_given 9 = some (.invokevirtual 76, 3, 190, 0, 0, 258) := by decide +kernel
theorem tX8_given_12 : gAt mX8_given 12 = some (.if_icmp .lt 5, 3, 17, 0, 0, 0) := by decide +kernel
theorem tX8_given_15 : gAt mX8_given 15 = some (.iconst (-1), 1, 1, 1, 0, 0) := by decide +kernel
theorem tX8_given_16 : gAt mX8_given 16 = some (.ireturn, 1, 0, 0, 0, 0) := by decide +kernel
theorem tX8_given_17 : gAt mX8_given 17 = some (.aload_n 0, 1, 0, 0, 0, 0) := by decide +kernel
theorem tX8_given_18 : gAt mX8_given 18 = some (.getfield 42, 3, 9, 9, 2, 197) := by decide +kernel
theorem tX8_given_21 : gAt mX8_given 21 = some (.iload_n 1, 1, 0, 0, 0, 0) := by decide +kernel
theorem tX8_given_22 : gAt mX8_given 22 = some (.invokevirtual 188, 3, 192, 1, 0, 368) := by decide +kernel
theorem tX8_given_25 : gAt mX8_given 25 = some (.checkcast 205, 3, 2, 0, 0, 881) := by decide +kernel
theorem tX8_given_28 : gAt mX8_given 28 = some (.astore_n 3, 1, 0, 0, 0, 0) := by decide +kernel
theorem tX8_given_29 : gAt mX8_given 29 = some (.iload_n 2, 1, 0, 0, 0, 0) := by decide +kernel
theorem tX8_given_30 : gAt mX8_given 30 = some (.tableswitch 50 0 3 #[30, 35, 40, 45], 30, 0, 0, 0, 0) := by decide +kernel
theorem tX8_given_60 : gAt mX8_given 60 = some (.aload_n 3, 1, 0, 0, 0, 0) := by decide +kernel
theorem tX8_given_61 : gAt mX8_given 61 = some (.getfield 207, 3, 2, 0, 0, 896) := by decide +kernel
theorem tX8_given_64 : gAt mX8_given 64 = some (.ireturn, 1, 0, 0, 0, 0) := by decide +kernel
theorem tX8_given_65 : gAt mX8_given 65 = some (.aload_n 3, 1, 0, 0, 0, 0) := by decide +kernel
theorem tX8_given_66 : gAt mX8_given 66 = some (.getfield 210, 3, 2, 1, 0, 898) := by decide +kernel
theorem tX8_given_69 : gAt mX8_given 69 = some (.ireturn, 1, 0, 0, 0, 0) := by decide +kernel
theorem tX8_given_70 : gAt mX8_given 70 = some (.aload_n 3, 1, 0, 0, 0, 0) := by decide +kernel
theorem tX8_given_71 : gAt mX8_given 71 = some (.getfield 213, 3, 2, 2, 0, 900) := by decide +kernel
theorem tX8_given_74 : gAt mX8_given 74 = some (.ireturn, 1, 0, 0, 0, 0) := by decide +kernel
theorem tX8_given_75 : gAt mX8_given 75 = some (.aload_n 3, 1, 0, 0, 0, 0) := by decide +kernel
theorem tX8_given_76 : gAt mX8_given 76 = some (.getfield 216, 3, 2, 3, 0, 902) := by decide +kernel
theorem tX8_given_79 : gAt mX8_given 79 = some (.ireturn, 1, 0, 0, 0, 0) := by decide +kernel
theorem tX8_given_80 : gAt mX8_given 80 = some (.iload_n 2, 1, 0, 0, 0, 0) := by decide +kernel
theorem tX8_given_81 : gAt mX8_given 81 = some (.aload_n 3, 1, 0, 0, 0, 0) := by decide +kernel
theorem tX8_given_82 : gAt mX8_given 82 = some (.getfield 219, 3, 2, 4, 2, 904) := by decide +kernel
theorem tX8_given_85 : gAt mX8_given 85 = some (.arraylength, 1, 12, 0, 0, 0) := by decide +kernel
theorem tX8_given_86 : gAt mX8_given 86 = some (.invokestatic 220, 3, 89, 2, 9, 924) := by decide +kernel
theorem tX8_given_89 : gAt mX8_given 89 = some (.istore 4, 2, 0, 0, 0, 0) := by decide +kernel
theorem tX8_given_91 : gAt mX8_given 91 = some (.iload 4, 2, 0, 0, 0, 0) := by decide +kernel
theorem tX8_given_93 : gAt mX8_given 93 = some (.iconst (-1), 1, 1, 1, 0, 0) := by decide +kernel
theorem tX8_given_94 : gAt mX8_given 94 = some (.if_icmp .ne 7, 3, 101, 0, 0, 0) := by decide +kernel
theorem tX8_given_97 : gAt mX8_given 97 = some (.iconst (-1), 1, 1, 1, 0, 0) := by decide +kernel
theorem tX8_given_98 : gAt mX8_given 98 = some (.goto 10, 3, 108, 0, 0, 0) := by decide +kernel
theorem tX8_given_101 : gAt mX8_given 101 = some (.aload_n 3, 1, 0, 0, 0, 0) := by decide +kernel
theorem tX8_given_102 : gAt mX8_given 102 = some (.getfield 219, 3, 2, 4, 2, 904) := by decide +kernel
theorem tX8_given_105 : gAt mX8_given 105 = some (.iload 4, 2, 0, 0, 0, 0) := by decide +kernel
theorem tX8_given_107 : gAt mX8_given 107 = some (.iaload, 1, 12, 0, 0, 0) := by decide +kernel
theorem tX8_given_108 : gAt mX8_given 108 = some (.ireturn, 1, 0, 0, 0, 0) := by decide +kernel
def kX8_look : gM := (gY mX8_look, gCd mX8_look, gL mX8_look, gRt mX8_look, gIx mX8_look, [(0, (.aload_n 0, 1, 0, 0, 0, 0)), (1, (.iload_n 1, 1, 0, 0, 0, 0)), (2, (.invokevirtual 163, 3, 88, 1, 9, 775)), (5, (.astore_n 3, 1, 0, 0, 0, 0)), (6, (.aload_n 3, 1, 0, 0, 0, 0)), (7, (.ifnonnull 13, 3, 20, 0, 0, 0)), (13, (.dup, 1, 0, 0, 0, 0)), (14, (.ldc 225, 2, 0, 0, 7, 0)), (16, (.invokespecial 227, 3, 9998, 1, 0, 0)), (19, (.athrow, 1, 0, 0, 0, 0)), (20, (.iload_n 2, 1, 0, 0, 0, 0)), (21, (.tableswitch 120 0 7 #[47, 52, 57, 64, 71, 76, 89, 94], 47, 0, 0, 0, 0)), (68, (.aload_n 3, 1, 0, 0, 0, 0)), (69, (.getfield 230, 3, 1, 4, 0, 713)), (72, (.ireturn, 1, 0, 0, 0, 0)), (73, (.aload_n 3, 1, 0, 0, 0, 0)), (74, (.getfield 233, 3, 1, 8, 0, 721)), (77, (.ireturn, 1, 0, 0, 0, 0)), (78, (.aload_n 0, 1, 0, 0, 0, 0)), (79, (.aload_n 3, 1, 0, 0, 0, 0)), (80, (.iconst 0, 1, 0, 0, 0, 0)), (81, (.invokevirtual 236, 3, 101, 2, 9, 1014)), (84, (.ireturn, 1, 0, 0, 0, 0)), (85, (.aload_n 0, 1, 0, 0, 0, 0)), (86, (.aload_n 3, 1, 0, 0, 0, 0)), (87, (.iconst 1, 1, 1, 0, 0, 0)), (88, (.invokevirtual 236, 3, 101, 2, 9, 1014)), (91, (.ireturn, 1, 0, 0, 0, 0)), (92, (.aload_n 3, 1, 0, 0, 0, 0)), (93, (.getfield 159, 3, 1, 7, 0, 719)), (96, (.ireturn, 1, 0, 0, 0, 0)), (97, (.aload_n 3, 1, 0, 0, 0, 0)), (98, (.getfield 176, 3, 1, 9, 1, 723)), (101, (.ifCond .eq 7, 3, 108, 0, 0, 0)), (104, (.iconst 1, 1, 1, 0, 0, 0)), (105, (.goto 4, 3, 109, 0, 0, 0)), (108, (.iconst 0, 1, 0, 0, 0, 0)), (109, (.ireturn, 1, 0, 0, 0, 0)), (110, (.aload_n 3, 1, 0, 0, 0, 0)), (111, (.getfield 167, 3, 1, 6, 0, 717)), (114, (.ireturn, 1, 0, 0, 0, 0)), (115, (.aload_n 3, 1, 0, 0, 0, 0)), (116, (.aload_n 0, 1, 0, 0, 0, 0)), (117, (.getfield 7, 3, 9, 0, 0, 188)), (120, (.invokevirtual 240, 3, 9, 1, 1, 1018)), (123, (.ifCond .eq 16, 3, 139, 0, 0, 0)), (126, (.aload_n 0, 1, 0, 0, 0, 0)), (127, (.aload_n 3, 1, 0, 0, 0, 0)), (128, (.iconst 0, 1, 0, 0, 0, 0)), (129, (.invokevirtual 236, 3, 101, 2, 9, 1014)), (132, (.ifCond .eq 7, 3, 139, 0, 0, 0)), (135, (.iconst 1, 1, 1, 0, 0, 0)), (136, (.goto 4, 3, 140, 0, 0, 0)), (139, (.iconst 0, 1, 0, 0, 0, 0)), (140, (.ireturn, 1, 0, 0, 0, 0)), (144, (.dup, 1, 0, 0, 0, 0)), (145, (.ldc 243, 2, 0, 0, 7, 0)), (147, (.invokespecial 227, 3, 9998, 1, 0, 0)), (150, (.athrow, 1, 0, 0, 0, 0))])
theorem eX8_look_10 : decode (gCd kX8_look) 10 = .ok (.new 223, 3) := by decide +kernel
theorem eX8_look_141 : decode (gCd kX8_look) 141 = .ok (.new 223, 3) := by decide +kernel
set_option maxRecDepth 100000 in
theorem okX8_look : (gTb kX8_look).all (okE gF gNM kX8_look) = true := by decide +kernel
theorem pnX8_look : plainName (gY kX8_look).cls = true := by decide +kernel
theorem tX8_look_0 : gAt kX8_look 0 = some (.aload_n 0, 1, 0, 0, 0, 0) := by decide +kernel
theorem tX8_look_1 : gAt kX8_look 1 = some (.iload_n 1, 1, 0, 0, 0, 0) := by decide +kernel
theorem tX8_look_2 : gAt kX8_look 2 = some (.invokevirtual 163, 3, 88, 1, 9, 775) := by decide +kernel
theorem tX8_look_5 : gAt kX8_look 5 = some (.astore_n 3, 1, 0, 0, 0, 0) := by decide +kernel
theorem tX8_look_6 : gAt kX8_look 6 = some (.aload_n 3, 1, 0, 0, 0, 0) := by decide +kernel
theorem tX8_look_7 : gAt kX8_look 7 = some (.ifnonnull 13, 3, 20, 0, 0, 0) := by decide +kernel
theorem tX8_look_13 : gAt kX8_look 13 = some (.dup, 1, 0, 0, 0, 0) := by decide +kernel
theorem tX8_look_14 : gAt kX8_look 14 = some (.ldc 225, 2, 0, 0, 7, 0) := by decide +kernel
theorem tX8_look_16 : gAt kX8_look 16 = some (.invokespecial 227, 3, 9998, 1, 0, 0) := by decide +kernel
theorem tX8_look_19 : gAt kX8_look 19 = some (.athrow, 1, 0, 0, 0, 0) := by decide +kernel
theorem tX8_look_20 : gAt kX8_look 20 = some (.iload_n 2, 1, 0, 0, 0, 0) := by decide +kernel
theorem tX8_look_21 : gAt kX8_look 21 = some (.tableswitch 120 0 7 #[47, 52, 57, 64, 71, 76, 89, 94], 47, 0, 0, 0, 0) := by decide +kernel
theorem tX8_look_68 : gAt kX8_look 68 = some (.aload_n 3, 1, 0, 0, 0, 0) := by decide +kernel
theorem tX8_look_69 : gAt kX8_look 69 = some (.getfield 230, 3, 1, 4, 0, 713) := by decide +kernel
theorem tX8_look_72 : gAt kX8_look 72 = some (.ireturn, 1, 0, 0, 0, 0) := by decide +kernel
theorem tX8_look_73 : gAt kX8_look 73 = some (.aload_n 3, 1, 0, 0, 0, 0) := by decide +kernel
theorem tX8_look_74 : gAt kX8_look 74 = some (.getfield 233, 3, 1, 8, 0, 721) := by decide +kernel
theorem tX8_look_77 : gAt kX8_look 77 = some (.ireturn, 1, 0, 0, 0, 0) := by decide +kernel
theorem tX8_look_78 : gAt kX8_look 78 = some (.aload_n 0, 1, 0, 0, 0, 0) := by decide +kernel
theorem tX8_look_79 : gAt kX8_look 79 = some (.aload_n 3, 1, 0, 0, 0, 0) := by decide +kernel
theorem tX8_look_80 : gAt kX8_look 80 = some (.iconst 0, 1, 0, 0, 0, 0) := by decide +kernel
theorem tX8_look_81 : gAt kX8_look 81 = some (.invokevirtual 236, 3, 101, 2, 9, 1014) := by decide +kernel
theorem tX8_look_84 : gAt kX8_look 84 = some (.ireturn, 1, 0, 0, 0, 0) := by decide +kernel
theorem tX8_look_85 : gAt kX8_look 85 = some (.aload_n 0, 1, 0, 0, 0, 0) := by decide +kernel
theorem tX8_look_86 : gAt kX8_look 86 = some (.aload_n 3, 1, 0, 0, 0, 0) := by decide +kernel
theorem tX8_look_87 : gAt kX8_look 87 = some (.iconst 1, 1, 1, 0, 0, 0) := by decide +kernel
theorem tX8_look_88 : gAt kX8_look 88 = some (.invokevirtual 236, 3, 101, 2, 9, 1014) := by decide +kernel
theorem tX8_look_91 : gAt kX8_look 91 = some (.ireturn, 1, 0, 0, 0, 0) := by decide +kernel
theorem tX8_look_92 : gAt kX8_look 92 = some (.aload_n 3, 1, 0, 0, 0, 0) := by decide +kernel
theorem tX8_look_93 : gAt kX8_look 93 = some (.getfield 159, 3, 1, 7, 0, 719) := by decide +kernel
theorem tX8_look_96 : gAt kX8_look 96 = some (.ireturn, 1, 0, 0, 0, 0) := by decide +kernel
theorem tX8_look_97 : gAt kX8_look 97 = some (.aload_n 3, 1, 0, 0, 0, 0) := by decide +kernel
theorem tX8_look_98 : gAt kX8_look 98 = some (.getfield 176, 3, 1, 9, 1, 723) := by decide +kernel
theorem tX8_look_101 : gAt kX8_look 101 = some (.ifCond .eq 7, 3, 108, 0, 0, 0) := by decide +kernel
theorem tX8_look_104 : gAt kX8_look 104 = some (.iconst 1, 1, 1, 0, 0, 0) := by decide +kernel
theorem tX8_look_105 : gAt kX8_look 105 = some (.goto 4, 3, 109, 0, 0, 0) := by decide +kernel
theorem tX8_look_108 : gAt kX8_look 108 = some (.iconst 0, 1, 0, 0, 0, 0) := by decide +kernel
theorem tX8_look_109 : gAt kX8_look 109 = some (.ireturn, 1, 0, 0, 0, 0) := by decide +kernel
theorem tX8_look_110 : gAt kX8_look 110 = some (.aload_n 3, 1, 0, 0, 0, 0) := by decide +kernel
theorem tX8_look_111 : gAt kX8_look 111 = some (.getfield 167, 3, 1, 6, 0, 717) := by decide +kernel
theorem tX8_look_114 : gAt kX8_look 114 = some (.ireturn, 1, 0, 0, 0, 0) := by decide +kernel
theorem tX8_look_115 : gAt kX8_look 115 = some (.aload_n 3, 1, 0, 0, 0, 0) := by decide +kernel
theorem tX8_look_116 : gAt kX8_look 116 = some (.aload_n 0, 1, 0, 0, 0, 0) := by decide +kernel
theorem tX8_look_117 : gAt kX8_look 117 = some (.getfield 7, 3, 9, 0, 0, 188) := by decide +kernel
theorem tX8_look_120 : gAt kX8_look 120 = some (.invokevirtual 240, 3, 9, 1, 1, 1018) := by decide +kernel
theorem tX8_look_123 : gAt kX8_look 123 = some (.ifCond .eq 16, 3, 139, 0, 0, 0) := by decide +kernel
theorem tX8_look_126 : gAt kX8_look 126 = some (.aload_n 0, 1, 0, 0, 0, 0) := by decide +kernel
theorem tX8_look_127 : gAt kX8_look 127 = some (.aload_n 3, 1, 0, 0, 0, 0) := by decide +kernel
theorem tX8_look_128 : gAt kX8_look 128 = some (.iconst 0, 1, 0, 0, 0, 0) := by decide +kernel
theorem tX8_look_129 : gAt kX8_look 129 = some (.invokevirtual 236, 3, 101, 2, 9, 1014) := by decide +kernel
theorem tX8_look_132 : gAt kX8_look 132 = some (.ifCond .eq 7, 3, 139, 0, 0, 0) := by decide +kernel
theorem tX8_look_135 : gAt kX8_look 135 = some (.iconst 1, 1, 1, 0, 0, 0) := by decide +kernel
theorem tX8_look_136 : gAt kX8_look 136 = some (.goto 4, 3, 140, 0, 0, 0) := by decide +kernel
theorem tX8_look_139 : gAt kX8_look 139 = some (.iconst 0, 1, 0, 0, 0, 0) := by decide +kernel
theorem tX8_look_140 : gAt kX8_look 140 = some (.ireturn, 1, 0, 0, 0, 0) := by decide +kernel
theorem tX8_look_144 : gAt kX8_look 144 = some (.dup, 1, 0, 0, 0, 0) := by decide +kernel
theorem tX8_look_145 : gAt kX8_look 145 = some (.ldc 243, 2, 0, 0, 7, 0) := by decide +kernel
theorem tX8_look_147 : gAt kX8_look 147 = some (.invokespecial 227, 3, 9998, 1, 0, 0) := by decide +kernel
theorem tX8_look_150 : gAt kX8_look 150 = some (.athrow, 1, 0, 0, 0, 0) := by decide +kernel
set_option maxRecDepth 100000 in
theorem okX8_read : (gTb mX8_read).all (okE gF gNM mX8_read) = true := by decide +kernel
theorem pnX8_read : plainName (gY mX8_read).cls = true := by decide +kernel
theorem tX8_read_0 : gAt mX8_read 0 = some (.iload_n 1, 1, 0, 0, 0, 0) := by decide +kernel
theorem tX8_read_1 : gAt mX8_read 1 = some (.ifCond .lt 14, 3, 15, 0, 0, 0) := by decide +kernel
theorem tX8_read_4 : gAt mX8_read 4 = some (.iload_n 1, 1, 0, 0, 0, 0) := by decide +kernel
theorem tX8_read_5 : gAt mX8_read 5 = some (.aload_n 0, 1, 0, 0, 0, 0) := by decide +kernel
theorem tX8_read_6 : gAt mX8_read 6 = some (.getfield 33, 3, 9, 6, 2, 194) := by decide +kernel
theorem tX8_read_9 : gAt mX8_read 9 = some (.invokevirtual 76, 3, 190, 0, 0, 258) := by decide +kernel
theorem tX8_read_12 : gAt mX8_read 12 = some (.if_icmp .lt 5, 3, 17, 0, 0, 0) := by decide +kernel
theorem tX8_read_15 : gAt mX8_read 15 = some (.iconst (-1), 1, 1, 1, 0, 0) := by decide +kernel
theorem tX8_read_16 : gAt mX8_read 16 = some (.ireturn, 1, 0, 0, 0, 0) := by decide +kernel
theorem tX8_read_17 : gAt mX8_read 17 = some (.aload_n 0, 1, 0, 0, 0, 0) := by decide +kernel
theorem tX8_read_18 : gAt mX8_read 18 = some (.getfield 33, 3, 9, 6, 2, 194) := by decide +kernel
theorem tX8_read_21 : gAt mX8_read 21 = some (.iload_n 1, 1, 0, 0, 0, 0) := by decide +kernel
theorem tX8_read_22 : gAt mX8_read 22 = some (.invokevirtual 188, 3, 192, 1, 0, 368) := by decide +kernel
theorem tX8_read_25 : gAt mX8_read 25 = some (.checkcast 245, 3, 3, 0, 0, 362) := by decide +kernel
theorem tX8_read_28 : gAt mX8_read 28 = some (.astore_n 3, 1, 0, 0, 0, 0) := by decide +kernel
theorem tX8_read_29 : gAt mX8_read 29 = some (.iload_n 2, 1, 0, 0, 0, 0) := by decide +kernel
theorem tX8_read_30 : gAt mX8_read 30 = some (.tableswitch 78 0 3 #[30, 38, 46, 55], 30, 0, 0, 0, 0) := by decide +kernel
theorem tX8_read_60 : gAt mX8_read 60 = some (.aload_n 3, 1, 0, 0, 0, 0) := by decide +kernel
theorem tX8_read_61 : gAt mX8_read 61 = some (.getfield 247, 3, 3, 1, 2, 443) := by decide +kernel
theorem tX8_read_64 : gAt mX8_read 64 = some (.getfield 93, 3, 4, 0, 0, 271) := by decide +kernel
theorem tX8_read_67 : gAt mX8_read 67 = some (.ireturn, 1, 0, 0, 0, 0) := by decide +kernel
theorem tX8_read_68 : gAt mX8_read 68 = some (.aload_n 3, 1, 0, 0, 0, 0) := by decide +kernel
theorem tX8_read_69 : gAt mX8_read 69 = some (.getfield 251, 3, 3, 2, 2, 447) := by decide +kernel
theorem tX8_read_72 : gAt mX8_read 72 = some (.getfield 255, 3, 8, 0, 0, 403) := by decide +kernel
theorem tX8_read_75 : gAt mX8_read 75 = some (.ireturn, 1, 0, 0, 0, 0) := by decide +kernel
theorem tX8_read_76 : gAt mX8_read 76 = some (.aload_n 3, 1, 0, 0, 0, 0) := by decide +kernel
theorem tX8_read_77 : gAt mX8_read 77 = some (.getfield 251, 3, 3, 2, 2, 447) := by decide +kernel
theorem tX8_read_80 : gAt mX8_read 80 = some (.getfield 116, 3, 8, 1, 2, 406) := by decide +kernel
theorem tX8_read_83 : gAt mX8_read 83 = some (.arraylength, 1, 12, 0, 0, 0) := by decide +kernel
theorem tX8_read_84 : gAt mX8_read 84 = some (.ireturn, 1, 0, 0, 0, 0) := by decide +kernel
theorem tX8_read_85 : gAt mX8_read 85 = some (.aload_n 3, 1, 0, 0, 0, 0) := by decide +kernel
theorem tX8_read_86 : gAt mX8_read 86 = some (.getfield 251, 3, 3, 2, 2, 447) := by decide +kernel
theorem tX8_read_89 : gAt mX8_read 89 = some (.aload_n 0, 1, 0, 0, 0, 0) := by decide +kernel
theorem tX8_read_90 : gAt mX8_read 90 = some (.getfield 58, 3, 9, 12, 2, 200) := by decide +kernel
theorem tX8_read_93 : gAt mX8_read 93 = some (.aload_n 3, 1, 0, 0, 0, 0) := by decide +kernel
theorem tX8_read_94 : gAt mX8_read 94 = some (.getfield 247, 3, 3, 1, 2, 443) := by decide +kernel
theorem tX8_read_97 : gAt mX8_read 97 = some (.aload_n 0, 1, 0, 0, 0, 0) := by decide +kernel
theorem tX8_read_98 : gAt mX8_read 98 = some (.getfield 7, 3, 9, 0, 0, 188) := by decide +kernel
theorem tX8_read_101 : gAt mX8_read 101 = some (.invokevirtual 256, 3, 29, 2, 6, 792) := by decide +kernel
theorem tX8_read_104 : gAt mX8_read 104 = some (.invokevirtual 260, 3, 57, 1, 8, 931) := by decide +kernel
theorem tX8_read_107 : gAt mX8_read 107 = some (.ireturn, 1, 0, 0, 0, 0) := by decide +kernel
theorem tX8_read_108 : gAt mX8_read 108 = some (.iload_n 2, 1, 0, 0, 0, 0) := by decide +kernel
theorem tX8_read_109 : gAt mX8_read 109 = some (.aload_n 3, 1, 0, 0, 0, 0) := by decide +kernel
theorem tX8_read_110 : gAt mX8_read 110 = some (.getfield 251, 3, 3, 2, 2, 447) := by decide +kernel
theorem tX8_read_113 : gAt mX8_read 113 = some (.getfield 116, 3, 8, 1, 2, 406) := by decide +kernel
theorem tX8_read_116 : gAt mX8_read 116 = some (.arraylength, 1, 12, 0, 0, 0) := by decide +kernel
theorem tX8_read_117 : gAt mX8_read 117 = some (.invokestatic 220, 3, 89, 2, 9, 924) := by decide +kernel
theorem tX8_read_120 : gAt mX8_read 120 = some (.istore 4, 2, 0, 0, 0, 0) := by decide +kernel
theorem tX8_read_122 : gAt mX8_read 122 = some (.iload 4, 2, 0, 0, 0, 0) := by decide +kernel
theorem tX8_read_124 : gAt mX8_read 124 = some (.iconst (-1), 1, 1, 1, 0, 0) := by decide +kernel
theorem tX8_read_125 : gAt mX8_read 125 = some (.if_icmp .ne 7, 3, 132, 0, 0, 0) := by decide +kernel
theorem tX8_read_128 : gAt mX8_read 128 = some (.iconst (-1), 1, 1, 1, 0, 0) := by decide +kernel
theorem tX8_read_129 : gAt mX8_read 129 = some (.goto 27, 3, 156, 0, 0, 0) := by decide +kernel
theorem tX8_read_132 : gAt mX8_read 132 = some (.aload_n 3, 1, 0, 0, 0, 0) := by decide +kernel
theorem tX8_read_133 : gAt mX8_read 133 = some (.getfield 251, 3, 3, 2, 2, 447) := by decide +kernel
theorem tX8_read_136 : gAt mX8_read 136 = some (.iload 4, 2, 0, 0, 0, 0) := by decide +kernel
theorem tX8_read_138 : gAt mX8_read 138 = some (.aload_n 0, 1, 0, 0, 0, 0) := by decide +kernel
theorem tX8_read_139 : gAt mX8_read 139 = some (.getfield 58, 3, 9, 12, 2, 200) := by decide +kernel
theorem tX8_read_142 : gAt mX8_read 142 = some (.aload_n 3, 1, 0, 0, 0, 0) := by decide +kernel
theorem tX8_read_143 : gAt mX8_read 143 = some (.getfield 247, 3, 3, 1, 2, 443) := by decide +kernel
theorem tX8_read_146 : gAt mX8_read 146 = some (.aload_n 0, 1, 0, 0, 0, 0) := by decide +kernel
theorem tX8_read_147 : gAt mX8_read 147 = some (.getfield 7, 3, 9, 0, 0, 188) := by decide +kernel
theorem tX8_read_150 : gAt mX8_read 150 = some (.invokevirtual 256, 3, 29, 2, 6, 792) := by decide +kernel
theorem tX8_read_153 : gAt mX8_read 153 = some (.invokevirtual 264, 3, 56, 2, 8, 932) := by decide +kernel
theorem tX8_read_156 : gAt mX8_read 156 = some (.ireturn, 1, 0, 0, 0, 0) := by decide +kernel
set_option maxRecDepth 100000 in
theorem okX8_count : (gTb mX8_count).all (okE gF gNM mX8_count) = true := by decide +kernel
theorem pnX8_count : plainName (gY mX8_count).cls = true := by decide +kernel
theorem tX8_count_0 : gAt mX8_count 0 = some (.iload_n 1, 1, 0, 0, 0, 0) := by decide +kernel
theorem tX8_count_1 : gAt mX8_count 1 = some (.tableswitch 135 0 10 #[59, 64, 72, 80, 88, 93, 101, 109, 114, 122, 130], 59, 0, 0, 0, 0) := by decide +kernel
theorem tX8_count_60 : gAt mX8_count 60 = some (.aload_n 0, 1, 0, 0, 0, 0) := by decide +kernel
theorem tX8_count_61 : gAt mX8_count 61 = some (.getfield 17, 3, 9, 2, 0, 190) := by decide +kernel
theorem tX8_count_64 : gAt mX8_count 64 = some (.ireturn, 1, 0, 0, 0, 0) := by decide +kernel
theorem tX8_count_65 : gAt mX8_count 65 = some (.aload_n 0, 1, 0, 0, 0, 0) := by decide +kernel
theorem tX8_count_66 : gAt mX8_count 66 = some (.getfield 29, 3, 9, 5, 2, 193) := by decide +kernel
theorem tX8_count_69 : gAt mX8_count 69 = some (.invokevirtual 76, 3, 190, 0, 0, 258) := by decide +kernel
theorem tX8_count_72 : gAt mX8_count 72 = some (.ireturn, 1, 0, 0, 0, 0) := by decide +kernel
theorem tX8_count_73 : gAt mX8_count 73 = some (.aload_n 0, 1, 0, 0, 0, 0) := by decide +kernel
theorem tX8_count_74 : gAt mX8_count 74 = some (.getfield 33, 3, 9, 6, 2, 194) := by decide +kernel
theorem tX8_count_77 : gAt mX8_count 77 = some (.invokevirtual 76, 3, 190, 0, 0, 258) := by decide +kernel
theorem tX8_count_80 : gAt mX8_count 80 = some (.ireturn, 1, 0, 0, 0, 0) := by decide +kernel
theorem tX8_count_81 : gAt mX8_count 81 = some (.aload_n 0, 1, 0, 0, 0, 0) := by decide +kernel
theorem tX8_count_82 : gAt mX8_count 82 = some (.getfield 36, 3, 9, 7, 2, 195) := by decide +kernel
theorem tX8_count_85 : gAt mX8_count 85 = some (.invokevirtual 76, 3, 190, 0, 0, 258) := by decide +kernel
theorem tX8_count_88 : gAt mX8_count 88 = some (.ireturn, 1, 0, 0, 0, 0) := by decide +kernel
theorem tX8_count_89 : gAt mX8_count 89 = some (.aload_n 0, 1, 0, 0, 0, 0) := by decide +kernel
theorem tX8_count_90 : gAt mX8_count 90 = some (.invokevirtual 267, 3, 93, 0, 9, 937) := by decide +kernel
theorem tX8_count_93 : gAt mX8_count 93 = some (.ireturn, 1, 0, 0, 0, 0) := by decide +kernel
theorem tX8_count_94 : gAt mX8_count 94 = some (.aload_n 0, 1, 0, 0, 0, 0) := by decide +kernel
theorem tX8_count_95 : gAt mX8_count 95 = some (.getfield 39, 3, 9, 8, 2, 196) := by decide +kernel
theorem tX8_count_98 : gAt mX8_count 98 = some (.invokevirtual 76, 3, 190, 0, 0, 258) := by decide +kernel
theorem tX8_count_101 : gAt mX8_count 101 = some (.ireturn, 1, 0, 0, 0, 0) := by decide +kernel
theorem tX8_count_102 : gAt mX8_count 102 = some (.aload_n 0, 1, 0, 0, 0, 0) := by decide +kernel
theorem tX8_count_103 : gAt mX8_count 103 = some (.getfield 42, 3, 9, 9, 2, 197) := by decide +kernel
theorem tX8_count_106 : gAt mX8_count 106 = some (.invokevirtual 76, 3, 190, 0, 0, 258) := by decide +kernel
theorem tX8_count_109 : gAt mX8_count 109 = some (.ireturn, 1, 0, 0, 0, 0) := by decide +kernel
theorem tX8_count_110 : gAt mX8_count 110 = some (.aload_n 0, 1, 0, 0, 0, 0) := by decide +kernel
theorem tX8_count_111 : gAt mX8_count 111 = some (.getfield 7, 3, 9, 0, 0, 188) := by decide +kernel
theorem tX8_count_114 : gAt mX8_count 114 = some (.ireturn, 1, 0, 0, 0, 0) := by decide +kernel
theorem tX8_count_115 : gAt mX8_count 115 = some (.aload_n 0, 1, 0, 0, 0, 0) := by decide +kernel
theorem tX8_count_116 : gAt mX8_count 116 = some (.getfield 58, 3, 9, 12, 2, 200) := by decide +kernel
theorem tX8_count_119 : gAt mX8_count 119 = some (.getfield 270, 3, 6, 0, 0, 169) := by decide +kernel
theorem tX8_count_122 : gAt mX8_count 122 = some (.ireturn, 1, 0, 0, 0, 0) := by decide +kernel
theorem tX8_count_123 : gAt mX8_count 123 = some (.aload_n 0, 1, 0, 0, 0, 0) := by decide +kernel
theorem tX8_count_124 : gAt mX8_count 124 = some (.getfield 51, 3, 9, 11, 2, 199) := by decide +kernel
theorem tX8_count_127 : gAt mX8_count 127 = some (.getfield 133, 3, 7, 1, 0, 148) := by decide +kernel
theorem tX8_count_130 : gAt mX8_count 130 = some (.ireturn, 1, 0, 0, 0, 0) := by decide +kernel
theorem tX8_count_131 : gAt mX8_count 131 = some (.aload_n 0, 1, 0, 0, 0, 0) := by decide +kernel
theorem tX8_count_132 : gAt mX8_count 132 = some (.getfield 23, 3, 9, 4, 0, 192) := by decide +kernel
theorem tX8_count_135 : gAt mX8_count 135 = some (.ireturn, 1, 0, 0, 0, 0) := by decide +kernel
theorem tX8_count_136 : gAt mX8_count 136 = some (.iconst (-1), 1, 1, 1, 0, 0) := by decide +kernel
theorem tX8_count_137 : gAt mX8_count 137 = some (.ireturn, 1, 0, 0, 0, 0) := by decide +kernel
set_option maxRecDepth 100000 in
theorem okX8_isFolder : (gTb mX8_isFolder).all (okE gF gNM mX8_isFolder) = true := by decide +kernel
theorem pnX8_isFolder : plainName (gY mX8_isFolder).cls = true := by decide +kernel
theorem tX8_isFolder_0 : gAt mX8_isFolder 0 = some (.iload_n 1, 1, 0, 0, 0, 0) := by decide +kernel
theorem tX8_isFolder_1 : gAt mX8_isFolder 1 = some (.ifCond .lt 15, 3, 16, 0, 0, 0) := by decide +kernel
theorem tX8_isFolder_4 : gAt mX8_isFolder 4 = some (.iload_n 1, 1, 0, 0, 0, 0) := by decide +kernel
theorem tX8_isFolder_5 : gAt mX8_isFolder 5 = some (.aload_n 0, 1, 0, 0, 0, 0) := by decide +kernel
theorem tX8_isFolder_6 : gAt mX8_isFolder 6 = some (.getfield 17, 3, 9, 2, 0, 190) := by decide +kernel
theorem tX8_isFolder_9 : gAt mX8_isFolder 9 = some (.if_icmp .ge 7, 3, 16, 0, 0, 0) := by decide +kernel
theorem tX8_isFolder_12 : gAt mX8_isFolder 12 = some (.iconst 1, 1, 1, 0, 0, 0) := by decide +kernel
theorem tX8_isFolder_13 : gAt mX8_isFolder 13 = some (.goto 4, 3, 17, 0, 0, 0) := by decide +kernel
theorem tX8_isFolder_16 : gAt mX8_isFolder 16 = some (.iconst 0, 1, 0, 0, 0, 0) := by decide +kernel
theorem tX8_isFolder_17 : gAt mX8_isFolder 17 = some (.ireturn, 1, 1, 0, 0, 0) := by decide +kernel
set_option maxRecDepth 100000 in
theorem okX8_isWord : (gTb mX8_isWord).all (okE gF gNM mX8_isWord) = true := by decide +kernel
theorem pnX8_isWord : plainName (gY mX8_isWord).cls = true := by decide +kernel
theorem tX8_isWord_0 : gAt mX8_isWord 0 = some (.iload_n 0, 1, 0, 0, 0, 0) := by decide +kernel
theorem tX8_isWord_1 : gAt mX8_isWord 1 = some (.iconst 1, 1, 1, 0, 0, 0) := by decide +kernel
theorem tX8_isWord_2 : gAt mX8_isWord 2 = some (.if_icmp .lt 13, 3, 15, 0, 0, 0) := by decide +kernel
theorem tX8_isWord_5 : gAt mX8_isWord 5 = some (.iload_n 0, 1, 0, 0, 0, 0) := by decide +kernel
theorem tX8_isWord_6 : gAt mX8_isWord 6 = some (.bipush 99, 2, 99, 0, 0, 0) := by decide +kernel
theorem tX8_isWord_8 : gAt mX8_isWord 8 = some (.if_icmp .gt 7, 3, 15, 0, 0, 0) := by decide +kernel
theorem tX8_isWord_11 : gAt mX8_isWord 11 = some (.iconst 1, 1, 1, 0, 0, 0) := by decide +kernel
theorem tX8_isWord_12 : gAt mX8_isWord 12 = some (.goto 4, 3, 16, 0, 0, 0) := by decide +kernel
theorem tX8_isWord_15 : gAt mX8_isWord 15 = some (.iconst 0, 1, 0, 0, 0, 0) := by decide +kernel
theorem tX8_isWord_16 : gAt mX8_isWord 16 = some (.ireturn, 1, 1, 0, 0, 0) := by decide +kernel
set_option maxRecDepth 100000 in
theorem okX8_isPerson : (gTb mX8_isPerson).all (okE gF gNM mX8_isPerson) = true := by decide +kernel
theorem pnX8_isPerson : plainName (gY mX8_isPerson).cls = true := by decide +kernel
theorem tX8_isPerson_0 : gAt mX8_isPerson 0 = some (.iload_n 0, 1, 0, 0, 0, 0) := by decide +kernel
theorem tX8_isPerson_1 : gAt mX8_isPerson 1 = some (.ifCond .lt 13, 3, 14, 0, 0, 0) := by decide +kernel
theorem tX8_isPerson_4 : gAt mX8_isPerson 4 = some (.iload_n 0, 1, 0, 0, 0, 0) := by decide +kernel
theorem tX8_isPerson_5 : gAt mX8_isPerson 5 = some (.bipush 8, 2, 8, 0, 0, 0) := by decide +kernel
theorem tX8_isPerson_7 : gAt mX8_isPerson 7 = some (.if_icmp .ge 7, 3, 14, 0, 0, 0) := by decide +kernel
theorem tX8_isPerson_10 : gAt mX8_isPerson 10 = some (.iconst 1, 1, 1, 0, 0, 0) := by decide +kernel
theorem tX8_isPerson_11 : gAt mX8_isPerson 11 = some (.goto 4, 3, 15, 0, 0, 0) := by decide +kernel
theorem tX8_isPerson_14 : gAt mX8_isPerson 14 = some (.iconst 0, 1, 0, 0, 0, 0) := by decide +kernel
theorem tX8_isPerson_15 : gAt mX8_isPerson 15 = some (.ireturn, 1, 1, 0, 0, 0) := by decide +kernel
set_option maxRecDepth 100000 in
theorem okX8_paperAt : (gTb mX8_paperAt).all (okE gF gNM mX8_paperAt) = true := by decide +kernel
theorem pnX8_paperAt : plainName (gY mX8_paperAt).cls = true := by decide +kernel
theorem tX8_paperAt_0 : gAt mX8_paperAt 0 = some (.iload_n 1, 1, 0, 0, 0, 0) := by decide +kernel
theorem tX8_paperAt_1 : gAt mX8_paperAt 1 = some (.ifCond .lt 28, 3, 29, 0, 0, 0) := by decide +kernel
theorem tX8_paperAt_4 : gAt mX8_paperAt 4 = some (.iload_n 1, 1, 0, 0, 0, 0) := by decide +kernel
theorem tX8_paperAt_5 : gAt mX8_paperAt 5 = some (.aload_n 0, 1, 0, 0, 0, 0) := by decide +kernel
theorem tX8_paperAt_6 : gAt mX8_paperAt 6 = some (.getfield 29, 3, 9, 5, 2, 193) := by decide +kernel
theorem tX8_paperAt_9 : gAt mX8_paperAt 9 = some (.invokevirtual 76, 3, 190, 0, 0, 258) := by decide +kernel
theorem tX8_paperAt_12 : gAt mX8_paperAt 12 = some (.if_icmp .ge 17, 3, 29, 0, 0, 0) := by decide +kernel
theorem tX8_paperAt_15 : gAt mX8_paperAt 15 = some (.aload_n 0, 1, 0, 0, 0, 0) := by decide +kernel
theorem tX8_paperAt_16 : gAt mX8_paperAt 16 = some (.getfield 29, 3, 9, 5, 2, 193) := by decide +kernel
theorem tX8_paperAt_19 : gAt mX8_paperAt 19 = some (.iload_n 1, 1, 0, 0, 0, 0) := by decide +kernel
theorem tX8_paperAt_20 : gAt mX8_paperAt 20 = some (.invokevirtual 188, 3, 192, 1, 0, 368) := by decide +kernel
theorem tX8_paperAt_23 : gAt mX8_paperAt 23 = some (.checkcast 80, 3, 4, 0, 0, 262) := by decide +kernel
theorem tX8_paperAt_26 : gAt mX8_paperAt 26 = some (.goto 4, 3, 30, 0, 0, 0) := by decide +kernel
theorem tX8_paperAt_29 : gAt mX8_paperAt 29 = some (.aconst_null, 1, 0, 0, 0, 0) := by decide +kernel
theorem tX8_paperAt_30 : gAt mX8_paperAt 30 = some (.areturn, 1, 0, 0, 0, 0) := by decide +kernel
set_option maxRecDepth 100000 in
theorem okX8_textAt : (gTb mX8_textAt).all (okE gF gNM mX8_textAt) = true := by decide +kernel
theorem pnX8_textAt : plainName (gY mX8_textAt).cls = true := by decide +kernel
theorem tX8_textAt_0 : gAt mX8_textAt 0 = some (.iload_n 1, 1, 0, 0, 0, 0) := by decide +kernel
theorem tX8_textAt_1 : gAt mX8_textAt 1 = some (.ifCond .lt 28, 3, 29, 0, 0, 0) := by decide +kernel
theorem tX8_textAt_4 : gAt mX8_textAt 4 = some (.iload_n 1, 1, 0, 0, 0, 0) := by decide +kernel
theorem tX8_textAt_5 : gAt mX8_textAt 5 = some (.aload_n 0, 1, 0, 0, 0, 0) := by decide +kernel
theorem tX8_textAt_6 : gAt mX8_textAt 6 = some (.getfield 36, 3, 9, 7, 2, 195) := by decide +kernel
theorem tX8_textAt_9 : gAt mX8_textAt 9 = some (.invokevirtual 76, 3, 190, 0, 0, 258) := by decide +kernel
theorem tX8_textAt_12 : gAt mX8_textAt 12 = some (.if_icmp .ge 17, 3, 29, 0, 0, 0) := by decide +kernel
theorem tX8_textAt_15 : gAt mX8_textAt 15 = some (.aload_n 0, 1, 0, 0, 0, 0) := by decide +kernel
theorem tX8_textAt_16 : gAt mX8_textAt 16 = some (.getfield 36, 3, 9, 7, 2, 195) := by decide +kernel
theorem tX8_textAt_19 : gAt mX8_textAt 19 = some (.iload_n 1, 1, 0, 0, 0, 0) := by decide +kernel
theorem tX8_textAt_20 : gAt mX8_textAt 20 = some (.invokevirtual 188, 3, 192, 1, 0, 368) := by decide +kernel
theorem tX8_textAt_23 : gAt mX8_textAt 23 = some (.checkcast 111, 3, 8, 0, 0, 382) := by decide +kernel
theorem tX8_textAt_26 : gAt mX8_textAt 26 = some (.goto 4, 3, 30, 0, 0, 0) := by decide +kernel
theorem tX8_textAt_29 : gAt mX8_textAt 29 = some (.aconst_null, 1, 0, 0, 0, 0) := by decide +kernel
theorem tX8_textAt_30 : gAt mX8_textAt 30 = some (.areturn, 1, 0, 0, 0, 0) := by decide +kernel
set_option maxRecDepth 100000 in
theorem okX8_askAt : (gTb mX8_askAt).all (okE gF gNM mX8_askAt) = true := by decide +kernel
theorem pnX8_askAt : plainName (gY mX8_askAt).cls = true := by decide +kernel
theorem tX8_askAt_0 : gAt mX8_askAt 0 = some (.iload_n 1, 1, 0, 0, 0, 0) := by decide +kernel
theorem tX8_askAt_1 : gAt mX8_askAt 1 = some (.ifCond .lt 28, 3, 29, 0, 0, 0) := by decide +kernel
theorem tX8_askAt_4 : gAt mX8_askAt 4 = some (.iload_n 1, 1, 0, 0, 0, 0) := by decide +kernel
theorem tX8_askAt_5 : gAt mX8_askAt 5 = some (.aload_n 0, 1, 0, 0, 0, 0) := by decide +kernel
theorem tX8_askAt_6 : gAt mX8_askAt 6 = some (.getfield 39, 3, 9, 8, 2, 196) := by decide +kernel
theorem tX8_askAt_9 : gAt mX8_askAt 9 = some (.invokevirtual 76, 3, 190, 0, 0, 258) := by decide +kernel
theorem tX8_askAt_12 : gAt mX8_askAt 12 = some (.if_icmp .ge 17, 3, 29, 0, 0, 0) := by decide +kernel
theorem tX8_askAt_15 : gAt mX8_askAt 15 = some (.aload_n 0, 1, 0, 0, 0, 0) := by decide +kernel
theorem tX8_askAt_16 : gAt mX8_askAt 16 = some (.getfield 39, 3, 9, 8, 2, 196) := by decide +kernel
theorem tX8_askAt_19 : gAt mX8_askAt 19 = some (.iload_n 1, 1, 0, 0, 0, 0) := by decide +kernel
theorem tX8_askAt_20 : gAt mX8_askAt 20 = some (.invokevirtual 188, 3, 192, 1, 0, 368) := by decide +kernel
theorem tX8_askAt_23 : gAt mX8_askAt 23 = some (.checkcast 147, 3, 1, 0, 0, 697) := by decide +kernel
theorem tX8_askAt_26 : gAt mX8_askAt 26 = some (.goto 4, 3, 30, 0, 0, 0) := by decide +kernel
theorem tX8_askAt_29 : gAt mX8_askAt 29 = some (.aconst_null, 1, 0, 0, 0, 0) := by decide +kernel
theorem tX8_askAt_30 : gAt mX8_askAt 30 = some (.areturn, 1, 0, 0, 0, 0) := by decide +kernel
set_option maxRecDepth 100000 in
theorem okX8_placeAsked : (gTb mX8_placeAsked).all (okE gF gNM mX8_placeAsked) = true := by decide +kernel
theorem pnX8_placeAsked : plainName (gY mX8_placeAsked).cls = true := by decide +kernel
theorem tX8_placeAsked_0 : gAt mX8_placeAsked 0 = some (.iload_n 0, 1, 0, 0, 0, 0) := by decide +kernel
theorem tX8_placeAsked_1 : gAt mX8_placeAsked 1 = some (.iconst 4, 1, 4, 0, 0, 0) := by decide +kernel
theorem tX8_placeAsked_2 : gAt mX8_placeAsked 2 = some (.if_icmp .lt 10, 3, 12, 0, 0, 0) := by decide +kernel
theorem tX8_placeAsked_5 : gAt mX8_placeAsked 5 = some (.iload_n 0, 1, 0, 0, 0, 0) := by decide +kernel
theorem tX8_placeAsked_6 : gAt mX8_placeAsked 6 = some (.iconst 4, 1, 4, 0, 0, 0) := by decide +kernel
theorem tX8_placeAsked_7 : gAt mX8_placeAsked 7 = some (.isub, 1, 0, 0, 0, 0) := by decide +kernel
theorem tX8_placeAsked_8 : gAt mX8_placeAsked 8 = some (.iload_n 1, 1, 0, 0, 0, 0) := by decide +kernel
theorem tX8_placeAsked_9 : gAt mX8_placeAsked 9 = some (.if_icmp .lt 5, 3, 14, 0, 0, 0) := by decide +kernel
theorem tX8_placeAsked_12 : gAt mX8_placeAsked 12 = some (.iconst (-1), 1, 1, 1, 0, 0) := by decide +kernel
theorem tX8_placeAsked_13 : gAt mX8_placeAsked 13 = some (.ireturn, 1, 0, 0, 0, 0) := by decide +kernel
theorem tX8_placeAsked_14 : gAt mX8_placeAsked 14 = some (.iload_n 0, 1, 0, 0, 0, 0) := by decide +kernel
theorem tX8_placeAsked_15 : gAt mX8_placeAsked 15 = some (.iconst 4, 1, 4, 0, 0, 0) := by decide +kernel
theorem tX8_placeAsked_16 : gAt mX8_placeAsked 16 = some (.isub, 1, 0, 0, 0, 0) := by decide +kernel
theorem tX8_placeAsked_17 : gAt mX8_placeAsked 17 = some (.ireturn, 1, 0, 0, 0, 0) := by decide +kernel
set_option maxRecDepth 100000 in
theorem okX8_canTakePage : (gTb mX8_canTakePage).all (okE gF gNM mX8_canTakePage) = true := by decide +kernel
theorem pnX8_canTakePage : plainName (gY mX8_canTakePage).cls = true := by decide +kernel
theorem tX8_canTakePage_0 : gAt mX8_canTakePage 0 = some (.aload_n 0, 1, 0, 0, 0, 0) := by decide +kernel
theorem tX8_canTakePage_1 : gAt mX8_canTakePage 1 = some (.getfield 23, 3, 9, 4, 0, 192) := by decide +kernel
theorem tX8_canTakePage_4 : gAt mX8_canTakePage 4 = some (.ifCond .le 19, 3, 23, 0, 0, 0) := by decide +kernel
theorem tX8_canTakePage_7 : gAt mX8_canTakePage 7 = some (.aload_n 0, 1, 0, 0, 0, 0) := by decide +kernel
theorem tX8_canTakePage_8 : gAt mX8_canTakePage 8 = some (.getfield 33, 3, 9, 6, 2, 194) := by decide +kernel
theorem tX8_canTakePage_11 : gAt mX8_canTakePage 11 = some (.invokevirtual 76, 3, 190, 0, 0, 258) := by decide +kernel
theorem tX8_canTakePage_14 : gAt mX8_canTakePage 14 = some (.bipush 120, 2, 120, 0, 0, 0) := by decide +kernel
theorem tX8_canTakePage_16 : gAt mX8_canTakePage 16 = some (.if_icmp .ge 7, 3, 23, 0, 0, 0) := by decide +kernel
theorem tX8_canTakePage_19 : gAt mX8_canTakePage 19 = some (.iconst 1, 1, 1, 0, 0, 0) := by decide +kernel
theorem tX8_canTakePage_20 : gAt mX8_canTakePage 20 = some (.goto 4, 3, 24, 0, 0, 0) := by decide +kernel
theorem tX8_canTakePage_23 : gAt mX8_canTakePage 23 = some (.iconst 0, 1, 0, 0, 0, 0) := by decide +kernel
theorem tX8_canTakePage_24 : gAt mX8_canTakePage 24 = some (.ireturn, 1, 1, 0, 0, 0) := by decide +kernel
set_option maxRecDepth 100000 in
theorem okX8_addToldPage : (gTb mX8_addToldPage).all (okE gF gNM mX8_addToldPage) = true := by decide +kernel
theorem pnX8_addToldPage : plainName (gY mX8_addToldPage).cls = true := by decide +kernel
theorem tX8_addToldPage_0 : gAt mX8_addToldPage 0 = some (.new 245, 3, 3, 0, 0, 362) := by decide +kernel
theorem tX8_addToldPage_3 : gAt mX8_addToldPage 3 = some (.dup, 1, 0, 0, 0, 0) := by decide +kernel
theorem tX8_addToldPage_4 : gAt mX8_addToldPage 4 = some (.aload_n 0, 1, 0, 0, 0, 0) := by decide +kernel
theorem tX8_addToldPage_5 : gAt mX8_addToldPage 5 = some (.getfield 33, 3, 9, 6, 2, 194) := by decide +kernel
theorem tX8_addToldPage_8 : gAt mX8_addToldPage 8 = some (.invokevirtual 76, 3, 190, 0, 0, 258) := by decide +kernel
theorem tX8_addToldPage_11 : gAt mX8_addToldPage 11 = some (.aload_n 1, 1, 0, 0, 0, 0) := by decide +kernel
theorem tX8_addToldPage_12 : gAt mX8_addToldPage 12 = some (.aload_n 0, 1, 0, 0, 0, 0) := by decide +kernel
theorem tX8_addToldPage_13 : gAt mX8_addToldPage 13 = some (.invokevirtual 273, 3, 92, 0, 9, 364) := by decide +kernel
theorem tX8_addToldPage_16 : gAt mX8_addToldPage 16 = some (.invokespecial 277, 3, 11, 3, 3, 436) := by decide +kernel
theorem tX8_addToldPage_19 : gAt mX8_addToldPage 19 = some (.astore_n 2, 1, 0, 0, 0, 0) := by decide +kernel
theorem tX8_addToldPage_20 : gAt mX8_addToldPage 20 = some (.aload_n 0, 1, 0, 0, 0, 0) := by decide +kernel
theorem tX8_addToldPage_21 : gAt mX8_addToldPage 21 = some (.getfield 33, 3, 9, 6, 2, 194) := by decide +kernel
theorem tX8_addToldPage_24 : gAt mX8_addToldPage 24 = some (.aload_n 2, 1, 0, 0, 0, 0) := by decide +kernel
theorem tX8_addToldPage_25 : gAt mX8_addToldPage 25 = some (.invokevirtual 85, 3, 194, 1, 0, 299) := by decide +kernel
theorem tX8_addToldPage_28 : gAt mX8_addToldPage 28 = some (.pop, 1, 0, 0, 0, 0) := by decide +kernel
theorem tX8_addToldPage_29 : gAt mX8_addToldPage 29 = some (.aload_n 1, 1, 0, 0, 0, 0) := by decide +kernel
theorem tX8_addToldPage_30 : gAt mX8_addToldPage 30 = some (.getfield 280, 3, 4, 3, 2, 280) := by decide +kernel
theorem tX8_addToldPage_33 : gAt mX8_addToldPage 33 = some (.aload_n 2, 1, 0, 0, 0, 0) := by decide +kernel
theorem tX8_addToldPage_34 : gAt mX8_addToldPage 34 = some (.invokevirtual 85, 3, 194, 1, 0, 299) := by decide +kernel
theorem tX8_addToldPage_37 : gAt mX8_addToldPage 37 = some (.pop, 1, 0, 0, 0, 0) := by decide +kernel
theorem tX8_addToldPage_38 : gAt mX8_addToldPage 38 = some (.aload_n 0, 1, 0, 0, 0, 0) := by decide +kernel
theorem tX8_addToldPage_39 : gAt mX8_addToldPage 39 = some (.iconst 0, 1, 0, 0, 0, 0) := by decide +kernel
theorem tX8_addToldPage_40 : gAt mX8_addToldPage 40 = some (.putfield 23, 3, 9, 4, 0, 192) := by decide +kernel
theorem tX8_addToldPage_43 : gAt mX8_addToldPage 43 = some (.return_, 1, 0, 0, 0, 0) := by decide +kernel
set_option maxRecDepth 100000 in
theorem okX8_toldText : (gTb mX8_toldText).all (okE gF gNM mX8_toldText) = true := by decide +kernel
theorem pnX8_toldText : plainName (gY mX8_toldText).cls = true := by decide +kernel
theorem tX8_toldText_0 : gAt mX8_toldText 0 = some (.iconst 0, 1, 0, 0, 0, 0) := by decide +kernel
theorem tX8_toldText_1 : gAt mX8_toldText 1 = some (.istore_n 1, 1, 0, 0, 0, 0) := by decide +kernel
theorem tX8_toldText_2 : gAt mX8_toldText 2 = some (.iload_n 1, 1, 0, 0, 0, 0) := by decide +kernel
theorem tX8_toldText_3 : gAt mX8_toldText 3 = some (.aload_n 0, 1, 0, 0, 0, 0) := by decide +kernel
theorem tX8_toldText_4 : gAt mX8_toldText 4 = some (.getfield 36, 3, 9, 7, 2, 195) := by decide +kernel
theorem tX8_toldText_7 : gAt mX8_toldText 7 = some (.invokevirtual 76, 3, 190, 0, 0, 258) := by decide +kernel
theorem tX8_toldText_10 : gAt mX8_toldText 10 = some (.if_icmp .ge 38, 3, 48, 0, 0, 0) := by decide +kernel
theorem tX8_toldText_13 : gAt mX8_toldText 13 = some (.aload_n 0, 1, 0, 0, 0, 0) := by decide +kernel
theorem tX8_toldText_14 : gAt mX8_toldText 14 = some (.getfield 36, 3, 9, 7, 2, 195) := by decide +kernel
theorem tX8_toldText_17 : gAt mX8_toldText 17 = some (.iload_n 1, 1, 0, 0, 0, 0) := by decide +kernel
theorem tX8_toldText_18 : gAt mX8_toldText 18 = some (.invokevirtual 188, 3, 192, 1, 0, 368) := by decide +kernel
theorem tX8_toldText_21 : gAt mX8_toldText 21 = some (.checkcast 111, 3, 8, 0, 0, 382) := by decide +kernel
theorem tX8_toldText_24 : gAt mX8_toldText 24 = some (.astore_n 2, 1, 0, 0, 0, 0) := by decide +kernel
theorem tX8_toldText_25 : gAt mX8_toldText 25 = some (.aload_n 2, 1, 0, 0, 0, 0) := by decide +kernel
theorem tX8_toldText_26 : gAt mX8_toldText 26 = some (.aload_n 0, 1, 0, 0, 0, 0) := by decide +kernel
theorem tX8_toldText_27 : gAt mX8_toldText 27 = some (.getfield 20, 3, 9, 3, 2, 191) := by decide +kernel
theorem tX8_toldText_30 : gAt mX8_toldText 30 = some (.aload_n 0, 1, 0, 0, 0, 0) := by decide +kernel
theorem tX8_toldText_31 : gAt mX8_toldText 31 = some (.getfield 23, 3, 9, 4, 0, 192) := by decide +kernel
theorem tX8_toldText_34 : gAt mX8_toldText 34 = some (.invokevirtual 281, 3, 50, 2, 8, 383) := by decide +kernel
theorem tX8_toldText_37 : gAt mX8_toldText 37 = some (.ifCond .eq 5, 3, 42, 0, 0, 0) := by decide +kernel
theorem tX8_toldText_40 : gAt mX8_toldText 40 = some (.aload_n 2, 1, 0, 0, 0, 0) := by decide +kernel
theorem tX8_toldText_41 : gAt mX8_toldText 41 = some (.areturn, 1, 0, 0, 0, 0) := by decide +kernel
theorem tX8_toldText_42 : gAt mX8_toldText 42 = some (.iinc 1 1, 3, 1, 0, 0, 0) := by decide +kernel
theorem tX8_toldText_45 : gAt mX8_toldText 45 = some (.goto (-43), 3, 2, 0, 0, 0) := by decide +kernel
theorem tX8_toldText_48 : gAt mX8_toldText 48 = some (.new 111, 3, 8, 0, 0, 382) := by decide +kernel
theorem tX8_toldText_51 : gAt mX8_toldText 51 = some (.dup, 1, 0, 0, 0, 0) := by decide +kernel
theorem tX8_toldText_52 : gAt mX8_toldText 52 = some (.aload_n 0, 1, 0, 0, 0, 0) := by decide +kernel
theorem tX8_toldText_53 : gAt mX8_toldText 53 = some (.getfield 36, 3, 9, 7, 2, 195) := by decide +kernel
theorem tX8_toldText_56 : gAt mX8_toldText 56 = some (.invokevirtual 76, 3, 190, 0, 0, 258) := by decide +kernel
theorem tX8_toldText_59 : gAt mX8_toldText 59 = some (.aload_n 0, 1, 0, 0, 0, 0) := by decide +kernel
theorem tX8_toldText_60 : gAt mX8_toldText 60 = some (.getfield 20, 3, 9, 3, 2, 191) := by decide +kernel
theorem tX8_toldText_63 : gAt mX8_toldText 63 = some (.aload_n 0, 1, 0, 0, 0, 0) := by decide +kernel
theorem tX8_toldText_64 : gAt mX8_toldText 64 = some (.getfield 23, 3, 9, 4, 0, 192) := by decide +kernel
theorem tX8_toldText_67 : gAt mX8_toldText 67 = some (.invokespecial 285, 3, 49, 3, 8, 388) := by decide +kernel
theorem tX8_toldText_70 : gAt mX8_toldText 70 = some (.astore_n 1, 1, 0, 0, 0, 0) := by decide +kernel
theorem tX8_toldText_71 : gAt mX8_toldText 71 = some (.aload_n 0, 1, 0, 0, 0, 0) := by decide +kernel
theorem tX8_toldText_72 : gAt mX8_toldText 72 = some (.getfield 36, 3, 9, 7, 2, 195) := by decide +kernel
theorem tX8_toldText_75 : gAt mX8_toldText 75 = some (.aload_n 1, 1, 0, 0, 0, 0) := by decide +kernel
theorem tX8_toldText_76 : gAt mX8_toldText 76 = some (.invokevirtual 85, 3, 194, 1, 0, 299) := by decide +kernel
theorem tX8_toldText_79 : gAt mX8_toldText 79 = some (.pop, 1, 0, 0, 0, 0) := by decide +kernel
theorem tX8_toldText_80 : gAt mX8_toldText 80 = some (.aload_n 1, 1, 0, 0, 0, 0) := by decide +kernel
theorem tX8_toldText_81 : gAt mX8_toldText 81 = some (.areturn, 1, 0, 0, 0, 0) := by decide +kernel
set_option maxRecDepth 100000 in
theorem okX8_countJudged : (gTb mX8_countJudged).all (okE gF gNM mX8_countJudged) = true := by decide +kernel
theorem pnX8_countJudged : plainName (gY mX8_countJudged).cls = true := by decide +kernel
theorem tX8_countJudged_0 : gAt mX8_countJudged 0 = some (.iconst 0, 1, 0, 0, 0, 0) := by decide +kernel
theorem tX8_countJudged_1 : gAt mX8_countJudged 1 = some (.istore_n 1, 1, 0, 0, 0, 0) := by decide +kernel
theorem tX8_countJudged_2 : gAt mX8_countJudged 2 = some (.iconst 0, 1, 0, 0, 0, 0) := by decide +kernel
theorem tX8_countJudged_3 : gAt mX8_countJudged 3 = some (.istore_n 2, 1, 0, 0, 0, 0) := by decide +kernel
theorem tX8_countJudged_4 : gAt mX8_countJudged 4 = some (.iload_n 2, 1, 0, 0, 0, 0) := by decide +kernel
theorem tX8_countJudged_5 : gAt mX8_countJudged 5 = some (.aload_n 0, 1, 0, 0, 0, 0) := by decide +kernel
theorem tX8_countJudged_6 : gAt mX8_countJudged 6 = some (.getfield 36, 3, 9, 7, 2, 195) := by decide +kernel
theorem tX8_countJudged_9 : gAt mX8_countJudged 9 = some (.invokevirtual 76, 3, 190, 0, 0, 258) := by decide +kernel
theorem tX8_countJudged_12 : gAt mX8_countJudged 12 = some (.if_icmp .ge 29, 3, 41, 0, 0, 0) := by decide +kernel
theorem tX8_countJudged_15 : gAt mX8_countJudged 15 = some (.aload_n 0, 1, 0, 0, 0, 0) := by decide +kernel
theorem tX8_countJudged_16 : gAt mX8_countJudged 16 = some (.getfield 36, 3, 9, 7, 2, 195) := by decide +kernel
theorem tX8_countJudged_19 : gAt mX8_countJudged 19 = some (.iload_n 2, 1, 0, 0, 0, 0) := by decide +kernel
theorem tX8_countJudged_20 : gAt mX8_countJudged 20 = some (.invokevirtual 188, 3, 192, 1, 0, 368) := by decide +kernel
theorem tX8_countJudged_23 : gAt mX8_countJudged 23 = some (.checkcast 111, 3, 8, 0, 0, 382) := by decide +kernel
theorem tX8_countJudged_26 : gAt mX8_countJudged 26 = some (.getfield 110, 3, 8, 2, 1, 408) := by decide +kernel
theorem tX8_countJudged_29 : gAt mX8_countJudged 29 = some (.ifCond .eq 6, 3, 35, 0, 0, 0) := by decide +kernel
theorem tX8_countJudged_32 : gAt mX8_countJudged 32 = some (.iinc 1 1, 3, 1, 0, 0, 0) := by decide +kernel
theorem tX8_countJudged_35 : gAt mX8_countJudged 35 = some (.iinc 2 1, 3, 1, 0, 0, 0) := by decide +kernel
theorem tX8_countJudged_38 : gAt mX8_countJudged 38 = some (.goto (-34), 3, 4, 0, 0, 0) := by decide +kernel
theorem tX8_countJudged_41 : gAt mX8_countJudged 41 = some (.iload_n 1, 1, 0, 0, 0, 0) := by decide +kernel
theorem tX8_countJudged_42 : gAt mX8_countJudged 42 = some (.ireturn, 1, 0, 0, 0, 0) := by decide +kernel
set_option maxRecDepth 100000 in
theorem okX8_leastSame : (gTb mX8_leastSame).all (okE gF gNM mX8_leastSame) = true := by decide +kernel
theorem pnX8_leastSame : plainName (gY mX8_leastSame).cls = true := by decide +kernel
theorem tX8_leastSame_0 : gAt mX8_leastSame 0 = some (.iconst 0, 1, 0, 0, 0, 0) := by decide +kernel
theorem tX8_leastSame_1 : gAt mX8_leastSame 1 = some (.istore_n 2, 1, 0, 0, 0, 0) := by decide +kernel
theorem tX8_leastSame_2 : gAt mX8_leastSame 2 = some (.iload_n 2, 1, 0, 0, 0, 0) := by decide +kernel
theorem tX8_leastSame_3 : gAt mX8_leastSame 3 = some (.aload_n 0, 1, 0, 0, 0, 0) := by decide +kernel
theorem tX8_leastSame_4 : gAt mX8_leastSame 4 = some (.getfield 39, 3, 9, 8, 2, 196) := by decide +kernel
theorem tX8_leastSame_7 : gAt mX8_leastSame 7 = some (.invokevirtual 76, 3, 190, 0, 0, 258) := by decide +kernel
theorem tX8_leastSame_10 : gAt mX8_leastSame 10 = some (.if_icmp .ge 29, 3, 39, 0, 0, 0) := by decide +kernel
theorem tX8_leastSame_13 : gAt mX8_leastSame 13 = some (.aload_n 0, 1, 0, 0, 0, 0) := by decide +kernel
theorem tX8_leastSame_14 : gAt mX8_leastSame 14 = some (.getfield 39, 3, 9, 8, 2, 196) := by decide +kernel
theorem tX8_leastSame_17 : gAt mX8_leastSame 17 = some (.iload_n 2, 1, 0, 0, 0, 0) := by decide +kernel
theorem tX8_leastSame_18 : gAt mX8_leastSame 18 = some (.invokevirtual 188, 3, 192, 1, 0, 368) := by decide +kernel
theorem tX8_leastSame_21 : gAt mX8_leastSame 21 = some (.checkcast 147, 3, 1, 0, 0, 697) := by decide +kernel
theorem tX8_leastSame_24 : gAt mX8_leastSame 24 = some (.aload_n 1, 1, 0, 0, 0, 0) := by decide +kernel
theorem tX8_leastSame_25 : gAt mX8_leastSame 25 = some (.invokevirtual 288, 3, 4, 1, 1, 759) := by decide +kernel
theorem tX8_leastSame_28 : gAt mX8_leastSame 28 = some (.ifCond .eq 5, 3, 33, 0, 0, 0) := by decide +kernel
theorem tX8_leastSame_31 : gAt mX8_leastSame 31 = some (.iload_n 2, 1, 0, 0, 0, 0) := by decide +kernel
theorem tX8_leastSame_32 : gAt mX8_leastSame 32 = some (.ireturn, 1, 0, 0, 0, 0) := by decide +kernel
theorem tX8_leastSame_33 : gAt mX8_leastSame 33 = some (.iinc 2 1, 3, 1, 0, 0, 0) := by decide +kernel
theorem tX8_leastSame_36 : gAt mX8_leastSame 36 = some (.goto (-34), 3, 2, 0, 0, 0) := by decide +kernel
theorem tX8_leastSame_39 : gAt mX8_leastSame 39 = some (.iconst (-1), 1, 1, 1, 0, 0) := by decide +kernel
theorem tX8_leastSame_40 : gAt mX8_leastSame 40 = some (.ireturn, 1, 0, 0, 0, 0) := by decide +kernel
set_option maxRecDepth 100000 in
theorem okX8_markFitting : (gTb mX8_markFitting).all (okE gF gNM mX8_markFitting) = true := by decide +kernel
theorem pnX8_markFitting : plainName (gY mX8_markFitting).cls = true := by decide +kernel
theorem tX8_markFitting_0 : gAt mX8_markFitting 0 = some (.iconst 0, 1, 0, 0, 0, 0) := by decide +kernel
theorem tX8_markFitting_1 : gAt mX8_markFitting 1 = some (.istore_n 2, 1, 0, 0, 0, 0) := by decide +kernel
theorem tX8_markFitting_2 : gAt mX8_markFitting 2 = some (.iconst 0, 1, 0, 0, 0, 0) := by decide +kernel
theorem tX8_markFitting_3 : gAt mX8_markFitting 3 = some (.istore_n 3, 1, 0, 0, 0, 0) := by decide +kernel
theorem tX8_markFitting_4 : gAt mX8_markFitting 4 = some (.iload_n 3, 1, 0, 0, 0, 0) := by decide +kernel
theorem tX8_markFitting_5 : gAt mX8_markFitting 5 = some (.aload_n 0, 1, 0, 0, 0, 0) := by decide +kernel
theorem tX8_markFitting_6 : gAt mX8_markFitting 6 = some (.getfield 29, 3, 9, 5, 2, 193) := by decide +kernel
theorem tX8_markFitting_9 : gAt mX8_markFitting 9 = some (.invokevirtual 76, 3, 190, 0, 0, 258) := by decide +kernel
theorem tX8_markFitting_12 : gAt mX8_markFitting 12 = some (.if_icmp .ge 45, 3, 57, 0, 0, 0) := by decide +kernel
theorem tX8_markFitting_15 : gAt mX8_markFitting 15 = some (.aload_n 0, 1, 0, 0, 0, 0) := by decide +kernel
theorem tX8_markFitting_16 : gAt mX8_markFitting 16 = some (.getfield 29, 3, 9, 5, 2, 193) := by decide +kernel
theorem tX8_markFitting_19 : gAt mX8_markFitting 19 = some (.iload_n 3, 1, 0, 0, 0, 0) := by decide +kernel
theorem tX8_markFitting_20 : gAt mX8_markFitting 20 = some (.invokevirtual 188, 3, 192, 1, 0, 368) := by decide +kernel
theorem tX8_markFitting_23 : gAt mX8_markFitting 23 = some (.checkcast 80, 3, 4, 0, 0, 262) := by decide +kernel
theorem tX8_markFitting_26 : gAt mX8_markFitting 26 = some (.astore 4, 2, 0, 0, 0, 0) := by decide +kernel
theorem tX8_markFitting_28 : gAt mX8_markFitting 28 = some (.aload 4, 2, 0, 0, 0, 0) := by decide +kernel
theorem tX8_markFitting_30 : gAt mX8_markFitting 30 = some (.aload_n 0, 1, 0, 0, 0, 0) := by decide +kernel
theorem tX8_markFitting_31 : gAt mX8_markFitting 31 = some (.aload 4, 2, 0, 0, 0, 0) := by decide +kernel
theorem tX8_markFitting_33 : gAt mX8_markFitting 33 = some (.aload_n 1, 1, 0, 0, 0, 0) := by decide +kernel
theorem tX8_markFitting_34 : gAt mX8_markFitting 34 = some (.invokevirtual 292, 3, 96, 2, 9, 784) := by decide +kernel
theorem tX8_markFitting_37 : gAt mX8_markFitting 37 = some (.putfield 192, 3, 4, 5, 1, 285) := by decide +kernel
theorem tX8_markFitting_40 : gAt mX8_markFitting 40 = some (.aload 4, 2, 0, 0, 0, 0) := by decide +kernel
theorem tX8_markFitting_42 : gAt mX8_markFitting 42 = some (.getfield 192, 3, 4, 5, 1, 285) := by decide +kernel
theorem tX8_markFitting_45 : gAt mX8_markFitting 45 = some (.ifCond .eq 6, 3, 51, 0, 0, 0) := by decide +kernel
theorem tX8_markFitting_48 : gAt mX8_markFitting 48 = some (.iinc 2 1, 3, 1, 0, 0, 0) := by decide +kernel
theorem tX8_markFitting_51 : gAt mX8_markFitting 51 = some (.iinc 3 1, 3, 1, 0, 0, 0) := by decide +kernel
theorem tX8_markFitting_54 : gAt mX8_markFitting 54 = some (.goto (-50), 3, 4, 0, 0, 0) := by decide +kernel
theorem tX8_markFitting_57 : gAt mX8_markFitting 57 = some (.iload_n 2, 1, 0, 0, 0, 0) := by decide +kernel
theorem tX8_markFitting_58 : gAt mX8_markFitting 58 = some (.ireturn, 1, 0, 0, 0, 0) := by decide +kernel
set_option maxRecDepth 100000 in
theorem okX8_isFitting : (gTb mX8_isFitting).all (okE gF gNM mX8_isFitting) = true := by decide +kernel
theorem pnX8_isFitting : plainName (gY mX8_isFitting).cls = true := by decide +kernel
theorem tX8_isFitting_0 : gAt mX8_isFitting 0 = some (.aload_n 1, 1, 0, 0, 0, 0) := by decide +kernel
theorem tX8_isFitting_1 : gAt mX8_isFitting 1 = some (.getfield 296, 3, 4, 2, 0, 277) := by decide +kernel
theorem tX8_isFitting_4 : gAt mX8_isFitting 4 = some (.aload_n 2, 1, 0, 0, 0, 0) := by decide +kernel
theorem tX8_isFitting_5 : gAt mX8_isFitting 5 = some (.getfield 297, 3, 1, 2, 0, 709) := by decide +kernel
theorem tX8_isFitting_8 : gAt mX8_isFitting 8 = some (.if_icmp .lt 29, 3, 37, 0, 0, 0) := by decide +kernel
theorem tX8_isFitting_11 : gAt mX8_isFitting 11 = some (.aload_n 1, 1, 0, 0, 0, 0) := by decide +kernel
theorem tX8_isFitting_12 : gAt mX8_isFitting 12 = some (.getfield 296, 3, 4, 2, 0, 277) := by decide +kernel
theorem tX8_isFitting_15 : gAt mX8_isFitting 15 = some (.aload_n 2, 1, 0, 0, 0, 0) := by decide +kernel
theorem tX8_isFitting_16 : gAt mX8_isFitting 16 = some (.getfield 300, 3, 1, 3, 0, 711) := by decide +kernel
theorem tX8_isFitting_19 : gAt mX8_isFitting 19 = some (.if_icmp .gt 18, 3, 37, 0, 0, 0) := by decide +kernel
theorem tX8_isFitting_22 : gAt mX8_isFitting 22 = some (.aload_n 0, 1, 0, 0, 0, 0) := by decide +kernel
theorem tX8_isFitting_23 : gAt mX8_isFitting 23 = some (.aload_n 1, 1, 0, 0, 0, 0) := by decide +kernel
theorem tX8_isFitting_24 : gAt mX8_isFitting 24 = some (.getfield 303, 3, 4, 1, 0, 274) := by decide +kernel
theorem tX8_isFitting_27 : gAt mX8_isFitting 27 = some (.aload_n 2, 1, 0, 0, 0, 0) := by decide +kernel
theorem tX8_isFitting_28 : gAt mX8_isFitting 28 = some (.getfield 306, 3, 1, 1, 0, 707) := by decide +kernel
theorem tX8_isFitting_31 : gAt mX8_isFitting 31 = some (.invokevirtual 307, 3, 97, 2, 9, 788) := by decide +kernel
theorem tX8_isFitting_34 : gAt mX8_isFitting 34 = some (.ifCond .ne 5, 3, 39, 0, 0, 0) := by decide +kernel
theorem tX8_isFitting_37 : gAt mX8_isFitting 37 = some (.iconst 0, 1, 0, 0, 0, 0) := by decide +kernel
theorem tX8_isFitting_38 : gAt mX8_isFitting 38 = some (.ireturn, 1, 1, 0, 0, 0) := by decide +kernel
theorem tX8_isFitting_39 : gAt mX8_isFitting 39 = some (.aload_n 2, 1, 0, 0, 0, 0) := by decide +kernel
theorem tX8_isFitting_40 : gAt mX8_isFitting 40 = some (.getfield 167, 3, 1, 6, 0, 717) := by decide +kernel
theorem tX8_isFitting_43 : gAt mX8_isFitting 43 = some (.ifCond .ne 5, 3, 48, 0, 0, 0) := by decide +kernel
theorem tX8_isFitting_46 : gAt mX8_isFitting 46 = some (.iconst 1, 1, 1, 0, 0, 0) := by decide +kernel
theorem tX8_isFitting_47 : gAt mX8_isFitting 47 = some (.ireturn, 1, 1, 0, 0, 0) := by decide +kernel
theorem tX8_isFitting_48 : gAt mX8_isFitting 48 = some (.aload_n 0, 1, 0, 0, 0, 0) := by decide +kernel
theorem tX8_isFitting_49 : gAt mX8_isFitting 49 = some (.getfield 58, 3, 9, 12, 2, 200) := by decide +kernel
theorem tX8_isFitting_52 : gAt mX8_isFitting 52 = some (.aload_n 1, 1, 0, 0, 0, 0) := by decide +kernel
theorem tX8_isFitting_53 : gAt mX8_isFitting 53 = some (.aload_n 0, 1, 0, 0, 0, 0) := by decide +kernel
theorem tX8_isFitting_54 : gAt mX8_isFitting 54 = some (.getfield 7, 3, 9, 0, 0, 188) := by decide +kernel
theorem tX8_isFitting_57 : gAt mX8_isFitting 57 = some (.invokevirtual 256, 3, 29, 2, 6, 792) := by decide +kernel
theorem tX8_isFitting_60 : gAt mX8_isFitting 60 = some (.istore_n 3, 1, 0, 0, 0, 0) := by decide +kernel
theorem tX8_isFitting_61 : gAt mX8_isFitting 61 = some (.iconst 0, 1, 0, 0, 0, 0) := by decide +kernel
theorem tX8_isFitting_62 : gAt mX8_isFitting 62 = some (.istore 4, 2, 0, 0, 0, 0) := by decide +kernel
theorem tX8_isFitting_64 : gAt mX8_isFitting 64 = some (.iload 4, 2, 0, 0, 0, 0) := by decide +kernel
theorem tX8_isFitting_66 : gAt mX8_isFitting 66 = some (.aload_n 2, 1, 0, 0, 0, 0) := by decide +kernel
theorem tX8_isFitting_67 : gAt mX8_isFitting 67 = some (.getfield 167, 3, 1, 6, 0, 717) := by decide +kernel
theorem tX8_isFitting_70 : gAt mX8_isFitting 70 = some (.if_icmp .ge 26, 3, 96, 0, 0, 0) := by decide +kernel
theorem tX8_isFitting_73 : gAt mX8_isFitting 73 = some (.aload_n 1, 1, 0, 0, 0, 0) := by decide +kernel
theorem tX8_isFitting_74 : gAt mX8_isFitting 74 = some (.aload_n 2, 1, 0, 0, 0, 0) := by decide +kernel
theorem tX8_isFitting_75 : gAt mX8_isFitting 75 = some (.getfield 311, 3, 1, 5, 2, 715) := by decide +kernel
theorem tX8_isFitting_78 : gAt mX8_isFitting 78 = some (.iload 4, 2, 0, 0, 0, 0) := by decide +kernel
theorem tX8_isFitting_80 : gAt mX8_isFitting 80 = some (.iaload, 1, 12, 0, 0, 0) := by decide +kernel
theorem tX8_isFitting_81 : gAt mX8_isFitting 81 = some (.iload_n 3, 1, 0, 0, 0, 0) := by decide +kernel
theorem tX8_isFitting_82 : gAt mX8_isFitting 82 = some (.invokevirtual 312, 3, 13, 2, 4, 814) := by decide +kernel
theorem tX8_isFitting_85 : gAt mX8_isFitting 85 = some (.ifCond .ne 5, 3, 90, 0, 0, 0) := by decide +kernel
theorem tX8_isFitting_88 : gAt mX8_isFitting 88 = some (.iconst 0, 1, 0, 0, 0, 0) := by decide +kernel
theorem tX8_isFitting_89 : gAt mX8_isFitting 89 = some (.ireturn, 1, 1, 0, 0, 0) := by decide +kernel
theorem tX8_isFitting_90 : gAt mX8_isFitting 90 = some (.iinc 4 1, 3, 1, 0, 0, 0) := by decide +kernel
theorem tX8_isFitting_93 : gAt mX8_isFitting 93 = some (.goto (-29), 3, 64, 0, 0, 0) := by decide +kernel
theorem tX8_isFitting_96 : gAt mX8_isFitting 96 = some (.iconst 1, 1, 1, 0, 0, 0) := by decide +kernel
theorem tX8_isFitting_97 : gAt mX8_isFitting 97 = some (.ireturn, 1, 1, 0, 0, 0) := by decide +kernel
set_option maxRecDepth 100000 in
theorem okX8_liesIn : (gTb mX8_liesIn).all (okE gF gNM mX8_liesIn) = true := by decide +kernel
theorem pnX8_liesIn : plainName (gY mX8_liesIn).cls = true := by decide +kernel
theorem tX8_liesIn_0 : gAt mX8_liesIn 0 = some (.iload_n 1, 1, 0, 0, 0, 0) := by decide +kernel
theorem tX8_liesIn_1 : gAt mX8_liesIn 1 = some (.istore_n 3, 1, 0, 0, 0, 0) := by decide +kernel
theorem tX8_liesIn_2 : gAt mX8_liesIn 2 = some (.iconst 0, 1, 0, 0, 0, 0) := by decide +kernel
theorem tX8_liesIn_3 : gAt mX8_liesIn 3 = some (.istore 4, 2, 0, 0, 0, 0) := by decide +kernel
theorem tX8_liesIn_5 : gAt mX8_liesIn 5 = some (.iload 4, 2, 0, 0, 0, 0) := by decide +kernel
theorem tX8_liesIn_7 : gAt mX8_liesIn 7 = some (.bipush 20, 2, 20, 0, 0, 0) := by decide +kernel
theorem tX8_liesIn_9 : gAt mX8_liesIn 9 = some (.if_icmp .ge 31, 3, 40, 0, 0, 0) := by decide +kernel
theorem tX8_liesIn_12 : gAt mX8_liesIn 12 = some (.aload_n 0, 1, 0, 0, 0, 0) := by decide +kernel
theorem tX8_liesIn_13 : gAt mX8_liesIn 13 = some (.iload_n 3, 1, 0, 0, 0, 0) := by decide +kernel
theorem tX8_liesIn_14 : gAt mX8_liesIn 14 = some (.invokevirtual 65, 3, 83, 1, 9, 239) := by decide +kernel
theorem tX8_liesIn_17 : gAt mX8_liesIn 17 = some (.ifCond .eq 23, 3, 40, 0, 0, 0) := by decide +kernel
theorem tX8_liesIn_20 : gAt mX8_liesIn 20 = some (.iload_n 3, 1, 0, 0, 0, 0) := by decide +kernel
theorem tX8_liesIn_21 : gAt mX8_liesIn 21 = some (.iload_n 2, 1, 0, 0, 0, 0) := by decide +kernel
theorem tX8_liesIn_22 : gAt mX8_liesIn 22 = some (.if_icmp .ne 5, 3, 27, 0, 0, 0) := by decide +kernel
theorem tX8_liesIn_25 : gAt mX8_liesIn 25 = some (.iconst 1, 1, 1, 0, 0, 0) := by decide +kernel
theorem tX8_liesIn_26 : gAt mX8_liesIn 26 = some (.ireturn, 1, 1, 0, 0, 0) := by decide +kernel
theorem tX8_liesIn_27 : gAt mX8_liesIn 27 = some (.aload_n 0, 1, 0, 0, 0, 0) := by decide +kernel
theorem tX8_liesIn_28 : gAt mX8_liesIn 28 = some (.getfield 13, 3, 9, 1, 2, 189) := by decide +kernel
theorem tX8_liesIn_31 : gAt mX8_liesIn 31 = some (.iload_n 3, 1, 0, 0, 0, 0) := by decide +kernel
theorem tX8_liesIn_32 : gAt mX8_liesIn 32 = some (.iaload, 1, 12, 0, 0, 0) := by decide +kernel
theorem tX8_liesIn_33 : gAt mX8_liesIn 33 = some (.istore_n 3, 1, 0, 0, 0, 0) := by decide +kernel
theorem tX8_liesIn_34 : gAt mX8_liesIn 34 = some (.iinc 4 1, 3, 1, 0, 0, 0) := by decide +kernel
theorem tX8_liesIn_37 : gAt mX8_liesIn 37 = some (.goto (-32), 3, 5, 0, 0, 0) := by decide +kernel
theorem tX8_liesIn_40 : gAt mX8_liesIn 40 = some (.iconst 0, 1, 0, 0, 0, 0) := by decide +kernel
theorem tX8_liesIn_41 : gAt mX8_liesIn 41 = some (.ireturn, 1, 1, 0, 0, 0) := by decide +kernel
set_option maxRecDepth 100000 in
theorem okX8_givePages : (gTb mX8_givePages).all (okE gF gNM mX8_givePages) = true := by decide +kernel
theorem pnX8_givePages : plainName (gY mX8_givePages).cls = true := by decide +kernel
theorem tX8_givePages_0 : gAt mX8_givePages 0 = some (.iconst 0, 1, 0, 0, 0, 0) := by decide +kernel
theorem tX8_givePages_1 : gAt mX8_givePages 1 = some (.istore 4, 2, 0, 0, 0, 0) := by decide +kernel
theorem tX8_givePages_3 : gAt mX8_givePages 3 = some (.iconst 0, 1, 0, 0, 0, 0) := by decide +kernel
theorem tX8_givePages_4 : gAt mX8_givePages 4 = some (.istore 5, 2, 0, 0, 0, 0) := by decide +kernel
theorem tX8_givePages_6 : gAt mX8_givePages 6 = some (.iload 5, 2, 0, 0, 0, 0) := by decide +kernel
theorem tX8_givePages_8 : gAt mX8_givePages 8 = some (.aload_n 0, 1, 0, 0, 0, 0) := by decide +kernel
theorem tX8_givePages_9 : gAt mX8_givePages 9 = some (.getfield 33, 3, 9, 6, 2, 194) := by decide +kernel
theorem tX8_givePages_12 : gAt mX8_givePages 12 = some (.invokevirtual 76, 3, 190, 0, 0, 258) := by decide +kernel
theorem tX8_givePages_15 : gAt mX8_givePages 15 = some (.if_icmp .ge 139, 3, 154, 0, 0, 0) := by decide +kernel
theorem tX8_givePages_18 : gAt mX8_givePages 18 = some (.iload 4, 2, 0, 0, 0, 0) := by decide +kernel
theorem tX8_givePages_20 : gAt mX8_givePages 20 = some (.iload_n 3, 1, 0, 0, 0, 0) := by decide +kernel
theorem tX8_givePages_21 : gAt mX8_givePages 21 = some (.if_icmp .ge 133, 3, 154, 0, 0, 0) := by decide +kernel
theorem tX8_givePages_24 : gAt mX8_givePages 24 = some (.aload_n 0, 1, 0, 0, 0, 0) := by decide +kernel
theorem tX8_givePages_25 : gAt mX8_givePages 25 = some (.getfield 33, 3, 9, 6, 2, 194) := by decide +kernel
theorem tX8_givePages_28 : gAt mX8_givePages 28 = some (.iload 5, 2, 0, 0, 0, 0) := by decide +kernel
theorem tX8_givePages_30 : gAt mX8_givePages 30 = some (.invokevirtual 188, 3, 192, 1, 0, 368) := by decide +kernel
theorem tX8_givePages_33 : gAt mX8_givePages 33 = some (.checkcast 245, 3, 3, 0, 0, 362) := by decide +kernel
theorem tX8_givePages_36 : gAt mX8_givePages 36 = some (.astore 6, 2, 0, 0, 0, 0) := by decide +kernel
theorem tX8_givePages_38 : gAt mX8_givePages 38 = some (.aload_n 2, 1, 0, 0, 0, 0) := by decide +kernel
theorem tX8_givePages_39 : gAt mX8_givePages 39 = some (.ifnull 15, 3, 54, 0, 0, 0) := by decide +kernel
theorem tX8_givePages_42 : gAt mX8_givePages 42 = some (.aload 6, 2, 0, 0, 0, 0) := by decide +kernel
theorem tX8_givePages_44 : gAt mX8_givePages 44 = some (.getfield 251, 3, 3, 2, 2, 447) := by decide +kernel
theorem tX8_givePages_47 : gAt mX8_givePages 47 = some (.aload_n 2, 1, 0, 0, 0, 0) := by decide +kernel
theorem tX8_givePages_48 : gAt mX8_givePages 48 = some (.invokevirtual 315, 3, 51, 1, 8, 869) := by decide +kernel
theorem tX8_givePages_51 : gAt mX8_givePages 51 = some (.ifCond .eq 7, 3, 58, 0, 0, 0) := by decide +kernel
theorem tX8_givePages_54 : gAt mX8_givePages 54 = some (.iconst 1, 1, 1, 0, 0, 0) := by decide +kernel
theorem tX8_givePages_55 : gAt mX8_givePages 55 = some (.goto 4, 3, 59, 0, 0, 0) := by decide +kernel
theorem tX8_givePages_58 : gAt mX8_givePages 58 = some (.iconst 0, 1, 0, 0, 0, 0) := by decide +kernel
theorem tX8_givePages_59 : gAt mX8_givePages 59 = some (.istore 7, 2, 0, 0, 0, 0) := by decide +kernel
theorem tX8_givePages_61 : gAt mX8_givePages 61 = some (.iload 7, 2, 0, 0, 0, 0) := by decide +kernel
theorem tX8_givePages_63 : gAt mX8_givePages 63 = some (.ifCond .eq 85, 3, 148, 0, 0, 0) := by decide +kernel
theorem tX8_givePages_66 : gAt mX8_givePages 66 = some (.aload_n 0, 1, 0, 0, 0, 0) := by decide +kernel
theorem tX8_givePages_67 : gAt mX8_givePages 67 = some (.aload 6, 2, 0, 0, 0, 0) := by decide +kernel
theorem tX8_givePages_69 : gAt mX8_givePages 69 = some (.aload_n 1, 1, 0, 0, 0, 0) := by decide +kernel
theorem tX8_givePages_70 : gAt mX8_givePages 70 = some (.invokevirtual 318, 3, 99, 2, 9, 873) := by decide +kernel
theorem tX8_givePages_73 : gAt mX8_givePages 73 = some (.ifCond .eq 75, 3, 148, 0, 0, 0) := by decide +kernel
theorem tX8_givePages_76 : gAt mX8_givePages 76 = some (.aload_n 0, 1, 0, 0, 0, 0) := by decide +kernel
theorem tX8_givePages_77 : gAt mX8_givePages 77 = some (.aload 6, 2, 0, 0, 0, 0) := by decide +kernel
theorem tX8_givePages_79 : gAt mX8_givePages 79 = some (.invokevirtual 322, 3, 100, 1, 9, 877) := by decide +kernel
theorem tX8_givePages_82 : gAt mX8_givePages 82 = some (.ifCond .eq 66, 3, 148, 0, 0, 0) := by decide +kernel
theorem tX8_givePages_85 : gAt mX8_givePages 85 = some (.aload_n 0, 1, 0, 0, 0, 0) := by decide +kernel
theorem tX8_givePages_86 : gAt mX8_givePages 86 = some (.getfield 42, 3, 9, 9, 2, 197) := by decide +kernel
theorem tX8_givePages_89 : gAt mX8_givePages 89 = some (.new 205, 3, 2, 0, 0, 881) := by decide +kernel
theorem tX8_givePages_92 : gAt mX8_givePages 92 = some (.dup, 1, 0, 0, 0, 0) := by decide +kernel
theorem tX8_givePages_93 : gAt mX8_givePages 93 = some (.aload_n 1, 1, 0, 0, 0, 0) := by decide +kernel
theorem tX8_givePages_94 : gAt mX8_givePages 94 = some (.getfield 162, 3, 1, 0, 0, 705) := by decide +kernel
theorem tX8_givePages_97 : gAt mX8_givePages 97 = some (.aload 6, 2, 0, 0, 0, 0) := by decide +kernel
theorem tX8_givePages_99 : gAt mX8_givePages 99 = some (.aload_n 0, 1, 0, 0, 0, 0) := by decide +kernel
theorem tX8_givePages_100 : gAt mX8_givePages 100 = some (.getfield 7, 3, 9, 0, 0, 188) := by decide +kernel
theorem tX8_givePages_103 : gAt mX8_givePages 103 = some (.aload_n 0, 1, 0, 0, 0, 0) := by decide +kernel
theorem tX8_givePages_104 : gAt mX8_givePages 104 = some (.getfield 58, 3, 9, 12, 2, 200) := by decide +kernel
theorem tX8_givePages_107 : gAt mX8_givePages 107 = some (.aload 6, 2, 0, 0, 0, 0) := by decide +kernel
theorem tX8_givePages_109 : gAt mX8_givePages 109 = some (.getfield 247, 3, 3, 1, 2, 443) := by decide +kernel
theorem tX8_givePages_112 : gAt mX8_givePages 112 = some (.aload_n 0, 1, 0, 0, 0, 0) := by decide +kernel
theorem tX8_givePages_113 : gAt mX8_givePages 113 = some (.getfield 7, 3, 9, 0, 0, 188) := by decide +kernel
theorem tX8_givePages_116 : gAt mX8_givePages 116 = some (.invokevirtual 256, 3, 29, 2, 6, 792) := by decide +kernel
theorem tX8_givePages_119 : gAt mX8_givePages 119 = some (.invokespecial 326, 3, 10, 4, 2, 883) := by decide +kernel
theorem tX8_givePages_122 : gAt mX8_givePages 122 = some (.invokevirtual 85, 3, 194, 1, 0, 299) := by decide +kernel
theorem tX8_givePages_125 : gAt mX8_givePages 125 = some (.pop, 1, 0, 0, 0, 0) := by decide +kernel
theorem tX8_givePages_126 : gAt mX8_givePages 126 = some (.aload 6, 2, 0, 0, 0, 0) := by decide +kernel
theorem tX8_givePages_128 : gAt mX8_givePages 128 = some (.getfield 251, 3, 3, 2, 2, 447) := by decide +kernel
theorem tX8_givePages_131 : gAt mX8_givePages 131 = some (.aload_n 1, 1, 0, 0, 0, 0) := by decide +kernel
theorem tX8_givePages_132 : gAt mX8_givePages 132 = some (.invokevirtual 329, 3, 52, 1, 8, 916) := by decide +kernel
theorem tX8_givePages_135 : gAt mX8_givePages 135 = some (.aload_n 1, 1, 0, 0, 0, 0) := by decide +kernel
theorem tX8_givePages_136 : gAt mX8_givePages 136 = some (.dup, 1, 0, 0, 0, 0) := by decide +kernel
theorem tX8_givePages_137 : gAt mX8_givePages 137 = some (.getfield 233, 3, 1, 8, 0, 721) := by decide +kernel
theorem tX8_givePages_140 : gAt mX8_givePages 140 = some (.iconst 1, 1, 1, 0, 0, 0) := by decide +kernel
theorem tX8_givePages_141 : gAt mX8_givePages 141 = some (.iadd, 1, 0, 0, 0, 0) := by decide +kernel
theorem tX8_givePages_142 : gAt mX8_givePages 142 = some (.putfield 233, 3, 1, 8, 0, 721) := by decide +kernel
theorem tX8_givePages_145 : gAt mX8_givePages 145 = some (.iinc 4 1, 3, 1, 0, 0, 0) := by decide +kernel
theorem tX8_givePages_148 : gAt mX8_givePages 148 = some (.iinc 5 1, 3, 1, 0, 0, 0) := by decide +kernel
theorem tX8_givePages_151 : gAt mX8_givePages 151 = some (.goto (-145), 3, 6, 0, 0, 0) := by decide +kernel
theorem tX8_givePages_154 : gAt mX8_givePages 154 = some (.iload 4, 2, 0, 0, 0, 0) := by decide +kernel
theorem tX8_givePages_156 : gAt mX8_givePages 156 = some (.ireturn, 1, 0, 0, 0, 0) := by decide +kernel
set_option maxRecDepth 100000 in
theorem okX8_isLeft : (gTb mX8_isLeft).all (okE gF gNM mX8_isLeft) = true := by decide +kernel
theorem pnX8_isLeft : plainName (gY mX8_isLeft).cls = true := by decide +kernel
theorem tX8_isLeft_0 : gAt mX8_isLeft 0 = some (.aload_n 1, 1, 0, 0, 0, 0) := by decide +kernel
theorem tX8_isLeft_1 : gAt mX8_isLeft 1 = some (.getfield 247, 3, 3, 1, 2, 443) := by decide +kernel
theorem tX8_isLeft_4 : gAt mX8_isLeft 4 = some (.getfield 192, 3, 4, 5, 1, 285) := by decide +kernel
theorem tX8_isLeft_7 : gAt mX8_isLeft 7 = some (.ifCond .eq 18, 3, 25, 0, 0, 0) := by decide +kernel
theorem tX8_isLeft_10 : gAt mX8_isLeft 10 = some (.aload_n 1, 1, 0, 0, 0, 0) := by decide +kernel
theorem tX8_isLeft_11 : gAt mX8_isLeft 11 = some (.getfield 251, 3, 3, 2, 2, 447) := by decide +kernel
theorem tX8_isLeft_14 : gAt mX8_isLeft 14 = some (.aload_n 2, 1, 0, 0, 0, 0) := by decide +kernel
theorem tX8_isLeft_15 : gAt mX8_isLeft 15 = some (.invokevirtual 315, 3, 51, 1, 8, 869) := by decide +kernel
theorem tX8_isLeft_18 : gAt mX8_isLeft 18 = some (.ifCond .ne 7, 3, 25, 0, 0, 0) := by decide +kernel
theorem tX8_isLeft_21 : gAt mX8_isLeft 21 = some (.iconst 1, 1, 1, 0, 0, 0) := by decide +kernel
theorem tX8_isLeft_22 : gAt mX8_isLeft 22 = some (.goto 4, 3, 26, 0, 0, 0) := by decide +kernel
theorem tX8_isLeft_25 : gAt mX8_isLeft 25 = some (.iconst 0, 1, 0, 0, 0, 0) := by decide +kernel
theorem tX8_isLeft_26 : gAt mX8_isLeft 26 = some (.ireturn, 1, 1, 0, 0, 0) := by decide +kernel
set_option maxRecDepth 100000 in
theorem okX8_isReady : (gTb mX8_isReady).all (okE gF gNM mX8_isReady) = true := by decide +kernel
theorem pnX8_isReady : plainName (gY mX8_isReady).cls = true := by decide +kernel
theorem tX8_isReady_0 : gAt mX8_isReady 0 = some (.aload_n 1, 1, 0, 0, 0, 0) := by decide +kernel
theorem tX8_isReady_1 : gAt mX8_isReady 1 = some (.getfield 251, 3, 3, 2, 2, 447) := by decide +kernel
theorem tX8_isReady_4 : gAt mX8_isReady 4 = some (.getfield 110, 3, 8, 2, 1, 408) := by decide +kernel
theorem tX8_isReady_7 : gAt mX8_isReady 7 = some (.ifCond .eq 24, 3, 31, 0, 0, 0) := by decide +kernel
theorem tX8_isReady_10 : gAt mX8_isReady 10 = some (.aload_n 1, 1, 0, 0, 0, 0) := by decide +kernel
theorem tX8_isReady_11 : gAt mX8_isReady 11 = some (.getfield 247, 3, 3, 1, 2, 443) := by decide +kernel
theorem tX8_isReady_14 : gAt mX8_isReady 14 = some (.getfield 103, 3, 4, 4, 0, 282) := by decide +kernel
theorem tX8_isReady_17 : gAt mX8_isReady 17 = some (.aload_n 0, 1, 0, 0, 0, 0) := by decide +kernel
theorem tX8_isReady_18 : gAt mX8_isReady 18 = some (.getfield 45, 3, 9, 10, 0, 198) := by decide +kernel
theorem tX8_isReady_21 : gAt mX8_isReady 21 = some (.iconst (-1), 1, 1, 1, 0, 0) := by decide +kernel
theorem tX8_isReady_22 : gAt mX8_isReady 22 = some (.ixor, 1, 0, 0, 0, 0) := by decide +kernel
theorem tX8_isReady_23 : gAt mX8_isReady 23 = some (.iand, 1, 0, 0, 0, 0) := by decide +kernel
theorem tX8_isReady_24 : gAt mX8_isReady 24 = some (.ifCond .ne 7, 3, 31, 0, 0, 0) := by decide +kernel
theorem tX8_isReady_27 : gAt mX8_isReady 27 = some (.iconst 1, 1, 1, 0, 0, 0) := by decide +kernel
theorem tX8_isReady_28 : gAt mX8_isReady 28 = some (.goto 4, 3, 32, 0, 0, 0) := by decide +kernel
theorem tX8_isReady_31 : gAt mX8_isReady 31 = some (.iconst 0, 1, 0, 0, 0, 0) := by decide +kernel
theorem tX8_isReady_32 : gAt mX8_isReady 32 = some (.ireturn, 1, 1, 0, 0, 0) := by decide +kernel
set_option maxRecDepth 100000 in
theorem okX8_countLeft : (gTb mX8_countLeft).all (okE gF gNM mX8_countLeft) = true := by decide +kernel
theorem pnX8_countLeft : plainName (gY mX8_countLeft).cls = true := by decide +kernel
theorem tX8_countLeft_0 : gAt mX8_countLeft 0 = some (.aload_n 0, 1, 0, 0, 0, 0) := by decide +kernel
theorem tX8_countLeft_1 : gAt mX8_countLeft 1 = some (.aload_n 1, 1, 0, 0, 0, 0) := by decide +kernel
theorem tX8_countLeft_2 : gAt mX8_countLeft 2 = some (.invokevirtual 173, 3, 95, 1, 9, 780) := by decide +kernel
theorem tX8_countLeft_5 : gAt mX8_countLeft 5 = some (.pop, 1, 0, 0, 0, 0) := by decide +kernel
theorem tX8_countLeft_6 : gAt mX8_countLeft 6 = some (.iconst 0, 1, 0, 0, 0, 0) := by decide +kernel
theorem tX8_countLeft_7 : gAt mX8_countLeft 7 = some (.istore_n 3, 1, 0, 0, 0, 0) := by decide +kernel
theorem tX8_countLeft_8 : gAt mX8_countLeft 8 = some (.iload_n 3, 1, 0, 0, 0, 0) := by decide +kernel
theorem tX8_countLeft_9 : gAt mX8_countLeft 9 = some (.aload_n 0, 1, 0, 0, 0, 0) := by decide +kernel
theorem tX8_countLeft_10 : gAt mX8_countLeft 10 = some (.getfield 36, 3, 9, 7, 2, 195) := by decide +kernel
theorem tX8_countLeft_13 : gAt mX8_countLeft 13 = some (.invokevirtual 76, 3, 190, 0, 0, 258) := by decide +kernel
theorem tX8_countLeft_16 : gAt mX8_countLeft 16 = some (.if_icmp .ge 24, 3, 40, 0, 0, 0) := by decide +kernel
theorem tX8_countLeft_19 : gAt mX8_countLeft 19 = some (.aload_n 0, 1, 0, 0, 0, 0) := by decide +kernel
theorem tX8_countLeft_20 : gAt mX8_countLeft 20 = some (.getfield 36, 3, 9, 7, 2, 195) := by decide +kernel
theorem tX8_countLeft_23 : gAt mX8_countLeft 23 = some (.iload_n 3, 1, 0, 0, 0, 0) := by decide +kernel
theorem tX8_countLeft_24 : gAt mX8_countLeft 24 = some (.invokevirtual 188, 3, 192, 1, 0, 368) := by decide +kernel
theorem tX8_countLeft_27 : gAt mX8_countLeft 27 = some (.checkcast 111, 3, 8, 0, 0, 382) := by decide +kernel
theorem tX8_countLeft_30 : gAt mX8_countLeft 30 = some (.iconst 0, 1, 0, 0, 0, 0) := by decide +kernel
theorem tX8_countLeft_31 : gAt mX8_countLeft 31 = some (.putfield 333, 3, 8, 3, 1, 410) := by decide +kernel
theorem tX8_countLeft_34 : gAt mX8_countLeft 34 = some (.iinc 3 1, 3, 1, 0, 0, 0) := by decide +kernel
theorem tX8_countLeft_37 : gAt mX8_countLeft 37 = some (.goto (-29), 3, 8, 0, 0, 0) := by decide +kernel
theorem tX8_countLeft_40 : gAt mX8_countLeft 40 = some (.iconst 0, 1, 0, 0, 0, 0) := by decide +kernel
theorem tX8_countLeft_41 : gAt mX8_countLeft 41 = some (.istore_n 3, 1, 0, 0, 0, 0) := by decide +kernel
theorem tX8_countLeft_42 : gAt mX8_countLeft 42 = some (.iconst 0, 1, 0, 0, 0, 0) := by decide +kernel
theorem tX8_countLeft_43 : gAt mX8_countLeft 43 = some (.istore 4, 2, 0, 0, 0, 0) := by decide +kernel
theorem tX8_countLeft_45 : gAt mX8_countLeft 45 = some (.iload 4, 2, 0, 0, 0, 0) := by decide +kernel
theorem tX8_countLeft_47 : gAt mX8_countLeft 47 = some (.aload_n 0, 1, 0, 0, 0, 0) := by decide +kernel
theorem tX8_countLeft_48 : gAt mX8_countLeft 48 = some (.getfield 33, 3, 9, 6, 2, 194) := by decide +kernel
theorem tX8_countLeft_51 : gAt mX8_countLeft 51 = some (.invokevirtual 76, 3, 190, 0, 0, 258) := by decide +kernel
theorem tX8_countLeft_54 : gAt mX8_countLeft 54 = some (.if_icmp .ge 71, 3, 125, 0, 0, 0) := by decide +kernel
theorem tX8_countLeft_57 : gAt mX8_countLeft 57 = some (.aload_n 0, 1, 0, 0, 0, 0) := by decide +kernel
theorem tX8_countLeft_58 : gAt mX8_countLeft 58 = some (.getfield 33, 3, 9, 6, 2, 194) := by decide +kernel
theorem tX8_countLeft_61 : gAt mX8_countLeft 61 = some (.iload 4, 2, 0, 0, 0, 0) := by decide +kernel
theorem tX8_countLeft_63 : gAt mX8_countLeft 63 = some (.invokevirtual 188, 3, 192, 1, 0, 368) := by decide +kernel
theorem tX8_countLeft_66 : gAt mX8_countLeft 66 = some (.checkcast 245, 3, 3, 0, 0, 362) := by decide +kernel
theorem tX8_countLeft_69 : gAt mX8_countLeft 69 = some (.astore 5, 2, 0, 0, 0, 0) := by decide +kernel
theorem tX8_countLeft_71 : gAt mX8_countLeft 71 = some (.aload_n 0, 1, 0, 0, 0, 0) := by decide +kernel
theorem tX8_countLeft_72 : gAt mX8_countLeft 72 = some (.aload 5, 2, 0, 0, 0, 0) := by decide +kernel
theorem tX8_countLeft_74 : gAt mX8_countLeft 74 = some (.aload_n 1, 1, 0, 0, 0, 0) := by decide +kernel
theorem tX8_countLeft_75 : gAt mX8_countLeft 75 = some (.invokevirtual 318, 3, 99, 2, 9, 873) := by decide +kernel
theorem tX8_countLeft_78 : gAt mX8_countLeft 78 = some (.ifCond .eq 41, 3, 119, 0, 0, 0) := by decide +kernel
theorem tX8_countLeft_81 : gAt mX8_countLeft 81 = some (.aload 5, 2, 0, 0, 0, 0) := by decide +kernel
theorem tX8_countLeft_83 : gAt mX8_countLeft 83 = some (.getfield 251, 3, 3, 2, 2, 447) := by decide +kernel
theorem tX8_countLeft_86 : gAt mX8_countLeft 86 = some (.getfield 333, 3, 8, 3, 1, 410) := by decide +kernel
theorem tX8_countLeft_89 : gAt mX8_countLeft 89 = some (.ifCond .ne 30, 3, 119, 0, 0, 0) := by decide +kernel
theorem tX8_countLeft_92 : gAt mX8_countLeft 92 = some (.aload 5, 2, 0, 0, 0, 0) := by decide +kernel
theorem tX8_countLeft_94 : gAt mX8_countLeft 94 = some (.getfield 251, 3, 3, 2, 2, 447) := by decide +kernel
theorem tX8_countLeft_97 : gAt mX8_countLeft 97 = some (.iconst 1, 1, 1, 0, 0, 0) := by decide +kernel
theorem tX8_countLeft_98 : gAt mX8_countLeft 98 = some (.putfield 333, 3, 8, 3, 1, 410) := by decide +kernel
theorem tX8_countLeft_101 : gAt mX8_countLeft 101 = some (.iload_n 2, 1, 0, 0, 0, 0) := by decide +kernel
theorem tX8_countLeft_102 : gAt mX8_countLeft 102 = some (.ifCond .eq 14, 3, 116, 0, 0, 0) := by decide +kernel
theorem tX8_countLeft_105 : gAt mX8_countLeft 105 = some (.aload 5, 2, 0, 0, 0, 0) := by decide +kernel
theorem tX8_countLeft_107 : gAt mX8_countLeft 107 = some (.getfield 251, 3, 3, 2, 2, 447) := by decide +kernel
theorem tX8_countLeft_110 : gAt mX8_countLeft 110 = some (.getfield 110, 3, 8, 2, 1, 408) := by decide +kernel
theorem tX8_countLeft_113 : gAt mX8_countLeft 113 = some (.ifCond .ne 6, 3, 119, 0, 0, 0) := by decide +kernel
theorem tX8_countLeft_116 : gAt mX8_countLeft 116 = some (.iinc 3 1, 3, 1, 0, 0, 0) := by decide +kernel
theorem tX8_countLeft_119 : gAt mX8_countLeft 119 = some (.iinc 4 1, 3, 1, 0, 0, 0) := by decide +kernel
theorem tX8_countLeft_122 : gAt mX8_countLeft 122 = some (.goto (-77), 3, 45, 0, 0, 0) := by decide +kernel
theorem tX8_countLeft_125 : gAt mX8_countLeft 125 = some (.iload_n 3, 1, 0, 0, 0, 0) := by decide +kernel
theorem tX8_countLeft_126 : gAt mX8_countLeft 126 = some (.ireturn, 1, 0, 0, 0, 0) := by decide +kernel

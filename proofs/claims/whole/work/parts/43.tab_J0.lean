/-! rows of the tables of class java/lang/String -/
def kJ0_length_8abf5 : gM := (gY mJ0_length_8abf5, gCd mJ0_length_8abf5, gL mJ0_length_8abf5, gRt mJ0_length_8abf5, gIx mJ0_length_8abf5, [(0, (.aload_n 0, 1, 0, 0, 0, 0)), (5, (.aload_n 0, 1, 0, 0, 0, 0)), (9, (.ishr, 1, 0, 0, 0, 0)), (10, (.ireturn, 1, 0, 0, 0, 0))])
theorem eJ0_length_8abf5_1 : decode (gCd kJ0_length_8abf5) 1 = .ok (.getfield 9, 3) := by decide +kernel
theorem eJ0_length_8abf5_4 : decode (gCd kJ0_length_8abf5) 4 = .ok (.arraylength, 1) := by decide +kernel
theorem eJ0_length_8abf5_6 : decode (gCd kJ0_length_8abf5) 6 = .ok (.invokevirtual 335, 3) := by decide +kernel
set_option maxRecDepth 100000 in
theorem okJ0_length_8abf5 : (gTb kJ0_length_8abf5).all (okE gF gNM kJ0_length_8abf5) = true := by decide +kernel
theorem pnJ0_length_8abf5 : plainName (gY kJ0_length_8abf5).cls = true := by decide +kernel
theorem tJ0_length_8abf5_0 : gAt kJ0_length_8abf5 0 = some (.aload_n 0, 1, 0, 0, 0, 0) := by decide +kernel
theorem tJ0_length_8abf5_5 : gAt kJ0_length_8abf5 5 = some (.aload_n 0, 1, 0, 0, 0, 0) := by decide +kernel
theorem tJ0_length_8abf5_9 : gAt kJ0_length_8abf5 9 = some (.ishr, 1, 0, 0, 0, 0) := by decide +kernel
theorem tJ0_length_8abf5_10 : gAt kJ0_length_8abf5 10 = some (.ireturn, 1, 0, 0, 0, 0) := by decide +kernel
def kJ0_charAt_5068e : gM := (gY mJ0_charAt_5068e, gCd mJ0_charAt_5068e, gL mJ0_charAt_5068e, gRt mJ0_charAt_5068e, gIx mJ0_charAt_5068e, [(0, (.aload_n 0, 1, 0, 0, 0, 0)), (4, (.ifCond .eq 12, 3, 16, 0, 0, 0)), (7, (.aload_n 0, 1, 0, 0, 0, 0)), (11, (.iload_n 1, 1, 0, 0, 0, 0)), (12, (.invokestatic 495, 3, 180, 2, 99, 595)), (16, (.aload_n 0, 1, 0, 0, 0, 0)), (20, (.iload_n 1, 1, 0, 0, 0, 0)), (21, (.invokestatic 498, 3, 183, 2, 99, 604))])
theorem eJ0_charAt_5068e_1 : decode (gCd kJ0_charAt_5068e) 1 = .ok (.invokevirtual 492, 3) := by decide +kernel
theorem eJ0_charAt_5068e_8 : decode (gCd kJ0_charAt_5068e) 8 = .ok (.getfield 9, 3) := by decide +kernel
theorem eJ0_charAt_5068e_15 : decode (gCd kJ0_charAt_5068e) 15 = .ok (.ireturn, 1) := by decide +kernel
theorem eJ0_charAt_5068e_17 : decode (gCd kJ0_charAt_5068e) 17 = .ok (.getfield 9, 3) := by decide +kernel
theorem eJ0_charAt_5068e_24 : decode (gCd kJ0_charAt_5068e) 24 = .ok (.ireturn, 1) := by decide +kernel
set_option maxRecDepth 100000 in
theorem okJ0_charAt_5068e : (gTb kJ0_charAt_5068e).all (okE gF gNM kJ0_charAt_5068e) = true := by decide +kernel
theorem pnJ0_charAt_5068e : plainName (gY kJ0_charAt_5068e).cls = true := by decide +kernel
theorem tJ0_charAt_5068e_0 : gAt kJ0_charAt_5068e 0 = some (.aload_n 0, 1, 0, 0, 0, 0) := by decide +kernel
theorem tJ0_charAt_5068e_4 : gAt kJ0_charAt_5068e 4 = some (.ifCond .eq 12, 3, 16, 0, 0, 0) := by decide +kernel
theorem tJ0_charAt_5068e_7 : gAt kJ0_charAt_5068e 7 = some (.aload_n 0, 1, 0, 0, 0, 0) := by decide +kernel
theorem tJ0_charAt_5068e_11 : gAt kJ0_charAt_5068e 11 = some (.iload_n 1, 1, 0, 0, 0, 0) := by decide +kernel
theorem tJ0_charAt_5068e_12 : gAt kJ0_charAt_5068e 12 = some (.invokestatic 495, 3, 180, 2, 99, 595) := by decide +kernel
theorem tJ0_charAt_5068e_16 : gAt kJ0_charAt_5068e 16 = some (.aload_n 0, 1, 0, 0, 0, 0) := by decide +kernel
theorem tJ0_charAt_5068e_20 : gAt kJ0_charAt_5068e 20 = some (.iload_n 1, 1, 0, 0, 0, 0) := by decide +kernel
theorem tJ0_charAt_5068e_21 : gAt kJ0_charAt_5068e 21 = some (.invokestatic 498, 3, 183, 2, 99, 604) := by decide +kernel
def kJ0_coder_7d493 : gM := (gY mJ0_coder_7d493, gCd mJ0_coder_7d493, gL mJ0_coder_7d493, gRt mJ0_coder_7d493, gIx mJ0_coder_7d493, [(3, (.ifCond .eq 10, 3, 13, 0, 0, 0)), (6, (.aload_n 0, 1, 0, 0, 0, 0)), (10, (.goto 4, 3, 14, 0, 0, 0)), (13, (.iconst 1, 1, 1, 0, 0, 0))])
theorem eJ0_coder_7d493_0 : decode (gCd kJ0_coder_7d493) 0 = .ok (.getstatic 38, 3) := by decide +kernel
theorem eJ0_coder_7d493_7 : decode (gCd kJ0_coder_7d493) 7 = .ok (.getfield 15, 3) := by decide +kernel
theorem eJ0_coder_7d493_14 : decode (gCd kJ0_coder_7d493) 14 = .ok (.ireturn, 1) := by decide +kernel
set_option maxRecDepth 100000 in
theorem okJ0_coder_7d493 : (gTb kJ0_coder_7d493).all (okE gF gNM kJ0_coder_7d493) = true := by decide +kernel
theorem pnJ0_coder_7d493 : plainName (gY kJ0_coder_7d493).cls = true := by decide +kernel
theorem tJ0_coder_7d493_3 : gAt kJ0_coder_7d493 3 = some (.ifCond .eq 10, 3, 13, 0, 0, 0) := by decide +kernel
theorem tJ0_coder_7d493_6 : gAt kJ0_coder_7d493 6 = some (.aload_n 0, 1, 0, 0, 0, 0) := by decide +kernel
theorem tJ0_coder_7d493_10 : gAt kJ0_coder_7d493 10 = some (.goto 4, 3, 14, 0, 0, 0) := by decide +kernel
theorem tJ0_coder_7d493_13 : gAt kJ0_coder_7d493 13 = some (.iconst 1, 1, 1, 0, 0, 0) := by decide +kernel
def kJ0_isLatin1_aae02 : gM := (gY mJ0_isLatin1_aae02, gCd mJ0_isLatin1_aae02, gL mJ0_isLatin1_aae02, gRt mJ0_isLatin1_aae02, gIx mJ0_isLatin1_aae02, [(3, (.ifCond .eq 14, 3, 17, 0, 0, 0)), (6, (.aload_n 0, 1, 0, 0, 0, 0)), (10, (.ifCond .ne 7, 3, 17, 0, 0, 0)), (13, (.iconst 1, 1, 1, 0, 0, 0)), (14, (.goto 4, 3, 18, 0, 0, 0)), (17, (.iconst 0, 1, 0, 0, 0, 0)), (18, (.ireturn, 1, 1, 0, 0, 0))])
theorem eJ0_isLatin1_aae02_0 : decode (gCd kJ0_isLatin1_aae02) 0 = .ok (.getstatic 38, 3) := by decide +kernel
theorem eJ0_isLatin1_aae02_7 : decode (gCd kJ0_isLatin1_aae02) 7 = .ok (.getfield 15, 3) := by decide +kernel
set_option maxRecDepth 100000 in
theorem okJ0_isLatin1_aae02 : (gTb kJ0_isLatin1_aae02).all (okE gF gNM kJ0_isLatin1_aae02) = true := by decide +kernel
theorem pnJ0_isLatin1_aae02 : plainName (gY kJ0_isLatin1_aae02).cls = true := by decide +kernel
theorem tJ0_isLatin1_aae02_3 : gAt kJ0_isLatin1_aae02 3 = some (.ifCond .eq 14, 3, 17, 0, 0, 0) := by decide +kernel
theorem tJ0_isLatin1_aae02_6 : gAt kJ0_isLatin1_aae02 6 = some (.aload_n 0, 1, 0, 0, 0, 0) := by decide +kernel
theorem tJ0_isLatin1_aae02_10 : gAt kJ0_isLatin1_aae02 10 = some (.ifCond .ne 7, 3, 17, 0, 0, 0) := by decide +kernel
theorem tJ0_isLatin1_aae02_13 : gAt kJ0_isLatin1_aae02 13 = some (.iconst 1, 1, 1, 0, 0, 0) := by decide +kernel
theorem tJ0_isLatin1_aae02_14 : gAt kJ0_isLatin1_aae02 14 = some (.goto 4, 3, 18, 0, 0, 0) := by decide +kernel
theorem tJ0_isLatin1_aae02_17 : gAt kJ0_isLatin1_aae02 17 = some (.iconst 0, 1, 0, 0, 0, 0) := by decide +kernel
theorem tJ0_isLatin1_aae02_18 : gAt kJ0_isLatin1_aae02 18 = some (.ireturn, 1, 1, 0, 0, 0) := by decide +kernel
def kJ0_checkIndex_df160 : gM := (gY mJ0_checkIndex_df160, gCd mJ0_checkIndex_df160, gL mJ0_checkIndex_df160, gRt mJ0_checkIndex_df160, gIx mJ0_checkIndex_df160, [(0, (.iload_n 0, 1, 0, 0, 0, 0)), (1, (.iload_n 1, 1, 0, 0, 0, 0)), (5, (.invokestatic 1059, 3, 201, 3, 99, 603)), (8, (.pop, 1, 0, 0, 0, 0)), (9, (.return_, 1, 0, 0, 0, 0))])
theorem eJ0_checkIndex_df160_2 : decode (gCd kJ0_checkIndex_df160) 2 = .ok (.getstatic 1053, 3) := by decide +kernel
set_option maxRecDepth 100000 in
theorem okJ0_checkIndex_df160 : (gTb kJ0_checkIndex_df160).all (okE gF gNM kJ0_checkIndex_df160) = true := by decide +kernel
theorem pnJ0_checkIndex_df160 : plainName (gY kJ0_checkIndex_df160).cls = true := by decide +kernel
theorem tJ0_checkIndex_df160_0 : gAt kJ0_checkIndex_df160 0 = some (.iload_n 0, 1, 0, 0, 0, 0) := by decide +kernel
theorem tJ0_checkIndex_df160_1 : gAt kJ0_checkIndex_df160 1 = some (.iload_n 1, 1, 0, 0, 0, 0) := by decide +kernel
theorem tJ0_checkIndex_df160_5 : gAt kJ0_checkIndex_df160 5 = some (.invokestatic 1059, 3, 201, 3, 99, 603) := by decide +kernel
theorem tJ0_checkIndex_df160_8 : gAt kJ0_checkIndex_df160 8 = some (.pop, 1, 0, 0, 0, 0) := by decide +kernel
theorem tJ0_checkIndex_df160_9 : gAt kJ0_checkIndex_df160 9 = some (.return_, 1, 0, 0, 0, 0) := by decide +kernel

/-! rows of the tables of class PapersDesk$Text -/
set_option maxRecDepth 100000 in
theorem okX7_init : (gTb mX7_init).all (okE gF gNM mX7_init) = true := by decide +kernel
theorem pnX7_init : plainName (gY mX7_init).cls = true := by decide +kernel
theorem tX7_init_0 : gAt mX7_init 0 = some (.aload_n 0, 1, 0, 0, 0, 0) := by decide +kernel
theorem tX7_init_1 : gAt mX7_init 1 = some (.invokespecial 3, 3, 9999, 0, 0, 391) := by decide +kernel
theorem tX7_init_4 : gAt mX7_init 4 = some (.aload_n 0, 1, 0, 0, 0, 0) := by decide +kernel
theorem tX7_init_5 : gAt mX7_init 5 = some (.iconst 0, 1, 0, 0, 0, 0) := by decide +kernel
theorem tX7_init_6 : gAt mX7_init 6 = some (.putfield 9, 3, 8, 2, 1, 407) := by decide +kernel
theorem tX7_init_9 : gAt mX7_init 9 = some (.aload_n 0, 1, 0, 0, 0, 0) := by decide +kernel
theorem tX7_init_10 : gAt mX7_init 10 = some (.iconst 0, 1, 0, 0, 0, 0) := by decide +kernel
theorem tX7_init_11 : gAt mX7_init 11 = some (.putfield 15, 3, 8, 3, 1, 409) := by decide +kernel
theorem tX7_init_14 : gAt mX7_init 14 = some (.aload_n 0, 1, 0, 0, 0, 0) := by decide +kernel
theorem tX7_init_15 : gAt mX7_init 15 = some (.iconst 0, 1, 0, 0, 0, 0) := by decide +kernel
theorem tX7_init_16 : gAt mX7_init 16 = some (.putfield 18, 3, 8, 4, 0, 411) := by decide +kernel
theorem tX7_init_19 : gAt mX7_init 19 = some (.aload_n 0, 1, 0, 0, 0, 0) := by decide +kernel
theorem tX7_init_20 : gAt mX7_init 20 = some (.iconst 0, 1, 0, 0, 0, 0) := by decide +kernel
theorem tX7_init_21 : gAt mX7_init 21 = some (.putfield 22, 3, 8, 5, 0, 412) := by decide +kernel
theorem tX7_init_24 : gAt mX7_init 24 = some (.aload_n 0, 1, 0, 0, 0, 0) := by decide +kernel
theorem tX7_init_25 : gAt mX7_init 25 = some (.iconst 4, 1, 4, 0, 0, 0) := by decide +kernel
theorem tX7_init_26 : gAt mX7_init 26 = some (.newarray .int, 2, 12, 0, 0, 139) := by decide +kernel
theorem tX7_init_28 : gAt mX7_init 28 = some (.putfield 25, 3, 8, 6, 2, 414) := by decide +kernel
theorem tX7_init_31 : gAt mX7_init 31 = some (.aload_n 0, 1, 0, 0, 0, 0) := by decide +kernel
theorem tX7_init_32 : gAt mX7_init 32 = some (.iconst 4, 1, 4, 0, 0, 0) := by decide +kernel
theorem tX7_init_33 : gAt mX7_init 33 = some (.newarray .int, 2, 12, 0, 0, 139) := by decide +kernel
theorem tX7_init_35 : gAt mX7_init 35 = some (.putfield 29, 3, 8, 7, 2, 415) := by decide +kernel
theorem tX7_init_38 : gAt mX7_init 38 = some (.aload_n 0, 1, 0, 0, 0, 0) := by decide +kernel
theorem tX7_init_39 : gAt mX7_init 39 = some (.iconst 4, 1, 4, 0, 0, 0) := by decide +kernel
theorem tX7_init_40 : gAt mX7_init 40 = some (.newarray .int, 2, 12, 0, 0, 139) := by decide +kernel
theorem tX7_init_42 : gAt mX7_init 42 = some (.putfield 32, 3, 8, 8, 2, 416) := by decide +kernel
theorem tX7_init_45 : gAt mX7_init 45 = some (.aload_n 0, 1, 0, 0, 0, 0) := by decide +kernel
theorem tX7_init_46 : gAt mX7_init 46 = some (.iload_n 1, 1, 0, 0, 0, 0) := by decide +kernel
theorem tX7_init_47 : gAt mX7_init 47 = some (.putfield 35, 3, 8, 0, 0, 402) := by decide +kernel
theorem tX7_init_50 : gAt mX7_init 50 = some (.aload_n 0, 1, 0, 0, 0, 0) := by decide +kernel
theorem tX7_init_51 : gAt mX7_init 51 = some (.aload_n 2, 1, 0, 0, 0, 0) := by decide +kernel
theorem tX7_init_52 : gAt mX7_init 52 = some (.iload_n 3, 1, 0, 0, 0, 0) := by decide +kernel
theorem tX7_init_53 : gAt mX7_init 53 = some (.invokestatic 38, 3, 197, 2, 99, 392) := by decide +kernel
theorem tX7_init_56 : gAt mX7_init 56 = some (.putfield 44, 3, 8, 1, 2, 405) := by decide +kernel
theorem tX7_init_59 : gAt mX7_init 59 = some (.return_, 1, 0, 0, 0, 0) := by decide +kernel
set_option maxRecDepth 100000 in
theorem okX7_reads : (gTb mX7_reads).all (okE gF gNM mX7_reads) = true := by decide +kernel
theorem pnX7_reads : plainName (gY mX7_reads).cls = true := by decide +kernel
theorem tX7_reads_0 : gAt mX7_reads 0 = some (.iload_n 2, 1, 0, 0, 0, 0) := by decide +kernel
theorem tX7_reads_1 : gAt mX7_reads 1 = some (.aload_n 0, 1, 0, 0, 0, 0) := by decide +kernel
theorem tX7_reads_2 : gAt mX7_reads 2 = some (.getfield 44, 3, 8, 1, 2, 405) := by decide +kernel
theorem tX7_reads_5 : gAt mX7_reads 5 = some (.arraylength, 1, 12, 0, 0, 0) := by decide +kernel
theorem tX7_reads_6 : gAt mX7_reads 6 = some (.if_icmp .ne 9, 3, 15, 0, 0, 0) := by decide +kernel
theorem tX7_reads_9 : gAt mX7_reads 9 = some (.iload_n 2, 1, 0, 0, 0, 0) := by decide +kernel
theorem tX7_reads_10 : gAt mX7_reads 10 = some (.aload_n 1, 1, 0, 0, 0, 0) := by decide +kernel
theorem tX7_reads_11 : gAt mX7_reads 11 = some (.arraylength, 1, 12, 0, 0, 0) := by decide +kernel
theorem tX7_reads_12 : gAt mX7_reads 12 = some (.if_icmp .le 5, 3, 17, 0, 0, 0) := by decide +kernel
theorem tX7_reads_15 : gAt mX7_reads 15 = some (.iconst 0, 1, 0, 0, 0, 0) := by decide +kernel
theorem tX7_reads_16 : gAt mX7_reads 16 = some (.ireturn, 1, 1, 0, 0, 0) := by decide +kernel
theorem tX7_reads_17 : gAt mX7_reads 17 = some (.iconst 0, 1, 0, 0, 0, 0) := by decide +kernel
theorem tX7_reads_18 : gAt mX7_reads 18 = some (.istore_n 3, 1, 0, 0, 0, 0) := by decide +kernel
theorem tX7_reads_19 : gAt mX7_reads 19 = some (.iload_n 3, 1, 0, 0, 0, 0) := by decide +kernel
theorem tX7_reads_20 : gAt mX7_reads 20 = some (.iload_n 2, 1, 0, 0, 0, 0) := by decide +kernel
theorem tX7_reads_21 : gAt mX7_reads 21 = some (.if_icmp .ge 23, 3, 44, 0, 0, 0) := by decide +kernel
theorem tX7_reads_24 : gAt mX7_reads 24 = some (.aload_n 1, 1, 0, 0, 0, 0) := by decide +kernel
theorem tX7_reads_25 : gAt mX7_reads 25 = some (.iload_n 3, 1, 0, 0, 0, 0) := by decide +kernel
theorem tX7_reads_26 : gAt mX7_reads 26 = some (.iaload, 1, 12, 0, 0, 0) := by decide +kernel
theorem tX7_reads_27 : gAt mX7_reads 27 = some (.aload_n 0, 1, 0, 0, 0, 0) := by decide +kernel
theorem tX7_reads_28 : gAt mX7_reads 28 = some (.getfield 44, 3, 8, 1, 2, 405) := by decide +kernel
theorem tX7_reads_31 : gAt mX7_reads 31 = some (.iload_n 3, 1, 0, 0, 0, 0) := by decide +kernel
theorem tX7_reads_32 : gAt mX7_reads 32 = some (.iaload, 1, 12, 0, 0, 0) := by decide +kernel
theorem tX7_reads_33 : gAt mX7_reads 33 = some (.if_icmp .eq 5, 3, 38, 0, 0, 0) := by decide +kernel
theorem tX7_reads_36 : gAt mX7_reads 36 = some (.iconst 0, 1, 0, 0, 0, 0) := by decide +kernel
theorem tX7_reads_37 : gAt mX7_reads 37 = some (.ireturn, 1, 1, 0, 0, 0) := by decide +kernel
theorem tX7_reads_38 : gAt mX7_reads 38 = some (.iinc 3 1, 3, 1, 0, 0, 0) := by decide +kernel
theorem tX7_reads_41 : gAt mX7_reads 41 = some (.goto (-22), 3, 19, 0, 0, 0) := by decide +kernel
theorem tX7_reads_44 : gAt mX7_reads 44 = some (.iconst 1, 1, 1, 0, 0, 0) := by decide +kernel
theorem tX7_reads_45 : gAt mX7_reads 45 = some (.ireturn, 1, 1, 0, 0, 0) := by decide +kernel
set_option maxRecDepth 100000 in
theorem okX7_wasGivenFor : (gTb mX7_wasGivenFor).all (okE gF gNM mX7_wasGivenFor) = true := by decide +kernel
theorem pnX7_wasGivenFor : plainName (gY mX7_wasGivenFor).cls = true := by decide +kernel
theorem tX7_wasGivenFor_0 : gAt mX7_wasGivenFor 0 = some (.aload_n 0, 1, 0, 0, 0, 0) := by decide +kernel
theorem tX7_wasGivenFor_1 : gAt mX7_wasGivenFor 1 = some (.getfield 18, 3, 8, 4, 0, 411) := by decide +kernel
theorem tX7_wasGivenFor_4 : gAt mX7_wasGivenFor 4 = some (.aload_n 1, 1, 0, 0, 0, 0) := by decide +kernel
theorem tX7_wasGivenFor_5 : gAt mX7_wasGivenFor 5 = some (.getfield 47, 3, 1, 0, 0, 704) := by decide +kernel
theorem tX7_wasGivenFor_8 : gAt mX7_wasGivenFor 8 = some (.ishr, 1, 0, 0, 0, 0) := by decide +kernel
theorem tX7_wasGivenFor_9 : gAt mX7_wasGivenFor 9 = some (.iconst 1, 1, 1, 0, 0, 0) := by decide +kernel
theorem tX7_wasGivenFor_10 : gAt mX7_wasGivenFor 10 = some (.iand, 1, 0, 0, 0, 0) := by decide +kernel
theorem tX7_wasGivenFor_11 : gAt mX7_wasGivenFor 11 = some (.ifCond .eq 7, 3, 18, 0, 0, 0) := by decide +kernel
theorem tX7_wasGivenFor_14 : gAt mX7_wasGivenFor 14 = some (.iconst 1, 1, 1, 0, 0, 0) := by decide +kernel
theorem tX7_wasGivenFor_15 : gAt mX7_wasGivenFor 15 = some (.goto 4, 3, 19, 0, 0, 0) := by decide +kernel
theorem tX7_wasGivenFor_18 : gAt mX7_wasGivenFor 18 = some (.iconst 0, 1, 0, 0, 0, 0) := by decide +kernel
theorem tX7_wasGivenFor_19 : gAt mX7_wasGivenFor 19 = some (.ireturn, 1, 1, 0, 0, 0) := by decide +kernel
set_option maxRecDepth 100000 in
theorem okX7_noteGivenFor : (gTb mX7_noteGivenFor).all (okE gF gNM mX7_noteGivenFor) = true := by decide +kernel
theorem pnX7_noteGivenFor : plainName (gY mX7_noteGivenFor).cls = true := by decide +kernel
theorem tX7_noteGivenFor_0 : gAt mX7_noteGivenFor 0 = some (.aload_n 0, 1, 0, 0, 0, 0) := by decide +kernel
theorem tX7_noteGivenFor_1 : gAt mX7_noteGivenFor 1 = some (.dup, 1, 0, 0, 0, 0) := by decide +kernel
theorem tX7_noteGivenFor_2 : gAt mX7_noteGivenFor 2 = some (.getfield 18, 3, 8, 4, 0, 411) := by decide +kernel
theorem tX7_noteGivenFor_5 : gAt mX7_noteGivenFor 5 = some (.iconst 1, 1, 1, 0, 0, 0) := by decide +kernel
theorem tX7_noteGivenFor_6 : gAt mX7_noteGivenFor 6 = some (.aload_n 1, 1, 0, 0, 0, 0) := by decide +kernel
theorem tX7_noteGivenFor_7 : gAt mX7_noteGivenFor 7 = some (.getfield 47, 3, 1, 0, 0, 704) := by decide +kernel
theorem tX7_noteGivenFor_10 : gAt mX7_noteGivenFor 10 = some (.ishl, 1, 0, 0, 0, 0) := by decide +kernel
theorem tX7_noteGivenFor_11 : gAt mX7_noteGivenFor 11 = some (.ior, 1, 0, 0, 0, 0) := by decide +kernel
theorem tX7_noteGivenFor_12 : gAt mX7_noteGivenFor 12 = some (.putfield 18, 3, 8, 4, 0, 411) := by decide +kernel
theorem tX7_noteGivenFor_15 : gAt mX7_noteGivenFor 15 = some (.return_, 1, 0, 0, 0, 0) := by decide +kernel
set_option maxRecDepth 100000 in
theorem okX7_addSpan : (gTb mX7_addSpan).all (okE gF gNM mX7_addSpan) = true := by decide +kernel
theorem pnX7_addSpan : plainName (gY mX7_addSpan).cls = true := by decide +kernel
theorem tX7_addSpan_0 : gAt mX7_addSpan 0 = some (.aload_n 0, 1, 0, 0, 0, 0) := by decide +kernel
theorem tX7_addSpan_1 : gAt mX7_addSpan 1 = some (.getfield 22, 3, 8, 5, 0, 412) := by decide +kernel
theorem tX7_addSpan_4 : gAt mX7_addSpan 4 = some (.iconst 4, 1, 4, 0, 0, 0) := by decide +kernel
theorem tX7_addSpan_5 : gAt mX7_addSpan 5 = some (.if_icmp .ge 43, 3, 48, 0, 0, 0) := by decide +kernel
theorem tX7_addSpan_8 : gAt mX7_addSpan 8 = some (.aload_n 0, 1, 0, 0, 0, 0) := by decide +kernel
theorem tX7_addSpan_9 : gAt mX7_addSpan 9 = some (.getfield 25, 3, 8, 6, 2, 414) := by decide +kernel
theorem tX7_addSpan_12 : gAt mX7_addSpan 12 = some (.aload_n 0, 1, 0, 0, 0, 0) := by decide +kernel
theorem tX7_addSpan_13 : gAt mX7_addSpan 13 = some (.getfield 22, 3, 8, 5, 0, 412) := by decide +kernel
theorem tX7_addSpan_16 : gAt mX7_addSpan 16 = some (.iload_n 1, 1, 0, 0, 0, 0) := by decide +kernel
theorem tX7_addSpan_17 : gAt mX7_addSpan 17 = some (.iastore, 1, 12, 0, 0, 0) := by decide +kernel
theorem tX7_addSpan_18 : gAt mX7_addSpan 18 = some (.aload_n 0, 1, 0, 0, 0, 0) := by decide +kernel
theorem tX7_addSpan_19 : gAt mX7_addSpan 19 = some (.getfield 29, 3, 8, 7, 2, 415) := by decide +kernel
theorem tX7_addSpan_22 : gAt mX7_addSpan 22 = some (.aload_n 0, 1, 0, 0, 0, 0) := by decide +kernel
theorem tX7_addSpan_23 : gAt mX7_addSpan 23 = some (.getfield 22, 3, 8, 5, 0, 412) := by decide +kernel
theorem tX7_addSpan_26 : gAt mX7_addSpan 26 = some (.iload_n 2, 1, 0, 0, 0, 0) := by decide +kernel
theorem tX7_addSpan_27 : gAt mX7_addSpan 27 = some (.iastore, 1, 12, 0, 0, 0) := by decide +kernel
theorem tX7_addSpan_28 : gAt mX7_addSpan 28 = some (.aload_n 0, 1, 0, 0, 0, 0) := by decide +kernel
theorem tX7_addSpan_29 : gAt mX7_addSpan 29 = some (.getfield 32, 3, 8, 8, 2, 416) := by decide +kernel
theorem tX7_addSpan_32 : gAt mX7_addSpan 32 = some (.aload_n 0, 1, 0, 0, 0, 0) := by decide +kernel
theorem tX7_addSpan_33 : gAt mX7_addSpan 33 = some (.getfield 22, 3, 8, 5, 0, 412) := by decide +kernel
theorem tX7_addSpan_36 : gAt mX7_addSpan 36 = some (.iload_n 3, 1, 0, 0, 0, 0) := by decide +kernel
theorem tX7_addSpan_37 : gAt mX7_addSpan 37 = some (.iastore, 1, 12, 0, 0, 0) := by decide +kernel
theorem tX7_addSpan_38 : gAt mX7_addSpan 38 = some (.aload_n 0, 1, 0, 0, 0, 0) := by decide +kernel
theorem tX7_addSpan_39 : gAt mX7_addSpan 39 = some (.dup, 1, 0, 0, 0, 0) := by decide +kernel
theorem tX7_addSpan_40 : gAt mX7_addSpan 40 = some (.getfield 22, 3, 8, 5, 0, 412) := by decide +kernel
theorem tX7_addSpan_43 : gAt mX7_addSpan 43 = some (.iconst 1, 1, 1, 0, 0, 0) := by decide +kernel
theorem tX7_addSpan_44 : gAt mX7_addSpan 44 = some (.iadd, 1, 0, 0, 0, 0) := by decide +kernel
theorem tX7_addSpan_45 : gAt mX7_addSpan 45 = some (.putfield 22, 3, 8, 5, 0, 412) := by decide +kernel
theorem tX7_addSpan_48 : gAt mX7_addSpan 48 = some (.return_, 1, 0, 0, 0, 0) := by decide +kernel
def kX7_dropSpan : gM := (gY mX7_dropSpan, gCd mX7_dropSpan, gL mX7_dropSpan, gRt mX7_dropSpan, gIx mX7_dropSpan, [(0, (.iload_n 1, 1, 0, 0, 0, 0)), (1, (.iconst 0, 1, 0, 0, 0, 0)), (5, (.istore_n 2, 1, 0, 0, 0, 0)), (6, (.iload_n 2, 1, 0, 0, 0, 0)), (7, (.iconst 1, 1, 1, 0, 0, 0)), (8, (.iadd, 1, 0, 0, 0, 0)), (9, (.aload_n 0, 1, 0, 0, 0, 0)), (10, (.getfield 22, 3, 8, 5, 0, 412)), (13, (.if_icmp .ge 51, 3, 64, 0, 0, 0)), (16, (.aload_n 0, 1, 0, 0, 0, 0)), (17, (.getfield 25, 3, 8, 6, 2, 414)), (20, (.iload_n 2, 1, 0, 0, 0, 0)), (21, (.aload_n 0, 1, 0, 0, 0, 0)), (22, (.getfield 25, 3, 8, 6, 2, 414)), (25, (.iload_n 2, 1, 0, 0, 0, 0)), (26, (.iconst 1, 1, 1, 0, 0, 0)), (27, (.iadd, 1, 0, 0, 0, 0)), (28, (.iaload, 1, 12, 0, 0, 0)), (29, (.iastore, 1, 12, 0, 0, 0)), (30, (.aload_n 0, 1, 0, 0, 0, 0)), (31, (.getfield 29, 3, 8, 7, 2, 415)), (34, (.iload_n 2, 1, 0, 0, 0, 0)), (35, (.aload_n 0, 1, 0, 0, 0, 0)), (36, (.getfield 29, 3, 8, 7, 2, 415)), (39, (.iload_n 2, 1, 0, 0, 0, 0)), (40, (.iconst 1, 1, 1, 0, 0, 0)), (41, (.iadd, 1, 0, 0, 0, 0)), (42, (.iaload, 1, 12, 0, 0, 0)), (43, (.iastore, 1, 12, 0, 0, 0)), (44, (.aload_n 0, 1, 0, 0, 0, 0)), (45, (.getfield 32, 3, 8, 8, 2, 416)), (48, (.iload_n 2, 1, 0, 0, 0, 0)), (49, (.aload_n 0, 1, 0, 0, 0, 0)), (50, (.getfield 32, 3, 8, 8, 2, 416)), (53, (.iload_n 2, 1, 0, 0, 0, 0)), (54, (.iconst 1, 1, 1, 0, 0, 0)), (55, (.iadd, 1, 0, 0, 0, 0)), (56, (.iaload, 1, 12, 0, 0, 0)), (57, (.iastore, 1, 12, 0, 0, 0)), (58, (.iinc 2 1, 3, 1, 0, 0, 0)), (61, (.goto (-55), 3, 6, 0, 0, 0)), (64, (.aload_n 0, 1, 0, 0, 0, 0)), (65, (.getfield 22, 3, 8, 5, 0, 412)), (68, (.ifCond .le 13, 3, 81, 0, 0, 0)), (71, (.aload_n 0, 1, 0, 0, 0, 0)), (72, (.dup, 1, 0, 0, 0, 0)), (73, (.getfield 22, 3, 8, 5, 0, 412)), (76, (.iconst 1, 1, 1, 0, 0, 0)), (77, (.isub, 1, 0, 0, 0, 0)), (78, (.putfield 22, 3, 8, 5, 0, 412)), (81, (.return_, 1, 0, 0, 0, 0))])
theorem eX7_dropSpan_2 : decode (gCd kX7_dropSpan) 2 = .ok (.invokestatic 50, 3) := by decide +kernel
set_option maxRecDepth 100000 in
theorem okX7_dropSpan : (gTb kX7_dropSpan).all (okE gF gNM kX7_dropSpan) = true := by decide +kernel
theorem pnX7_dropSpan : plainName (gY kX7_dropSpan).cls = true := by decide +kernel
theorem tX7_dropSpan_0 : gAt kX7_dropSpan 0 = some (.iload_n 1, 1, 0, 0, 0, 0) := by decide +kernel
theorem tX7_dropSpan_1 : gAt kX7_dropSpan 1 = some (.iconst 0, 1, 0, 0, 0, 0) := by decide +kernel
theorem tX7_dropSpan_5 : gAt kX7_dropSpan 5 = some (.istore_n 2, 1, 0, 0, 0, 0) := by decide +kernel
theorem tX7_dropSpan_6 : gAt kX7_dropSpan 6 = some (.iload_n 2, 1, 0, 0, 0, 0) := by decide +kernel
theorem tX7_dropSpan_7 : gAt kX7_dropSpan 7 = some (.iconst 1, 1, 1, 0, 0, 0) := by decide +kernel
theorem tX7_dropSpan_8 : gAt kX7_dropSpan 8 = some (.iadd, 1, 0, 0, 0, 0) := by decide +kernel
theorem tX7_dropSpan_9 : gAt kX7_dropSpan 9 = some (.aload_n 0, 1, 0, 0, 0, 0) := by decide +kernel
theorem tX7_dropSpan_10 : gAt kX7_dropSpan 10 = some (.getfield 22, 3, 8, 5, 0, 412) := by decide +kernel
theorem tX7_dropSpan_13 : gAt kX7_dropSpan 13 = some (.if_icmp .ge 51, 3, 64, 0, 0, 0) := by decide +kernel
theorem tX7_dropSpan_16 : gAt kX7_dropSpan 16 = some (.aload_n 0, 1, 0, 0, 0, 0) := by decide +kernel
theorem tX7_dropSpan_17 : gAt kX7_dropSpan 17 = some (.getfield 25, 3, 8, 6, 2, 414) := by decide +kernel
theorem tX7_dropSpan_20 : gAt kX7_dropSpan 20 = some (.iload_n 2, 1, 0, 0, 0, 0) := by decide +kernel
theorem tX7_dropSpan_21 : gAt kX7_dropSpan 21 = some (.aload_n 0, 1, 0, 0, 0, 0) := by decide +kernel
theorem tX7_dropSpan_22 : gAt kX7_dropSpan 22 = some (.getfield 25, 3, 8, 6, 2, 414) := by decide +kernel
theorem tX7_dropSpan_25 : gAt kX7_dropSpan 25 = some (.iload_n 2, 1, 0, 0, 0, 0) := by decide +kernel
theorem tX7_dropSpan_26 : gAt kX7_dropSpan 26 = some (.iconst 1, 1, 1, 0, 0, 0) := by decide +kernel
theorem tX7_dropSpan_27 : gAt kX7_dropSpan 27 = some (.iadd, 1, 0, 0, 0, 0) := by decide +kernel
theorem tX7_dropSpan_28 : gAt kX7_dropSpan 28 = some (.iaload, 1, 12, 0, 0, 0) := by decide +kernel
theorem tX7_dropSpan_29 : gAt kX7_dropSpan 29 = some (.iastore, 1, 12, 0, 0, 0) := by decide +kernel
theorem tX7_dropSpan_30 : gAt kX7_dropSpan 30 = some (.aload_n 0, 1, 0, 0, 0, 0) := by decide +kernel
theorem tX7_dropSpan_31 : gAt kX7_dropSpan 31 = some (.getfield 29, 3, 8, 7, 2, 415) := by decide +kernel
theorem tX7_dropSpan_34 : gAt kX7_dropSpan 34 = some (.iload_n 2, 1, 0, 0, 0, 0) := by decide +kernel
theorem tX7_dropSpan_35 : gAt kX7_dropSpan 35 = some (.aload_n 0, 1, 0, 0, 0, 0) := by decide +kernel
theorem tX7_dropSpan_36 : gAt kX7_dropSpan 36 = some (.getfield 29, 3, 8, 7, 2, 415) := by decide +kernel
theorem tX7_dropSpan_39 : gAt kX7_dropSpan 39 = some (.iload_n 2, 1, 0, 0, 0, 0) := by decide +kernel
theorem tX7_dropSpan_40 : gAt kX7_dropSpan 40 = some (.iconst 1, 1, 1, 0, 0, 0) := by decide +kernel
theorem tX7_dropSpan_41 : gAt kX7_dropSpan 41 = some (.iadd, 1, 0, 0, 0, 0) := by decide +kernel
theorem tX7_dropSpan_42 : gAt kX7_dropSpan 42 = some (.iaload, 1, 12, 0, 0, 0) := by decide +kernel
theorem tX7_dropSpan_43 : gAt kX7_dropSpan 43 = some (.iastore, 1, 12, 0, 0, 0) := by decide +kernel
theorem tX7_dropSpan_44 : gAt kX7_dropSpan 44 = some (.aload_n 0, 1, 0, 0, 0, 0) := by decide +kernel
theorem tX7_dropSpan_45 : gAt kX7_dropSpan 45 = some (.getfield 32, 3, 8, 8, 2, 416) := by decide +kernel
theorem tX7_dropSpan_48 : gAt kX7_dropSpan 48 = some (.iload_n 2, 1, 0, 0, 0, 0) := by decide +kernel
theorem tX7_dropSpan_49 : gAt kX7_dropSpan 49 = some (.aload_n 0, 1, 0, 0, 0, 0) := by decide +kernel
theorem tX7_dropSpan_50 : gAt kX7_dropSpan 50 = some (.getfield 32, 3, 8, 8, 2, 416) := by decide +kernel
theorem tX7_dropSpan_53 : gAt kX7_dropSpan 53 = some (.iload_n 2, 1, 0, 0, 0, 0) := by decide +kernel
theorem tX7_dropSpan_54 : gAt kX7_dropSpan 54 = some (.iconst 1, 1, 1, 0, 0, 0) := by decide +kernel
theorem tX7_dropSpan_55 : gAt kX7_dropSpan 55 = some (.iadd, 1, 0, 0, 0, 0) := by decide +kernel
theorem tX7_dropSpan_56 : gAt kX7_dropSpan 56 = some (.iaload, 1, 12, 0, 0, 0) := by decide +kernel
theorem tX7_dropSpan_57 : gAt kX7_dropSpan 57 = some (.iastore, 1, 12, 0, 0, 0) := by decide +kernel
theorem tX7_dropSpan_58 : gAt kX7_dropSpan 58 = some (.iinc 2 1, 3, 1, 0, 0, 0) := by decide +kernel
theorem tX7_dropSpan_61 : gAt kX7_dropSpan 61 = some (.goto (-55), 3, 6, 0, 0, 0) := by decide +kernel
theorem tX7_dropSpan_64 : gAt kX7_dropSpan 64 = some (.aload_n 0, 1, 0, 0, 0, 0) := by decide +kernel
theorem tX7_dropSpan_65 : gAt kX7_dropSpan 65 = some (.getfield 22, 3, 8, 5, 0, 412) := by decide +kernel
theorem tX7_dropSpan_68 : gAt kX7_dropSpan 68 = some (.ifCond .le 13, 3, 81, 0, 0, 0) := by decide +kernel
theorem tX7_dropSpan_71 : gAt kX7_dropSpan 71 = some (.aload_n 0, 1, 0, 0, 0, 0) := by decide +kernel
theorem tX7_dropSpan_72 : gAt kX7_dropSpan 72 = some (.dup, 1, 0, 0, 0, 0) := by decide +kernel
theorem tX7_dropSpan_73 : gAt kX7_dropSpan 73 = some (.getfield 22, 3, 8, 5, 0, 412) := by decide +kernel
theorem tX7_dropSpan_76 : gAt kX7_dropSpan 76 = some (.iconst 1, 1, 1, 0, 0, 0) := by decide +kernel
theorem tX7_dropSpan_77 : gAt kX7_dropSpan 77 = some (.isub, 1, 0, 0, 0, 0) := by decide +kernel
theorem tX7_dropSpan_78 : gAt kX7_dropSpan 78 = some (.putfield 22, 3, 8, 5, 0, 412) := by decide +kernel
theorem tX7_dropSpan_81 : gAt kX7_dropSpan 81 = some (.return_, 1, 0, 0, 0, 0) := by decide +kernel
set_option maxRecDepth 100000 in
theorem okX7_isBlackAt : (gTb mX7_isBlackAt).all (okE gF gNM mX7_isBlackAt) = true := by decide +kernel
theorem pnX7_isBlackAt : plainName (gY mX7_isBlackAt).cls = true := by decide +kernel
theorem tX7_isBlackAt_0 : gAt mX7_isBlackAt 0 = some (.iconst 0, 1, 0, 0, 0, 0) := by decide +kernel
theorem tX7_isBlackAt_1 : gAt mX7_isBlackAt 1 = some (.istore_n 3, 1, 0, 0, 0, 0) := by decide +kernel
theorem tX7_isBlackAt_2 : gAt mX7_isBlackAt 2 = some (.iload_n 3, 1, 0, 0, 0, 0) := by decide +kernel
theorem tX7_isBlackAt_3 : gAt mX7_isBlackAt 3 = some (.aload_n 0, 1, 0, 0, 0, 0) := by decide +kernel
theorem tX7_isBlackAt_4 : gAt mX7_isBlackAt 4 = some (.getfield 22, 3, 8, 5, 0, 412) := by decide +kernel
theorem tX7_isBlackAt_7 : gAt mX7_isBlackAt 7 = some (.if_icmp .ge 56, 3, 63, 0, 0, 0) := by decide +kernel
theorem tX7_isBlackAt_10 : gAt mX7_isBlackAt 10 = some (.aload_n 0, 1, 0, 0, 0, 0) := by decide +kernel
theorem tX7_isBlackAt_11 : gAt mX7_isBlackAt 11 = some (.getfield 25, 3, 8, 6, 2, 414) := by decide +kernel
theorem tX7_isBlackAt_14 : gAt mX7_isBlackAt 14 = some (.iload_n 3, 1, 0, 0, 0, 0) := by decide +kernel
theorem tX7_isBlackAt_15 : gAt mX7_isBlackAt 15 = some (.iaload, 1, 12, 0, 0, 0) := by decide +kernel
theorem tX7_isBlackAt_16 : gAt mX7_isBlackAt 16 = some (.iload_n 1, 1, 0, 0, 0, 0) := by decide +kernel
theorem tX7_isBlackAt_17 : gAt mX7_isBlackAt 17 = some (.if_icmp .gt 17, 3, 34, 0, 0, 0) := by decide +kernel
theorem tX7_isBlackAt_20 : gAt mX7_isBlackAt 20 = some (.iload_n 1, 1, 0, 0, 0, 0) := by decide +kernel
theorem tX7_isBlackAt_21 : gAt mX7_isBlackAt 21 = some (.aload_n 0, 1, 0, 0, 0, 0) := by decide +kernel
theorem tX7_isBlackAt_22 : gAt mX7_isBlackAt 22 = some (.getfield 29, 3, 8, 7, 2, 415) := by decide +kernel
theorem tX7_isBlackAt_25 : gAt mX7_isBlackAt 25 = some (.iload_n 3, 1, 0, 0, 0, 0) := by decide +kernel
theorem tX7_isBlackAt_26 : gAt mX7_isBlackAt 26 = some (.iaload, 1, 12, 0, 0, 0) := by decide +kernel
theorem tX7_isBlackAt_27 : gAt mX7_isBlackAt 27 = some (.if_icmp .gt 7, 3, 34, 0, 0, 0) := by decide +kernel
theorem tX7_isBlackAt_30 : gAt mX7_isBlackAt 30 = some (.iconst 1, 1, 1, 0, 0, 0) := by decide +kernel
theorem tX7_isBlackAt_31 : gAt mX7_isBlackAt 31 = some (.goto 4, 3, 35, 0, 0, 0) := by decide +kernel
theorem tX7_isBlackAt_34 : gAt mX7_isBlackAt 34 = some (.iconst 0, 1, 0, 0, 0, 0) := by decide +kernel
theorem tX7_isBlackAt_35 : gAt mX7_isBlackAt 35 = some (.istore 4, 2, 0, 0, 0, 0) := by decide +kernel
theorem tX7_isBlackAt_37 : gAt mX7_isBlackAt 37 = some (.iload 4, 2, 0, 0, 0, 0) := by decide +kernel
theorem tX7_isBlackAt_39 : gAt mX7_isBlackAt 39 = some (.ifCond .eq 18, 3, 57, 0, 0, 0) := by decide +kernel
theorem tX7_isBlackAt_42 : gAt mX7_isBlackAt 42 = some (.iload_n 2, 1, 0, 0, 0, 0) := by decide +kernel
theorem tX7_isBlackAt_43 : gAt mX7_isBlackAt 43 = some (.aload_n 0, 1, 0, 0, 0, 0) := by decide +kernel
theorem tX7_isBlackAt_44 : gAt mX7_isBlackAt 44 = some (.getfield 32, 3, 8, 8, 2, 416) := by decide +kernel
theorem tX7_isBlackAt_47 : gAt mX7_isBlackAt 47 = some (.iload_n 3, 1, 0, 0, 0, 0) := by decide +kernel
theorem tX7_isBlackAt_48 : gAt mX7_isBlackAt 48 = some (.iaload, 1, 12, 0, 0, 0) := by decide +kernel
theorem tX7_isBlackAt_49 : gAt mX7_isBlackAt 49 = some (.ishr, 1, 0, 0, 0, 0) := by decide +kernel
theorem tX7_isBlackAt_50 : gAt mX7_isBlackAt 50 = some (.iconst 1, 1, 1, 0, 0, 0) := by decide +kernel
theorem tX7_isBlackAt_51 : gAt mX7_isBlackAt 51 = some (.iand, 1, 0, 0, 0, 0) := by decide +kernel
theorem tX7_isBlackAt_52 : gAt mX7_isBlackAt 52 = some (.ifCond .eq 5, 3, 57, 0, 0, 0) := by decide +kernel
theorem tX7_isBlackAt_55 : gAt mX7_isBlackAt 55 = some (.iconst 1, 1, 1, 0, 0, 0) := by decide +kernel
theorem tX7_isBlackAt_56 : gAt mX7_isBlackAt 56 = some (.ireturn, 1, 1, 0, 0, 0) := by decide +kernel
theorem tX7_isBlackAt_57 : gAt mX7_isBlackAt 57 = some (.iinc 3 1, 3, 1, 0, 0, 0) := by decide +kernel
theorem tX7_isBlackAt_60 : gAt mX7_isBlackAt 60 = some (.goto (-58), 3, 2, 0, 0, 0) := by decide +kernel
theorem tX7_isBlackAt_63 : gAt mX7_isBlackAt 63 = some (.iconst 0, 1, 0, 0, 0, 0) := by decide +kernel
theorem tX7_isBlackAt_64 : gAt mX7_isBlackAt 64 = some (.ireturn, 1, 1, 0, 0, 0) := by decide +kernel
set_option maxRecDepth 100000 in
theorem okX7_wordShown : (gTb mX7_wordShown).all (okE gF gNM mX7_wordShown) = true := by decide +kernel
theorem pnX7_wordShown : plainName (gY mX7_wordShown).cls = true := by decide +kernel
theorem tX7_wordShown_0 : gAt mX7_wordShown 0 = some (.aload_n 0, 1, 0, 0, 0, 0) := by decide +kernel
theorem tX7_wordShown_1 : gAt mX7_wordShown 1 = some (.iload_n 1, 1, 0, 0, 0, 0) := by decide +kernel
theorem tX7_wordShown_2 : gAt mX7_wordShown 2 = some (.iload_n 2, 1, 0, 0, 0, 0) := by decide +kernel
theorem tX7_wordShown_3 : gAt mX7_wordShown 3 = some (.invokevirtual 56, 3, 55, 2, 8, 825) := by decide +kernel
theorem tX7_wordShown_6 : gAt mX7_wordShown 6 = some (.ifCond .eq 7, 3, 13, 0, 0, 0) := by decide +kernel
theorem tX7_wordShown_9 : gAt mX7_wordShown 9 = some (.iconst 0, 1, 0, 0, 0, 0) := by decide +kernel
theorem tX7_wordShown_10 : gAt mX7_wordShown 10 = some (.goto 9, 3, 19, 0, 0, 0) := by decide +kernel
theorem tX7_wordShown_13 : gAt mX7_wordShown 13 = some (.aload_n 0, 1, 0, 0, 0, 0) := by decide +kernel
theorem tX7_wordShown_14 : gAt mX7_wordShown 14 = some (.getfield 44, 3, 8, 1, 2, 405) := by decide +kernel
theorem tX7_wordShown_17 : gAt mX7_wordShown 17 = some (.iload_n 1, 1, 0, 0, 0, 0) := by decide +kernel
theorem tX7_wordShown_18 : gAt mX7_wordShown 18 = some (.iaload, 1, 12, 0, 0, 0) := by decide +kernel
theorem tX7_wordShown_19 : gAt mX7_wordShown 19 = some (.ireturn, 1, 0, 0, 0, 0) := by decide +kernel
set_option maxRecDepth 100000 in
theorem okX7_countBlack : (gTb mX7_countBlack).all (okE gF gNM mX7_countBlack) = true := by decide +kernel
theorem pnX7_countBlack : plainName (gY mX7_countBlack).cls = true := by decide +kernel
theorem tX7_countBlack_0 : gAt mX7_countBlack 0 = some (.iconst 0, 1, 0, 0, 0, 0) := by decide +kernel
theorem tX7_countBlack_1 : gAt mX7_countBlack 1 = some (.istore_n 2, 1, 0, 0, 0, 0) := by decide +kernel
theorem tX7_countBlack_2 : gAt mX7_countBlack 2 = some (.iconst 0, 1, 0, 0, 0, 0) := by decide +kernel
theorem tX7_countBlack_3 : gAt mX7_countBlack 3 = some (.istore_n 3, 1, 0, 0, 0, 0) := by decide +kernel
theorem tX7_countBlack_4 : gAt mX7_countBlack 4 = some (.iload_n 3, 1, 0, 0, 0, 0) := by decide +kernel
theorem tX7_countBlack_5 : gAt mX7_countBlack 5 = some (.aload_n 0, 1, 0, 0, 0, 0) := by decide +kernel
theorem tX7_countBlack_6 : gAt mX7_countBlack 6 = some (.getfield 44, 3, 8, 1, 2, 405) := by decide +kernel
theorem tX7_countBlack_9 : gAt mX7_countBlack 9 = some (.arraylength, 1, 12, 0, 0, 0) := by decide +kernel
theorem tX7_countBlack_10 : gAt mX7_countBlack 10 = some (.if_icmp .ge 21, 3, 31, 0, 0, 0) := by decide +kernel
theorem tX7_countBlack_13 : gAt mX7_countBlack 13 = some (.aload_n 0, 1, 0, 0, 0, 0) := by decide +kernel
theorem tX7_countBlack_14 : gAt mX7_countBlack 14 = some (.iload_n 3, 1, 0, 0, 0, 0) := by decide +kernel
theorem tX7_countBlack_15 : gAt mX7_countBlack 15 = some (.iload_n 1, 1, 0, 0, 0, 0) := by decide +kernel
theorem tX7_countBlack_16 : gAt mX7_countBlack 16 = some (.invokevirtual 56, 3, 55, 2, 8, 825) := by decide +kernel
theorem tX7_countBlack_19 : gAt mX7_countBlack 19 = some (.ifCond .eq 6, 3, 25, 0, 0, 0) := by decide +kernel
theorem tX7_countBlack_22 : gAt mX7_countBlack 22 = some (.iinc 2 1, 3, 1, 0, 0, 0) := by decide +kernel
theorem tX7_countBlack_25 : gAt mX7_countBlack 25 = some (.iinc 3 1, 3, 1, 0, 0, 0) := by decide +kernel
theorem tX7_countBlack_28 : gAt mX7_countBlack 28 = some (.goto (-24), 3, 4, 0, 0, 0) := by decide +kernel
theorem tX7_countBlack_31 : gAt mX7_countBlack 31 = some (.iload_n 2, 1, 0, 0, 0, 0) := by decide +kernel
theorem tX7_countBlack_32 : gAt mX7_countBlack 32 = some (.ireturn, 1, 0, 0, 0, 0) := by decide +kernel
set_option maxRecDepth 100000 in
theorem okX7_showsWord : (gTb mX7_showsWord).all (okE gF gNM mX7_showsWord) = true := by decide +kernel
theorem pnX7_showsWord : plainName (gY mX7_showsWord).cls = true := by decide +kernel
theorem tX7_showsWord_0 : gAt mX7_showsWord 0 = some (.iconst 0, 1, 0, 0, 0, 0) := by decide +kernel
theorem tX7_showsWord_1 : gAt mX7_showsWord 1 = some (.istore_n 3, 1, 0, 0, 0, 0) := by decide +kernel
theorem tX7_showsWord_2 : gAt mX7_showsWord 2 = some (.iload_n 3, 1, 0, 0, 0, 0) := by decide +kernel
theorem tX7_showsWord_3 : gAt mX7_showsWord 3 = some (.aload_n 0, 1, 0, 0, 0, 0) := by decide +kernel
theorem tX7_showsWord_4 : gAt mX7_showsWord 4 = some (.getfield 44, 3, 8, 1, 2, 405) := by decide +kernel
theorem tX7_showsWord_7 : gAt mX7_showsWord 7 = some (.arraylength, 1, 12, 0, 0, 0) := by decide +kernel
theorem tX7_showsWord_8 : gAt mX7_showsWord 8 = some (.if_icmp .ge 30, 3, 38, 0, 0, 0) := by decide +kernel
theorem tX7_showsWord_11 : gAt mX7_showsWord 11 = some (.aload_n 0, 1, 0, 0, 0, 0) := by decide +kernel
theorem tX7_showsWord_12 : gAt mX7_showsWord 12 = some (.getfield 44, 3, 8, 1, 2, 405) := by decide +kernel
theorem tX7_showsWord_15 : gAt mX7_showsWord 15 = some (.iload_n 3, 1, 0, 0, 0, 0) := by decide +kernel
theorem tX7_showsWord_16 : gAt mX7_showsWord 16 = some (.iaload, 1, 12, 0, 0, 0) := by decide +kernel
theorem tX7_showsWord_17 : gAt mX7_showsWord 17 = some (.iload_n 1, 1, 0, 0, 0, 0) := by decide +kernel
theorem tX7_showsWord_18 : gAt mX7_showsWord 18 = some (.if_icmp .ne 14, 3, 32, 0, 0, 0) := by decide +kernel
theorem tX7_showsWord_21 : gAt mX7_showsWord 21 = some (.aload_n 0, 1, 0, 0, 0, 0) := by decide +kernel
theorem tX7_showsWord_22 : gAt mX7_showsWord 22 = some (.iload_n 3, 1, 0, 0, 0, 0) := by decide +kernel
theorem tX7_showsWord_23 : gAt mX7_showsWord 23 = some (.iload_n 2, 1, 0, 0, 0, 0) := by decide +kernel
theorem tX7_showsWord_24 : gAt mX7_showsWord 24 = some (.invokevirtual 56, 3, 55, 2, 8, 825) := by decide +kernel
theorem tX7_showsWord_27 : gAt mX7_showsWord 27 = some (.ifCond .ne 5, 3, 32, 0, 0, 0) := by decide +kernel
theorem tX7_showsWord_30 : gAt mX7_showsWord 30 = some (.iconst 1, 1, 1, 0, 0, 0) := by decide +kernel
theorem tX7_showsWord_31 : gAt mX7_showsWord 31 = some (.ireturn, 1, 1, 0, 0, 0) := by decide +kernel
theorem tX7_showsWord_32 : gAt mX7_showsWord 32 = some (.iinc 3 1, 3, 1, 0, 0, 0) := by decide +kernel
theorem tX7_showsWord_35 : gAt mX7_showsWord 35 = some (.goto (-33), 3, 2, 0, 0, 0) := by decide +kernel
theorem tX7_showsWord_38 : gAt mX7_showsWord 38 = some (.iconst 0, 1, 0, 0, 0, 0) := by decide +kernel
theorem tX7_showsWord_39 : gAt mX7_showsWord 39 = some (.ireturn, 1, 1, 0, 0, 0) := by decide +kernel

/-! rows of the tables of class PapersDesk$Paper -/
set_option maxRecDepth 100000 in
theorem okX3_init : (gTb mX3_init).all (okE gF gNM mX3_init) = true := by decide +kernel
theorem pnX3_init : plainName (gY mX3_init).cls = true := by decide +kernel
theorem tX3_init_0 : gAt mX3_init 0 = some (.aload_n 0, 1, 0, 0, 0, 0) := by decide +kernel
theorem tX3_init_1 : gAt mX3_init 1 = some (.invokespecial 1, 3, 9999, 0, 0, 267) := by decide +kernel
theorem tX3_init_4 : gAt mX3_init 4 = some (.aload_n 0, 1, 0, 0, 0, 0) := by decide +kernel
theorem tX3_init_5 : gAt mX3_init 5 = some (.new 7, 3, 0, 0, 0, 268) := by decide +kernel
theorem tX3_init_8 : gAt mX3_init 8 = some (.dup, 1, 0, 0, 0, 0) := by decide +kernel
theorem tX3_init_9 : gAt mX3_init 9 = some (.invokespecial 9, 3, 187, 0, 0, 269) := by decide +kernel
theorem tX3_init_12 : gAt mX3_init 12 = some (.putfield 10, 3, 4, 3, 2, 278) := by decide +kernel
theorem tX3_init_15 : gAt mX3_init 15 = some (.aload_n 0, 1, 0, 0, 0, 0) := by decide +kernel
theorem tX3_init_16 : gAt mX3_init 16 = some (.iconst 0, 1, 0, 0, 0, 0) := by decide +kernel
theorem tX3_init_17 : gAt mX3_init 17 = some (.putfield 16, 3, 4, 4, 0, 281) := by decide +kernel
theorem tX3_init_20 : gAt mX3_init 20 = some (.aload_n 0, 1, 0, 0, 0, 0) := by decide +kernel
theorem tX3_init_21 : gAt mX3_init 21 = some (.iconst 0, 1, 0, 0, 0, 0) := by decide +kernel
theorem tX3_init_22 : gAt mX3_init 22 = some (.putfield 20, 3, 4, 5, 1, 284) := by decide +kernel
theorem tX3_init_25 : gAt mX3_init 25 = some (.aload_n 0, 1, 0, 0, 0, 0) := by decide +kernel
theorem tX3_init_26 : gAt mX3_init 26 = some (.iload_n 1, 1, 0, 0, 0, 0) := by decide +kernel
theorem tX3_init_27 : gAt mX3_init 27 = some (.putfield 24, 3, 4, 0, 0, 270) := by decide +kernel
theorem tX3_init_30 : gAt mX3_init 30 = some (.aload_n 0, 1, 0, 0, 0, 0) := by decide +kernel
theorem tX3_init_31 : gAt mX3_init 31 = some (.iload_n 2, 1, 0, 0, 0, 0) := by decide +kernel
theorem tX3_init_32 : gAt mX3_init 32 = some (.putfield 27, 3, 4, 1, 0, 272) := by decide +kernel
theorem tX3_init_35 : gAt mX3_init 35 = some (.aload_n 0, 1, 0, 0, 0, 0) := by decide +kernel
theorem tX3_init_36 : gAt mX3_init 36 = some (.iload_n 3, 1, 0, 0, 0, 0) := by decide +kernel
theorem tX3_init_37 : gAt mX3_init 37 = some (.putfield 30, 3, 4, 2, 0, 275) := by decide +kernel
theorem tX3_init_40 : gAt mX3_init 40 = some (.return_, 1, 0, 0, 0, 0) := by decide +kernel
set_option maxRecDepth 100000 in
theorem okX3_shows : (gTb mX3_shows).all (okE gF gNM mX3_shows) = true := by decide +kernel
theorem pnX3_shows : plainName (gY mX3_shows).cls = true := by decide +kernel
theorem tX3_shows_0 : gAt mX3_shows 0 = some (.iconst 0, 1, 0, 0, 0, 0) := by decide +kernel
theorem tX3_shows_1 : gAt mX3_shows 1 = some (.istore_n 3, 1, 0, 0, 0, 0) := by decide +kernel
theorem tX3_shows_2 : gAt mX3_shows 2 = some (.iload_n 3, 1, 0, 0, 0, 0) := by decide +kernel
theorem tX3_shows_3 : gAt mX3_shows 3 = some (.aload_n 0, 1, 0, 0, 0, 0) := by decide +kernel
theorem tX3_shows_4 : gAt mX3_shows 4 = some (.getfield 10, 3, 4, 3, 2, 278) := by decide +kernel
theorem tX3_shows_7 : gAt mX3_shows 7 = some (.invokevirtual 33, 3, 190, 0, 0, 818) := by decide +kernel
theorem tX3_shows_10 : gAt mX3_shows 10 = some (.if_icmp .ge 33, 3, 43, 0, 0, 0) := by decide +kernel
theorem tX3_shows_13 : gAt mX3_shows 13 = some (.aload_n 0, 1, 0, 0, 0, 0) := by decide +kernel
theorem tX3_shows_14 : gAt mX3_shows 14 = some (.getfield 10, 3, 4, 3, 2, 278) := by decide +kernel
theorem tX3_shows_17 : gAt mX3_shows 17 = some (.iload_n 3, 1, 0, 0, 0, 0) := by decide +kernel
theorem tX3_shows_18 : gAt mX3_shows 18 = some (.invokevirtual 37, 3, 192, 1, 0, 819) := by decide +kernel
theorem tX3_shows_21 : gAt mX3_shows 21 = some (.checkcast 41, 3, 3, 0, 0, 820) := by decide +kernel
theorem tX3_shows_24 : gAt mX3_shows 24 = some (.getfield 43, 3, 3, 2, 2, 446) := by decide +kernel
theorem tX3_shows_27 : gAt mX3_shows 27 = some (.iload_n 1, 1, 0, 0, 0, 0) := by decide +kernel
theorem tX3_shows_28 : gAt mX3_shows 28 = some (.iload_n 2, 1, 0, 0, 0, 0) := by decide +kernel
theorem tX3_shows_29 : gAt mX3_shows 29 = some (.invokevirtual 47, 3, 58, 2, 8, 821) := by decide +kernel
theorem tX3_shows_32 : gAt mX3_shows 32 = some (.ifCond .eq 5, 3, 37, 0, 0, 0) := by decide +kernel
theorem tX3_shows_35 : gAt mX3_shows 35 = some (.iconst 1, 1, 1, 0, 0, 0) := by decide +kernel
theorem tX3_shows_36 : gAt mX3_shows 36 = some (.ireturn, 1, 1, 0, 0, 0) := by decide +kernel
theorem tX3_shows_37 : gAt mX3_shows 37 = some (.iinc 3 1, 3, 1, 0, 0, 0) := by decide +kernel
theorem tX3_shows_40 : gAt mX3_shows 40 = some (.goto (-38), 3, 2, 0, 0, 0) := by decide +kernel
theorem tX3_shows_43 : gAt mX3_shows 43 = some (.iconst 0, 1, 0, 0, 0, 0) := by decide +kernel
theorem tX3_shows_44 : gAt mX3_shows 44 = some (.ireturn, 1, 1, 0, 0, 0) := by decide +kernel

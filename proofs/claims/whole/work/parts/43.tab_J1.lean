/-! rows of the tables of class java/lang/StringLatin1 -/
def kJ1_charAt_3b067 : gM := (gY mJ1_charAt_3b067, gCd mJ1_charAt_3b067, gL mJ1_charAt_3b067, gRt mJ1_charAt_3b067, gIx mJ1_charAt_3b067, [(0, (.iload_n 1, 1, 0, 0, 0, 0)), (1, (.aload_n 0, 1, 0, 0, 0, 0)), (3, (.invokestatic 9, 3, 179, 2, 99, 598)), (6, (.aload_n 0, 1, 0, 0, 0, 0)), (7, (.iload_n 1, 1, 0, 0, 0, 0)), (9, (.sipush 255, 3, 255, 0, 0, 0)), (12, (.iand, 1, 0, 0, 0, 0)), (13, (.i2c, 1, 0, 0, 0, 0))])
theorem eJ1_charAt_3b067_2 : decode (gCd kJ1_charAt_3b067) 2 = .ok (.arraylength, 1) := by decide +kernel
theorem eJ1_charAt_3b067_8 : decode (gCd kJ1_charAt_3b067) 8 = .ok (.baload, 1) := by decide +kernel
theorem eJ1_charAt_3b067_14 : decode (gCd kJ1_charAt_3b067) 14 = .ok (.ireturn, 1) := by decide +kernel
set_option maxRecDepth 100000 in
theorem okJ1_charAt_3b067 : (gTb kJ1_charAt_3b067).all (okE gF gNM kJ1_charAt_3b067) = true := by decide +kernel
theorem pnJ1_charAt_3b067 : plainName (gY kJ1_charAt_3b067).cls = true := by decide +kernel
theorem tJ1_charAt_3b067_0 : gAt kJ1_charAt_3b067 0 = some (.iload_n 1, 1, 0, 0, 0, 0) := by decide +kernel
theorem tJ1_charAt_3b067_1 : gAt kJ1_charAt_3b067 1 = some (.aload_n 0, 1, 0, 0, 0, 0) := by decide +kernel
theorem tJ1_charAt_3b067_3 : gAt kJ1_charAt_3b067 3 = some (.invokestatic 9, 3, 179, 2, 99, 598) := by decide +kernel
theorem tJ1_charAt_3b067_6 : gAt kJ1_charAt_3b067 6 = some (.aload_n 0, 1, 0, 0, 0, 0) := by decide +kernel
theorem tJ1_charAt_3b067_7 : gAt kJ1_charAt_3b067 7 = some (.iload_n 1, 1, 0, 0, 0, 0) := by decide +kernel
theorem tJ1_charAt_3b067_9 : gAt kJ1_charAt_3b067 9 = some (.sipush 255, 3, 255, 0, 0, 0) := by decide +kernel
theorem tJ1_charAt_3b067_12 : gAt kJ1_charAt_3b067 12 = some (.iand, 1, 0, 0, 0, 0) := by decide +kernel
theorem tJ1_charAt_3b067_13 : gAt kJ1_charAt_3b067 13 = some (.i2c, 1, 0, 0, 0, 0) := by decide +kernel

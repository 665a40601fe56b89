theorem dX0_init_0 : decode cX0_init 0 = .ok (.aload_n 0, 1) := by decide +kernel
theorem dX0_init_1 : decode cX0_init 1 = .ok (.invokespecial 3, 3) := by decide +kernel
theorem dX0_init_4 : decode cX0_init 4 = .ok (.aload_n 0, 1) := by decide +kernel
theorem dX0_init_5 : decode cX0_init 5 = .ok (.aload_n 1, 1) := by decide +kernel
theorem dX0_init_6 : decode cX0_init 6 = .ok (.putfield 9, 3) := by decide +kernel
theorem dX0_init_9 : decode cX0_init 9 = .ok (.aload_n 0, 1) := by decide +kernel
theorem dX0_init_10 : decode cX0_init 10 = .ok (.iload_n 2, 1) := by decide +kernel
theorem dX0_init_11 : decode cX0_init 11 = .ok (.i2l, 1) := by decide +kernel
theorem dX0_init_12 : decode cX0_init 12 = .ok (.sipush 1000, 3) := by decide +kernel
theorem dX0_init_15 : decode cX0_init 15 = .ok (.iload_n 3, 1) := by decide +kernel
theorem dX0_init_16 : decode cX0_init 16 = .ok (.isub, 1) := by decide +kernel
theorem dX0_init_17 : decode cX0_init 17 = .ok (.i2l, 1) := by decide +kernel
theorem dX0_init_18 : decode cX0_init 18 = .ok (.lmul, 1) := by decide +kernel
theorem dX0_init_19 : decode cX0_init 19 = .ok (.putfield 15, 3) := by decide +kernel
theorem dX0_init_22 : decode cX0_init 22 = .ok (.return_, 1) := by decide +kernel
theorem dX0_takeRain_0 : decode cX0_takeRain 0 = .ok (.aload_n 0, 1) := by decide +kernel
theorem dX0_takeRain_1 : decode cX0_takeRain 1 = .ok (.dup, 1) := by decide +kernel
theorem dX0_takeRain_2 : decode cX0_takeRain 2 = .ok (.getfield 19, 3) := by decide +kernel
theorem dX0_takeRain_5 : decode cX0_takeRain 5 = .ok (.aload_n 0, 1) := by decide +kernel
theorem dX0_takeRain_6 : decode cX0_takeRain 6 = .ok (.getfield 15, 3) := by decide +kernel
theorem dX0_takeRain_9 : decode cX0_takeRain 9 = .ok (.iload_n 1, 1) := by decide +kernel
theorem dX0_takeRain_10 : decode cX0_takeRain 10 = .ok (.i2l, 1) := by decide +kernel
theorem dX0_takeRain_11 : decode cX0_takeRain 11 = .ok (.lmul, 1) := by decide +kernel
theorem dX0_takeRain_12 : decode cX0_takeRain 12 = .ok (.ladd, 1) := by decide +kernel
theorem dX0_takeRain_13 : decode cX0_takeRain 13 = .ok (.putfield 19, 3) := by decide +kernel
theorem dX0_takeRain_16 : decode cX0_takeRain 16 = .ok (.aload_n 0, 1) := by decide +kernel
theorem dX0_takeRain_17 : decode cX0_takeRain 17 = .ok (.getfield 19, 3) := by decide +kernel
theorem dX0_takeRain_20 : decode cX0_takeRain 20 = .ok (.ldc2_w 22, 3) := by decide +kernel
theorem dX0_takeRain_23 : decode cX0_takeRain 23 = .ok (.ldiv, 1) := by decide +kernel
theorem dX0_takeRain_24 : decode cX0_takeRain 24 = .ok (.lstore_n 2, 1) := by decide +kernel
theorem dX0_takeRain_25 : decode cX0_takeRain 25 = .ok (.aload_n 0, 1) := by decide +kernel
theorem dX0_takeRain_26 : decode cX0_takeRain 26 = .ok (.dup, 1) := by decide +kernel
theorem dX0_takeRain_27 : decode cX0_takeRain 27 = .ok (.getfield 19, 3) := by decide +kernel
theorem dX0_takeRain_30 : decode cX0_takeRain 30 = .ok (.ldc2_w 22, 3) := by decide +kernel
theorem dX0_takeRain_33 : decode cX0_takeRain 33 = .ok (.lrem, 1) := by decide +kernel
theorem dX0_takeRain_34 : decode cX0_takeRain 34 = .ok (.putfield 19, 3) := by decide +kernel
theorem dX0_takeRain_37 : decode cX0_takeRain 37 = .ok (.aload_n 0, 1) := by decide +kernel
theorem dX0_takeRain_38 : decode cX0_takeRain 38 = .ok (.getfield 9, 3) := by decide +kernel
theorem dX0_takeRain_41 : decode cX0_takeRain 41 = .ok (.dup, 1) := by decide +kernel
theorem dX0_takeRain_42 : decode cX0_takeRain 42 = .ok (.getfield 24, 3) := by decide +kernel
theorem dX0_takeRain_45 : decode cX0_takeRain 45 = .ok (.lload_n 2, 1) := by decide +kernel
theorem dX0_takeRain_46 : decode cX0_takeRain 46 = .ok (.ladd, 1) := by decide +kernel
theorem dX0_takeRain_47 : decode cX0_takeRain 47 = .ok (.putfield 24, 3) := by decide +kernel
theorem dX0_takeRain_50 : decode cX0_takeRain 50 = .ok (.lload_n 2, 1) := by decide +kernel
theorem dX0_takeRain_51 : decode cX0_takeRain 51 = .ok (.lreturn, 1) := by decide +kernel
theorem dX1_init_0 : decode cX1_init 0 = .ok (.aload_n 0, 1) := by decide +kernel
theorem dX1_init_1 : decode cX1_init 1 = .ok (.invokespecial 1, 3) := by decide +kernel
theorem dX1_init_4 : decode cX1_init 4 = .ok (.aload_n 0, 1) := by decide +kernel
theorem dX1_init_5 : decode cX1_init 5 = .ok (.iload_n 1, 1) := by decide +kernel
theorem dX1_init_6 : decode cX1_init 6 = .ok (.putfield 7, 3) := by decide +kernel
theorem dX1_init_9 : decode cX1_init 9 = .ok (.aload_n 0, 1) := by decide +kernel
theorem dX1_init_10 : decode cX1_init 10 = .ok (.iload_n 2, 1) := by decide +kernel
theorem dX1_init_11 : decode cX1_init 11 = .ok (.putfield 13, 3) := by decide +kernel
theorem dX1_init_14 : decode cX1_init 14 = .ok (.return_, 1) := by decide +kernel
theorem dX2_init_0 : decode cX2_init 0 = .ok (.aload_n 0, 1) := by decide +kernel
theorem dX2_init_1 : decode cX2_init 1 = .ok (.invokespecial 1, 3) := by decide +kernel
theorem dX2_init_4 : decode cX2_init 4 = .ok (.aload_n 0, 1) := by decide +kernel
theorem dX2_init_5 : decode cX2_init 5 = .ok (.aload_n 1, 1) := by decide +kernel
theorem dX2_init_6 : decode cX2_init 6 = .ok (.putfield 7, 3) := by decide +kernel
theorem dX2_init_9 : decode cX2_init 9 = .ok (.aload_n 0, 1) := by decide +kernel
theorem dX2_init_10 : decode cX2_init 10 = .ok (.iload_n 2, 1) := by decide +kernel
theorem dX2_init_11 : decode cX2_init 11 = .ok (.i2l, 1) := by decide +kernel
theorem dX2_init_12 : decode cX2_init 12 = .ok (.aload_n 1, 1) := by decide +kernel
theorem dX2_init_13 : decode cX2_init 13 = .ok (.getfield 13, 3) := by decide +kernel
theorem dX2_init_16 : decode cX2_init 16 = .ok (.i2l, 1) := by decide +kernel
theorem dX2_init_17 : decode cX2_init 17 = .ok (.lmul, 1) := by decide +kernel
theorem dX2_init_18 : decode cX2_init 18 = .ok (.putfield 19, 3) := by decide +kernel
theorem dX2_init_21 : decode cX2_init 21 = .ok (.aload_n 0, 1) := by decide +kernel
theorem dX2_init_22 : decode cX2_init 22 = .ok (.iload_n 3, 1) := by decide +kernel
theorem dX2_init_23 : decode cX2_init 23 = .ok (.putfield 23, 3) := by decide +kernel
theorem dX2_init_26 : decode cX2_init 26 = .ok (.return_, 1) := by decide +kernel
theorem dX2_letOut_0 : decode cX2_letOut 0 = .ok (.lconst 0, 1) := by decide +kernel
theorem dX2_letOut_1 : decode cX2_letOut 1 = .ok (.aload_n 0, 1) := by decide +kernel
theorem dX2_letOut_2 : decode cX2_letOut 2 = .ok (.getfield 23, 3) := by decide +kernel
theorem dX2_letOut_5 : decode cX2_letOut 5 = .ok (.i2l, 1) := by decide +kernel
theorem dX2_letOut_6 : decode cX2_letOut 6 = .ok (.aload_n 0, 1) := by decide +kernel
theorem dX2_letOut_7 : decode cX2_letOut 7 = .ok (.getfield 7, 3) := by decide +kernel
theorem dX2_letOut_10 : decode cX2_letOut 10 = .ok (.getfield 26, 3) := by decide +kernel
theorem dX2_letOut_13 : decode cX2_letOut 13 = .ok (.aload_n 0, 1) := by decide +kernel
theorem dX2_letOut_14 : decode cX2_letOut 14 = .ok (.getfield 19, 3) := by decide +kernel
theorem dX2_letOut_17 : decode cX2_letOut 17 = .ok (.lsub, 1) := by decide +kernel
theorem dX2_letOut_18 : decode cX2_letOut 18 = .ok (.invokestatic 29, 3) := by decide +kernel
theorem dX2_letOut_21 : decode cX2_letOut 21 = .ok (.invokestatic 35, 3) := by decide +kernel
theorem dX2_letOut_24 : decode cX2_letOut 24 = .ok (.lstore_n 1, 1) := by decide +kernel
theorem dX2_letOut_25 : decode cX2_letOut 25 = .ok (.aload_n 0, 1) := by decide +kernel
theorem dX2_letOut_26 : decode cX2_letOut 26 = .ok (.getfield 7, 3) := by decide +kernel
theorem dX2_letOut_29 : decode cX2_letOut 29 = .ok (.dup, 1) := by decide +kernel
theorem dX2_letOut_30 : decode cX2_letOut 30 = .ok (.getfield 26, 3) := by decide +kernel
theorem dX2_letOut_33 : decode cX2_letOut 33 = .ok (.lload_n 1, 1) := by decide +kernel
theorem dX2_letOut_34 : decode cX2_letOut 34 = .ok (.lsub, 1) := by decide +kernel
theorem dX2_letOut_35 : decode cX2_letOut 35 = .ok (.putfield 26, 3) := by decide +kernel
theorem dX2_letOut_38 : decode cX2_letOut 38 = .ok (.aload_n 0, 1) := by decide +kernel
theorem dX2_letOut_39 : decode cX2_letOut 39 = .ok (.getfield 7, 3) := by decide +kernel
theorem dX2_letOut_42 : decode cX2_letOut 42 = .ok (.dup, 1) := by decide +kernel
theorem dX2_letOut_43 : decode cX2_letOut 43 = .ok (.getfield 38, 3) := by decide +kernel
theorem dX2_letOut_46 : decode cX2_letOut 46 = .ok (.lload_n 1, 1) := by decide +kernel
theorem dX2_letOut_47 : decode cX2_letOut 47 = .ok (.ladd, 1) := by decide +kernel
theorem dX2_letOut_48 : decode cX2_letOut 48 = .ok (.putfield 38, 3) := by decide +kernel
theorem dX2_letOut_51 : decode cX2_letOut 51 = .ok (.lload_n 1, 1) := by decide +kernel
theorem dX2_letOut_52 : decode cX2_letOut 52 = .ok (.lreturn, 1) := by decide +kernel
theorem dX3_init_0 : decode cX3_init 0 = .ok (.aload_n 0, 1) := by decide +kernel
theorem dX3_init_1 : decode cX3_init 1 = .ok (.invokespecial 1, 3) := by decide +kernel
theorem dX3_init_4 : decode cX3_init 4 = .ok (.aload_n 0, 1) := by decide +kernel
theorem dX3_init_5 : decode cX3_init 5 = .ok (.iload_n 1, 1) := by decide +kernel
theorem dX3_init_6 : decode cX3_init 6 = .ok (.putfield 7, 3) := by decide +kernel
theorem dX3_init_9 : decode cX3_init 9 = .ok (.aload_n 0, 1) := by decide +kernel
theorem dX3_init_10 : decode cX3_init 10 = .ok (.aload_n 2, 1) := by decide +kernel
theorem dX3_init_11 : decode cX3_init 11 = .ok (.putfield 13, 3) := by decide +kernel
theorem dX3_init_14 : decode cX3_init 14 = .ok (.aload_n 0, 1) := by decide +kernel
theorem dX3_init_15 : decode cX3_init 15 = .ok (.iload_n 3, 1) := by decide +kernel
theorem dX3_init_16 : decode cX3_init 16 = .ok (.putfield 17, 3) := by decide +kernel
theorem dX3_init_19 : decode cX3_init 19 = .ok (.return_, 1) := by decide +kernel
theorem dX3_drain_0 : decode cX3_drain 0 = .ok (.lconst 0, 1) := by decide +kernel
theorem dX3_drain_1 : decode cX3_drain 1 = .ok (.aload_n 0, 1) := by decide +kernel
theorem dX3_drain_2 : decode cX3_drain 2 = .ok (.getfield 13, 3) := by decide +kernel
theorem dX3_drain_5 : decode cX3_drain 5 = .ok (.getfield 20, 3) := by decide +kernel
theorem dX3_drain_8 : decode cX3_drain 8 = .ok (.aload_n 0, 1) := by decide +kernel
theorem dX3_drain_9 : decode cX3_drain 9 = .ok (.getfield 13, 3) := by decide +kernel
theorem dX3_drain_12 : decode cX3_drain 12 = .ok (.getfield 26, 3) := by decide +kernel
theorem dX3_drain_15 : decode cX3_drain 15 = .ok (.lsub, 1) := by decide +kernel
theorem dX3_drain_16 : decode cX3_drain 16 = .ok (.invokestatic 29, 3) := by decide +kernel
theorem dX3_drain_19 : decode cX3_drain 19 = .ok (.lstore_n 3, 1) := by decide +kernel
theorem dX3_drain_20 : decode cX3_drain 20 = .ok (.aload_n 0, 1) := by decide +kernel
theorem dX3_drain_21 : decode cX3_drain 21 = .ok (.getfield 17, 3) := by decide +kernel
theorem dX3_drain_24 : decode cX3_drain 24 = .ok (.i2l, 1) := by decide +kernel
theorem dX3_drain_25 : decode cX3_drain 25 = .ok (.lload_n 1, 1) := by decide +kernel
theorem dX3_drain_26 : decode cX3_drain 26 = .ok (.invokestatic 35, 3) := by decide +kernel
theorem dX3_drain_29 : decode cX3_drain 29 = .ok (.lload_n 3, 1) := by decide +kernel
theorem dX3_drain_30 : decode cX3_drain 30 = .ok (.invokestatic 35, 3) := by decide +kernel
theorem dX3_drain_33 : decode cX3_drain 33 = .ok (.lstore 5, 2) := by decide +kernel
theorem dX3_drain_35 : decode cX3_drain 35 = .ok (.aload_n 0, 1) := by decide +kernel
theorem dX3_drain_36 : decode cX3_drain 36 = .ok (.getfield 13, 3) := by decide +kernel
theorem dX3_drain_39 : decode cX3_drain 39 = .ok (.dup, 1) := by decide +kernel
theorem dX3_drain_40 : decode cX3_drain 40 = .ok (.getfield 26, 3) := by decide +kernel
theorem dX3_drain_43 : decode cX3_drain 43 = .ok (.lload 5, 2) := by decide +kernel
theorem dX3_drain_45 : decode cX3_drain 45 = .ok (.ladd, 1) := by decide +kernel
theorem dX3_drain_46 : decode cX3_drain 46 = .ok (.putfield 26, 3) := by decide +kernel
theorem dX3_drain_49 : decode cX3_drain 49 = .ok (.lload 5, 2) := by decide +kernel
theorem dX3_drain_51 : decode cX3_drain 51 = .ok (.lreturn, 1) := by decide +kernel
theorem dX4_init_0 : decode cX4_init 0 = .ok (.aload_n 0, 1) := by decide +kernel
theorem dX4_init_1 : decode cX4_init 1 = .ok (.invokespecial 3, 3) := by decide +kernel
theorem dX4_init_4 : decode cX4_init 4 = .ok (.aload_n 0, 1) := by decide +kernel
theorem dX4_init_5 : decode cX4_init 5 = .ok (.new 9, 3) := by decide +kernel
theorem dX4_init_8 : decode cX4_init 8 = .ok (.dup, 1) := by decide +kernel
theorem dX4_init_9 : decode cX4_init 9 = .ok (.invokespecial 11, 3) := by decide +kernel
theorem dX4_init_12 : decode cX4_init 12 = .ok (.putfield 12, 3) := by decide +kernel
theorem dX4_init_15 : decode cX4_init 15 = .ok (.aload_n 0, 1) := by decide +kernel
theorem dX4_init_16 : decode cX4_init 16 = .ok (.new 9, 3) := by decide +kernel
theorem dX4_init_19 : decode cX4_init 19 = .ok (.dup, 1) := by decide +kernel
theorem dX4_init_20 : decode cX4_init 20 = .ok (.invokespecial 11, 3) := by decide +kernel
theorem dX4_init_23 : decode cX4_init 23 = .ok (.putfield 18, 3) := by decide +kernel
theorem dX4_init_26 : decode cX4_init 26 = .ok (.aload_n 0, 1) := by decide +kernel
theorem dX4_init_27 : decode cX4_init 27 = .ok (.sipush 401, 3) := by decide +kernel
theorem dX4_init_30 : decode cX4_init 30 = .ok (.newarray .long, 2) := by decide +kernel
theorem dX4_init_32 : decode cX4_init 32 = .ok (.putfield 21, 3) := by decide +kernel
theorem dX4_init_35 : decode cX4_init 35 = .ok (.return_, 1) := by decide +kernel
theorem dX4_addEntry_0 : decode cX4_addEntry 0 = .ok (.aload_n 0, 1) := by decide +kernel
theorem dX4_addEntry_1 : decode cX4_addEntry 1 = .ok (.getfield 12, 3) := by decide +kernel
theorem dX4_addEntry_4 : decode cX4_addEntry 4 = .ok (.invokevirtual 25, 3) := by decide +kernel
theorem dX4_addEntry_7 : decode cX4_addEntry 7 = .ok (.istore_n 3, 1) := by decide +kernel
theorem dX4_addEntry_8 : decode cX4_addEntry 8 = .ok (.iload_n 3, 1) := by decide +kernel
theorem dX4_addEntry_9 : decode cX4_addEntry 9 = .ok (.bipush 6, 2) := by decide +kernel
theorem dX4_addEntry_11 : decode cX4_addEntry 11 = .ok (.if_icmp .ge 27, 3) := by decide +kernel
theorem dX4_addEntry_14 : decode cX4_addEntry 14 = .ok (.iload_n 3, 1) := by decide +kernel
theorem dX4_addEntry_15 : decode cX4_addEntry 15 = .ok (.ifCond .le 25, 3) := by decide +kernel
theorem dX4_addEntry_18 : decode cX4_addEntry 18 = .ok (.iload_n 1, 1) := by decide +kernel
theorem dX4_addEntry_19 : decode cX4_addEntry 19 = .ok (.aload_n 0, 1) := by decide +kernel
theorem dX4_addEntry_20 : decode cX4_addEntry 20 = .ok (.getfield 12, 3) := by decide +kernel
theorem dX4_addEntry_23 : decode cX4_addEntry 23 = .ok (.iload_n 3, 1) := by decide +kernel
theorem dX4_addEntry_24 : decode cX4_addEntry 24 = .ok (.iconst 1, 1) := by decide +kernel
theorem dX4_addEntry_25 : decode cX4_addEntry 25 = .ok (.isub, 1) := by decide +kernel
theorem dX4_addEntry_26 : decode cX4_addEntry 26 = .ok (.invokevirtual 29, 3) := by decide +kernel
theorem dX4_addEntry_29 : decode cX4_addEntry 29 = .ok (.checkcast 33, 3) := by decide +kernel
theorem dX4_addEntry_32 : decode cX4_addEntry 32 = .ok (.getfield 35, 3) := by decide +kernel
theorem dX4_addEntry_35 : decode cX4_addEntry 35 = .ok (.if_icmp .gt 5, 3) := by decide +kernel
theorem dX4_addEntry_38 : decode cX4_addEntry 38 = .ok (.iconst (-1), 1) := by decide +kernel
theorem dX4_addEntry_39 : decode cX4_addEntry 39 = .ok (.ireturn, 1) := by decide +kernel
theorem dX4_addEntry_40 : decode cX4_addEntry 40 = .ok (.aload_n 0, 1) := by decide +kernel
theorem dX4_addEntry_41 : decode cX4_addEntry 41 = .ok (.getfield 12, 3) := by decide +kernel
theorem dX4_addEntry_44 : decode cX4_addEntry 44 = .ok (.new 33, 3) := by decide +kernel
theorem dX4_addEntry_47 : decode cX4_addEntry 47 = .ok (.dup, 1) := by decide +kernel
theorem dX4_addEntry_48 : decode cX4_addEntry 48 = .ok (.iload_n 1, 1) := by decide +kernel
theorem dX4_addEntry_49 : decode cX4_addEntry 49 = .ok (.iload_n 2, 1) := by decide +kernel
theorem dX4_addEntry_50 : decode cX4_addEntry 50 = .ok (.invokespecial 39, 3) := by decide +kernel
theorem dX4_addEntry_53 : decode cX4_addEntry 53 = .ok (.invokevirtual 42, 3) := by decide +kernel
theorem dX4_addEntry_56 : decode cX4_addEntry 56 = .ok (.pop, 1) := by decide +kernel
theorem dX4_addEntry_57 : decode cX4_addEntry 57 = .ok (.aload_n 0, 1) := by decide +kernel
theorem dX4_addEntry_58 : decode cX4_addEntry 58 = .ok (.iconst 0, 1) := by decide +kernel
theorem dX4_addEntry_59 : decode cX4_addEntry 59 = .ok (.putfield 46, 3) := by decide +kernel
theorem dX4_addEntry_62 : decode cX4_addEntry 62 = .ok (.iload_n 3, 1) := by decide +kernel
theorem dX4_addEntry_63 : decode cX4_addEntry 63 = .ok (.ireturn, 1) := by decide +kernel
theorem dX4_beginAnew_0 : decode cX4_beginAnew 0 = .ok (.aload_n 0, 1) := by decide +kernel
theorem dX4_beginAnew_1 : decode cX4_beginAnew 1 = .ok (.iload_n 1, 1) := by decide +kernel
theorem dX4_beginAnew_2 : decode cX4_beginAnew 2 = .ok (.putfield 50, 3) := by decide +kernel
theorem dX4_beginAnew_5 : decode cX4_beginAnew 5 = .ok (.aload_n 0, 1) := by decide +kernel
theorem dX4_beginAnew_6 : decode cX4_beginAnew 6 = .ok (.iload_n 2, 1) := by decide +kernel
theorem dX4_beginAnew_7 : decode cX4_beginAnew 7 = .ok (.putfield 53, 3) := by decide +kernel
theorem dX4_beginAnew_10 : decode cX4_beginAnew 10 = .ok (.aload_n 0, 1) := by decide +kernel
theorem dX4_beginAnew_11 : decode cX4_beginAnew 11 = .ok (.iconst 0, 1) := by decide +kernel
theorem dX4_beginAnew_12 : decode cX4_beginAnew 12 = .ok (.putfield 56, 3) := by decide +kernel
theorem dX4_beginAnew_15 : decode cX4_beginAnew 15 = .ok (.aload_n 0, 1) := by decide +kernel
theorem dX4_beginAnew_16 : decode cX4_beginAnew 16 = .ok (.iconst 1, 1) := by decide +kernel
theorem dX4_beginAnew_17 : decode cX4_beginAnew 17 = .ok (.putfield 59, 3) := by decide +kernel
theorem dX4_beginAnew_20 : decode cX4_beginAnew 20 = .ok (.aload_n 0, 1) := by decide +kernel
theorem dX4_beginAnew_21 : decode cX4_beginAnew 21 = .ok (.iconst 0, 1) := by decide +kernel
theorem dX4_beginAnew_22 : decode cX4_beginAnew 22 = .ok (.putfield 46, 3) := by decide +kernel
theorem dX4_beginAnew_25 : decode cX4_beginAnew 25 = .ok (.return_, 1) := by decide +kernel
theorem dX4_addPiece_0 : decode cX4_addPiece 0 = .ok (.aload_n 0, 1) := by decide +kernel
theorem dX4_addPiece_1 : decode cX4_addPiece 1 = .ok (.getfield 59, 3) := by decide +kernel
theorem dX4_addPiece_4 : decode cX4_addPiece 4 = .ok (.ifCond .eq 12, 3) := by decide +kernel
theorem dX4_addPiece_7 : decode cX4_addPiece 7 = .ok (.aload_n 0, 1) := by decide +kernel
theorem dX4_addPiece_8 : decode cX4_addPiece 8 = .ok (.getfield 56, 3) := by decide +kernel
theorem dX4_addPiece_11 : decode cX4_addPiece 11 = .ok (.bipush 10, 2) := by decide +kernel
theorem dX4_addPiece_13 : decode cX4_addPiece 13 = .ok (.if_icmp .lt 5, 3) := by decide +kernel
theorem dX4_addPiece_16 : decode cX4_addPiece 16 = .ok (.iconst (-1), 1) := by decide +kernel
theorem dX4_addPiece_17 : decode cX4_addPiece 17 = .ok (.ireturn, 1) := by decide +kernel
theorem dX4_addPiece_18 : decode cX4_addPiece 18 = .ok (.aload_n 0, 1) := by decide +kernel
theorem dX4_addPiece_19 : decode cX4_addPiece 19 = .ok (.getfield 56, 3) := by decide +kernel
theorem dX4_addPiece_22 : decode cX4_addPiece 22 = .ok (.aload_n 0, 1) := by decide +kernel
theorem dX4_addPiece_23 : decode cX4_addPiece 23 = .ok (.getfield 18, 3) := by decide +kernel
theorem dX4_addPiece_26 : decode cX4_addPiece 26 = .ok (.invokevirtual 25, 3) := by decide +kernel
theorem dX4_addPiece_29 : decode cX4_addPiece 29 = .ok (.if_icmp .lt 22, 3) := by decide +kernel
theorem dX4_addPiece_32 : decode cX4_addPiece 32 = .ok (.aload_n 0, 1) := by decide +kernel
theorem dX4_addPiece_33 : decode cX4_addPiece 33 = .ok (.getfield 18, 3) := by decide +kernel
theorem dX4_addPiece_36 : decode cX4_addPiece 36 = .ok (.new 62, 3) := by decide +kernel
theorem dX4_addPiece_39 : decode cX4_addPiece 39 = .ok (.dup, 1) := by decide +kernel
theorem dX4_addPiece_40 : decode cX4_addPiece 40 = .ok (.aload_n 0, 1) := by decide +kernel
theorem dX4_addPiece_41 : decode cX4_addPiece 41 = .ok (.getfield 56, 3) := by decide +kernel
theorem dX4_addPiece_44 : decode cX4_addPiece 44 = .ok (.invokespecial 64, 3) := by decide +kernel
theorem dX4_addPiece_47 : decode cX4_addPiece 47 = .ok (.invokevirtual 42, 3) := by decide +kernel
theorem dX4_addPiece_50 : decode cX4_addPiece 50 = .ok (.pop, 1) := by decide +kernel
theorem dX4_addPiece_51 : decode cX4_addPiece 51 = .ok (.aload_n 0, 1) := by decide +kernel
theorem dX4_addPiece_52 : decode cX4_addPiece 52 = .ok (.getfield 18, 3) := by decide +kernel
theorem dX4_addPiece_55 : decode cX4_addPiece 55 = .ok (.aload_n 0, 1) := by decide +kernel
theorem dX4_addPiece_56 : decode cX4_addPiece 56 = .ok (.getfield 56, 3) := by decide +kernel
theorem dX4_addPiece_59 : decode cX4_addPiece 59 = .ok (.invokevirtual 29, 3) := by decide +kernel
theorem dX4_addPiece_62 : decode cX4_addPiece 62 = .ok (.checkcast 62, 3) := by decide +kernel
theorem dX4_addPiece_65 : decode cX4_addPiece 65 = .ok (.astore 4, 2) := by decide +kernel
theorem dX4_addPiece_67 : decode cX4_addPiece 67 = .ok (.aload 4, 2) := by decide +kernel
theorem dX4_addPiece_69 : decode cX4_addPiece 69 = .ok (.iload_n 1, 1) := by decide +kernel
theorem dX4_addPiece_70 : decode cX4_addPiece 70 = .ok (.putfield 67, 3) := by decide +kernel
theorem dX4_addPiece_73 : decode cX4_addPiece 73 = .ok (.aload 4, 2) := by decide +kernel
theorem dX4_addPiece_75 : decode cX4_addPiece 75 = .ok (.iload_n 2, 1) := by decide +kernel
theorem dX4_addPiece_76 : decode cX4_addPiece 76 = .ok (.putfield 68, 3) := by decide +kernel
theorem dX4_addPiece_79 : decode cX4_addPiece 79 = .ok (.aload 4, 2) := by decide +kernel
theorem dX4_addPiece_81 : decode cX4_addPiece 81 = .ok (.iload_n 3, 1) := by decide +kernel
theorem dX4_addPiece_82 : decode cX4_addPiece 82 = .ok (.putfield 71, 3) := by decide +kernel
theorem dX4_addPiece_85 : decode cX4_addPiece 85 = .ok (.aload_n 0, 1) := by decide +kernel
theorem dX4_addPiece_86 : decode cX4_addPiece 86 = .ok (.iconst 0, 1) := by decide +kernel
theorem dX4_addPiece_87 : decode cX4_addPiece 87 = .ok (.putfield 46, 3) := by decide +kernel
theorem dX4_addPiece_90 : decode cX4_addPiece 90 = .ok (.aload_n 0, 1) := by decide +kernel
theorem dX4_addPiece_91 : decode cX4_addPiece 91 = .ok (.dup, 1) := by decide +kernel
theorem dX4_addPiece_92 : decode cX4_addPiece 92 = .ok (.getfield 56, 3) := by decide +kernel
theorem dX4_addPiece_95 : decode cX4_addPiece 95 = .ok (.dup_x1, 1) := by decide +kernel
theorem dX4_addPiece_96 : decode cX4_addPiece 96 = .ok (.iconst 1, 1) := by decide +kernel
theorem dX4_addPiece_97 : decode cX4_addPiece 97 = .ok (.iadd, 1) := by decide +kernel
theorem dX4_addPiece_98 : decode cX4_addPiece 98 = .ok (.putfield 56, 3) := by decide +kernel
theorem dX4_addPiece_101 : decode cX4_addPiece 101 = .ok (.ireturn, 1) := by decide +kernel
theorem dX4_layBest_0 : decode cX4_layBest 0 = .ok (.aload_n 0, 1) := by decide +kernel
theorem dX4_layBest_1 : decode cX4_layBest 1 = .ok (.getfield 56, 3) := by decide +kernel
theorem dX4_layBest_4 : decode cX4_layBest 4 = .ok (.ifCond .ne 7, 3) := by decide +kernel
theorem dX4_layBest_7 : decode cX4_layBest 7 = .ok (.ldc2_w 74, 3) := by decide +kernel
theorem dX4_layBest_10 : decode cX4_layBest 10 = .ok (.lreturn, 1) := by decide +kernel
theorem dX4_layBest_11 : decode cX4_layBest 11 = .ok (.aload_n 0, 1) := by decide +kernel
theorem dX4_layBest_12 : decode cX4_layBest 12 = .ok (.iload_n 1, 1) := by decide +kernel
theorem dX4_layBest_13 : decode cX4_layBest 13 = .ok (.putfield 76, 3) := by decide +kernel
theorem dX4_layBest_16 : decode cX4_layBest 16 = .ok (.aload_n 0, 1) := by decide +kernel
theorem dX4_layBest_17 : decode cX4_layBest 17 = .ok (.iload_n 2, 1) := by decide +kernel
theorem dX4_layBest_18 : decode cX4_layBest 18 = .ok (.putfield 79, 3) := by decide +kernel
theorem dX4_layBest_21 : decode cX4_layBest 21 = .ok (.aload_n 0, 1) := by decide +kernel
theorem dX4_layBest_22 : decode cX4_layBest 22 = .ok (.iconst 0, 1) := by decide +kernel
theorem dX4_layBest_23 : decode cX4_layBest 23 = .ok (.putfield 46, 3) := by decide +kernel
theorem dX4_layBest_26 : decode cX4_layBest 26 = .ok (.aload_n 0, 1) := by decide +kernel
theorem dX4_layBest_27 : decode cX4_layBest 27 = .ok (.getfield 12, 3) := by decide +kernel
theorem dX4_layBest_30 : decode cX4_layBest 30 = .ok (.invokevirtual 82, 3) := by decide +kernel
theorem dX4_layBest_33 : decode cX4_layBest 33 = .ok (.ifCond .eq 7, 3) := by decide +kernel
theorem dX4_layBest_36 : decode cX4_layBest 36 = .ok (.ldc2_w 86, 3) := by decide +kernel
theorem dX4_layBest_39 : decode cX4_layBest 39 = .ok (.lreturn, 1) := by decide +kernel
theorem dX4_layBest_40 : decode cX4_layBest 40 = .ok (.aload_n 0, 1) := by decide +kernel
theorem dX4_layBest_41 : decode cX4_layBest 41 = .ok (.getfield 56, 3) := by decide +kernel
theorem dX4_layBest_44 : decode cX4_layBest 44 = .ok (.iconst 1, 1) := by decide +kernel
theorem dX4_layBest_45 : decode cX4_layBest 45 = .ok (.isub, 1) := by decide +kernel
theorem dX4_layBest_46 : decode cX4_layBest 46 = .ok (.istore_n 3, 1) := by decide +kernel
theorem dX4_layBest_47 : decode cX4_layBest 47 = .ok (.iload_n 3, 1) := by decide +kernel
theorem dX4_layBest_48 : decode cX4_layBest 48 = .ok (.ifCond .lt 14, 3) := by decide +kernel
theorem dX4_layBest_51 : decode cX4_layBest 51 = .ok (.aload_n 0, 1) := by decide +kernel
theorem dX4_layBest_52 : decode cX4_layBest 52 = .ok (.iload_n 3, 1) := by decide +kernel
theorem dX4_layBest_53 : decode cX4_layBest 53 = .ok (.invokevirtual 88, 3) := by decide +kernel
theorem dX4_layBest_56 : decode cX4_layBest 56 = .ok (.iinc 3 (-1), 3) := by decide +kernel
theorem dX4_layBest_59 : decode cX4_layBest 59 = .ok (.goto (-12), 3) := by decide +kernel
theorem dX4_layBest_62 : decode cX4_layBest 62 = .ok (.aload_n 0, 1) := by decide +kernel
theorem dX4_layBest_63 : decode cX4_layBest 63 = .ok (.getfield 18, 3) := by decide +kernel
theorem dX4_layBest_66 : decode cX4_layBest 66 = .ok (.iconst 0, 1) := by decide +kernel
theorem dX4_layBest_67 : decode cX4_layBest 67 = .ok (.invokevirtual 29, 3) := by decide +kernel
theorem dX4_layBest_70 : decode cX4_layBest 70 = .ok (.checkcast 62, 3) := by decide +kernel
theorem dX4_layBest_73 : decode cX4_layBest 73 = .ok (.getfield 91, 3) := by decide +kernel
theorem dX4_layBest_76 : decode cX4_layBest 76 = .ok (.iconst 0, 1) := by decide +kernel
theorem dX4_layBest_77 : decode cX4_layBest 77 = .ok (.laload, 1) := by decide +kernel
theorem dX4_layBest_78 : decode cX4_layBest 78 = .ok (.lstore_n 3, 1) := by decide +kernel
theorem dX4_layBest_79 : decode cX4_layBest 79 = .ok (.lload_n 3, 1) := by decide +kernel
theorem dX4_layBest_80 : decode cX4_layBest 80 = .ok (.ldc2_w 94, 3) := by decide +kernel
theorem dX4_layBest_83 : decode cX4_layBest 83 = .ok (.lcmp, 1) := by decide +kernel
theorem dX4_layBest_84 : decode cX4_layBest 84 = .ok (.ifCond .lt 7, 3) := by decide +kernel
theorem dX4_layBest_87 : decode cX4_layBest 87 = .ok (.ldc2_w 86, 3) := by decide +kernel
theorem dX4_layBest_90 : decode cX4_layBest 90 = .ok (.lreturn, 1) := by decide +kernel
theorem dX4_layBest_91 : decode cX4_layBest 91 = .ok (.aload_n 0, 1) := by decide +kernel
theorem dX4_layBest_92 : decode cX4_layBest 92 = .ok (.invokevirtual 96, 3) := by decide +kernel
theorem dX4_layBest_95 : decode cX4_layBest 95 = .ok (.aload_n 0, 1) := by decide +kernel
theorem dX4_layBest_96 : decode cX4_layBest 96 = .ok (.iconst 1, 1) := by decide +kernel
theorem dX4_layBest_97 : decode cX4_layBest 97 = .ok (.putfield 46, 3) := by decide +kernel
theorem dX4_layBest_100 : decode cX4_layBest 100 = .ok (.lload_n 3, 1) := by decide +kernel
theorem dX4_layBest_101 : decode cX4_layBest 101 = .ok (.lreturn, 1) := by decide +kernel
theorem dX4_tellLaid_0 : decode cX4_tellLaid 0 = .ok (.aload_n 0, 1) := by decide +kernel
theorem dX4_tellLaid_1 : decode cX4_tellLaid 1 = .ok (.getfield 46, 3) := by decide +kernel
theorem dX4_tellLaid_4 : decode cX4_tellLaid 4 = .ok (.ifCond .eq 17, 3) := by decide +kernel
theorem dX4_tellLaid_7 : decode cX4_tellLaid 7 = .ok (.iload_n 1, 1) := by decide +kernel
theorem dX4_tellLaid_8 : decode cX4_tellLaid 8 = .ok (.iconst 0, 1) := by decide +kernel
theorem dX4_tellLaid_9 : decode cX4_tellLaid 9 = .ok (.aload_n 0, 1) := by decide +kernel
theorem dX4_tellLaid_10 : decode cX4_tellLaid 10 = .ok (.getfield 56, 3) := by decide +kernel
theorem dX4_tellLaid_13 : decode cX4_tellLaid 13 = .ok (.iconst 1, 1) := by decide +kernel
theorem dX4_tellLaid_14 : decode cX4_tellLaid 14 = .ok (.isub, 1) := by decide +kernel
theorem dX4_tellLaid_15 : decode cX4_tellLaid 15 = .ok (.invokestatic 99, 3) := by decide +kernel
theorem dX4_tellLaid_18 : decode cX4_tellLaid 18 = .ok (.ifCond .ne 6, 3) := by decide +kernel
theorem dX4_tellLaid_21 : decode cX4_tellLaid 21 = .ok (.ldc 103, 2) := by decide +kernel
theorem dX4_tellLaid_23 : decode cX4_tellLaid 23 = .ok (.ireturn, 1) := by decide +kernel
theorem dX4_tellLaid_24 : decode cX4_tellLaid 24 = .ok (.aload_n 0, 1) := by decide +kernel
theorem dX4_tellLaid_25 : decode cX4_tellLaid 25 = .ok (.getfield 18, 3) := by decide +kernel
theorem dX4_tellLaid_28 : decode cX4_tellLaid 28 = .ok (.iload_n 1, 1) := by decide +kernel
theorem dX4_tellLaid_29 : decode cX4_tellLaid 29 = .ok (.invokevirtual 29, 3) := by decide +kernel
theorem dX4_tellLaid_32 : decode cX4_tellLaid 32 = .ok (.checkcast 62, 3) := by decide +kernel
theorem dX4_tellLaid_35 : decode cX4_tellLaid 35 = .ok (.astore_n 3, 1) := by decide +kernel
theorem dX4_tellLaid_36 : decode cX4_tellLaid 36 = .ok (.iload_n 2, 1) := by decide +kernel
theorem dX4_tellLaid_37 : decode cX4_tellLaid 37 = .ok (.tableswitch 42 0 2 #[27, 32, 37], 27) := by decide +kernel
theorem dX4_tellLaid_64 : decode cX4_tellLaid 64 = .ok (.aload_n 3, 1) := by decide +kernel
theorem dX4_tellLaid_65 : decode cX4_tellLaid 65 = .ok (.getfield 104, 3) := by decide +kernel
theorem dX4_tellLaid_68 : decode cX4_tellLaid 68 = .ok (.ireturn, 1) := by decide +kernel
theorem dX4_tellLaid_69 : decode cX4_tellLaid 69 = .ok (.aload_n 3, 1) := by decide +kernel
theorem dX4_tellLaid_70 : decode cX4_tellLaid 70 = .ok (.getfield 107, 3) := by decide +kernel
theorem dX4_tellLaid_73 : decode cX4_tellLaid 73 = .ok (.ireturn, 1) := by decide +kernel
theorem dX4_tellLaid_74 : decode cX4_tellLaid 74 = .ok (.aload_n 3, 1) := by decide +kernel
theorem dX4_tellLaid_75 : decode cX4_tellLaid 75 = .ok (.getfield 110, 3) := by decide +kernel
theorem dX4_tellLaid_78 : decode cX4_tellLaid 78 = .ok (.ireturn, 1) := by decide +kernel
theorem dX4_tellLaid_79 : decode cX4_tellLaid 79 = .ok (.ldc 103, 2) := by decide +kernel
theorem dX4_tellLaid_81 : decode cX4_tellLaid 81 = .ok (.ireturn, 1) := by decide +kernel
theorem dX4_weighPiece_0 : decode cX4_weighPiece 0 = .ok (.aload_n 0, 1) := by decide +kernel
theorem dX4_weighPiece_1 : decode cX4_weighPiece 1 = .ok (.getfield 18, 3) := by decide +kernel
theorem dX4_weighPiece_4 : decode cX4_weighPiece 4 = .ok (.iload_n 1, 1) := by decide +kernel
theorem dX4_weighPiece_5 : decode cX4_weighPiece 5 = .ok (.invokevirtual 29, 3) := by decide +kernel
theorem dX4_weighPiece_8 : decode cX4_weighPiece 8 = .ok (.checkcast 62, 3) := by decide +kernel
theorem dX4_weighPiece_11 : decode cX4_weighPiece 11 = .ok (.getfield 91, 3) := by decide +kernel
theorem dX4_weighPiece_14 : decode cX4_weighPiece 14 = .ok (.astore_n 2, 1) := by decide +kernel
theorem dX4_weighPiece_15 : decode cX4_weighPiece 15 = .ok (.aload_n 0, 1) := by decide +kernel
theorem dX4_weighPiece_16 : decode cX4_weighPiece 16 = .ok (.getfield 12, 3) := by decide +kernel
theorem dX4_weighPiece_19 : decode cX4_weighPiece 19 = .ok (.invokevirtual 25, 3) := by decide +kernel
theorem dX4_weighPiece_22 : decode cX4_weighPiece 22 = .ok (.iconst 1, 1) := by decide +kernel
theorem dX4_weighPiece_23 : decode cX4_weighPiece 23 = .ok (.isub, 1) := by decide +kernel
theorem dX4_weighPiece_24 : decode cX4_weighPiece 24 = .ok (.istore_n 3, 1) := by decide +kernel
theorem dX4_weighPiece_25 : decode cX4_weighPiece 25 = .ok (.iload_n 3, 1) := by decide +kernel
theorem dX4_weighPiece_26 : decode cX4_weighPiece 26 = .ok (.ifCond .lt 148, 3) := by decide +kernel
theorem dX4_weighPiece_29 : decode cX4_weighPiece 29 = .ok (.iload_n 3, 1) := by decide +kernel
theorem dX4_weighPiece_30 : decode cX4_weighPiece 30 = .ok (.aload_n 0, 1) := by decide +kernel
theorem dX4_weighPiece_31 : decode cX4_weighPiece 31 = .ok (.getfield 12, 3) := by decide +kernel
theorem dX4_weighPiece_34 : decode cX4_weighPiece 34 = .ok (.invokevirtual 25, 3) := by decide +kernel
theorem dX4_weighPiece_37 : decode cX4_weighPiece 37 = .ok (.iconst 1, 1) := by decide +kernel
theorem dX4_weighPiece_38 : decode cX4_weighPiece 38 = .ok (.isub, 1) := by decide +kernel
theorem dX4_weighPiece_39 : decode cX4_weighPiece 39 = .ok (.if_icmp .ne 7, 3) := by decide +kernel
theorem dX4_weighPiece_42 : decode cX4_weighPiece 42 = .ok (.iconst 1, 1) := by decide +kernel
theorem dX4_weighPiece_43 : decode cX4_weighPiece 43 = .ok (.goto 4, 3) := by decide +kernel
theorem dX4_weighPiece_46 : decode cX4_weighPiece 46 = .ok (.iconst 0, 1) := by decide +kernel
theorem dX4_weighPiece_47 : decode cX4_weighPiece 47 = .ok (.istore 4, 2) := by decide +kernel
theorem dX4_weighPiece_49 : decode cX4_weighPiece 49 = .ok (.aload_n 0, 1) := by decide +kernel
theorem dX4_weighPiece_50 : decode cX4_weighPiece 50 = .ok (.iload_n 1, 1) := by decide +kernel
theorem dX4_weighPiece_51 : decode cX4_weighPiece 51 = .ok (.iload_n 3, 1) := by decide +kernel
theorem dX4_weighPiece_52 : decode cX4_weighPiece 52 = .ok (.invokevirtual 113, 3) := by decide +kernel
theorem dX4_weighPiece_55 : decode cX4_weighPiece 55 = .ok (.istore 5, 2) := by decide +kernel
theorem dX4_weighPiece_57 : decode cX4_weighPiece 57 = .ok (.aload_n 0, 1) := by decide +kernel
theorem dX4_weighPiece_58 : decode cX4_weighPiece 58 = .ok (.iload_n 1, 1) := by decide +kernel
theorem dX4_weighPiece_59 : decode cX4_weighPiece 59 = .ok (.iload_n 3, 1) := by decide +kernel
theorem dX4_weighPiece_60 : decode cX4_weighPiece 60 = .ok (.invokevirtual 117, 3) := by decide +kernel
theorem dX4_weighPiece_63 : decode cX4_weighPiece 63 = .ok (.ldc 122, 2) := by decide +kernel
theorem dX4_weighPiece_65 : decode cX4_weighPiece 65 = .ok (.istore 6, 2) := by decide +kernel
theorem dX4_weighPiece_67 : decode cX4_weighPiece 67 = .ok (.iload_n 1, 1) := by decide +kernel
theorem dX4_weighPiece_68 : decode cX4_weighPiece 68 = .ok (.bipush 40, 2) := by decide +kernel
theorem dX4_weighPiece_70 : decode cX4_weighPiece 70 = .ok (.imul, 1) := by decide +kernel
theorem dX4_weighPiece_71 : decode cX4_weighPiece 71 = .ok (.istore 7, 2) := by decide +kernel
theorem dX4_weighPiece_73 : decode cX4_weighPiece 73 = .ok (.iload 7, 2) := by decide +kernel
theorem dX4_weighPiece_75 : decode cX4_weighPiece 75 = .ok (.ifCond .lt 93, 3) := by decide +kernel
theorem dX4_weighPiece_78 : decode cX4_weighPiece 78 = .ok (.iload 7, 2) := by decide +kernel
theorem dX4_weighPiece_80 : decode cX4_weighPiece 80 = .ok (.bipush 6, 2) := by decide +kernel
theorem dX4_weighPiece_82 : decode cX4_weighPiece 82 = .ok (.imul, 1) := by decide +kernel
theorem dX4_weighPiece_83 : decode cX4_weighPiece 83 = .ok (.iload_n 3, 1) := by decide +kernel
theorem dX4_weighPiece_84 : decode cX4_weighPiece 84 = .ok (.iadd, 1) := by decide +kernel
theorem dX4_weighPiece_85 : decode cX4_weighPiece 85 = .ok (.istore 8, 2) := by decide +kernel
theorem dX4_weighPiece_87 : decode cX4_weighPiece 87 = .ok (.iload 4, 2) := by decide +kernel
theorem dX4_weighPiece_89 : decode cX4_weighPiece 89 = .ok (.ifCond .eq 9, 3) := by decide +kernel
theorem dX4_weighPiece_92 : decode cX4_weighPiece 92 = .ok (.ldc2_w 94, 3) := by decide +kernel
theorem dX4_weighPiece_95 : decode cX4_weighPiece 95 = .ok (.goto 9, 3) := by decide +kernel
theorem dX4_weighPiece_98 : decode cX4_weighPiece 98 = .ok (.aload_n 2, 1) := by decide +kernel
theorem dX4_weighPiece_99 : decode cX4_weighPiece 99 = .ok (.iload 8, 2) := by decide +kernel
theorem dX4_weighPiece_101 : decode cX4_weighPiece 101 = .ok (.iconst 1, 1) := by decide +kernel
theorem dX4_weighPiece_102 : decode cX4_weighPiece 102 = .ok (.iadd, 1) := by decide +kernel
theorem dX4_weighPiece_103 : decode cX4_weighPiece 103 = .ok (.laload, 1) := by decide +kernel
theorem dX4_weighPiece_104 : decode cX4_weighPiece 104 = .ok (.lstore 9, 2) := by decide +kernel
theorem dX4_weighPiece_106 : decode cX4_weighPiece 106 = .ok (.iload 5, 2) := by decide +kernel
theorem dX4_weighPiece_108 : decode cX4_weighPiece 108 = .ok (.bipush 40, 2) := by decide +kernel
theorem dX4_weighPiece_110 : decode cX4_weighPiece 110 = .ok (.if_icmp .gt 46, 3) := by decide +kernel
theorem dX4_weighPiece_113 : decode cX4_weighPiece 113 = .ok (.aload_n 0, 1) := by decide +kernel
theorem dX4_weighPiece_114 : decode cX4_weighPiece 114 = .ok (.iload 7, 2) := by decide +kernel
theorem dX4_weighPiece_116 : decode cX4_weighPiece 116 = .ok (.iload 5, 2) := by decide +kernel
theorem dX4_weighPiece_118 : decode cX4_weighPiece 118 = .ok (.iadd, 1) := by decide +kernel
theorem dX4_weighPiece_119 : decode cX4_weighPiece 119 = .ok (.iload 7, 2) := by decide +kernel
theorem dX4_weighPiece_121 : decode cX4_weighPiece 121 = .ok (.bipush 40, 2) := by decide +kernel
theorem dX4_weighPiece_123 : decode cX4_weighPiece 123 = .ok (.iadd, 1) := by decide +kernel
theorem dX4_weighPiece_124 : decode cX4_weighPiece 124 = .ok (.iload 6, 2) := by decide +kernel
theorem dX4_weighPiece_126 : decode cX4_weighPiece 126 = .ok (.invokevirtual 123, 3) := by decide +kernel
theorem dX4_weighPiece_129 : decode cX4_weighPiece 129 = .ok (.istore 6, 2) := by decide +kernel
theorem dX4_weighPiece_131 : decode cX4_weighPiece 131 = .ok (.aload_n 0, 1) := by decide +kernel
theorem dX4_weighPiece_132 : decode cX4_weighPiece 132 = .ok (.iload_n 1, 1) := by decide +kernel
theorem dX4_weighPiece_133 : decode cX4_weighPiece 133 = .ok (.iload_n 3, 1) := by decide +kernel
theorem dX4_weighPiece_134 : decode cX4_weighPiece 134 = .ok (.iload 7, 2) := by decide +kernel
theorem dX4_weighPiece_136 : decode cX4_weighPiece 136 = .ok (.invokevirtual 127, 3) := by decide +kernel
theorem dX4_weighPiece_139 : decode cX4_weighPiece 139 = .ok (.ifCond .eq 17, 3) := by decide +kernel
theorem dX4_weighPiece_142 : decode cX4_weighPiece 142 = .ok (.lload 9, 2) := by decide +kernel
theorem dX4_weighPiece_144 : decode cX4_weighPiece 144 = .ok (.aload_n 0, 1) := by decide +kernel
theorem dX4_weighPiece_145 : decode cX4_weighPiece 145 = .ok (.getfield 21, 3) := by decide +kernel
theorem dX4_weighPiece_148 : decode cX4_weighPiece 148 = .ok (.iload 6, 2) := by decide +kernel
theorem dX4_weighPiece_150 : decode cX4_weighPiece 150 = .ok (.laload, 1) := by decide +kernel
theorem dX4_weighPiece_151 : decode cX4_weighPiece 151 = .ok (.invokestatic 130, 3) := by decide +kernel
theorem dX4_weighPiece_154 : decode cX4_weighPiece 154 = .ok (.lstore 9, 2) := by decide +kernel
theorem dX4_weighPiece_156 : decode cX4_weighPiece 156 = .ok (.aload_n 2, 1) := by decide +kernel
theorem dX4_weighPiece_157 : decode cX4_weighPiece 157 = .ok (.iload 8, 2) := by decide +kernel
theorem dX4_weighPiece_159 : decode cX4_weighPiece 159 = .ok (.lload 9, 2) := by decide +kernel
theorem dX4_weighPiece_161 : decode cX4_weighPiece 161 = .ok (.lastore, 1) := by decide +kernel
theorem dX4_weighPiece_162 : decode cX4_weighPiece 162 = .ok (.iinc 7 (-1), 3) := by decide +kernel
theorem dX4_weighPiece_165 : decode cX4_weighPiece 165 = .ok (.goto (-92), 3) := by decide +kernel
theorem dX4_weighPiece_168 : decode cX4_weighPiece 168 = .ok (.iinc 3 (-1), 3) := by decide +kernel
theorem dX4_weighPiece_171 : decode cX4_weighPiece 171 = .ok (.goto (-146), 3) := by decide +kernel
theorem dX4_weighPiece_174 : decode cX4_weighPiece 174 = .ok (.return_, 1) := by decide +kernel
theorem dX4_weighEnds_0 : decode cX4_weighEnds 0 = .ok (.iload_n 1, 1) := by decide +kernel
theorem dX4_weighEnds_1 : decode cX4_weighEnds 1 = .ok (.iconst 1, 1) := by decide +kernel
theorem dX4_weighEnds_2 : decode cX4_weighEnds 2 = .ok (.iadd, 1) := by decide +kernel
theorem dX4_weighEnds_3 : decode cX4_weighEnds 3 = .ok (.bipush 40, 2) := by decide +kernel
theorem dX4_weighEnds_5 : decode cX4_weighEnds 5 = .ok (.imul, 1) := by decide +kernel
theorem dX4_weighEnds_6 : decode cX4_weighEnds 6 = .ok (.istore_n 3, 1) := by decide +kernel
theorem dX4_weighEnds_7 : decode cX4_weighEnds 7 = .ok (.iconst 0, 1) := by decide +kernel
theorem dX4_weighEnds_8 : decode cX4_weighEnds 8 = .ok (.istore 4, 2) := by decide +kernel
theorem dX4_weighEnds_10 : decode cX4_weighEnds 10 = .ok (.iload 4, 2) := by decide +kernel
theorem dX4_weighEnds_12 : decode cX4_weighEnds 12 = .ok (.iload_n 3, 1) := by decide +kernel
theorem dX4_weighEnds_13 : decode cX4_weighEnds 13 = .ok (.if_icmp .gt 24, 3) := by decide +kernel
theorem dX4_weighEnds_16 : decode cX4_weighEnds 16 = .ok (.aload_n 0, 1) := by decide +kernel
theorem dX4_weighEnds_17 : decode cX4_weighEnds 17 = .ok (.getfield 21, 3) := by decide +kernel
theorem dX4_weighEnds_20 : decode cX4_weighEnds 20 = .ok (.iload 4, 2) := by decide +kernel
theorem dX4_weighEnds_22 : decode cX4_weighEnds 22 = .ok (.aload_n 0, 1) := by decide +kernel
theorem dX4_weighEnds_23 : decode cX4_weighEnds 23 = .ok (.iload_n 1, 1) := by decide +kernel
theorem dX4_weighEnds_24 : decode cX4_weighEnds 24 = .ok (.iload_n 2, 1) := by decide +kernel
theorem dX4_weighEnds_25 : decode cX4_weighEnds 25 = .ok (.iload 4, 2) := by decide +kernel
theorem dX4_weighEnds_27 : decode cX4_weighEnds 27 = .ok (.invokevirtual 136, 3) := by decide +kernel
theorem dX4_weighEnds_30 : decode cX4_weighEnds 30 = .ok (.lastore, 1) := by decide +kernel
theorem dX4_weighEnds_31 : decode cX4_weighEnds 31 = .ok (.iinc 4 1, 3) := by decide +kernel
theorem dX4_weighEnds_34 : decode cX4_weighEnds 34 = .ok (.goto (-24), 3) := by decide +kernel
theorem dX4_weighEnds_37 : decode cX4_weighEnds 37 = .ok (.return_, 1) := by decide +kernel
theorem dX4_cheapestEnd_0 : decode cX4_cheapestEnd 0 = .ok (.iload_n 3, 1) := by decide +kernel
theorem dX4_cheapestEnd_1 : decode cX4_cheapestEnd 1 = .ok (.iload_n 2, 1) := by decide +kernel
theorem dX4_cheapestEnd_2 : decode cX4_cheapestEnd 2 = .ok (.if_icmp .gt 25, 3) := by decide +kernel
theorem dX4_cheapestEnd_5 : decode cX4_cheapestEnd 5 = .ok (.aload_n 0, 1) := by decide +kernel
theorem dX4_cheapestEnd_6 : decode cX4_cheapestEnd 6 = .ok (.getfield 21, 3) := by decide +kernel
theorem dX4_cheapestEnd_9 : decode cX4_cheapestEnd 9 = .ok (.iload_n 1, 1) := by decide +kernel
theorem dX4_cheapestEnd_10 : decode cX4_cheapestEnd 10 = .ok (.laload, 1) := by decide +kernel
theorem dX4_cheapestEnd_11 : decode cX4_cheapestEnd 11 = .ok (.aload_n 0, 1) := by decide +kernel
theorem dX4_cheapestEnd_12 : decode cX4_cheapestEnd 12 = .ok (.getfield 21, 3) := by decide +kernel
theorem dX4_cheapestEnd_15 : decode cX4_cheapestEnd 15 = .ok (.iload_n 3, 1) := by decide +kernel
theorem dX4_cheapestEnd_16 : decode cX4_cheapestEnd 16 = .ok (.laload, 1) := by decide +kernel
theorem dX4_cheapestEnd_17 : decode cX4_cheapestEnd 17 = .ok (.lcmp, 1) := by decide +kernel
theorem dX4_cheapestEnd_18 : decode cX4_cheapestEnd 18 = .ok (.ifCond .gt 7, 3) := by decide +kernel
theorem dX4_cheapestEnd_21 : decode cX4_cheapestEnd 21 = .ok (.iload_n 1, 1) := by decide +kernel
theorem dX4_cheapestEnd_22 : decode cX4_cheapestEnd 22 = .ok (.goto 4, 3) := by decide +kernel
theorem dX4_cheapestEnd_25 : decode cX4_cheapestEnd 25 = .ok (.iload_n 3, 1) := by decide +kernel
theorem dX4_cheapestEnd_26 : decode cX4_cheapestEnd 26 = .ok (.ireturn, 1) := by decide +kernel
theorem dX4_cheapestEnd_27 : decode cX4_cheapestEnd 27 = .ok (.iload_n 1, 1) := by decide +kernel
theorem dX4_cheapestEnd_28 : decode cX4_cheapestEnd 28 = .ok (.istore 4, 2) := by decide +kernel
theorem dX4_cheapestEnd_30 : decode cX4_cheapestEnd 30 = .ok (.iload_n 1, 1) := by decide +kernel
theorem dX4_cheapestEnd_31 : decode cX4_cheapestEnd 31 = .ok (.iconst 1, 1) := by decide +kernel
theorem dX4_cheapestEnd_32 : decode cX4_cheapestEnd 32 = .ok (.iadd, 1) := by decide +kernel
theorem dX4_cheapestEnd_33 : decode cX4_cheapestEnd 33 = .ok (.istore 5, 2) := by decide +kernel
theorem dX4_cheapestEnd_35 : decode cX4_cheapestEnd 35 = .ok (.iload 5, 2) := by decide +kernel
theorem dX4_cheapestEnd_37 : decode cX4_cheapestEnd 37 = .ok (.iload_n 2, 1) := by decide +kernel
theorem dX4_cheapestEnd_38 : decode cX4_cheapestEnd 38 = .ok (.if_icmp .gt 31, 3) := by decide +kernel
theorem dX4_cheapestEnd_41 : decode cX4_cheapestEnd 41 = .ok (.aload_n 0, 1) := by decide +kernel
theorem dX4_cheapestEnd_42 : decode cX4_cheapestEnd 42 = .ok (.getfield 21, 3) := by decide +kernel
theorem dX4_cheapestEnd_45 : decode cX4_cheapestEnd 45 = .ok (.iload 5, 2) := by decide +kernel
theorem dX4_cheapestEnd_47 : decode cX4_cheapestEnd 47 = .ok (.laload, 1) := by decide +kernel
theorem dX4_cheapestEnd_48 : decode cX4_cheapestEnd 48 = .ok (.aload_n 0, 1) := by decide +kernel
theorem dX4_cheapestEnd_49 : decode cX4_cheapestEnd 49 = .ok (.getfield 21, 3) := by decide +kernel
theorem dX4_cheapestEnd_52 : decode cX4_cheapestEnd 52 = .ok (.iload 4, 2) := by decide +kernel
theorem dX4_cheapestEnd_54 : decode cX4_cheapestEnd 54 = .ok (.laload, 1) := by decide +kernel
theorem dX4_cheapestEnd_55 : decode cX4_cheapestEnd 55 = .ok (.lcmp, 1) := by decide +kernel
theorem dX4_cheapestEnd_56 : decode cX4_cheapestEnd 56 = .ok (.ifCond .ge 7, 3) := by decide +kernel
theorem dX4_cheapestEnd_59 : decode cX4_cheapestEnd 59 = .ok (.iload 5, 2) := by decide +kernel
theorem dX4_cheapestEnd_61 : decode cX4_cheapestEnd 61 = .ok (.istore 4, 2) := by decide +kernel
theorem dX4_cheapestEnd_63 : decode cX4_cheapestEnd 63 = .ok (.iinc 5 1, 3) := by decide +kernel
theorem dX4_cheapestEnd_66 : decode cX4_cheapestEnd 66 = .ok (.goto (-31), 3) := by decide +kernel
theorem dX4_cheapestEnd_69 : decode cX4_cheapestEnd 69 = .ok (.iload 4, 2) := by decide +kernel
theorem dX4_cheapestEnd_71 : decode cX4_cheapestEnd 71 = .ok (.ireturn, 1) := by decide +kernel
theorem dX4_costFrom_0 : decode cX4_costFrom 0 = .ok (.aload_n 0, 1) := by decide +kernel
theorem dX4_costFrom_1 : decode cX4_costFrom 1 = .ok (.getfield 18, 3) := by decide +kernel
theorem dX4_costFrom_4 : decode cX4_costFrom 4 = .ok (.iload_n 1, 1) := by decide +kernel
theorem dX4_costFrom_5 : decode cX4_costFrom 5 = .ok (.invokevirtual 29, 3) := by decide +kernel
theorem dX4_costFrom_8 : decode cX4_costFrom 8 = .ok (.checkcast 62, 3) := by decide +kernel
theorem dX4_costFrom_11 : decode cX4_costFrom 11 = .ok (.astore 4, 2) := by decide +kernel
theorem dX4_costFrom_13 : decode cX4_costFrom 13 = .ok (.aload_n 0, 1) := by decide +kernel
theorem dX4_costFrom_14 : decode cX4_costFrom 14 = .ok (.getfield 12, 3) := by decide +kernel
theorem dX4_costFrom_17 : decode cX4_costFrom 17 = .ok (.iload_n 2, 1) := by decide +kernel
theorem dX4_costFrom_18 : decode cX4_costFrom 18 = .ok (.invokevirtual 29, 3) := by decide +kernel
theorem dX4_costFrom_21 : decode cX4_costFrom 21 = .ok (.checkcast 33, 3) := by decide +kernel
theorem dX4_costFrom_24 : decode cX4_costFrom 24 = .ok (.astore 5, 2) := by decide +kernel
theorem dX4_costFrom_26 : decode cX4_costFrom 26 = .ok (.aload 4, 2) := by decide +kernel
theorem dX4_costFrom_28 : decode cX4_costFrom 28 = .ok (.getfield 67, 3) := by decide +kernel
theorem dX4_costFrom_31 : decode cX4_costFrom 31 = .ok (.i2l, 1) := by decide +kernel
theorem dX4_costFrom_32 : decode cX4_costFrom 32 = .ok (.aload_n 0, 1) := by decide +kernel
theorem dX4_costFrom_33 : decode cX4_costFrom 33 = .ok (.getfield 53, 3) := by decide +kernel
theorem dX4_costFrom_36 : decode cX4_costFrom 36 = .ok (.i2l, 1) := by decide +kernel
theorem dX4_costFrom_37 : decode cX4_costFrom 37 = .ok (.lsub, 1) := by decide +kernel
theorem dX4_costFrom_38 : decode cX4_costFrom 38 = .ok (.iload_n 3, 1) := by decide +kernel
theorem dX4_costFrom_39 : decode cX4_costFrom 39 = .ok (.i2l, 1) := by decide +kernel
theorem dX4_costFrom_40 : decode cX4_costFrom 40 = .ok (.ladd, 1) := by decide +kernel
theorem dX4_costFrom_41 : decode cX4_costFrom 41 = .ok (.lstore 6, 2) := by decide +kernel
theorem dX4_costFrom_43 : decode cX4_costFrom 43 = .ok (.lload 6, 2) := by decide +kernel
theorem dX4_costFrom_45 : decode cX4_costFrom 45 = .ok (.aload_n 0, 1) := by decide +kernel
theorem dX4_costFrom_46 : decode cX4_costFrom 46 = .ok (.getfield 76, 3) := by decide +kernel
theorem dX4_costFrom_49 : decode cX4_costFrom 49 = .ok (.aload 5, 2) := by decide +kernel
theorem dX4_costFrom_51 : decode cX4_costFrom 51 = .ok (.getfield 35, 3) := by decide +kernel
theorem dX4_costFrom_54 : decode cX4_costFrom 54 = .ok (.iadd, 1) := by decide +kernel
theorem dX4_costFrom_55 : decode cX4_costFrom 55 = .ok (.i2l, 1) := by decide +kernel
theorem dX4_costFrom_56 : decode cX4_costFrom 56 = .ok (.lcmp, 1) := by decide +kernel
theorem dX4_costFrom_57 : decode cX4_costFrom 57 = .ok (.ifCond .ge 7, 3) := by decide +kernel
theorem dX4_costFrom_60 : decode cX4_costFrom 60 = .ok (.ldc2_w 94, 3) := by decide +kernel
theorem dX4_costFrom_63 : decode cX4_costFrom 63 = .ok (.lreturn, 1) := by decide +kernel
theorem dX4_costFrom_64 : decode cX4_costFrom 64 = .ok (.aload 4, 2) := by decide +kernel
theorem dX4_costFrom_66 : decode cX4_costFrom 66 = .ok (.getfield 68, 3) := by decide +kernel
theorem dX4_costFrom_69 : decode cX4_costFrom 69 = .ok (.i2l, 1) := by decide +kernel
theorem dX4_costFrom_70 : decode cX4_costFrom 70 = .ok (.aload 5, 2) := by decide +kernel
theorem dX4_costFrom_72 : decode cX4_costFrom 72 = .ok (.getfield 140, 3) := by decide +kernel
theorem dX4_costFrom_75 : decode cX4_costFrom 75 = .ok (.i2l, 1) := by decide +kernel
theorem dX4_costFrom_76 : decode cX4_costFrom 76 = .ok (.aload_n 0, 1) := by decide +kernel
theorem dX4_costFrom_77 : decode cX4_costFrom 77 = .ok (.getfield 79, 3) := by decide +kernel
theorem dX4_costFrom_80 : decode cX4_costFrom 80 = .ok (.i2l, 1) := by decide +kernel
theorem dX4_costFrom_81 : decode cX4_costFrom 81 = .ok (.lload 6, 2) := by decide +kernel
theorem dX4_costFrom_83 : decode cX4_costFrom 83 = .ok (.lmul, 1) := by decide +kernel
theorem dX4_costFrom_84 : decode cX4_costFrom 84 = .ok (.ladd, 1) := by decide +kernel
theorem dX4_costFrom_85 : decode cX4_costFrom 85 = .ok (.lmul, 1) := by decide +kernel
theorem dX4_costFrom_86 : decode cX4_costFrom 86 = .ok (.lstore 8, 2) := by decide +kernel
theorem dX4_costFrom_88 : decode cX4_costFrom 88 = .ok (.iload_n 1, 1) := by decide +kernel
theorem dX4_costFrom_89 : decode cX4_costFrom 89 = .ok (.iconst 1, 1) := by decide +kernel
theorem dX4_costFrom_90 : decode cX4_costFrom 90 = .ok (.iadd, 1) := by decide +kernel
theorem dX4_costFrom_91 : decode cX4_costFrom 91 = .ok (.aload_n 0, 1) := by decide +kernel
theorem dX4_costFrom_92 : decode cX4_costFrom 92 = .ok (.getfield 56, 3) := by decide +kernel
theorem dX4_costFrom_95 : decode cX4_costFrom 95 = .ok (.if_icmp .lt 6, 3) := by decide +kernel
theorem dX4_costFrom_98 : decode cX4_costFrom 98 = .ok (.lload 8, 2) := by decide +kernel
theorem dX4_costFrom_100 : decode cX4_costFrom 100 = .ok (.lreturn, 1) := by decide +kernel
theorem dX4_costFrom_101 : decode cX4_costFrom 101 = .ok (.lload 8, 2) := by decide +kernel
theorem dX4_costFrom_103 : decode cX4_costFrom 103 = .ok (.aload_n 0, 1) := by decide +kernel
theorem dX4_costFrom_104 : decode cX4_costFrom 104 = .ok (.getfield 18, 3) := by decide +kernel
theorem dX4_costFrom_107 : decode cX4_costFrom 107 = .ok (.iload_n 1, 1) := by decide +kernel
theorem dX4_costFrom_108 : decode cX4_costFrom 108 = .ok (.iconst 1, 1) := by decide +kernel
theorem dX4_costFrom_109 : decode cX4_costFrom 109 = .ok (.iadd, 1) := by decide +kernel
theorem dX4_costFrom_110 : decode cX4_costFrom 110 = .ok (.invokevirtual 29, 3) := by decide +kernel
theorem dX4_costFrom_113 : decode cX4_costFrom 113 = .ok (.checkcast 62, 3) := by decide +kernel
theorem dX4_costFrom_116 : decode cX4_costFrom 116 = .ok (.getfield 91, 3) := by decide +kernel
theorem dX4_costFrom_119 : decode cX4_costFrom 119 = .ok (.iload_n 3, 1) := by decide +kernel
theorem dX4_costFrom_120 : decode cX4_costFrom 120 = .ok (.bipush 6, 2) := by decide +kernel
theorem dX4_costFrom_122 : decode cX4_costFrom 122 = .ok (.imul, 1) := by decide +kernel
theorem dX4_costFrom_123 : decode cX4_costFrom 123 = .ok (.iload_n 2, 1) := by decide +kernel
theorem dX4_costFrom_124 : decode cX4_costFrom 124 = .ok (.iadd, 1) := by decide +kernel
theorem dX4_costFrom_125 : decode cX4_costFrom 125 = .ok (.laload, 1) := by decide +kernel
theorem dX4_costFrom_126 : decode cX4_costFrom 126 = .ok (.ladd, 1) := by decide +kernel
theorem dX4_costFrom_127 : decode cX4_costFrom 127 = .ok (.lreturn, 1) := by decide +kernel
theorem dX4_isCoveredAtBegin_0 : decode cX4_isCoveredAtBegin 0 = .ok (.iload_n 1, 1) := by decide +kernel
theorem dX4_isCoveredAtBegin_1 : decode cX4_isCoveredAtBegin 1 = .ok (.ifCond .ne 10, 3) := by decide +kernel
theorem dX4_isCoveredAtBegin_4 : decode cX4_isCoveredAtBegin 4 = .ok (.aload_n 0, 1) := by decide +kernel
theorem dX4_isCoveredAtBegin_5 : decode cX4_isCoveredAtBegin 5 = .ok (.getfield 50, 3) := by decide +kernel
theorem dX4_isCoveredAtBegin_8 : decode cX4_isCoveredAtBegin 8 = .ok (.goto 19, 3) := by decide +kernel
theorem dX4_isCoveredAtBegin_11 : decode cX4_isCoveredAtBegin 11 = .ok (.aload_n 0, 1) := by decide +kernel
theorem dX4_isCoveredAtBegin_12 : decode cX4_isCoveredAtBegin 12 = .ok (.getfield 18, 3) := by decide +kernel
theorem dX4_isCoveredAtBegin_15 : decode cX4_isCoveredAtBegin 15 = .ok (.iload_n 1, 1) := by decide +kernel
theorem dX4_isCoveredAtBegin_16 : decode cX4_isCoveredAtBegin 16 = .ok (.iconst 1, 1) := by decide +kernel
theorem dX4_isCoveredAtBegin_17 : decode cX4_isCoveredAtBegin 17 = .ok (.isub, 1) := by decide +kernel
theorem dX4_isCoveredAtBegin_18 : decode cX4_isCoveredAtBegin 18 = .ok (.invokevirtual 29, 3) := by decide +kernel
theorem dX4_isCoveredAtBegin_21 : decode cX4_isCoveredAtBegin 21 = .ok (.checkcast 62, 3) := by decide +kernel
theorem dX4_isCoveredAtBegin_24 : decode cX4_isCoveredAtBegin 24 = .ok (.getfield 67, 3) := by decide +kernel
theorem dX4_isCoveredAtBegin_27 : decode cX4_isCoveredAtBegin 27 = .ok (.istore 4, 2) := by decide +kernel
theorem dX4_isCoveredAtBegin_29 : decode cX4_isCoveredAtBegin 29 = .ok (.iload 4, 2) := by decide +kernel
theorem dX4_isCoveredAtBegin_31 : decode cX4_isCoveredAtBegin 31 = .ok (.aload_n 0, 1) := by decide +kernel
theorem dX4_isCoveredAtBegin_32 : decode cX4_isCoveredAtBegin 32 = .ok (.getfield 53, 3) := by decide +kernel
theorem dX4_isCoveredAtBegin_35 : decode cX4_isCoveredAtBegin 35 = .ok (.isub, 1) := by decide +kernel
theorem dX4_isCoveredAtBegin_36 : decode cX4_isCoveredAtBegin 36 = .ok (.iload_n 3, 1) := by decide +kernel
theorem dX4_isCoveredAtBegin_37 : decode cX4_isCoveredAtBegin 37 = .ok (.iadd, 1) := by decide +kernel
theorem dX4_isCoveredAtBegin_38 : decode cX4_isCoveredAtBegin 38 = .ok (.aload_n 0, 1) := by decide +kernel
theorem dX4_isCoveredAtBegin_39 : decode cX4_isCoveredAtBegin 39 = .ok (.getfield 76, 3) := by decide +kernel
theorem dX4_isCoveredAtBegin_42 : decode cX4_isCoveredAtBegin 42 = .ok (.aload_n 0, 1) := by decide +kernel
theorem dX4_isCoveredAtBegin_43 : decode cX4_isCoveredAtBegin 43 = .ok (.getfield 12, 3) := by decide +kernel
theorem dX4_isCoveredAtBegin_46 : decode cX4_isCoveredAtBegin 46 = .ok (.iload_n 2, 1) := by decide +kernel
theorem dX4_isCoveredAtBegin_47 : decode cX4_isCoveredAtBegin 47 = .ok (.invokevirtual 29, 3) := by decide +kernel
theorem dX4_isCoveredAtBegin_50 : decode cX4_isCoveredAtBegin 50 = .ok (.checkcast 33, 3) := by decide +kernel
theorem dX4_isCoveredAtBegin_53 : decode cX4_isCoveredAtBegin 53 = .ok (.getfield 35, 3) := by decide +kernel
theorem dX4_isCoveredAtBegin_56 : decode cX4_isCoveredAtBegin 56 = .ok (.iadd, 1) := by decide +kernel
theorem dX4_isCoveredAtBegin_57 : decode cX4_isCoveredAtBegin 57 = .ok (.if_icmp .lt 7, 3) := by decide +kernel
theorem dX4_isCoveredAtBegin_60 : decode cX4_isCoveredAtBegin 60 = .ok (.iconst 1, 1) := by decide +kernel
theorem dX4_isCoveredAtBegin_61 : decode cX4_isCoveredAtBegin 61 = .ok (.goto 4, 3) := by decide +kernel
theorem dX4_isCoveredAtBegin_64 : decode cX4_isCoveredAtBegin 64 = .ok (.iconst 0, 1) := by decide +kernel
theorem dX4_isCoveredAtBegin_65 : decode cX4_isCoveredAtBegin 65 = .ok (.ireturn, 1) := by decide +kernel
theorem dX4_leastFall_0 : decode cX4_leastFall 0 = .ok (.aload_n 0, 1) := by decide +kernel
theorem dX4_leastFall_1 : decode cX4_leastFall 1 = .ok (.getfield 18, 3) := by decide +kernel
theorem dX4_leastFall_4 : decode cX4_leastFall 4 = .ok (.iload_n 1, 1) := by decide +kernel
theorem dX4_leastFall_5 : decode cX4_leastFall 5 = .ok (.invokevirtual 29, 3) := by decide +kernel
theorem dX4_leastFall_8 : decode cX4_leastFall 8 = .ok (.checkcast 62, 3) := by decide +kernel
theorem dX4_leastFall_11 : decode cX4_leastFall 11 = .ok (.astore_n 3, 1) := by decide +kernel
theorem dX4_leastFall_12 : decode cX4_leastFall 12 = .ok (.aload_n 0, 1) := by decide +kernel
theorem dX4_leastFall_13 : decode cX4_leastFall 13 = .ok (.getfield 12, 3) := by decide +kernel
theorem dX4_leastFall_16 : decode cX4_leastFall 16 = .ok (.iload_n 2, 1) := by decide +kernel
theorem dX4_leastFall_17 : decode cX4_leastFall 17 = .ok (.invokevirtual 29, 3) := by decide +kernel
theorem dX4_leastFall_20 : decode cX4_leastFall 20 = .ok (.checkcast 33, 3) := by decide +kernel
theorem dX4_leastFall_23 : decode cX4_leastFall 23 = .ok (.getfield 35, 3) := by decide +kernel
theorem dX4_leastFall_26 : decode cX4_leastFall 26 = .ok (.i2l, 1) := by decide +kernel
theorem dX4_leastFall_27 : decode cX4_leastFall 27 = .ok (.lstore 4, 2) := by decide +kernel
theorem dX4_leastFall_29 : decode cX4_leastFall 29 = .ok (.lload 4, 2) := by decide +kernel
theorem dX4_leastFall_31 : decode cX4_leastFall 31 = .ok (.lload 4, 2) := by decide +kernel
theorem dX4_leastFall_33 : decode cX4_leastFall 33 = .ok (.lmul, 1) := by decide +kernel
theorem dX4_leastFall_34 : decode cX4_leastFall 34 = .ok (.lstore 6, 2) := by decide +kernel
theorem dX4_leastFall_36 : decode cX4_leastFall 36 = .ok (.ldc2_w 143, 3) := by decide +kernel
theorem dX4_leastFall_39 : decode cX4_leastFall 39 = .ok (.aload_n 3, 1) := by decide +kernel
theorem dX4_leastFall_40 : decode cX4_leastFall 40 = .ok (.getfield 68, 3) := by decide +kernel
theorem dX4_leastFall_43 : decode cX4_leastFall 43 = .ok (.i2l, 1) := by decide +kernel
theorem dX4_leastFall_44 : decode cX4_leastFall 44 = .ok (.lmul, 1) := by decide +kernel
theorem dX4_leastFall_45 : decode cX4_leastFall 45 = .ok (.aload_n 3, 1) := by decide +kernel
theorem dX4_leastFall_46 : decode cX4_leastFall 46 = .ok (.getfield 71, 3) := by decide +kernel
theorem dX4_leastFall_49 : decode cX4_leastFall 49 = .ok (.i2l, 1) := by decide +kernel
theorem dX4_leastFall_50 : decode cX4_leastFall 50 = .ok (.lmul, 1) := by decide +kernel
theorem dX4_leastFall_51 : decode cX4_leastFall 51 = .ok (.lstore 8, 2) := by decide +kernel
theorem dX4_leastFall_53 : decode cX4_leastFall 53 = .ok (.lload 8, 2) := by decide +kernel
theorem dX4_leastFall_55 : decode cX4_leastFall 55 = .ok (.lload 6, 2) := by decide +kernel
theorem dX4_leastFall_57 : decode cX4_leastFall 57 = .ok (.ladd, 1) := by decide +kernel
theorem dX4_leastFall_58 : decode cX4_leastFall 58 = .ok (.lconst 1, 1) := by decide +kernel
theorem dX4_leastFall_59 : decode cX4_leastFall 59 = .ok (.lsub, 1) := by decide +kernel
theorem dX4_leastFall_60 : decode cX4_leastFall 60 = .ok (.lload 6, 2) := by decide +kernel
theorem dX4_leastFall_62 : decode cX4_leastFall 62 = .ok (.ldiv, 1) := by decide +kernel
theorem dX4_leastFall_63 : decode cX4_leastFall 63 = .ok (.lstore 10, 2) := by decide +kernel
theorem dX4_leastFall_65 : decode cX4_leastFall 65 = .ok (.lconst 1, 1) := by decide +kernel
theorem dX4_leastFall_66 : decode cX4_leastFall 66 = .ok (.ldc2_w 145, 3) := by decide +kernel
theorem dX4_leastFall_69 : decode cX4_leastFall 69 = .ok (.lload 10, 2) := by decide +kernel
theorem dX4_leastFall_71 : decode cX4_leastFall 71 = .ok (.invokestatic 130, 3) := by decide +kernel
theorem dX4_leastFall_74 : decode cX4_leastFall 74 = .ok (.invokestatic 147, 3) := by decide +kernel
theorem dX4_leastFall_77 : decode cX4_leastFall 77 = .ok (.l2i, 1) := by decide +kernel
theorem dX4_leastFall_78 : decode cX4_leastFall 78 = .ok (.ireturn, 1) := by decide +kernel
theorem dX4_followBest_0 : decode cX4_followBest 0 = .ok (.iconst 0, 1) := by decide +kernel
theorem dX4_followBest_1 : decode cX4_followBest 1 = .ok (.istore_n 1, 1) := by decide +kernel
theorem dX4_followBest_2 : decode cX4_followBest 2 = .ok (.iconst 0, 1) := by decide +kernel
theorem dX4_followBest_3 : decode cX4_followBest 3 = .ok (.istore_n 2, 1) := by decide +kernel
theorem dX4_followBest_4 : decode cX4_followBest 4 = .ok (.iconst 0, 1) := by decide +kernel
theorem dX4_followBest_5 : decode cX4_followBest 5 = .ok (.istore_n 3, 1) := by decide +kernel
theorem dX4_followBest_6 : decode cX4_followBest 6 = .ok (.iload_n 3, 1) := by decide +kernel
theorem dX4_followBest_7 : decode cX4_followBest 7 = .ok (.aload_n 0, 1) := by decide +kernel
theorem dX4_followBest_8 : decode cX4_followBest 8 = .ok (.getfield 56, 3) := by decide +kernel
theorem dX4_followBest_11 : decode cX4_followBest 11 = .ok (.if_icmp .ge 48, 3) := by decide +kernel
theorem dX4_followBest_14 : decode cX4_followBest 14 = .ok (.aload_n 0, 1) := by decide +kernel
theorem dX4_followBest_15 : decode cX4_followBest 15 = .ok (.iload_n 3, 1) := by decide +kernel
theorem dX4_followBest_16 : decode cX4_followBest 16 = .ok (.iload_n 1, 1) := by decide +kernel
theorem dX4_followBest_17 : decode cX4_followBest 17 = .ok (.iload_n 2, 1) := by decide +kernel
theorem dX4_followBest_18 : decode cX4_followBest 18 = .ok (.invokevirtual 150, 3) := by decide +kernel
theorem dX4_followBest_21 : decode cX4_followBest 21 = .ok (.iload_n 1, 1) := by decide +kernel
theorem dX4_followBest_22 : decode cX4_followBest 22 = .ok (.aload_n 0, 1) := by decide +kernel
theorem dX4_followBest_23 : decode cX4_followBest 23 = .ok (.getfield 18, 3) := by decide +kernel
theorem dX4_followBest_26 : decode cX4_followBest 26 = .ok (.iload_n 3, 1) := by decide +kernel
theorem dX4_followBest_27 : decode cX4_followBest 27 = .ok (.invokevirtual 29, 3) := by decide +kernel
theorem dX4_followBest_30 : decode cX4_followBest 30 = .ok (.checkcast 62, 3) := by decide +kernel
theorem dX4_followBest_33 : decode cX4_followBest 33 = .ok (.getfield 107, 3) := by decide +kernel
theorem dX4_followBest_36 : decode cX4_followBest 36 = .ok (.iadd, 1) := by decide +kernel
theorem dX4_followBest_37 : decode cX4_followBest 37 = .ok (.istore_n 1, 1) := by decide +kernel
theorem dX4_followBest_38 : decode cX4_followBest 38 = .ok (.aload_n 0, 1) := by decide +kernel
theorem dX4_followBest_39 : decode cX4_followBest 39 = .ok (.getfield 18, 3) := by decide +kernel
theorem dX4_followBest_42 : decode cX4_followBest 42 = .ok (.iload_n 3, 1) := by decide +kernel
theorem dX4_followBest_43 : decode cX4_followBest 43 = .ok (.invokevirtual 29, 3) := by decide +kernel
theorem dX4_followBest_46 : decode cX4_followBest 46 = .ok (.checkcast 62, 3) := by decide +kernel
theorem dX4_followBest_49 : decode cX4_followBest 49 = .ok (.getfield 104, 3) := by decide +kernel
theorem dX4_followBest_52 : decode cX4_followBest 52 = .ok (.istore_n 2, 1) := by decide +kernel
theorem dX4_followBest_53 : decode cX4_followBest 53 = .ok (.iinc 3 1, 3) := by decide +kernel
theorem dX4_followBest_56 : decode cX4_followBest 56 = .ok (.goto (-50), 3) := by decide +kernel
theorem dX4_followBest_59 : decode cX4_followBest 59 = .ok (.return_, 1) := by decide +kernel
theorem dX4_layPiece_0 : decode cX4_layPiece 0 = .ok (.aload_n 0, 1) := by decide +kernel
theorem dX4_layPiece_1 : decode cX4_layPiece 1 = .ok (.getfield 18, 3) := by decide +kernel
theorem dX4_layPiece_4 : decode cX4_layPiece 4 = .ok (.iload_n 1, 1) := by decide +kernel
theorem dX4_layPiece_5 : decode cX4_layPiece 5 = .ok (.invokevirtual 29, 3) := by decide +kernel
theorem dX4_layPiece_8 : decode cX4_layPiece 8 = .ok (.checkcast 62, 3) := by decide +kernel
theorem dX4_layPiece_11 : decode cX4_layPiece 11 = .ok (.astore 4, 2) := by decide +kernel
theorem dX4_layPiece_13 : decode cX4_layPiece 13 = .ok (.aload 4, 2) := by decide +kernel
theorem dX4_layPiece_15 : decode cX4_layPiece 15 = .ok (.getfield 91, 3) := by decide +kernel
theorem dX4_layPiece_18 : decode cX4_layPiece 18 = .ok (.iload_n 2, 1) := by decide +kernel
theorem dX4_layPiece_19 : decode cX4_layPiece 19 = .ok (.bipush 6, 2) := by decide +kernel
theorem dX4_layPiece_21 : decode cX4_layPiece 21 = .ok (.imul, 1) := by decide +kernel
theorem dX4_layPiece_22 : decode cX4_layPiece 22 = .ok (.iload_n 3, 1) := by decide +kernel
theorem dX4_layPiece_23 : decode cX4_layPiece 23 = .ok (.iadd, 1) := by decide +kernel
theorem dX4_layPiece_24 : decode cX4_layPiece 24 = .ok (.laload, 1) := by decide +kernel
theorem dX4_layPiece_25 : decode cX4_layPiece 25 = .ok (.lstore 5, 2) := by decide +kernel
theorem dX4_layPiece_27 : decode cX4_layPiece 27 = .ok (.iload_n 3, 1) := by decide +kernel
theorem dX4_layPiece_28 : decode cX4_layPiece 28 = .ok (.istore 7, 2) := by decide +kernel
theorem dX4_layPiece_30 : decode cX4_layPiece 30 = .ok (.iload 7, 2) := by decide +kernel
theorem dX4_layPiece_32 : decode cX4_layPiece 32 = .ok (.aload_n 0, 1) := by decide +kernel
theorem dX4_layPiece_33 : decode cX4_layPiece 33 = .ok (.getfield 12, 3) := by decide +kernel
theorem dX4_layPiece_36 : decode cX4_layPiece 36 = .ok (.invokevirtual 25, 3) := by decide +kernel
theorem dX4_layPiece_39 : decode cX4_layPiece 39 = .ok (.if_icmp .ge 55, 3) := by decide +kernel
theorem dX4_layPiece_42 : decode cX4_layPiece 42 = .ok (.aload_n 0, 1) := by decide +kernel
theorem dX4_layPiece_43 : decode cX4_layPiece 43 = .ok (.lload 5, 2) := by decide +kernel
theorem dX4_layPiece_45 : decode cX4_layPiece 45 = .ok (.iload_n 1, 1) := by decide +kernel
theorem dX4_layPiece_46 : decode cX4_layPiece 46 = .ok (.iload 7, 2) := by decide +kernel
theorem dX4_layPiece_48 : decode cX4_layPiece 48 = .ok (.iload_n 2, 1) := by decide +kernel
theorem dX4_layPiece_49 : decode cX4_layPiece 49 = .ok (.invokevirtual 154, 3) := by decide +kernel
theorem dX4_layPiece_52 : decode cX4_layPiece 52 = .ok (.istore 8, 2) := by decide +kernel
theorem dX4_layPiece_54 : decode cX4_layPiece 54 = .ok (.iload 8, 2) := by decide +kernel
theorem dX4_layPiece_56 : decode cX4_layPiece 56 = .ok (.ifCond .le 32, 3) := by decide +kernel
theorem dX4_layPiece_59 : decode cX4_layPiece 59 = .ok (.aload 4, 2) := by decide +kernel
theorem dX4_layPiece_61 : decode cX4_layPiece 61 = .ok (.iload 7, 2) := by decide +kernel
theorem dX4_layPiece_63 : decode cX4_layPiece 63 = .ok (.putfield 104, 3) := by decide +kernel
theorem dX4_layPiece_66 : decode cX4_layPiece 66 = .ok (.aload 4, 2) := by decide +kernel
theorem dX4_layPiece_68 : decode cX4_layPiece 68 = .ok (.iload 8, 2) := by decide +kernel
theorem dX4_layPiece_70 : decode cX4_layPiece 70 = .ok (.putfield 107, 3) := by decide +kernel
theorem dX4_layPiece_73 : decode cX4_layPiece 73 = .ok (.aload 4, 2) := by decide +kernel
theorem dX4_layPiece_75 : decode cX4_layPiece 75 = .ok (.aload_n 0, 1) := by decide +kernel
theorem dX4_layPiece_76 : decode cX4_layPiece 76 = .ok (.getfield 53, 3) := by decide +kernel
theorem dX4_layPiece_79 : decode cX4_layPiece 79 = .ok (.iload_n 2, 1) := by decide +kernel
theorem dX4_layPiece_80 : decode cX4_layPiece 80 = .ok (.isub, 1) := by decide +kernel
theorem dX4_layPiece_81 : decode cX4_layPiece 81 = .ok (.iload 8, 2) := by decide +kernel
theorem dX4_layPiece_83 : decode cX4_layPiece 83 = .ok (.isub, 1) := by decide +kernel
theorem dX4_layPiece_84 : decode cX4_layPiece 84 = .ok (.putfield 110, 3) := by decide +kernel
theorem dX4_layPiece_87 : decode cX4_layPiece 87 = .ok (.return_, 1) := by decide +kernel
theorem dX4_layPiece_88 : decode cX4_layPiece 88 = .ok (.iinc 7 1, 3) := by decide +kernel
theorem dX4_layPiece_91 : decode cX4_layPiece 91 = .ok (.goto (-61), 3) := by decide +kernel
theorem dX4_layPiece_94 : decode cX4_layPiece 94 = .ok (.return_, 1) := by decide +kernel
theorem dX4_fallThatCosts_0 : decode cX4_fallThatCosts 0 = .ok (.aload_n 0, 1) := by decide +kernel
theorem dX4_fallThatCosts_1 : decode cX4_fallThatCosts 1 = .ok (.iload_n 3, 1) := by decide +kernel
theorem dX4_fallThatCosts_2 : decode cX4_fallThatCosts 2 = .ok (.iload 4, 2) := by decide +kernel
theorem dX4_fallThatCosts_4 : decode cX4_fallThatCosts 4 = .ok (.iload 5, 2) := by decide +kernel
theorem dX4_fallThatCosts_6 : decode cX4_fallThatCosts 6 = .ok (.invokevirtual 127, 3) := by decide +kernel
theorem dX4_fallThatCosts_9 : decode cX4_fallThatCosts 9 = .ok (.ifCond .ne 5, 3) := by decide +kernel
theorem dX4_fallThatCosts_12 : decode cX4_fallThatCosts 12 = .ok (.iconst 0, 1) := by decide +kernel
theorem dX4_fallThatCosts_13 : decode cX4_fallThatCosts 13 = .ok (.ireturn, 1) := by decide +kernel
theorem dX4_fallThatCosts_14 : decode cX4_fallThatCosts 14 = .ok (.aload_n 0, 1) := by decide +kernel
theorem dX4_fallThatCosts_15 : decode cX4_fallThatCosts 15 = .ok (.iload_n 3, 1) := by decide +kernel
theorem dX4_fallThatCosts_16 : decode cX4_fallThatCosts 16 = .ok (.iload 4, 2) := by decide +kernel
theorem dX4_fallThatCosts_18 : decode cX4_fallThatCosts 18 = .ok (.invokevirtual 113, 3) := by decide +kernel
theorem dX4_fallThatCosts_21 : decode cX4_fallThatCosts 21 = .ok (.istore 6, 2) := by decide +kernel
theorem dX4_fallThatCosts_23 : decode cX4_fallThatCosts 23 = .ok (.iload 6, 2) := by decide +kernel
theorem dX4_fallThatCosts_25 : decode cX4_fallThatCosts 25 = .ok (.bipush 40, 2) := by decide +kernel
theorem dX4_fallThatCosts_27 : decode cX4_fallThatCosts 27 = .ok (.if_icmp .gt 29, 3) := by decide +kernel
theorem dX4_fallThatCosts_30 : decode cX4_fallThatCosts 30 = .ok (.aload_n 0, 1) := by decide +kernel
theorem dX4_fallThatCosts_31 : decode cX4_fallThatCosts 31 = .ok (.iload_n 3, 1) := by decide +kernel
theorem dX4_fallThatCosts_32 : decode cX4_fallThatCosts 32 = .ok (.iload 4, 2) := by decide +kernel
theorem dX4_fallThatCosts_34 : decode cX4_fallThatCosts 34 = .ok (.iload 5, 2) := by decide +kernel
theorem dX4_fallThatCosts_36 : decode cX4_fallThatCosts 36 = .ok (.iload 6, 2) := by decide +kernel
theorem dX4_fallThatCosts_38 : decode cX4_fallThatCosts 38 = .ok (.iadd, 1) := by decide +kernel
theorem dX4_fallThatCosts_39 : decode cX4_fallThatCosts 39 = .ok (.invokevirtual 136, 3) := by decide +kernel
theorem dX4_fallThatCosts_42 : decode cX4_fallThatCosts 42 = .ok (.lload_n 1, 1) := by decide +kernel
theorem dX4_fallThatCosts_43 : decode cX4_fallThatCosts 43 = .ok (.lcmp, 1) := by decide +kernel
theorem dX4_fallThatCosts_44 : decode cX4_fallThatCosts 44 = .ok (.ifCond .ne 6, 3) := by decide +kernel
theorem dX4_fallThatCosts_47 : decode cX4_fallThatCosts 47 = .ok (.iload 6, 2) := by decide +kernel
theorem dX4_fallThatCosts_49 : decode cX4_fallThatCosts 49 = .ok (.ireturn, 1) := by decide +kernel
theorem dX4_fallThatCosts_50 : decode cX4_fallThatCosts 50 = .ok (.iinc 6 1, 3) := by decide +kernel
theorem dX4_fallThatCosts_53 : decode cX4_fallThatCosts 53 = .ok (.goto (-30), 3) := by decide +kernel
theorem dX4_fallThatCosts_56 : decode cX4_fallThatCosts 56 = .ok (.iconst 0, 1) := by decide +kernel
theorem dX4_fallThatCosts_57 : decode cX4_fallThatCosts 57 = .ok (.ireturn, 1) := by decide +kernel
theorem dX5_init_0 : decode cX5_init 0 = .ok (.aload_n 0, 1) := by decide +kernel
theorem dX5_init_1 : decode cX5_init 1 = .ok (.invokespecial 3, 3) := by decide +kernel
theorem dX5_init_4 : decode cX5_init 4 = .ok (.aload_n 0, 1) := by decide +kernel
theorem dX5_init_5 : decode cX5_init 5 = .ok (.iconst (-1), 1) := by decide +kernel
theorem dX5_init_6 : decode cX5_init 6 = .ok (.putfield 9, 3) := by decide +kernel
theorem dX5_init_9 : decode cX5_init 9 = .ok (.aload_n 0, 1) := by decide +kernel
theorem dX5_init_10 : decode cX5_init 10 = .ok (.iload_n 2, 1) := by decide +kernel
theorem dX5_init_11 : decode cX5_init 11 = .ok (.putfield 15, 3) := by decide +kernel
theorem dX5_init_14 : decode cX5_init 14 = .ok (.aload_n 0, 1) := by decide +kernel
theorem dX5_init_15 : decode cX5_init 15 = .ok (.iload_n 3, 1) := by decide +kernel
theorem dX5_init_16 : decode cX5_init 16 = .ok (.putfield 18, 3) := by decide +kernel
theorem dX5_init_19 : decode cX5_init 19 = .ok (.aload_n 0, 1) := by decide +kernel
theorem dX5_init_20 : decode cX5_init 20 = .ok (.iload_n 3, 1) := by decide +kernel
theorem dX5_init_21 : decode cX5_init 21 = .ok (.i2l, 1) := by decide +kernel
theorem dX5_init_22 : decode cX5_init 22 = .ok (.iload_n 1, 1) := by decide +kernel
theorem dX5_init_23 : decode cX5_init 23 = .ok (.iload_n 2, 1) := by decide +kernel
theorem dX5_init_24 : decode cX5_init 24 = .ok (.isub, 1) := by decide +kernel
theorem dX5_init_25 : decode cX5_init 25 = .ok (.i2l, 1) := by decide +kernel
theorem dX5_init_26 : decode cX5_init 26 = .ok (.lmul, 1) := by decide +kernel
theorem dX5_init_27 : decode cX5_init 27 = .ok (.putfield 21, 3) := by decide +kernel
theorem dX5_init_30 : decode cX5_init 30 = .ok (.return_, 1) := by decide +kernel
theorem dX5_levelNow_0 : decode cX5_levelNow 0 = .ok (.aload_n 0, 1) := by decide +kernel
theorem dX5_levelNow_1 : decode cX5_levelNow 1 = .ok (.getfield 15, 3) := by decide +kernel
theorem dX5_levelNow_4 : decode cX5_levelNow 4 = .ok (.i2l, 1) := by decide +kernel
theorem dX5_levelNow_5 : decode cX5_levelNow 5 = .ok (.aload_n 0, 1) := by decide +kernel
theorem dX5_levelNow_6 : decode cX5_levelNow 6 = .ok (.getfield 25, 3) := by decide +kernel
theorem dX5_levelNow_9 : decode cX5_levelNow 9 = .ok (.aload_n 0, 1) := by decide +kernel
theorem dX5_levelNow_10 : decode cX5_levelNow 10 = .ok (.getfield 18, 3) := by decide +kernel
theorem dX5_levelNow_13 : decode cX5_levelNow 13 = .ok (.i2l, 1) := by decide +kernel
theorem dX5_levelNow_14 : decode cX5_levelNow 14 = .ok (.ldiv, 1) := by decide +kernel
theorem dX5_levelNow_15 : decode cX5_levelNow 15 = .ok (.ladd, 1) := by decide +kernel
theorem dX5_levelNow_16 : decode cX5_levelNow 16 = .ok (.lreturn, 1) := by decide +kernel
theorem dX5_markLevel_0 : decode cX5_markLevel 0 = .ok (.aload_n 0, 1) := by decide +kernel
theorem dX5_markLevel_1 : decode cX5_markLevel 1 = .ok (.aload_n 0, 1) := by decide +kernel
theorem dX5_markLevel_2 : decode cX5_markLevel 2 = .ok (.invokevirtual 28, 3) := by decide +kernel
theorem dX5_markLevel_5 : decode cX5_markLevel 5 = .ok (.putfield 32, 3) := by decide +kernel
theorem dX5_markLevel_8 : decode cX5_markLevel 8 = .ok (.return_, 1) := by decide +kernel
theorem dX5_giveTo_0 : decode cX5_giveTo 0 = .ok (.lload_n 2, 1) := by decide +kernel
theorem dX5_giveTo_1 : decode cX5_giveTo 1 = .ok (.aload_n 0, 1) := by decide +kernel
theorem dX5_giveTo_2 : decode cX5_giveTo 2 = .ok (.getfield 25, 3) := by decide +kernel
theorem dX5_giveTo_5 : decode cX5_giveTo 5 = .ok (.invokestatic 35, 3) := by decide +kernel
theorem dX5_giveTo_8 : decode cX5_giveTo 8 = .ok (.lstore 4, 2) := by decide +kernel
theorem dX5_giveTo_10 : decode cX5_giveTo 10 = .ok (.aload_n 0, 1) := by decide +kernel
theorem dX5_giveTo_11 : decode cX5_giveTo 11 = .ok (.dup, 1) := by decide +kernel
theorem dX5_giveTo_12 : decode cX5_giveTo 12 = .ok (.getfield 25, 3) := by decide +kernel
theorem dX5_giveTo_15 : decode cX5_giveTo 15 = .ok (.lload 4, 2) := by decide +kernel
theorem dX5_giveTo_17 : decode cX5_giveTo 17 = .ok (.lsub, 1) := by decide +kernel
theorem dX5_giveTo_18 : decode cX5_giveTo 18 = .ok (.putfield 25, 3) := by decide +kernel
theorem dX5_giveTo_21 : decode cX5_giveTo 21 = .ok (.aload_n 1, 1) := by decide +kernel
theorem dX5_giveTo_22 : decode cX5_giveTo 22 = .ok (.dup, 1) := by decide +kernel
theorem dX5_giveTo_23 : decode cX5_giveTo 23 = .ok (.getfield 25, 3) := by decide +kernel
theorem dX5_giveTo_26 : decode cX5_giveTo 26 = .ok (.lload 4, 2) := by decide +kernel
theorem dX5_giveTo_28 : decode cX5_giveTo 28 = .ok (.ladd, 1) := by decide +kernel
theorem dX5_giveTo_29 : decode cX5_giveTo 29 = .ok (.putfield 25, 3) := by decide +kernel
theorem dX5_giveTo_32 : decode cX5_giveTo 32 = .ok (.lload 4, 2) := by decide +kernel
theorem dX5_giveTo_34 : decode cX5_giveTo 34 = .ok (.lreturn, 1) := by decide +kernel
theorem dX5_spill_0 : decode cX5_spill 0 = .ok (.lconst 0, 1) := by decide +kernel
theorem dX5_spill_1 : decode cX5_spill 1 = .ok (.aload_n 0, 1) := by decide +kernel
theorem dX5_spill_2 : decode cX5_spill 2 = .ok (.getfield 25, 3) := by decide +kernel
theorem dX5_spill_5 : decode cX5_spill 5 = .ok (.aload_n 0, 1) := by decide +kernel
theorem dX5_spill_6 : decode cX5_spill 6 = .ok (.getfield 21, 3) := by decide +kernel
theorem dX5_spill_9 : decode cX5_spill 9 = .ok (.lsub, 1) := by decide +kernel
theorem dX5_spill_10 : decode cX5_spill 10 = .ok (.invokestatic 41, 3) := by decide +kernel
theorem dX5_spill_13 : decode cX5_spill 13 = .ok (.lstore_n 1, 1) := by decide +kernel
theorem dX5_spill_14 : decode cX5_spill 14 = .ok (.aload_n 0, 1) := by decide +kernel
theorem dX5_spill_15 : decode cX5_spill 15 = .ok (.dup, 1) := by decide +kernel
theorem dX5_spill_16 : decode cX5_spill 16 = .ok (.getfield 25, 3) := by decide +kernel
theorem dX5_spill_19 : decode cX5_spill 19 = .ok (.lload_n 1, 1) := by decide +kernel
theorem dX5_spill_20 : decode cX5_spill 20 = .ok (.lsub, 1) := by decide +kernel
theorem dX5_spill_21 : decode cX5_spill 21 = .ok (.putfield 25, 3) := by decide +kernel
theorem dX5_spill_24 : decode cX5_spill 24 = .ok (.aload_n 0, 1) := by decide +kernel
theorem dX5_spill_25 : decode cX5_spill 25 = .ok (.dup, 1) := by decide +kernel
theorem dX5_spill_26 : decode cX5_spill 26 = .ok (.getfield 44, 3) := by decide +kernel
theorem dX5_spill_29 : decode cX5_spill 29 = .ok (.lload_n 1, 1) := by decide +kernel
theorem dX5_spill_30 : decode cX5_spill 30 = .ok (.ladd, 1) := by decide +kernel
theorem dX5_spill_31 : decode cX5_spill 31 = .ok (.putfield 44, 3) := by decide +kernel
theorem dX5_spill_34 : decode cX5_spill 34 = .ok (.lload_n 1, 1) := by decide +kernel
theorem dX5_spill_35 : decode cX5_spill 35 = .ok (.lreturn, 1) := by decide +kernel
theorem dX6_init_0 : decode cX6_init 0 = .ok (.aload_n 0, 1) := by decide +kernel
theorem dX6_init_1 : decode cX6_init 1 = .ok (.invokespecial 3, 3) := by decide +kernel
theorem dX6_init_4 : decode cX6_init 4 = .ok (.aload_n 0, 1) := by decide +kernel
theorem dX6_init_5 : decode cX6_init 5 = .ok (.iload_n 1, 1) := by decide +kernel
theorem dX6_init_6 : decode cX6_init 6 = .ok (.bipush 40, 2) := by decide +kernel
theorem dX6_init_8 : decode cX6_init 8 = .ok (.imul, 1) := by decide +kernel
theorem dX6_init_9 : decode cX6_init 9 = .ok (.iconst 1, 1) := by decide +kernel
theorem dX6_init_10 : decode cX6_init 10 = .ok (.iadd, 1) := by decide +kernel
theorem dX6_init_11 : decode cX6_init 11 = .ok (.bipush 6, 2) := by decide +kernel
theorem dX6_init_13 : decode cX6_init 13 = .ok (.imul, 1) := by decide +kernel
theorem dX6_init_14 : decode cX6_init 14 = .ok (.newarray .long, 2) := by decide +kernel
theorem dX6_init_16 : decode cX6_init 16 = .ok (.putfield 9, 3) := by decide +kernel
theorem dX6_init_19 : decode cX6_init 19 = .ok (.return_, 1) := by decide +kernel
theorem dX7_init_0 : decode cX7_init 0 = .ok (.aload_n 0, 1) := by decide +kernel
theorem dX7_init_1 : decode cX7_init 1 = .ok (.invokespecial 1, 3) := by decide +kernel
theorem dX7_init_4 : decode cX7_init 4 = .ok (.aload_n 0, 1) := by decide +kernel
theorem dX7_init_5 : decode cX7_init 5 = .ok (.aload_n 1, 1) := by decide +kernel
theorem dX7_init_6 : decode cX7_init 6 = .ok (.putfield 7, 3) := by decide +kernel
theorem dX7_init_9 : decode cX7_init 9 = .ok (.aload_n 0, 1) := by decide +kernel
theorem dX7_init_10 : decode cX7_init 10 = .ok (.aload_n 2, 1) := by decide +kernel
theorem dX7_init_11 : decode cX7_init 11 = .ok (.putfield 13, 3) := by decide +kernel
theorem dX7_init_14 : decode cX7_init 14 = .ok (.aload_n 0, 1) := by decide +kernel
theorem dX7_init_15 : decode cX7_init 15 = .ok (.iload 4, 2) := by decide +kernel
theorem dX7_init_17 : decode cX7_init 17 = .ok (.i2l, 1) := by decide +kernel
theorem dX7_init_18 : decode cX7_init 18 = .ok (.iload 4, 2) := by decide +kernel
theorem dX7_init_20 : decode cX7_init 20 = .ok (.i2l, 1) := by decide +kernel
theorem dX7_init_21 : decode cX7_init 21 = .ok (.lmul, 1) := by decide +kernel
theorem dX7_init_22 : decode cX7_init 22 = .ok (.putfield 16, 3) := by decide +kernel
theorem dX7_init_25 : decode cX7_init 25 = .ok (.aload_n 0, 1) := by decide +kernel
theorem dX7_init_26 : decode cX7_init 26 = .ok (.ldc2_w 20, 3) := by decide +kernel
theorem dX7_init_29 : decode cX7_init 29 = .ok (.iload_n 3, 1) := by decide +kernel
theorem dX7_init_30 : decode cX7_init 30 = .ok (.i2l, 1) := by decide +kernel
theorem dX7_init_31 : decode cX7_init 31 = .ok (.lmul, 1) := by decide +kernel
theorem dX7_init_32 : decode cX7_init 32 = .ok (.putfield 22, 3) := by decide +kernel
theorem dX7_init_35 : decode cX7_init 35 = .ok (.return_, 1) := by decide +kernel
theorem dX7_carry_0 : decode cX7_carry 0 = .ok (.aload_n 0, 1) := by decide +kernel
theorem dX7_carry_1 : decode cX7_carry 1 = .ok (.dup, 1) := by decide +kernel
theorem dX7_carry_2 : decode cX7_carry 2 = .ok (.getfield 25, 3) := by decide +kernel
theorem dX7_carry_5 : decode cX7_carry 5 = .ok (.aload_n 0, 1) := by decide +kernel
theorem dX7_carry_6 : decode cX7_carry 6 = .ok (.getfield 16, 3) := by decide +kernel
theorem dX7_carry_9 : decode cX7_carry 9 = .ok (.aload_n 0, 1) := by decide +kernel
theorem dX7_carry_10 : decode cX7_carry 10 = .ok (.getfield 7, 3) := by decide +kernel
theorem dX7_carry_13 : decode cX7_carry 13 = .ok (.getfield 28, 3) := by decide +kernel
theorem dX7_carry_16 : decode cX7_carry 16 = .ok (.aload_n 0, 1) := by decide +kernel
theorem dX7_carry_17 : decode cX7_carry 17 = .ok (.getfield 13, 3) := by decide +kernel
theorem dX7_carry_20 : decode cX7_carry 20 = .ok (.getfield 28, 3) := by decide +kernel
theorem dX7_carry_23 : decode cX7_carry 23 = .ok (.lsub, 1) := by decide +kernel
theorem dX7_carry_24 : decode cX7_carry 24 = .ok (.lmul, 1) := by decide +kernel
theorem dX7_carry_25 : decode cX7_carry 25 = .ok (.ladd, 1) := by decide +kernel
theorem dX7_carry_26 : decode cX7_carry 26 = .ok (.putfield 25, 3) := by decide +kernel
theorem dX7_carry_29 : decode cX7_carry 29 = .ok (.aload_n 0, 1) := by decide +kernel
theorem dX7_carry_30 : decode cX7_carry 30 = .ok (.getfield 25, 3) := by decide +kernel
theorem dX7_carry_33 : decode cX7_carry 33 = .ok (.aload_n 0, 1) := by decide +kernel
theorem dX7_carry_34 : decode cX7_carry 34 = .ok (.getfield 22, 3) := by decide +kernel
theorem dX7_carry_37 : decode cX7_carry 37 = .ok (.ldiv, 1) := by decide +kernel
theorem dX7_carry_38 : decode cX7_carry 38 = .ok (.lstore_n 1, 1) := by decide +kernel
theorem dX7_carry_39 : decode cX7_carry 39 = .ok (.aload_n 0, 1) := by decide +kernel
theorem dX7_carry_40 : decode cX7_carry 40 = .ok (.dup, 1) := by decide +kernel
theorem dX7_carry_41 : decode cX7_carry 41 = .ok (.getfield 25, 3) := by decide +kernel
theorem dX7_carry_44 : decode cX7_carry 44 = .ok (.aload_n 0, 1) := by decide +kernel
theorem dX7_carry_45 : decode cX7_carry 45 = .ok (.getfield 22, 3) := by decide +kernel
theorem dX7_carry_48 : decode cX7_carry 48 = .ok (.lrem, 1) := by decide +kernel
theorem dX7_carry_49 : decode cX7_carry 49 = .ok (.putfield 25, 3) := by decide +kernel
theorem dX7_carry_52 : decode cX7_carry 52 = .ok (.aload_n 0, 1) := by decide +kernel
theorem dX7_carry_53 : decode cX7_carry 53 = .ok (.lload_n 1, 1) := by decide +kernel
theorem dX7_carry_54 : decode cX7_carry 54 = .ok (.lconst 0, 1) := by decide +kernel
theorem dX7_carry_55 : decode cX7_carry 55 = .ok (.lcmp, 1) := by decide +kernel
theorem dX7_carry_56 : decode cX7_carry 56 = .ok (.ifCond .lt 18, 3) := by decide +kernel
theorem dX7_carry_59 : decode cX7_carry 59 = .ok (.aload_n 0, 1) := by decide +kernel
theorem dX7_carry_60 : decode cX7_carry 60 = .ok (.getfield 7, 3) := by decide +kernel
theorem dX7_carry_63 : decode cX7_carry 63 = .ok (.aload_n 0, 1) := by decide +kernel
theorem dX7_carry_64 : decode cX7_carry 64 = .ok (.getfield 13, 3) := by decide +kernel
theorem dX7_carry_67 : decode cX7_carry 67 = .ok (.lload_n 1, 1) := by decide +kernel
theorem dX7_carry_68 : decode cX7_carry 68 = .ok (.invokevirtual 33, 3) := by decide +kernel
theorem dX7_carry_71 : decode cX7_carry 71 = .ok (.goto 17, 3) := by decide +kernel
theorem dX7_carry_74 : decode cX7_carry 74 = .ok (.aload_n 0, 1) := by decide +kernel
theorem dX7_carry_75 : decode cX7_carry 75 = .ok (.getfield 13, 3) := by decide +kernel
theorem dX7_carry_78 : decode cX7_carry 78 = .ok (.aload_n 0, 1) := by decide +kernel
theorem dX7_carry_79 : decode cX7_carry 79 = .ok (.getfield 7, 3) := by decide +kernel
theorem dX7_carry_82 : decode cX7_carry 82 = .ok (.lload_n 1, 1) := by decide +kernel
theorem dX7_carry_83 : decode cX7_carry 83 = .ok (.lneg, 1) := by decide +kernel
theorem dX7_carry_84 : decode cX7_carry 84 = .ok (.invokevirtual 33, 3) := by decide +kernel
theorem dX7_carry_87 : decode cX7_carry 87 = .ok (.lneg, 1) := by decide +kernel
theorem dX7_carry_88 : decode cX7_carry 88 = .ok (.putfield 37, 3) := by decide +kernel
theorem dX7_carry_91 : decode cX7_carry 91 = .ok (.aload_n 0, 1) := by decide +kernel
theorem dX7_carry_92 : decode cX7_carry 92 = .ok (.dup, 1) := by decide +kernel
theorem dX7_carry_93 : decode cX7_carry 93 = .ok (.getfield 40, 3) := by decide +kernel
theorem dX7_carry_96 : decode cX7_carry 96 = .ok (.aload_n 0, 1) := by decide +kernel
theorem dX7_carry_97 : decode cX7_carry 97 = .ok (.getfield 37, 3) := by decide +kernel
theorem dX7_carry_100 : decode cX7_carry 100 = .ok (.ladd, 1) := by decide +kernel
theorem dX7_carry_101 : decode cX7_carry 101 = .ok (.putfield 40, 3) := by decide +kernel
theorem dX7_carry_104 : decode cX7_carry 104 = .ok (.return_, 1) := by decide +kernel
theorem dX8_init_0 : decode cX8_init 0 = .ok (.aload_n 0, 1) := by decide +kernel
theorem dX8_init_1 : decode cX8_init 1 = .ok (.invokespecial 1, 3) := by decide +kernel
theorem dX8_init_4 : decode cX8_init 4 = .ok (.aload_n 0, 1) := by decide +kernel
theorem dX8_init_5 : decode cX8_init 5 = .ok (.aload_n 1, 1) := by decide +kernel
theorem dX8_init_6 : decode cX8_init 6 = .ok (.putfield 7, 3) := by decide +kernel
theorem dX8_init_9 : decode cX8_init 9 = .ok (.aload_n 0, 1) := by decide +kernel
theorem dX8_init_10 : decode cX8_init 10 = .ok (.aload_n 2, 1) := by decide +kernel
theorem dX8_init_11 : decode cX8_init 11 = .ok (.putfield 13, 3) := by decide +kernel
theorem dX8_init_14 : decode cX8_init 14 = .ok (.aload_n 0, 1) := by decide +kernel
theorem dX8_init_15 : decode cX8_init 15 = .ok (.iload_n 3, 1) := by decide +kernel
theorem dX8_init_16 : decode cX8_init 16 = .ok (.putfield 16, 3) := by decide +kernel
theorem dX8_init_19 : decode cX8_init 19 = .ok (.aload_n 0, 1) := by decide +kernel
theorem dX8_init_20 : decode cX8_init 20 = .ok (.iload 4, 2) := by decide +kernel
theorem dX8_init_22 : decode cX8_init 22 = .ok (.putfield 20, 3) := by decide +kernel
theorem dX8_init_25 : decode cX8_init 25 = .ok (.aload_n 0, 1) := by decide +kernel
theorem dX8_init_26 : decode cX8_init 26 = .ok (.iload 5, 2) := by decide +kernel
theorem dX8_init_28 : decode cX8_init 28 = .ok (.putfield 23, 3) := by decide +kernel
theorem dX8_init_31 : decode cX8_init 31 = .ok (.return_, 1) := by decide +kernel
theorem dX8_lift_0 : decode cX8_lift 0 = .ok (.aload_n 0, 1) := by decide +kernel
theorem dX8_lift_1 : decode cX8_lift 1 = .ok (.getfield 7, 3) := by decide +kernel
theorem dX8_lift_4 : decode cX8_lift 4 = .ok (.invokevirtual 26, 3) := by decide +kernel
theorem dX8_lift_7 : decode cX8_lift 7 = .ok (.lstore_n 1, 1) := by decide +kernel
theorem dX8_lift_8 : decode cX8_lift 8 = .ok (.lload_n 1, 1) := by decide +kernel
theorem dX8_lift_9 : decode cX8_lift 9 = .ok (.aload_n 0, 1) := by decide +kernel
theorem dX8_lift_10 : decode cX8_lift 10 = .ok (.getfield 16, 3) := by decide +kernel
theorem dX8_lift_13 : decode cX8_lift 13 = .ok (.i2l, 1) := by decide +kernel
theorem dX8_lift_14 : decode cX8_lift 14 = .ok (.lcmp, 1) := by decide +kernel
theorem dX8_lift_15 : decode cX8_lift 15 = .ok (.ifCond .lt 11, 3) := by decide +kernel
theorem dX8_lift_18 : decode cX8_lift 18 = .ok (.aload_n 0, 1) := by decide +kernel
theorem dX8_lift_19 : decode cX8_lift 19 = .ok (.iconst 1, 1) := by decide +kernel
theorem dX8_lift_20 : decode cX8_lift 20 = .ok (.putfield 32, 3) := by decide +kernel
theorem dX8_lift_23 : decode cX8_lift 23 = .ok (.goto 18, 3) := by decide +kernel
theorem dX8_lift_26 : decode cX8_lift 26 = .ok (.lload_n 1, 1) := by decide +kernel
theorem dX8_lift_27 : decode cX8_lift 27 = .ok (.aload_n 0, 1) := by decide +kernel
theorem dX8_lift_28 : decode cX8_lift 28 = .ok (.getfield 20, 3) := by decide +kernel
theorem dX8_lift_31 : decode cX8_lift 31 = .ok (.i2l, 1) := by decide +kernel
theorem dX8_lift_32 : decode cX8_lift 32 = .ok (.lcmp, 1) := by decide +kernel
theorem dX8_lift_33 : decode cX8_lift 33 = .ok (.ifCond .gt 8, 3) := by decide +kernel
theorem dX8_lift_36 : decode cX8_lift 36 = .ok (.aload_n 0, 1) := by decide +kernel
theorem dX8_lift_37 : decode cX8_lift 37 = .ok (.iconst 0, 1) := by decide +kernel
theorem dX8_lift_38 : decode cX8_lift 38 = .ok (.putfield 32, 3) := by decide +kernel
theorem dX8_lift_41 : decode cX8_lift 41 = .ok (.aload_n 0, 1) := by decide +kernel
theorem dX8_lift_42 : decode cX8_lift 42 = .ok (.getfield 32, 3) := by decide +kernel
theorem dX8_lift_45 : decode cX8_lift 45 = .ok (.ifCond .eq 20, 3) := by decide +kernel
theorem dX8_lift_48 : decode cX8_lift 48 = .ok (.aload_n 0, 1) := by decide +kernel
theorem dX8_lift_49 : decode cX8_lift 49 = .ok (.getfield 7, 3) := by decide +kernel
theorem dX8_lift_52 : decode cX8_lift 52 = .ok (.aload_n 0, 1) := by decide +kernel
theorem dX8_lift_53 : decode cX8_lift 53 = .ok (.getfield 13, 3) := by decide +kernel
theorem dX8_lift_56 : decode cX8_lift 56 = .ok (.aload_n 0, 1) := by decide +kernel
theorem dX8_lift_57 : decode cX8_lift 57 = .ok (.getfield 23, 3) := by decide +kernel
theorem dX8_lift_60 : decode cX8_lift 60 = .ok (.i2l, 1) := by decide +kernel
theorem dX8_lift_61 : decode cX8_lift 61 = .ok (.invokevirtual 36, 3) := by decide +kernel
theorem dX8_lift_64 : decode cX8_lift 64 = .ok (.pop2, 1) := by decide +kernel
theorem dX8_lift_65 : decode cX8_lift 65 = .ok (.return_, 1) := by decide +kernel
theorem dX9_init_0 : decode cX9_init 0 = .ok (.aload_n 0, 1) := by decide +kernel
theorem dX9_init_1 : decode cX9_init 1 = .ok (.invokespecial 1, 3) := by decide +kernel
theorem dX9_init_4 : decode cX9_init 4 = .ok (.aload_n 0, 1) := by decide +kernel
theorem dX9_init_5 : decode cX9_init 5 = .ok (.new 7, 3) := by decide +kernel
theorem dX9_init_8 : decode cX9_init 8 = .ok (.dup, 1) := by decide +kernel
theorem dX9_init_9 : decode cX9_init 9 = .ok (.invokespecial 9, 3) := by decide +kernel
theorem dX9_init_12 : decode cX9_init 12 = .ok (.putfield 10, 3) := by decide +kernel
theorem dX9_init_15 : decode cX9_init 15 = .ok (.aload_n 0, 1) := by decide +kernel
theorem dX9_init_16 : decode cX9_init 16 = .ok (.new 7, 3) := by decide +kernel
theorem dX9_init_19 : decode cX9_init 19 = .ok (.dup, 1) := by decide +kernel
theorem dX9_init_20 : decode cX9_init 20 = .ok (.invokespecial 9, 3) := by decide +kernel
theorem dX9_init_23 : decode cX9_init 23 = .ok (.putfield 16, 3) := by decide +kernel
theorem dX9_init_26 : decode cX9_init 26 = .ok (.aload_n 0, 1) := by decide +kernel
theorem dX9_init_27 : decode cX9_init 27 = .ok (.new 7, 3) := by decide +kernel
theorem dX9_init_30 : decode cX9_init 30 = .ok (.dup, 1) := by decide +kernel
theorem dX9_init_31 : decode cX9_init 31 = .ok (.invokespecial 9, 3) := by decide +kernel
theorem dX9_init_34 : decode cX9_init 34 = .ok (.putfield 19, 3) := by decide +kernel
theorem dX9_init_37 : decode cX9_init 37 = .ok (.aload_n 0, 1) := by decide +kernel
theorem dX9_init_38 : decode cX9_init 38 = .ok (.new 7, 3) := by decide +kernel
theorem dX9_init_41 : decode cX9_init 41 = .ok (.dup, 1) := by decide +kernel
theorem dX9_init_42 : decode cX9_init 42 = .ok (.invokespecial 9, 3) := by decide +kernel
theorem dX9_init_45 : decode cX9_init 45 = .ok (.putfield 22, 3) := by decide +kernel
theorem dX9_init_48 : decode cX9_init 48 = .ok (.aload_n 0, 1) := by decide +kernel
theorem dX9_init_49 : decode cX9_init 49 = .ok (.new 7, 3) := by decide +kernel
theorem dX9_init_52 : decode cX9_init 52 = .ok (.dup, 1) := by decide +kernel
theorem dX9_init_53 : decode cX9_init 53 = .ok (.invokespecial 9, 3) := by decide +kernel
theorem dX9_init_56 : decode cX9_init 56 = .ok (.putfield 25, 3) := by decide +kernel
theorem dX9_init_59 : decode cX9_init 59 = .ok (.aload_n 0, 1) := by decide +kernel
theorem dX9_init_60 : decode cX9_init 60 = .ok (.new 7, 3) := by decide +kernel
theorem dX9_init_63 : decode cX9_init 63 = .ok (.dup, 1) := by decide +kernel
theorem dX9_init_64 : decode cX9_init 64 = .ok (.invokespecial 9, 3) := by decide +kernel
theorem dX9_init_67 : decode cX9_init 67 = .ok (.putfield 28, 3) := by decide +kernel
theorem dX9_init_70 : decode cX9_init 70 = .ok (.aload_n 0, 1) := by decide +kernel
theorem dX9_init_71 : decode cX9_init 71 = .ok (.sipush 1440, 3) := by decide +kernel
theorem dX9_init_74 : decode cX9_init 74 = .ok (.newarray .int, 2) := by decide +kernel
theorem dX9_init_76 : decode cX9_init 76 = .ok (.putfield 31, 3) := by decide +kernel
theorem dX9_init_79 : decode cX9_init 79 = .ok (.aload_n 0, 1) := by decide +kernel
theorem dX9_init_80 : decode cX9_init 80 = .ok (.bipush 8, 2) := by decide +kernel
theorem dX9_init_82 : decode cX9_init 82 = .ok (.newarray .long, 2) := by decide +kernel
theorem dX9_init_84 : decode cX9_init 84 = .ok (.putfield 35, 3) := by decide +kernel
theorem dX9_init_87 : decode cX9_init 87 = .ok (.aload_n 0, 1) := by decide +kernel
theorem dX9_init_88 : decode cX9_init 88 = .ok (.new 39, 3) := by decide +kernel
theorem dX9_init_91 : decode cX9_init 91 = .ok (.dup, 1) := by decide +kernel
theorem dX9_init_92 : decode cX9_init 92 = .ok (.invokespecial 41, 3) := by decide +kernel
theorem dX9_init_95 : decode cX9_init 95 = .ok (.putfield 42, 3) := by decide +kernel
theorem dX9_init_98 : decode cX9_init 98 = .ok (.aload_n 0, 1) := by decide +kernel
theorem dX9_init_99 : decode cX9_init 99 = .ok (.iconst 1, 1) := by decide +kernel
theorem dX9_init_100 : decode cX9_init 100 = .ok (.bipush 24, 2) := by decide +kernel
theorem dX9_init_102 : decode cX9_init 102 = .ok (.iload_n 1, 1) := by decide +kernel
theorem dX9_init_103 : decode cX9_init 103 = .ok (.invokestatic 46, 3) := by decide +kernel
theorem dX9_init_106 : decode cX9_init 106 = .ok (.invokestatic 52, 3) := by decide +kernel
theorem dX9_init_109 : decode cX9_init 109 = .ok (.putfield 55, 3) := by decide +kernel
theorem dX9_init_112 : decode cX9_init 112 = .ok (.return_, 1) := by decide +kernel
theorem dX9_node_0 : decode cX9_node 0 = .ok (.aload_n 0, 1) := by decide +kernel
theorem dX9_node_1 : decode cX9_node 1 = .ok (.getfield 10, 3) := by decide +kernel
theorem dX9_node_4 : decode cX9_node 4 = .ok (.invokevirtual 59, 3) := by decide +kernel
theorem dX9_node_7 : decode cX9_node 7 = .ok (.aload_n 0, 1) := by decide +kernel
theorem dX9_node_8 : decode cX9_node 8 = .ok (.getfield 55, 3) := by decide +kernel
theorem dX9_node_11 : decode cX9_node 11 = .ok (.if_icmp .ge 17, 3) := by decide +kernel
theorem dX9_node_14 : decode cX9_node 14 = .ok (.iload_n 1, 1) := by decide +kernel
theorem dX9_node_15 : decode cX9_node 15 = .ok (.invokestatic 63, 3) := by decide +kernel
theorem dX9_node_18 : decode cX9_node 18 = .ok (.ifCond .eq 10, 3) := by decide +kernel
theorem dX9_node_21 : decode cX9_node 21 = .ok (.iload_n 2, 1) := by decide +kernel
theorem dX9_node_22 : decode cX9_node 22 = .ok (.invokestatic 63, 3) := by decide +kernel
theorem dX9_node_25 : decode cX9_node 25 = .ok (.ifCond .ne 5, 3) := by decide +kernel
theorem dX9_node_28 : decode cX9_node 28 = .ok (.iconst (-1), 1) := by decide +kernel
theorem dX9_node_29 : decode cX9_node 29 = .ok (.ireturn, 1) := by decide +kernel
theorem dX9_node_30 : decode cX9_node 30 = .ok (.iload_n 2, 1) := by decide +kernel
theorem dX9_node_31 : decode cX9_node 31 = .ok (.iload_n 1, 1) := by decide +kernel
theorem dX9_node_32 : decode cX9_node 32 = .ok (.if_icmp .ge 13, 3) := by decide +kernel
theorem dX9_node_35 : decode cX9_node 35 = .ok (.iload_n 3, 1) := by decide +kernel
theorem dX9_node_36 : decode cX9_node 36 = .ok (.iconst 1, 1) := by decide +kernel
theorem dX9_node_37 : decode cX9_node 37 = .ok (.ldc 67, 2) := by decide +kernel
theorem dX9_node_39 : decode cX9_node 39 = .ok (.invokestatic 68, 3) := by decide +kernel
theorem dX9_node_42 : decode cX9_node 42 = .ok (.ifCond .ne 5, 3) := by decide +kernel
theorem dX9_node_45 : decode cX9_node 45 = .ok (.iconst (-1), 1) := by decide +kernel
theorem dX9_node_46 : decode cX9_node 46 = .ok (.ireturn, 1) := by decide +kernel
theorem dX9_node_47 : decode cX9_node 47 = .ok (.aload_n 0, 1) := by decide +kernel
theorem dX9_node_48 : decode cX9_node 48 = .ok (.getfield 10, 3) := by decide +kernel
theorem dX9_node_51 : decode cX9_node 51 = .ok (.new 72, 3) := by decide +kernel
theorem dX9_node_54 : decode cX9_node 54 = .ok (.dup, 1) := by decide +kernel
theorem dX9_node_55 : decode cX9_node 55 = .ok (.iload_n 1, 1) := by decide +kernel
theorem dX9_node_56 : decode cX9_node 56 = .ok (.iload_n 2, 1) := by decide +kernel
theorem dX9_node_57 : decode cX9_node 57 = .ok (.iload_n 3, 1) := by decide +kernel
theorem dX9_node_58 : decode cX9_node 58 = .ok (.invokespecial 74, 3) := by decide +kernel
theorem dX9_node_61 : decode cX9_node 61 = .ok (.invokevirtual 77, 3) := by decide +kernel
theorem dX9_node_64 : decode cX9_node 64 = .ok (.pop, 1) := by decide +kernel
theorem dX9_node_65 : decode cX9_node 65 = .ok (.aload_n 0, 1) := by decide +kernel
theorem dX9_node_66 : decode cX9_node 66 = .ok (.getfield 10, 3) := by decide +kernel
theorem dX9_node_69 : decode cX9_node 69 = .ok (.invokevirtual 59, 3) := by decide +kernel
theorem dX9_node_72 : decode cX9_node 72 = .ok (.iconst 1, 1) := by decide +kernel
theorem dX9_node_73 : decode cX9_node 73 = .ok (.isub, 1) := by decide +kernel
theorem dX9_node_74 : decode cX9_node 74 = .ok (.ireturn, 1) := by decide +kernel
theorem dX9_pipe_0 : decode cX9_pipe 0 = .ok (.aload_n 0, 1) := by decide +kernel
theorem dX9_pipe_1 : decode cX9_pipe 1 = .ok (.getfield 16, 3) := by decide +kernel
theorem dX9_pipe_4 : decode cX9_pipe 4 = .ok (.invokevirtual 59, 3) := by decide +kernel
theorem dX9_pipe_7 : decode cX9_pipe 7 = .ok (.bipush 40, 2) := by decide +kernel
theorem dX9_pipe_9 : decode cX9_pipe 9 = .ok (.if_icmp .ge 12, 3) := by decide +kernel
theorem dX9_pipe_12 : decode cX9_pipe 12 = .ok (.aload_n 0, 1) := by decide +kernel
theorem dX9_pipe_13 : decode cX9_pipe 13 = .ok (.iload_n 1, 1) := by decide +kernel
theorem dX9_pipe_14 : decode cX9_pipe 14 = .ok (.iload_n 2, 1) := by decide +kernel
theorem dX9_pipe_15 : decode cX9_pipe 15 = .ok (.invokevirtual 81, 3) := by decide +kernel
theorem dX9_pipe_18 : decode cX9_pipe 18 = .ok (.ifCond .ne 5, 3) := by decide +kernel
theorem dX9_pipe_21 : decode cX9_pipe 21 = .ok (.iconst (-1), 1) := by decide +kernel
theorem dX9_pipe_22 : decode cX9_pipe 22 = .ok (.ireturn, 1) := by decide +kernel
theorem dX9_pipe_23 : decode cX9_pipe 23 = .ok (.iload_n 3, 1) := by decide +kernel
theorem dX9_pipe_24 : decode cX9_pipe 24 = .ok (.iconst 1, 1) := by decide +kernel
theorem dX9_pipe_25 : decode cX9_pipe 25 = .ok (.sipush 10000, 3) := by decide +kernel
theorem dX9_pipe_28 : decode cX9_pipe 28 = .ok (.invokestatic 68, 3) := by decide +kernel
theorem dX9_pipe_31 : decode cX9_pipe 31 = .ok (.ifCond .eq 16, 3) := by decide +kernel
theorem dX9_pipe_34 : decode cX9_pipe 34 = .ok (.iload 4, 2) := by decide +kernel
theorem dX9_pipe_36 : decode cX9_pipe 36 = .ok (.bipush 10, 2) := by decide +kernel
theorem dX9_pipe_38 : decode cX9_pipe 38 = .ok (.sipush 3000, 3) := by decide +kernel
theorem dX9_pipe_41 : decode cX9_pipe 41 = .ok (.invokestatic 68, 3) := by decide +kernel
theorem dX9_pipe_44 : decode cX9_pipe 44 = .ok (.ifCond .ne 5, 3) := by decide +kernel
theorem dX9_pipe_47 : decode cX9_pipe 47 = .ok (.iconst (-1), 1) := by decide +kernel
theorem dX9_pipe_48 : decode cX9_pipe 48 = .ok (.ireturn, 1) := by decide +kernel
theorem dX9_pipe_49 : decode cX9_pipe 49 = .ok (.aload_n 0, 1) := by decide +kernel
theorem dX9_pipe_50 : decode cX9_pipe 50 = .ok (.getfield 16, 3) := by decide +kernel
theorem dX9_pipe_53 : decode cX9_pipe 53 = .ok (.new 85, 3) := by decide +kernel
theorem dX9_pipe_56 : decode cX9_pipe 56 = .ok (.dup, 1) := by decide +kernel
theorem dX9_pipe_57 : decode cX9_pipe 57 = .ok (.aload_n 0, 1) := by decide +kernel
theorem dX9_pipe_58 : decode cX9_pipe 58 = .ok (.getfield 10, 3) := by decide +kernel
theorem dX9_pipe_61 : decode cX9_pipe 61 = .ok (.iload_n 1, 1) := by decide +kernel
theorem dX9_pipe_62 : decode cX9_pipe 62 = .ok (.invokevirtual 87, 3) := by decide +kernel
theorem dX9_pipe_65 : decode cX9_pipe 65 = .ok (.checkcast 72, 3) := by decide +kernel
theorem dX9_pipe_68 : decode cX9_pipe 68 = .ok (.aload_n 0, 1) := by decide +kernel
theorem dX9_pipe_69 : decode cX9_pipe 69 = .ok (.getfield 10, 3) := by decide +kernel
theorem dX9_pipe_72 : decode cX9_pipe 72 = .ok (.iload_n 2, 1) := by decide +kernel
theorem dX9_pipe_73 : decode cX9_pipe 73 = .ok (.invokevirtual 87, 3) := by decide +kernel
theorem dX9_pipe_76 : decode cX9_pipe 76 = .ok (.checkcast 72, 3) := by decide +kernel
theorem dX9_pipe_79 : decode cX9_pipe 79 = .ok (.iload_n 3, 1) := by decide +kernel
theorem dX9_pipe_80 : decode cX9_pipe 80 = .ok (.iload 4, 2) := by decide +kernel
theorem dX9_pipe_82 : decode cX9_pipe 82 = .ok (.invokespecial 91, 3) := by decide +kernel
theorem dX9_pipe_85 : decode cX9_pipe 85 = .ok (.invokevirtual 77, 3) := by decide +kernel
theorem dX9_pipe_88 : decode cX9_pipe 88 = .ok (.pop, 1) := by decide +kernel
theorem dX9_pipe_89 : decode cX9_pipe 89 = .ok (.aload_n 0, 1) := by decide +kernel
theorem dX9_pipe_90 : decode cX9_pipe 90 = .ok (.getfield 16, 3) := by decide +kernel
theorem dX9_pipe_93 : decode cX9_pipe 93 = .ok (.invokevirtual 59, 3) := by decide +kernel
theorem dX9_pipe_96 : decode cX9_pipe 96 = .ok (.iconst 1, 1) := by decide +kernel
theorem dX9_pipe_97 : decode cX9_pipe 97 = .ok (.isub, 1) := by decide +kernel
theorem dX9_pipe_98 : decode cX9_pipe 98 = .ok (.ireturn, 1) := by decide +kernel
theorem dX9_area_0 : decode cX9_area 0 = .ok (.aload_n 0, 1) := by decide +kernel
theorem dX9_area_1 : decode cX9_area 1 = .ok (.getfield 19, 3) := by decide +kernel
theorem dX9_area_4 : decode cX9_area 4 = .ok (.invokevirtual 59, 3) := by decide +kernel
theorem dX9_area_7 : decode cX9_area 7 = .ok (.bipush 24, 2) := by decide +kernel
theorem dX9_area_9 : decode cX9_area 9 = .ok (.if_icmp .ge 11, 3) := by decide +kernel
theorem dX9_area_12 : decode cX9_area 12 = .ok (.aload_n 0, 1) := by decide +kernel
theorem dX9_area_13 : decode cX9_area 13 = .ok (.iload_n 1, 1) := by decide +kernel
theorem dX9_area_14 : decode cX9_area 14 = .ok (.invokevirtual 94, 3) := by decide +kernel
theorem dX9_area_17 : decode cX9_area 17 = .ok (.ifCond .ne 5, 3) := by decide +kernel
theorem dX9_area_20 : decode cX9_area 20 = .ok (.iconst (-1), 1) := by decide +kernel
theorem dX9_area_21 : decode cX9_area 21 = .ok (.ireturn, 1) := by decide +kernel
theorem dX9_area_22 : decode cX9_area 22 = .ok (.iload_n 2, 1) := by decide +kernel
theorem dX9_area_23 : decode cX9_area 23 = .ok (.iconst 1, 1) := by decide +kernel
theorem dX9_area_24 : decode cX9_area 24 = .ok (.ldc 97, 2) := by decide +kernel
theorem dX9_area_26 : decode cX9_area 26 = .ok (.invokestatic 68, 3) := by decide +kernel
theorem dX9_area_29 : decode cX9_area 29 = .ok (.ifCond .eq 14, 3) := by decide +kernel
theorem dX9_area_32 : decode cX9_area 32 = .ok (.iload_n 3, 1) := by decide +kernel
theorem dX9_area_33 : decode cX9_area 33 = .ok (.iconst 0, 1) := by decide +kernel
theorem dX9_area_34 : decode cX9_area 34 = .ok (.sipush 1000, 3) := by decide +kernel
theorem dX9_area_37 : decode cX9_area 37 = .ok (.invokestatic 68, 3) := by decide +kernel
theorem dX9_area_40 : decode cX9_area 40 = .ok (.ifCond .ne 5, 3) := by decide +kernel
theorem dX9_area_43 : decode cX9_area 43 = .ok (.iconst (-1), 1) := by decide +kernel
theorem dX9_area_44 : decode cX9_area 44 = .ok (.ireturn, 1) := by decide +kernel
theorem dX9_area_45 : decode cX9_area 45 = .ok (.aload_n 0, 1) := by decide +kernel
theorem dX9_area_46 : decode cX9_area 46 = .ok (.getfield 19, 3) := by decide +kernel
theorem dX9_area_49 : decode cX9_area 49 = .ok (.new 98, 3) := by decide +kernel
theorem dX9_area_52 : decode cX9_area 52 = .ok (.dup, 1) := by decide +kernel
theorem dX9_area_53 : decode cX9_area 53 = .ok (.aload_n 0, 1) := by decide +kernel
theorem dX9_area_54 : decode cX9_area 54 = .ok (.getfield 10, 3) := by decide +kernel
theorem dX9_area_57 : decode cX9_area 57 = .ok (.iload_n 1, 1) := by decide +kernel
theorem dX9_area_58 : decode cX9_area 58 = .ok (.invokevirtual 87, 3) := by decide +kernel
theorem dX9_area_61 : decode cX9_area 61 = .ok (.checkcast 72, 3) := by decide +kernel
theorem dX9_area_64 : decode cX9_area 64 = .ok (.iload_n 2, 1) := by decide +kernel
theorem dX9_area_65 : decode cX9_area 65 = .ok (.iload_n 3, 1) := by decide +kernel
theorem dX9_area_66 : decode cX9_area 66 = .ok (.invokespecial 100, 3) := by decide +kernel
theorem dX9_area_69 : decode cX9_area 69 = .ok (.invokevirtual 77, 3) := by decide +kernel
theorem dX9_area_72 : decode cX9_area 72 = .ok (.pop, 1) := by decide +kernel
theorem dX9_area_73 : decode cX9_area 73 = .ok (.aload_n 0, 1) := by decide +kernel
theorem dX9_area_74 : decode cX9_area 74 = .ok (.getfield 19, 3) := by decide +kernel
theorem dX9_area_77 : decode cX9_area 77 = .ok (.invokevirtual 59, 3) := by decide +kernel
theorem dX9_area_80 : decode cX9_area 80 = .ok (.iconst 1, 1) := by decide +kernel
theorem dX9_area_81 : decode cX9_area 81 = .ok (.isub, 1) := by decide +kernel
theorem dX9_area_82 : decode cX9_area 82 = .ok (.ireturn, 1) := by decide +kernel
theorem dX9_rain_0 : decode cX9_rain 0 = .ok (.iload_n 1, 1) := by decide +kernel
theorem dX9_rain_1 : decode cX9_rain 1 = .ok (.iconst 0, 1) := by decide +kernel
theorem dX9_rain_2 : decode cX9_rain 2 = .ok (.sipush 1439, 3) := by decide +kernel
theorem dX9_rain_5 : decode cX9_rain 5 = .ok (.invokestatic 68, 3) := by decide +kernel
theorem dX9_rain_8 : decode cX9_rain 8 = .ok (.ifCond .eq 14, 3) := by decide +kernel
theorem dX9_rain_11 : decode cX9_rain 11 = .ok (.iload_n 2, 1) := by decide +kernel
theorem dX9_rain_12 : decode cX9_rain 12 = .ok (.iconst 0, 1) := by decide +kernel
theorem dX9_rain_13 : decode cX9_rain 13 = .ok (.sipush 20000, 3) := by decide +kernel
theorem dX9_rain_16 : decode cX9_rain 16 = .ok (.invokestatic 68, 3) := by decide +kernel
theorem dX9_rain_19 : decode cX9_rain 19 = .ok (.ifCond .ne 5, 3) := by decide +kernel
theorem dX9_rain_22 : decode cX9_rain 22 = .ok (.iconst (-1), 1) := by decide +kernel
theorem dX9_rain_23 : decode cX9_rain 23 = .ok (.ireturn, 1) := by decide +kernel
theorem dX9_rain_24 : decode cX9_rain 24 = .ok (.aload_n 0, 1) := by decide +kernel
theorem dX9_rain_25 : decode cX9_rain 25 = .ok (.getfield 31, 3) := by decide +kernel
theorem dX9_rain_28 : decode cX9_rain 28 = .ok (.iload_n 1, 1) := by decide +kernel
theorem dX9_rain_29 : decode cX9_rain 29 = .ok (.iaload, 1) := by decide +kernel
theorem dX9_rain_30 : decode cX9_rain 30 = .ok (.istore_n 3, 1) := by decide +kernel
theorem dX9_rain_31 : decode cX9_rain 31 = .ok (.aload_n 0, 1) := by decide +kernel
theorem dX9_rain_32 : decode cX9_rain 32 = .ok (.getfield 31, 3) := by decide +kernel
theorem dX9_rain_35 : decode cX9_rain 35 = .ok (.iload_n 1, 1) := by decide +kernel
theorem dX9_rain_36 : decode cX9_rain 36 = .ok (.iload_n 2, 1) := by decide +kernel
theorem dX9_rain_37 : decode cX9_rain 37 = .ok (.iastore, 1) := by decide +kernel
theorem dX9_rain_38 : decode cX9_rain 38 = .ok (.iload_n 3, 1) := by decide +kernel
theorem dX9_rain_39 : decode cX9_rain 39 = .ok (.ireturn, 1) := by decide +kernel
theorem dX9_pump_0 : decode cX9_pump 0 = .ok (.aload_n 0, 1) := by decide +kernel
theorem dX9_pump_1 : decode cX9_pump 1 = .ok (.getfield 22, 3) := by decide +kernel
theorem dX9_pump_4 : decode cX9_pump 4 = .ok (.invokevirtual 59, 3) := by decide +kernel
theorem dX9_pump_7 : decode cX9_pump 7 = .ok (.bipush 8, 2) := by decide +kernel
theorem dX9_pump_9 : decode cX9_pump 9 = .ok (.if_icmp .ge 12, 3) := by decide +kernel
theorem dX9_pump_12 : decode cX9_pump 12 = .ok (.aload_n 0, 1) := by decide +kernel
theorem dX9_pump_13 : decode cX9_pump 13 = .ok (.iload_n 1, 1) := by decide +kernel
theorem dX9_pump_14 : decode cX9_pump 14 = .ok (.iload_n 2, 1) := by decide +kernel
theorem dX9_pump_15 : decode cX9_pump 15 = .ok (.invokevirtual 81, 3) := by decide +kernel
theorem dX9_pump_18 : decode cX9_pump 18 = .ok (.ifCond .ne 5, 3) := by decide +kernel
theorem dX9_pump_21 : decode cX9_pump 21 = .ok (.iconst (-1), 1) := by decide +kernel
theorem dX9_pump_22 : decode cX9_pump 22 = .ok (.ireturn, 1) := by decide +kernel
theorem dX9_pump_23 : decode cX9_pump 23 = .ok (.iload_n 3, 1) := by decide +kernel
theorem dX9_pump_24 : decode cX9_pump 24 = .ok (.iload 4, 2) := by decide +kernel
theorem dX9_pump_26 : decode cX9_pump 26 = .ok (.if_icmp .le 14, 3) := by decide +kernel
theorem dX9_pump_29 : decode cX9_pump 29 = .ok (.iload 5, 2) := by decide +kernel
theorem dX9_pump_31 : decode cX9_pump 31 = .ok (.iconst 1, 1) := by decide +kernel
theorem dX9_pump_32 : decode cX9_pump 32 = .ok (.ldc 67, 2) := by decide +kernel
theorem dX9_pump_34 : decode cX9_pump 34 = .ok (.invokestatic 68, 3) := by decide +kernel
theorem dX9_pump_37 : decode cX9_pump 37 = .ok (.ifCond .ne 5, 3) := by decide +kernel
theorem dX9_pump_40 : decode cX9_pump 40 = .ok (.iconst (-1), 1) := by decide +kernel
theorem dX9_pump_41 : decode cX9_pump 41 = .ok (.ireturn, 1) := by decide +kernel
theorem dX9_pump_42 : decode cX9_pump 42 = .ok (.aload_n 0, 1) := by decide +kernel
theorem dX9_pump_43 : decode cX9_pump 43 = .ok (.getfield 22, 3) := by decide +kernel
theorem dX9_pump_46 : decode cX9_pump 46 = .ok (.new 103, 3) := by decide +kernel
theorem dX9_pump_49 : decode cX9_pump 49 = .ok (.dup, 1) := by decide +kernel
theorem dX9_pump_50 : decode cX9_pump 50 = .ok (.aload_n 0, 1) := by decide +kernel
theorem dX9_pump_51 : decode cX9_pump 51 = .ok (.getfield 10, 3) := by decide +kernel
theorem dX9_pump_54 : decode cX9_pump 54 = .ok (.iload_n 1, 1) := by decide +kernel
theorem dX9_pump_55 : decode cX9_pump 55 = .ok (.invokevirtual 87, 3) := by decide +kernel
theorem dX9_pump_58 : decode cX9_pump 58 = .ok (.checkcast 72, 3) := by decide +kernel
theorem dX9_pump_61 : decode cX9_pump 61 = .ok (.aload_n 0, 1) := by decide +kernel
theorem dX9_pump_62 : decode cX9_pump 62 = .ok (.getfield 10, 3) := by decide +kernel
theorem dX9_pump_65 : decode cX9_pump 65 = .ok (.iload_n 2, 1) := by decide +kernel
theorem dX9_pump_66 : decode cX9_pump 66 = .ok (.invokevirtual 87, 3) := by decide +kernel
theorem dX9_pump_69 : decode cX9_pump 69 = .ok (.checkcast 72, 3) := by decide +kernel
theorem dX9_pump_72 : decode cX9_pump 72 = .ok (.iload_n 3, 1) := by decide +kernel
theorem dX9_pump_73 : decode cX9_pump 73 = .ok (.iload 4, 2) := by decide +kernel
theorem dX9_pump_75 : decode cX9_pump 75 = .ok (.iload 5, 2) := by decide +kernel
theorem dX9_pump_77 : decode cX9_pump 77 = .ok (.invokespecial 105, 3) := by decide +kernel
theorem dX9_pump_80 : decode cX9_pump 80 = .ok (.invokevirtual 77, 3) := by decide +kernel
theorem dX9_pump_83 : decode cX9_pump 83 = .ok (.pop, 1) := by decide +kernel
theorem dX9_pump_84 : decode cX9_pump 84 = .ok (.aload_n 0, 1) := by decide +kernel
theorem dX9_pump_85 : decode cX9_pump 85 = .ok (.getfield 22, 3) := by decide +kernel
theorem dX9_pump_88 : decode cX9_pump 88 = .ok (.invokevirtual 59, 3) := by decide +kernel
theorem dX9_pump_91 : decode cX9_pump 91 = .ok (.iconst 1, 1) := by decide +kernel
theorem dX9_pump_92 : decode cX9_pump 92 = .ok (.isub, 1) := by decide +kernel
theorem dX9_pump_93 : decode cX9_pump 93 = .ok (.ireturn, 1) := by decide +kernel
theorem dX9_gate_0 : decode cX9_gate 0 = .ok (.aload_n 0, 1) := by decide +kernel
theorem dX9_gate_1 : decode cX9_gate 1 = .ok (.getfield 25, 3) := by decide +kernel
theorem dX9_gate_4 : decode cX9_gate 4 = .ok (.invokevirtual 59, 3) := by decide +kernel
theorem dX9_gate_7 : decode cX9_gate 7 = .ok (.bipush 8, 2) := by decide +kernel
theorem dX9_gate_9 : decode cX9_gate 9 = .ok (.if_icmp .ge 11, 3) := by decide +kernel
theorem dX9_gate_12 : decode cX9_gate 12 = .ok (.aload_n 0, 1) := by decide +kernel
theorem dX9_gate_13 : decode cX9_gate 13 = .ok (.iload_n 1, 1) := by decide +kernel
theorem dX9_gate_14 : decode cX9_gate 14 = .ok (.invokevirtual 94, 3) := by decide +kernel
theorem dX9_gate_17 : decode cX9_gate 17 = .ok (.ifCond .ne 5, 3) := by decide +kernel
theorem dX9_gate_20 : decode cX9_gate 20 = .ok (.iconst (-1), 1) := by decide +kernel
theorem dX9_gate_21 : decode cX9_gate 21 = .ok (.ireturn, 1) := by decide +kernel
theorem dX9_gate_22 : decode cX9_gate 22 = .ok (.iload_n 2, 1) := by decide +kernel
theorem dX9_gate_23 : decode cX9_gate 23 = .ok (.iconst 0, 1) := by decide +kernel
theorem dX9_gate_24 : decode cX9_gate 24 = .ok (.ldc 108, 2) := by decide +kernel
theorem dX9_gate_26 : decode cX9_gate 26 = .ok (.invokestatic 68, 3) := by decide +kernel
theorem dX9_gate_29 : decode cX9_gate 29 = .ok (.ifCond .eq 13, 3) := by decide +kernel
theorem dX9_gate_32 : decode cX9_gate 32 = .ok (.iload_n 3, 1) := by decide +kernel
theorem dX9_gate_33 : decode cX9_gate 33 = .ok (.iconst 1, 1) := by decide +kernel
theorem dX9_gate_34 : decode cX9_gate 34 = .ok (.ldc 97, 2) := by decide +kernel
theorem dX9_gate_36 : decode cX9_gate 36 = .ok (.invokestatic 68, 3) := by decide +kernel
theorem dX9_gate_39 : decode cX9_gate 39 = .ok (.ifCond .ne 5, 3) := by decide +kernel
theorem dX9_gate_42 : decode cX9_gate 42 = .ok (.iconst (-1), 1) := by decide +kernel
theorem dX9_gate_43 : decode cX9_gate 43 = .ok (.ireturn, 1) := by decide +kernel
theorem dX9_gate_44 : decode cX9_gate 44 = .ok (.aload_n 0, 1) := by decide +kernel
theorem dX9_gate_45 : decode cX9_gate 45 = .ok (.getfield 25, 3) := by decide +kernel
theorem dX9_gate_48 : decode cX9_gate 48 = .ok (.new 109, 3) := by decide +kernel
theorem dX9_gate_51 : decode cX9_gate 51 = .ok (.dup, 1) := by decide +kernel
theorem dX9_gate_52 : decode cX9_gate 52 = .ok (.aload_n 0, 1) := by decide +kernel
theorem dX9_gate_53 : decode cX9_gate 53 = .ok (.getfield 10, 3) := by decide +kernel
theorem dX9_gate_56 : decode cX9_gate 56 = .ok (.iload_n 1, 1) := by decide +kernel
theorem dX9_gate_57 : decode cX9_gate 57 = .ok (.invokevirtual 87, 3) := by decide +kernel
theorem dX9_gate_60 : decode cX9_gate 60 = .ok (.checkcast 72, 3) := by decide +kernel
theorem dX9_gate_63 : decode cX9_gate 63 = .ok (.iload_n 2, 1) := by decide +kernel
theorem dX9_gate_64 : decode cX9_gate 64 = .ok (.iload_n 3, 1) := by decide +kernel
theorem dX9_gate_65 : decode cX9_gate 65 = .ok (.invokespecial 111, 3) := by decide +kernel
theorem dX9_gate_68 : decode cX9_gate 68 = .ok (.invokevirtual 77, 3) := by decide +kernel
theorem dX9_gate_71 : decode cX9_gate 71 = .ok (.pop, 1) := by decide +kernel
theorem dX9_gate_72 : decode cX9_gate 72 = .ok (.aload_n 0, 1) := by decide +kernel
theorem dX9_gate_73 : decode cX9_gate 73 = .ok (.getfield 25, 3) := by decide +kernel
theorem dX9_gate_76 : decode cX9_gate 76 = .ok (.invokevirtual 59, 3) := by decide +kernel
theorem dX9_gate_79 : decode cX9_gate 79 = .ok (.iconst 1, 1) := by decide +kernel
theorem dX9_gate_80 : decode cX9_gate 80 = .ok (.isub, 1) := by decide +kernel
theorem dX9_gate_81 : decode cX9_gate 81 = .ok (.ireturn, 1) := by decide +kernel
theorem dX9_gully_0 : decode cX9_gully 0 = .ok (.aload_n 0, 1) := by decide +kernel
theorem dX9_gully_1 : decode cX9_gully 1 = .ok (.getfield 28, 3) := by decide +kernel
theorem dX9_gully_4 : decode cX9_gully 4 = .ok (.invokevirtual 59, 3) := by decide +kernel
theorem dX9_gully_7 : decode cX9_gully 7 = .ok (.bipush 8, 2) := by decide +kernel
theorem dX9_gully_9 : decode cX9_gully 9 = .ok (.if_icmp .ge 18, 3) := by decide +kernel
theorem dX9_gully_12 : decode cX9_gully 12 = .ok (.iload_n 1, 1) := by decide +kernel
theorem dX9_gully_13 : decode cX9_gully 13 = .ok (.invokestatic 112, 3) := by decide +kernel
theorem dX9_gully_16 : decode cX9_gully 16 = .ok (.ifCond .eq 11, 3) := by decide +kernel
theorem dX9_gully_19 : decode cX9_gully 19 = .ok (.aload_n 0, 1) := by decide +kernel
theorem dX9_gully_20 : decode cX9_gully 20 = .ok (.iload_n 2, 1) := by decide +kernel
theorem dX9_gully_21 : decode cX9_gully 21 = .ok (.invokevirtual 94, 3) := by decide +kernel
theorem dX9_gully_24 : decode cX9_gully 24 = .ok (.ifCond .ne 5, 3) := by decide +kernel
theorem dX9_gully_27 : decode cX9_gully 27 = .ok (.iconst (-1), 1) := by decide +kernel
theorem dX9_gully_28 : decode cX9_gully 28 = .ok (.ireturn, 1) := by decide +kernel
theorem dX9_gully_29 : decode cX9_gully 29 = .ok (.iload_n 3, 1) := by decide +kernel
theorem dX9_gully_30 : decode cX9_gully 30 = .ok (.iconst 1, 1) := by decide +kernel
theorem dX9_gully_31 : decode cX9_gully 31 = .ok (.ldc 67, 2) := by decide +kernel
theorem dX9_gully_33 : decode cX9_gully 33 = .ok (.invokestatic 68, 3) := by decide +kernel
theorem dX9_gully_36 : decode cX9_gully 36 = .ok (.ifCond .ne 5, 3) := by decide +kernel
theorem dX9_gully_39 : decode cX9_gully 39 = .ok (.iconst (-1), 1) := by decide +kernel
theorem dX9_gully_40 : decode cX9_gully 40 = .ok (.ireturn, 1) := by decide +kernel
theorem dX9_gully_41 : decode cX9_gully 41 = .ok (.aload_n 0, 1) := by decide +kernel
theorem dX9_gully_42 : decode cX9_gully 42 = .ok (.getfield 28, 3) := by decide +kernel
theorem dX9_gully_45 : decode cX9_gully 45 = .ok (.new 115, 3) := by decide +kernel
theorem dX9_gully_48 : decode cX9_gully 48 = .ok (.dup, 1) := by decide +kernel
theorem dX9_gully_49 : decode cX9_gully 49 = .ok (.iload_n 1, 1) := by decide +kernel
theorem dX9_gully_50 : decode cX9_gully 50 = .ok (.aload_n 0, 1) := by decide +kernel
theorem dX9_gully_51 : decode cX9_gully 51 = .ok (.getfield 10, 3) := by decide +kernel
theorem dX9_gully_54 : decode cX9_gully 54 = .ok (.iload_n 2, 1) := by decide +kernel
theorem dX9_gully_55 : decode cX9_gully 55 = .ok (.invokevirtual 87, 3) := by decide +kernel
theorem dX9_gully_58 : decode cX9_gully 58 = .ok (.checkcast 72, 3) := by decide +kernel
theorem dX9_gully_61 : decode cX9_gully 61 = .ok (.iload_n 3, 1) := by decide +kernel
theorem dX9_gully_62 : decode cX9_gully 62 = .ok (.invokespecial 117, 3) := by decide +kernel
theorem dX9_gully_65 : decode cX9_gully 65 = .ok (.invokevirtual 77, 3) := by decide +kernel
theorem dX9_gully_68 : decode cX9_gully 68 = .ok (.pop, 1) := by decide +kernel
theorem dX9_gully_69 : decode cX9_gully 69 = .ok (.aload_n 0, 1) := by decide +kernel
theorem dX9_gully_70 : decode cX9_gully 70 = .ok (.getfield 28, 3) := by decide +kernel
theorem dX9_gully_73 : decode cX9_gully 73 = .ok (.invokevirtual 59, 3) := by decide +kernel
theorem dX9_gully_76 : decode cX9_gully 76 = .ok (.iconst 1, 1) := by decide +kernel
theorem dX9_gully_77 : decode cX9_gully 77 = .ok (.isub, 1) := by decide +kernel
theorem dX9_gully_78 : decode cX9_gully 78 = .ok (.ireturn, 1) := by decide +kernel
theorem dX9_street_0 : decode cX9_street 0 = .ok (.aload_n 0, 1) := by decide +kernel
theorem dX9_street_1 : decode cX9_street 1 = .ok (.iload_n 1, 1) := by decide +kernel
theorem dX9_street_2 : decode cX9_street 2 = .ok (.invokevirtual 94, 3) := by decide +kernel
theorem dX9_street_5 : decode cX9_street 5 = .ok (.ifCond .eq 15, 3) := by decide +kernel
theorem dX9_street_8 : decode cX9_street 8 = .ok (.iload_n 2, 1) := by decide +kernel
theorem dX9_street_9 : decode cX9_street 9 = .ok (.iconst (-1), 1) := by decide +kernel
theorem dX9_street_10 : decode cX9_street 10 = .ok (.if_icmp .eq 13, 3) := by decide +kernel
theorem dX9_street_13 : decode cX9_street 13 = .ok (.iload_n 2, 1) := by decide +kernel
theorem dX9_street_14 : decode cX9_street 14 = .ok (.invokestatic 112, 3) := by decide +kernel
theorem dX9_street_17 : decode cX9_street 17 = .ok (.ifCond .ne 6, 3) := by decide +kernel
theorem dX9_street_20 : decode cX9_street 20 = .ok (.bipush (-2), 2) := by decide +kernel
theorem dX9_street_22 : decode cX9_street 22 = .ok (.ireturn, 1) := by decide +kernel
theorem dX9_street_23 : decode cX9_street 23 = .ok (.aload_n 0, 1) := by decide +kernel
theorem dX9_street_24 : decode cX9_street 24 = .ok (.getfield 10, 3) := by decide +kernel
theorem dX9_street_27 : decode cX9_street 27 = .ok (.iload_n 1, 1) := by decide +kernel
theorem dX9_street_28 : decode cX9_street 28 = .ok (.invokevirtual 87, 3) := by decide +kernel
theorem dX9_street_31 : decode cX9_street 31 = .ok (.checkcast 72, 3) := by decide +kernel
theorem dX9_street_34 : decode cX9_street 34 = .ok (.astore_n 3, 1) := by decide +kernel
theorem dX9_street_35 : decode cX9_street 35 = .ok (.aload_n 3, 1) := by decide +kernel
theorem dX9_street_36 : decode cX9_street 36 = .ok (.getfield 120, 3) := by decide +kernel
theorem dX9_street_39 : decode cX9_street 39 = .ok (.istore 4, 2) := by decide +kernel
theorem dX9_street_41 : decode cX9_street 41 = .ok (.aload_n 3, 1) := by decide +kernel
theorem dX9_street_42 : decode cX9_street 42 = .ok (.iload_n 2, 1) := by decide +kernel
theorem dX9_street_43 : decode cX9_street 43 = .ok (.putfield 120, 3) := by decide +kernel
theorem dX9_street_46 : decode cX9_street 46 = .ok (.iload 4, 2) := by decide +kernel
theorem dX9_street_48 : decode cX9_street 48 = .ok (.ireturn, 1) := by decide +kernel
theorem dX9_run_0 : decode cX9_run 0 = .ok (.iload_n 1, 1) := by decide +kernel
theorem dX9_run_1 : decode cX9_run 1 = .ok (.iconst 1, 1) := by decide +kernel
theorem dX9_run_2 : decode cX9_run 2 = .ok (.sipush 600, 3) := by decide +kernel
theorem dX9_run_5 : decode cX9_run 5 = .ok (.invokestatic 68, 3) := by decide +kernel
theorem dX9_run_8 : decode cX9_run 8 = .ok (.ifCond .eq 14, 3) := by decide +kernel
theorem dX9_run_11 : decode cX9_run 11 = .ok (.aload_n 0, 1) := by decide +kernel
theorem dX9_run_12 : decode cX9_run 12 = .ok (.getfield 123, 3) := by decide +kernel
theorem dX9_run_15 : decode cX9_run 15 = .ok (.iload_n 1, 1) := by decide +kernel
theorem dX9_run_16 : decode cX9_run 16 = .ok (.iadd, 1) := by decide +kernel
theorem dX9_run_17 : decode cX9_run 17 = .ok (.ldc 126, 2) := by decide +kernel
theorem dX9_run_19 : decode cX9_run 19 = .ok (.if_icmp .le 5, 3) := by decide +kernel
theorem dX9_run_22 : decode cX9_run 22 = .ok (.iconst (-1), 1) := by decide +kernel
theorem dX9_run_23 : decode cX9_run 23 = .ok (.ireturn, 1) := by decide +kernel
theorem dX9_run_24 : decode cX9_run 24 = .ok (.iconst 0, 1) := by decide +kernel
theorem dX9_run_25 : decode cX9_run 25 = .ok (.istore_n 2, 1) := by decide +kernel
theorem dX9_run_26 : decode cX9_run 26 = .ok (.iload_n 2, 1) := by decide +kernel
theorem dX9_run_27 : decode cX9_run 27 = .ok (.iload_n 1, 1) := by decide +kernel
theorem dX9_run_28 : decode cX9_run 28 = .ok (.if_icmp .ge 13, 3) := by decide +kernel
theorem dX9_run_31 : decode cX9_run 31 = .ok (.aload_n 0, 1) := by decide +kernel
theorem dX9_run_32 : decode cX9_run 32 = .ok (.invokevirtual 127, 3) := by decide +kernel
theorem dX9_run_35 : decode cX9_run 35 = .ok (.iinc 2 1, 3) := by decide +kernel
theorem dX9_run_38 : decode cX9_run 38 = .ok (.goto (-12), 3) := by decide +kernel
theorem dX9_run_41 : decode cX9_run 41 = .ok (.aload_n 0, 1) := by decide +kernel
theorem dX9_run_42 : decode cX9_run 42 = .ok (.getfield 123, 3) := by decide +kernel
theorem dX9_run_45 : decode cX9_run 45 = .ok (.ireturn, 1) := by decide +kernel
theorem dX9_told_0 : decode cX9_told 0 = .ok (.aload_n 0, 1) := by decide +kernel
theorem dX9_told_1 : decode cX9_told 1 = .ok (.iload_n 1, 1) := by decide +kernel
theorem dX9_told_2 : decode cX9_told 2 = .ok (.invokevirtual 94, 3) := by decide +kernel
theorem dX9_told_5 : decode cX9_told 5 = .ok (.ifCond .ne 7, 3) := by decide +kernel
theorem dX9_told_8 : decode cX9_told 8 = .ok (.ldc2_w 130, 3) := by decide +kernel
theorem dX9_told_11 : decode cX9_told 11 = .ok (.lreturn, 1) := by decide +kernel
theorem dX9_told_12 : decode cX9_told 12 = .ok (.aload_n 0, 1) := by decide +kernel
theorem dX9_told_13 : decode cX9_told 13 = .ok (.getfield 10, 3) := by decide +kernel
theorem dX9_told_16 : decode cX9_told 16 = .ok (.iload_n 1, 1) := by decide +kernel
theorem dX9_told_17 : decode cX9_told 17 = .ok (.invokevirtual 87, 3) := by decide +kernel
theorem dX9_told_20 : decode cX9_told 20 = .ok (.checkcast 72, 3) := by decide +kernel
theorem dX9_told_23 : decode cX9_told 23 = .ok (.astore_n 3, 1) := by decide +kernel
theorem dX9_told_24 : decode cX9_told 24 = .ok (.iload_n 2, 1) := by decide +kernel
theorem dX9_told_25 : decode cX9_told 25 = .ok (.tableswitch 51 0 3 #[31, 36, 41, 46], 31) := by decide +kernel
theorem dX9_told_56 : decode cX9_told 56 = .ok (.aload_n 3, 1) := by decide +kernel
theorem dX9_told_57 : decode cX9_told 57 = .ok (.getfield 132, 3) := by decide +kernel
theorem dX9_told_60 : decode cX9_told 60 = .ok (.lreturn, 1) := by decide +kernel
theorem dX9_told_61 : decode cX9_told 61 = .ok (.aload_n 3, 1) := by decide +kernel
theorem dX9_told_62 : decode cX9_told 62 = .ok (.invokevirtual 136, 3) := by decide +kernel
theorem dX9_told_65 : decode cX9_told 65 = .ok (.lreturn, 1) := by decide +kernel
theorem dX9_told_66 : decode cX9_told 66 = .ok (.aload_n 3, 1) := by decide +kernel
theorem dX9_told_67 : decode cX9_told 67 = .ok (.getfield 140, 3) := by decide +kernel
theorem dX9_told_70 : decode cX9_told 70 = .ok (.lreturn, 1) := by decide +kernel
theorem dX9_told_71 : decode cX9_told 71 = .ok (.aload_n 3, 1) := by decide +kernel
theorem dX9_told_72 : decode cX9_told 72 = .ok (.getfield 143, 3) := by decide +kernel
theorem dX9_told_75 : decode cX9_told 75 = .ok (.lreturn, 1) := by decide +kernel
theorem dX9_told_76 : decode cX9_told 76 = .ok (.ldc2_w 130, 3) := by decide +kernel
theorem dX9_told_79 : decode cX9_told 79 = .ok (.lreturn, 1) := by decide +kernel
theorem dX9_flow_0 : decode cX9_flow 0 = .ok (.iload_n 1, 1) := by decide +kernel
theorem dX9_flow_1 : decode cX9_flow 1 = .ok (.iconst 0, 1) := by decide +kernel
theorem dX9_flow_2 : decode cX9_flow 2 = .ok (.aload_n 0, 1) := by decide +kernel
theorem dX9_flow_3 : decode cX9_flow 3 = .ok (.getfield 16, 3) := by decide +kernel
theorem dX9_flow_6 : decode cX9_flow 6 = .ok (.invokevirtual 59, 3) := by decide +kernel
theorem dX9_flow_9 : decode cX9_flow 9 = .ok (.iconst 1, 1) := by decide +kernel
theorem dX9_flow_10 : decode cX9_flow 10 = .ok (.isub, 1) := by decide +kernel
theorem dX9_flow_11 : decode cX9_flow 11 = .ok (.invokestatic 68, 3) := by decide +kernel
theorem dX9_flow_14 : decode cX9_flow 14 = .ok (.ifCond .ne 7, 3) := by decide +kernel
theorem dX9_flow_17 : decode cX9_flow 17 = .ok (.ldc2_w 146, 3) := by decide +kernel
theorem dX9_flow_20 : decode cX9_flow 20 = .ok (.lreturn, 1) := by decide +kernel
theorem dX9_flow_21 : decode cX9_flow 21 = .ok (.aload_n 0, 1) := by decide +kernel
theorem dX9_flow_22 : decode cX9_flow 22 = .ok (.getfield 16, 3) := by decide +kernel
theorem dX9_flow_25 : decode cX9_flow 25 = .ok (.iload_n 1, 1) := by decide +kernel
theorem dX9_flow_26 : decode cX9_flow 26 = .ok (.invokevirtual 87, 3) := by decide +kernel
theorem dX9_flow_29 : decode cX9_flow 29 = .ok (.checkcast 85, 3) := by decide +kernel
theorem dX9_flow_32 : decode cX9_flow 32 = .ok (.astore_n 3, 1) := by decide +kernel
theorem dX9_flow_33 : decode cX9_flow 33 = .ok (.iload_n 2, 1) := by decide +kernel
theorem dX9_flow_34 : decode cX9_flow 34 = .ok (.tableswitch 41 0 2 #[26, 31, 36], 26) := by decide +kernel
theorem dX9_flow_60 : decode cX9_flow 60 = .ok (.aload_n 3, 1) := by decide +kernel
theorem dX9_flow_61 : decode cX9_flow 61 = .ok (.getfield 148, 3) := by decide +kernel
theorem dX9_flow_64 : decode cX9_flow 64 = .ok (.lreturn, 1) := by decide +kernel
theorem dX9_flow_65 : decode cX9_flow 65 = .ok (.aload_n 3, 1) := by decide +kernel
theorem dX9_flow_66 : decode cX9_flow 66 = .ok (.getfield 151, 3) := by decide +kernel
theorem dX9_flow_69 : decode cX9_flow 69 = .ok (.lreturn, 1) := by decide +kernel
theorem dX9_flow_70 : decode cX9_flow 70 = .ok (.aload_n 3, 1) := by decide +kernel
theorem dX9_flow_71 : decode cX9_flow 71 = .ok (.getfield 154, 3) := by decide +kernel
theorem dX9_flow_74 : decode cX9_flow 74 = .ok (.lreturn, 1) := by decide +kernel
theorem dX9_flow_75 : decode cX9_flow 75 = .ok (.ldc2_w 146, 3) := by decide +kernel
theorem dX9_flow_78 : decode cX9_flow 78 = .ok (.lreturn, 1) := by decide +kernel
theorem dX9_cell_0 : decode cX9_cell 0 = .ok (.iload_n 1, 1) := by decide +kernel
theorem dX9_cell_1 : decode cX9_cell 1 = .ok (.invokestatic 112, 3) := by decide +kernel
theorem dX9_cell_4 : decode cX9_cell 4 = .ok (.ifCond .eq 12, 3) := by decide +kernel
theorem dX9_cell_7 : decode cX9_cell 7 = .ok (.aload_n 0, 1) := by decide +kernel
theorem dX9_cell_8 : decode cX9_cell 8 = .ok (.getfield 35, 3) := by decide +kernel
theorem dX9_cell_11 : decode cX9_cell 11 = .ok (.iload_n 1, 1) := by decide +kernel
theorem dX9_cell_12 : decode cX9_cell 12 = .ok (.laload, 1) := by decide +kernel
theorem dX9_cell_13 : decode cX9_cell 13 = .ok (.goto 6, 3) := by decide +kernel
theorem dX9_cell_16 : decode cX9_cell 16 = .ok (.ldc2_w 157, 3) := by decide +kernel
theorem dX9_cell_19 : decode cX9_cell 19 = .ok (.lreturn, 1) := by decide +kernel
theorem dX9_pumps_0 : decode cX9_pumps 0 = .ok (.iload_n 1, 1) := by decide +kernel
theorem dX9_pumps_1 : decode cX9_pumps 1 = .ok (.iconst 0, 1) := by decide +kernel
theorem dX9_pumps_2 : decode cX9_pumps 2 = .ok (.aload_n 0, 1) := by decide +kernel
theorem dX9_pumps_3 : decode cX9_pumps 3 = .ok (.getfield 22, 3) := by decide +kernel
theorem dX9_pumps_6 : decode cX9_pumps 6 = .ok (.invokevirtual 59, 3) := by decide +kernel
theorem dX9_pumps_9 : decode cX9_pumps 9 = .ok (.iconst 1, 1) := by decide +kernel
theorem dX9_pumps_10 : decode cX9_pumps 10 = .ok (.isub, 1) := by decide +kernel
theorem dX9_pumps_11 : decode cX9_pumps 11 = .ok (.invokestatic 68, 3) := by decide +kernel
theorem dX9_pumps_14 : decode cX9_pumps 14 = .ok (.ifCond .ne 5, 3) := by decide +kernel
theorem dX9_pumps_17 : decode cX9_pumps 17 = .ok (.iconst (-1), 1) := by decide +kernel
theorem dX9_pumps_18 : decode cX9_pumps 18 = .ok (.ireturn, 1) := by decide +kernel
theorem dX9_pumps_19 : decode cX9_pumps 19 = .ok (.aload_n 0, 1) := by decide +kernel
theorem dX9_pumps_20 : decode cX9_pumps 20 = .ok (.getfield 22, 3) := by decide +kernel
theorem dX9_pumps_23 : decode cX9_pumps 23 = .ok (.iload_n 1, 1) := by decide +kernel
theorem dX9_pumps_24 : decode cX9_pumps 24 = .ok (.invokevirtual 87, 3) := by decide +kernel
theorem dX9_pumps_27 : decode cX9_pumps 27 = .ok (.checkcast 103, 3) := by decide +kernel
theorem dX9_pumps_30 : decode cX9_pumps 30 = .ok (.getfield 159, 3) := by decide +kernel
theorem dX9_pumps_33 : decode cX9_pumps 33 = .ok (.ifCond .eq 7, 3) := by decide +kernel
theorem dX9_pumps_36 : decode cX9_pumps 36 = .ok (.iconst 1, 1) := by decide +kernel
theorem dX9_pumps_37 : decode cX9_pumps 37 = .ok (.goto 4, 3) := by decide +kernel
theorem dX9_pumps_40 : decode cX9_pumps 40 = .ok (.iconst 0, 1) := by decide +kernel
theorem dX9_pumps_41 : decode cX9_pumps 41 = .ok (.ireturn, 1) := by decide +kernel
theorem dX9_litres_0 : decode cX9_litres 0 = .ok (.iload_n 1, 1) := by decide +kernel
theorem dX9_litres_1 : decode cX9_litres 1 = .ok (.tableswitch 60 0 4 #[35, 40, 45, 50, 55], 35) := by decide +kernel
theorem dX9_litres_36 : decode cX9_litres 36 = .ok (.aload_n 0, 1) := by decide +kernel
theorem dX9_litres_37 : decode cX9_litres 37 = .ok (.getfield 163, 3) := by decide +kernel
theorem dX9_litres_40 : decode cX9_litres 40 = .ok (.lreturn, 1) := by decide +kernel
theorem dX9_litres_41 : decode cX9_litres 41 = .ok (.aload_n 0, 1) := by decide +kernel
theorem dX9_litres_42 : decode cX9_litres 42 = .ok (.invokevirtual 166, 3) := by decide +kernel
theorem dX9_litres_45 : decode cX9_litres 45 = .ok (.lreturn, 1) := by decide +kernel
theorem dX9_litres_46 : decode cX9_litres 46 = .ok (.aload_n 0, 1) := by decide +kernel
theorem dX9_litres_47 : decode cX9_litres 47 = .ok (.invokevirtual 169, 3) := by decide +kernel
theorem dX9_litres_50 : decode cX9_litres 50 = .ok (.lreturn, 1) := by decide +kernel
theorem dX9_litres_51 : decode cX9_litres 51 = .ok (.aload_n 0, 1) := by decide +kernel
theorem dX9_litres_52 : decode cX9_litres 52 = .ok (.getfield 172, 3) := by decide +kernel
theorem dX9_litres_55 : decode cX9_litres 55 = .ok (.lreturn, 1) := by decide +kernel
theorem dX9_litres_56 : decode cX9_litres 56 = .ok (.aload_n 0, 1) := by decide +kernel
theorem dX9_litres_57 : decode cX9_litres 57 = .ok (.getfield 175, 3) := by decide +kernel
theorem dX9_litres_60 : decode cX9_litres 60 = .ok (.lreturn, 1) := by decide +kernel
theorem dX9_litres_61 : decode cX9_litres 61 = .ok (.ldc2_w 157, 3) := by decide +kernel
theorem dX9_litres_64 : decode cX9_litres 64 = .ok (.lreturn, 1) := by decide +kernel
theorem dX9_keeps_0 : decode cX9_keeps 0 = .ok (.aload_n 0, 1) := by decide +kernel
theorem dX9_keeps_1 : decode cX9_keeps 1 = .ok (.getfield 163, 3) := by decide +kernel
theorem dX9_keeps_4 : decode cX9_keeps 4 = .ok (.aload_n 0, 1) := by decide +kernel
theorem dX9_keeps_5 : decode cX9_keeps 5 = .ok (.invokevirtual 166, 3) := by decide +kernel
theorem dX9_keeps_8 : decode cX9_keeps 8 = .ok (.aload_n 0, 1) := by decide +kernel
theorem dX9_keeps_9 : decode cX9_keeps 9 = .ok (.invokevirtual 169, 3) := by decide +kernel
theorem dX9_keeps_12 : decode cX9_keeps 12 = .ok (.ladd, 1) := by decide +kernel
theorem dX9_keeps_13 : decode cX9_keeps 13 = .ok (.aload_n 0, 1) := by decide +kernel
theorem dX9_keeps_14 : decode cX9_keeps 14 = .ok (.getfield 172, 3) := by decide +kernel
theorem dX9_keeps_17 : decode cX9_keeps 17 = .ok (.ladd, 1) := by decide +kernel
theorem dX9_keeps_18 : decode cX9_keeps 18 = .ok (.aload_n 0, 1) := by decide +kernel
theorem dX9_keeps_19 : decode cX9_keeps 19 = .ok (.getfield 175, 3) := by decide +kernel
theorem dX9_keeps_22 : decode cX9_keeps 22 = .ok (.ladd, 1) := by decide +kernel
theorem dX9_keeps_23 : decode cX9_keeps 23 = .ok (.lcmp, 1) := by decide +kernel
theorem dX9_keeps_24 : decode cX9_keeps 24 = .ok (.ifCond .ne 7, 3) := by decide +kernel
theorem dX9_keeps_27 : decode cX9_keeps 27 = .ok (.iconst 1, 1) := by decide +kernel
theorem dX9_keeps_28 : decode cX9_keeps 28 = .ok (.goto 4, 3) := by decide +kernel
theorem dX9_keeps_31 : decode cX9_keeps 31 = .ok (.iconst 0, 1) := by decide +kernel
theorem dX9_keeps_32 : decode cX9_keeps 32 = .ok (.ireturn, 1) := by decide +kernel
theorem dX9_list_0 : decode cX9_list 0 = .ok (.iload_n 1, 1) := by decide +kernel
theorem dX9_list_1 : decode cX9_list 1 = .ok (.bipush 10, 2) := by decide +kernel
theorem dX9_list_3 : decode cX9_list 3 = .ok (.sipush 3000, 3) := by decide +kernel
theorem dX9_list_6 : decode cX9_list 6 = .ok (.invokestatic 68, 3) := by decide +kernel
theorem dX9_list_9 : decode cX9_list 9 = .ok (.ifCond .eq 13, 3) := by decide +kernel
theorem dX9_list_12 : decode cX9_list 12 = .ok (.iload_n 2, 1) := by decide +kernel
theorem dX9_list_13 : decode cX9_list 13 = .ok (.iconst 0, 1) := by decide +kernel
theorem dX9_list_14 : decode cX9_list 14 = .ok (.ldc 67, 2) := by decide +kernel
theorem dX9_list_16 : decode cX9_list 16 = .ok (.invokestatic 68, 3) := by decide +kernel
theorem dX9_list_19 : decode cX9_list 19 = .ok (.ifCond .ne 5, 3) := by decide +kernel
theorem dX9_list_22 : decode cX9_list 22 = .ok (.iconst (-1), 1) := by decide +kernel
theorem dX9_list_23 : decode cX9_list 23 = .ok (.ireturn, 1) := by decide +kernel
theorem dX9_list_24 : decode cX9_list 24 = .ok (.aload_n 0, 1) := by decide +kernel
theorem dX9_list_25 : decode cX9_list 25 = .ok (.getfield 42, 3) := by decide +kernel
theorem dX9_list_28 : decode cX9_list 28 = .ok (.iload_n 1, 1) := by decide +kernel
theorem dX9_list_29 : decode cX9_list 29 = .ok (.iload_n 2, 1) := by decide +kernel
theorem dX9_list_30 : decode cX9_list 30 = .ok (.invokevirtual 178, 3) := by decide +kernel
theorem dX9_list_33 : decode cX9_list 33 = .ok (.ireturn, 1) := by decide +kernel
theorem dX9_begin_0 : decode cX9_begin 0 = .ok (.iload_n 1, 1) := by decide +kernel
theorem dX9_begin_1 : decode cX9_begin 1 = .ok (.invokestatic 63, 3) := by decide +kernel
theorem dX9_begin_4 : decode cX9_begin 4 = .ok (.ifCond .eq 10, 3) := by decide +kernel
theorem dX9_begin_7 : decode cX9_begin 7 = .ok (.iload_n 2, 1) := by decide +kernel
theorem dX9_begin_8 : decode cX9_begin 8 = .ok (.invokestatic 63, 3) := by decide +kernel
theorem dX9_begin_11 : decode cX9_begin 11 = .ok (.ifCond .ne 5, 3) := by decide +kernel
theorem dX9_begin_14 : decode cX9_begin 14 = .ok (.iconst 0, 1) := by decide +kernel
theorem dX9_begin_15 : decode cX9_begin 15 = .ok (.ireturn, 1) := by decide +kernel
theorem dX9_begin_16 : decode cX9_begin 16 = .ok (.aload_n 0, 1) := by decide +kernel
theorem dX9_begin_17 : decode cX9_begin 17 = .ok (.getfield 42, 3) := by decide +kernel
theorem dX9_begin_20 : decode cX9_begin 20 = .ok (.iload_n 1, 1) := by decide +kernel
theorem dX9_begin_21 : decode cX9_begin 21 = .ok (.iload_n 2, 1) := by decide +kernel
theorem dX9_begin_22 : decode cX9_begin 22 = .ok (.invokevirtual 181, 3) := by decide +kernel
theorem dX9_begin_25 : decode cX9_begin 25 = .ok (.iconst 1, 1) := by decide +kernel
theorem dX9_begin_26 : decode cX9_begin 26 = .ok (.ireturn, 1) := by decide +kernel
theorem dX9_piece_0 : decode cX9_piece 0 = .ok (.iload_n 1, 1) := by decide +kernel
theorem dX9_piece_1 : decode cX9_piece 1 = .ok (.invokestatic 63, 3) := by decide +kernel
theorem dX9_piece_4 : decode cX9_piece 4 = .ok (.ifCond .eq 25, 3) := by decide +kernel
theorem dX9_piece_7 : decode cX9_piece 7 = .ok (.iload_n 2, 1) := by decide +kernel
theorem dX9_piece_8 : decode cX9_piece 8 = .ok (.iconst 1, 1) := by decide +kernel
theorem dX9_piece_9 : decode cX9_piece 9 = .ok (.sipush 10000, 3) := by decide +kernel
theorem dX9_piece_12 : decode cX9_piece 12 = .ok (.invokestatic 68, 3) := by decide +kernel
theorem dX9_piece_15 : decode cX9_piece 15 = .ok (.ifCond .eq 14, 3) := by decide +kernel
theorem dX9_piece_18 : decode cX9_piece 18 = .ok (.iload_n 3, 1) := by decide +kernel
theorem dX9_piece_19 : decode cX9_piece 19 = .ok (.iconst 0, 1) := by decide +kernel
theorem dX9_piece_20 : decode cX9_piece 20 = .ok (.sipush 10000, 3) := by decide +kernel
theorem dX9_piece_23 : decode cX9_piece 23 = .ok (.invokestatic 68, 3) := by decide +kernel
theorem dX9_piece_26 : decode cX9_piece 26 = .ok (.ifCond .ne 5, 3) := by decide +kernel
theorem dX9_piece_29 : decode cX9_piece 29 = .ok (.iconst (-1), 1) := by decide +kernel
theorem dX9_piece_30 : decode cX9_piece 30 = .ok (.ireturn, 1) := by decide +kernel
theorem dX9_piece_31 : decode cX9_piece 31 = .ok (.aload_n 0, 1) := by decide +kernel
theorem dX9_piece_32 : decode cX9_piece 32 = .ok (.getfield 42, 3) := by decide +kernel
theorem dX9_piece_35 : decode cX9_piece 35 = .ok (.iload_n 1, 1) := by decide +kernel
theorem dX9_piece_36 : decode cX9_piece 36 = .ok (.iload_n 2, 1) := by decide +kernel
theorem dX9_piece_37 : decode cX9_piece 37 = .ok (.iload_n 3, 1) := by decide +kernel
theorem dX9_piece_38 : decode cX9_piece 38 = .ok (.invokevirtual 185, 3) := by decide +kernel
theorem dX9_piece_41 : decode cX9_piece 41 = .ok (.ireturn, 1) := by decide +kernel
theorem dX9_lay_0 : decode cX9_lay 0 = .ok (.iload_n 1, 1) := by decide +kernel
theorem dX9_lay_1 : decode cX9_lay 1 = .ok (.iconst 0, 1) := by decide +kernel
theorem dX9_lay_2 : decode cX9_lay 2 = .ok (.sipush 10000, 3) := by decide +kernel
theorem dX9_lay_5 : decode cX9_lay 5 = .ok (.invokestatic 68, 3) := by decide +kernel
theorem dX9_lay_8 : decode cX9_lay 8 = .ok (.ifCond .eq 14, 3) := by decide +kernel
theorem dX9_lay_11 : decode cX9_lay 11 = .ok (.iload_n 2, 1) := by decide +kernel
theorem dX9_lay_12 : decode cX9_lay 12 = .ok (.iconst 0, 1) := by decide +kernel
theorem dX9_lay_13 : decode cX9_lay 13 = .ok (.sipush 1000, 3) := by decide +kernel
theorem dX9_lay_16 : decode cX9_lay 16 = .ok (.invokestatic 68, 3) := by decide +kernel
theorem dX9_lay_19 : decode cX9_lay 19 = .ok (.ifCond .ne 7, 3) := by decide +kernel
theorem dX9_lay_22 : decode cX9_lay 22 = .ok (.ldc2_w 157, 3) := by decide +kernel
theorem dX9_lay_25 : decode cX9_lay 25 = .ok (.lreturn, 1) := by decide +kernel
theorem dX9_lay_26 : decode cX9_lay 26 = .ok (.aload_n 0, 1) := by decide +kernel
theorem dX9_lay_27 : decode cX9_lay 27 = .ok (.getfield 42, 3) := by decide +kernel
theorem dX9_lay_30 : decode cX9_lay 30 = .ok (.iload_n 1, 1) := by decide +kernel
theorem dX9_lay_31 : decode cX9_lay 31 = .ok (.iload_n 2, 1) := by decide +kernel
theorem dX9_lay_32 : decode cX9_lay 32 = .ok (.invokevirtual 189, 3) := by decide +kernel
theorem dX9_lay_35 : decode cX9_lay 35 = .ok (.lreturn, 1) := by decide +kernel
theorem dX9_laid_0 : decode cX9_laid 0 = .ok (.aload_n 0, 1) := by decide +kernel
theorem dX9_laid_1 : decode cX9_laid 1 = .ok (.getfield 42, 3) := by decide +kernel
theorem dX9_laid_4 : decode cX9_laid 4 = .ok (.iload_n 1, 1) := by decide +kernel
theorem dX9_laid_5 : decode cX9_laid 5 = .ok (.iload_n 2, 1) := by decide +kernel
theorem dX9_laid_6 : decode cX9_laid 6 = .ok (.invokevirtual 193, 3) := by decide +kernel
theorem dX9_laid_9 : decode cX9_laid 9 = .ok (.ireturn, 1) := by decide +kernel
theorem dX9_count_0 : decode cX9_count 0 = .ok (.iload_n 1, 1) := by decide +kernel
theorem dX9_count_1 : decode cX9_count 1 = .ok (.tableswitch 123 0 8 #[51, 59, 67, 75, 83, 91, 99, 110, 118], 51) := by decide +kernel
theorem dX9_count_52 : decode cX9_count 52 = .ok (.aload_n 0, 1) := by decide +kernel
theorem dX9_count_53 : decode cX9_count 53 = .ok (.getfield 10, 3) := by decide +kernel
theorem dX9_count_56 : decode cX9_count 56 = .ok (.invokevirtual 59, 3) := by decide +kernel
theorem dX9_count_59 : decode cX9_count 59 = .ok (.ireturn, 1) := by decide +kernel
theorem dX9_count_60 : decode cX9_count 60 = .ok (.aload_n 0, 1) := by decide +kernel
theorem dX9_count_61 : decode cX9_count 61 = .ok (.getfield 16, 3) := by decide +kernel
theorem dX9_count_64 : decode cX9_count 64 = .ok (.invokevirtual 59, 3) := by decide +kernel
theorem dX9_count_67 : decode cX9_count 67 = .ok (.ireturn, 1) := by decide +kernel
theorem dX9_count_68 : decode cX9_count 68 = .ok (.aload_n 0, 1) := by decide +kernel
theorem dX9_count_69 : decode cX9_count 69 = .ok (.getfield 19, 3) := by decide +kernel
theorem dX9_count_72 : decode cX9_count 72 = .ok (.invokevirtual 59, 3) := by decide +kernel
theorem dX9_count_75 : decode cX9_count 75 = .ok (.ireturn, 1) := by decide +kernel
theorem dX9_count_76 : decode cX9_count 76 = .ok (.aload_n 0, 1) := by decide +kernel
theorem dX9_count_77 : decode cX9_count 77 = .ok (.getfield 22, 3) := by decide +kernel
theorem dX9_count_80 : decode cX9_count 80 = .ok (.invokevirtual 59, 3) := by decide +kernel
theorem dX9_count_83 : decode cX9_count 83 = .ok (.ireturn, 1) := by decide +kernel
theorem dX9_count_84 : decode cX9_count 84 = .ok (.aload_n 0, 1) := by decide +kernel
theorem dX9_count_85 : decode cX9_count 85 = .ok (.getfield 25, 3) := by decide +kernel
theorem dX9_count_88 : decode cX9_count 88 = .ok (.invokevirtual 59, 3) := by decide +kernel
theorem dX9_count_91 : decode cX9_count 91 = .ok (.ireturn, 1) := by decide +kernel
theorem dX9_count_92 : decode cX9_count 92 = .ok (.aload_n 0, 1) := by decide +kernel
theorem dX9_count_93 : decode cX9_count 93 = .ok (.getfield 28, 3) := by decide +kernel
theorem dX9_count_96 : decode cX9_count 96 = .ok (.invokevirtual 59, 3) := by decide +kernel
theorem dX9_count_99 : decode cX9_count 99 = .ok (.ireturn, 1) := by decide +kernel
theorem dX9_count_100 : decode cX9_count 100 = .ok (.aload_n 0, 1) := by decide +kernel
theorem dX9_count_101 : decode cX9_count 101 = .ok (.getfield 42, 3) := by decide +kernel
theorem dX9_count_104 : decode cX9_count 104 = .ok (.getfield 196, 3) := by decide +kernel
theorem dX9_count_107 : decode cX9_count 107 = .ok (.invokevirtual 59, 3) := by decide +kernel
theorem dX9_count_110 : decode cX9_count 110 = .ok (.ireturn, 1) := by decide +kernel
theorem dX9_count_111 : decode cX9_count 111 = .ok (.aload_n 0, 1) := by decide +kernel
theorem dX9_count_112 : decode cX9_count 112 = .ok (.getfield 42, 3) := by decide +kernel
theorem dX9_count_115 : decode cX9_count 115 = .ok (.getfield 199, 3) := by decide +kernel
theorem dX9_count_118 : decode cX9_count 118 = .ok (.ireturn, 1) := by decide +kernel
theorem dX9_count_119 : decode cX9_count 119 = .ok (.aload_n 0, 1) := by decide +kernel
theorem dX9_count_120 : decode cX9_count 120 = .ok (.getfield 123, 3) := by decide +kernel
theorem dX9_count_123 : decode cX9_count 123 = .ok (.ireturn, 1) := by decide +kernel
theorem dX9_count_124 : decode cX9_count 124 = .ok (.iconst (-1), 1) := by decide +kernel
theorem dX9_count_125 : decode cX9_count 125 = .ok (.ireturn, 1) := by decide +kernel
theorem dX9_isWithin_0 : decode cX9_isWithin 0 = .ok (.iload_n 0, 1) := by decide +kernel
theorem dX9_isWithin_1 : decode cX9_isWithin 1 = .ok (.iload_n 1, 1) := by decide +kernel
theorem dX9_isWithin_2 : decode cX9_isWithin 2 = .ok (.if_icmp .lt 12, 3) := by decide +kernel
theorem dX9_isWithin_5 : decode cX9_isWithin 5 = .ok (.iload_n 0, 1) := by decide +kernel
theorem dX9_isWithin_6 : decode cX9_isWithin 6 = .ok (.iload_n 2, 1) := by decide +kernel
theorem dX9_isWithin_7 : decode cX9_isWithin 7 = .ok (.if_icmp .gt 7, 3) := by decide +kernel
theorem dX9_isWithin_10 : decode cX9_isWithin 10 = .ok (.iconst 1, 1) := by decide +kernel
theorem dX9_isWithin_11 : decode cX9_isWithin 11 = .ok (.goto 4, 3) := by decide +kernel
theorem dX9_isWithin_14 : decode cX9_isWithin 14 = .ok (.iconst 0, 1) := by decide +kernel
theorem dX9_isWithin_15 : decode cX9_isWithin 15 = .ok (.ireturn, 1) := by decide +kernel
theorem dX9_isHeight_0 : decode cX9_isHeight 0 = .ok (.iload_n 0, 1) := by decide +kernel
theorem dX9_isHeight_1 : decode cX9_isHeight 1 = .ok (.ldc 202, 2) := by decide +kernel
theorem dX9_isHeight_3 : decode cX9_isHeight 3 = .ok (.ldc 67, 2) := by decide +kernel
theorem dX9_isHeight_5 : decode cX9_isHeight 5 = .ok (.invokestatic 68, 3) := by decide +kernel
theorem dX9_isHeight_8 : decode cX9_isHeight 8 = .ok (.ireturn, 1) := by decide +kernel
theorem dX9_isCell_0 : decode cX9_isCell 0 = .ok (.iload_n 0, 1) := by decide +kernel
theorem dX9_isCell_1 : decode cX9_isCell 1 = .ok (.iconst 0, 1) := by decide +kernel
theorem dX9_isCell_2 : decode cX9_isCell 2 = .ok (.bipush 7, 2) := by decide +kernel
theorem dX9_isCell_4 : decode cX9_isCell 4 = .ok (.invokestatic 68, 3) := by decide +kernel
theorem dX9_isCell_7 : decode cX9_isCell 7 = .ok (.ireturn, 1) := by decide +kernel
theorem dX9_isNode_0 : decode cX9_isNode 0 = .ok (.iload_n 1, 1) := by decide +kernel
theorem dX9_isNode_1 : decode cX9_isNode 1 = .ok (.iconst 0, 1) := by decide +kernel
theorem dX9_isNode_2 : decode cX9_isNode 2 = .ok (.aload_n 0, 1) := by decide +kernel
theorem dX9_isNode_3 : decode cX9_isNode 3 = .ok (.getfield 10, 3) := by decide +kernel
theorem dX9_isNode_6 : decode cX9_isNode 6 = .ok (.invokevirtual 59, 3) := by decide +kernel
theorem dX9_isNode_9 : decode cX9_isNode 9 = .ok (.iconst 1, 1) := by decide +kernel
theorem dX9_isNode_10 : decode cX9_isNode 10 = .ok (.isub, 1) := by decide +kernel
theorem dX9_isNode_11 : decode cX9_isNode 11 = .ok (.invokestatic 68, 3) := by decide +kernel
theorem dX9_isNode_14 : decode cX9_isNode 14 = .ok (.ireturn, 1) := by decide +kernel
theorem dX9_areTwoNodes_0 : decode cX9_areTwoNodes 0 = .ok (.aload_n 0, 1) := by decide +kernel
theorem dX9_areTwoNodes_1 : decode cX9_areTwoNodes 1 = .ok (.iload_n 1, 1) := by decide +kernel
theorem dX9_areTwoNodes_2 : decode cX9_areTwoNodes 2 = .ok (.invokevirtual 94, 3) := by decide +kernel
theorem dX9_areTwoNodes_5 : decode cX9_areTwoNodes 5 = .ok (.ifCond .eq 20, 3) := by decide +kernel
theorem dX9_areTwoNodes_8 : decode cX9_areTwoNodes 8 = .ok (.aload_n 0, 1) := by decide +kernel
theorem dX9_areTwoNodes_9 : decode cX9_areTwoNodes 9 = .ok (.iload_n 2, 1) := by decide +kernel
theorem dX9_areTwoNodes_10 : decode cX9_areTwoNodes 10 = .ok (.invokevirtual 94, 3) := by decide +kernel
theorem dX9_areTwoNodes_13 : decode cX9_areTwoNodes 13 = .ok (.ifCond .eq 12, 3) := by decide +kernel
theorem dX9_areTwoNodes_16 : decode cX9_areTwoNodes 16 = .ok (.iload_n 1, 1) := by decide +kernel
theorem dX9_areTwoNodes_17 : decode cX9_areTwoNodes 17 = .ok (.iload_n 2, 1) := by decide +kernel
theorem dX9_areTwoNodes_18 : decode cX9_areTwoNodes 18 = .ok (.if_icmp .eq 7, 3) := by decide +kernel
theorem dX9_areTwoNodes_21 : decode cX9_areTwoNodes 21 = .ok (.iconst 1, 1) := by decide +kernel
theorem dX9_areTwoNodes_22 : decode cX9_areTwoNodes 22 = .ok (.goto 4, 3) := by decide +kernel
theorem dX9_areTwoNodes_25 : decode cX9_areTwoNodes 25 = .ok (.iconst 0, 1) := by decide +kernel
theorem dX9_areTwoNodes_26 : decode cX9_areTwoNodes 26 = .ok (.ireturn, 1) := by decide +kernel
theorem dX9_litresInNodes_0 : decode cX9_litresInNodes 0 = .ok (.lconst 0, 1) := by decide +kernel
theorem dX9_litresInNodes_1 : decode cX9_litresInNodes 1 = .ok (.lstore_n 1, 1) := by decide +kernel
theorem dX9_litresInNodes_2 : decode cX9_litresInNodes 2 = .ok (.iconst 0, 1) := by decide +kernel
theorem dX9_litresInNodes_3 : decode cX9_litresInNodes 3 = .ok (.istore_n 3, 1) := by decide +kernel
theorem dX9_litresInNodes_4 : decode cX9_litresInNodes 4 = .ok (.iload_n 3, 1) := by decide +kernel
theorem dX9_litresInNodes_5 : decode cX9_litresInNodes 5 = .ok (.aload_n 0, 1) := by decide +kernel
theorem dX9_litresInNodes_6 : decode cX9_litresInNodes 6 = .ok (.getfield 10, 3) := by decide +kernel
theorem dX9_litresInNodes_9 : decode cX9_litresInNodes 9 = .ok (.invokevirtual 59, 3) := by decide +kernel
theorem dX9_litresInNodes_12 : decode cX9_litresInNodes 12 = .ok (.if_icmp .ge 26, 3) := by decide +kernel
theorem dX9_litresInNodes_15 : decode cX9_litresInNodes 15 = .ok (.lload_n 1, 1) := by decide +kernel
theorem dX9_litresInNodes_16 : decode cX9_litresInNodes 16 = .ok (.aload_n 0, 1) := by decide +kernel
theorem dX9_litresInNodes_17 : decode cX9_litresInNodes 17 = .ok (.getfield 10, 3) := by decide +kernel
theorem dX9_litresInNodes_20 : decode cX9_litresInNodes 20 = .ok (.iload_n 3, 1) := by decide +kernel
theorem dX9_litresInNodes_21 : decode cX9_litresInNodes 21 = .ok (.invokevirtual 87, 3) := by decide +kernel
theorem dX9_litresInNodes_24 : decode cX9_litresInNodes 24 = .ok (.checkcast 72, 3) := by decide +kernel
theorem dX9_litresInNodes_27 : decode cX9_litresInNodes 27 = .ok (.getfield 132, 3) := by decide +kernel
theorem dX9_litresInNodes_30 : decode cX9_litresInNodes 30 = .ok (.ladd, 1) := by decide +kernel
theorem dX9_litresInNodes_31 : decode cX9_litresInNodes 31 = .ok (.lstore_n 1, 1) := by decide +kernel
theorem dX9_litresInNodes_32 : decode cX9_litresInNodes 32 = .ok (.iinc 3 1, 3) := by decide +kernel
theorem dX9_litresInNodes_35 : decode cX9_litresInNodes 35 = .ok (.goto (-31), 3) := by decide +kernel
theorem dX9_litresInNodes_38 : decode cX9_litresInNodes 38 = .ok (.lload_n 1, 1) := by decide +kernel
theorem dX9_litresInNodes_39 : decode cX9_litresInNodes 39 = .ok (.lreturn, 1) := by decide +kernel
theorem dX9_litresInCells_0 : decode cX9_litresInCells 0 = .ok (.lconst 0, 1) := by decide +kernel
theorem dX9_litresInCells_1 : decode cX9_litresInCells 1 = .ok (.lstore_n 1, 1) := by decide +kernel
theorem dX9_litresInCells_2 : decode cX9_litresInCells 2 = .ok (.iconst 0, 1) := by decide +kernel
theorem dX9_litresInCells_3 : decode cX9_litresInCells 3 = .ok (.istore_n 3, 1) := by decide +kernel
theorem dX9_litresInCells_4 : decode cX9_litresInCells 4 = .ok (.iload_n 3, 1) := by decide +kernel
theorem dX9_litresInCells_5 : decode cX9_litresInCells 5 = .ok (.bipush 8, 2) := by decide +kernel
theorem dX9_litresInCells_7 : decode cX9_litresInCells 7 = .ok (.if_icmp .ge 18, 3) := by decide +kernel
theorem dX9_litresInCells_10 : decode cX9_litresInCells 10 = .ok (.lload_n 1, 1) := by decide +kernel
theorem dX9_litresInCells_11 : decode cX9_litresInCells 11 = .ok (.aload_n 0, 1) := by decide +kernel
theorem dX9_litresInCells_12 : decode cX9_litresInCells 12 = .ok (.getfield 35, 3) := by decide +kernel
theorem dX9_litresInCells_15 : decode cX9_litresInCells 15 = .ok (.iload_n 3, 1) := by decide +kernel
theorem dX9_litresInCells_16 : decode cX9_litresInCells 16 = .ok (.laload, 1) := by decide +kernel
theorem dX9_litresInCells_17 : decode cX9_litresInCells 17 = .ok (.ladd, 1) := by decide +kernel
theorem dX9_litresInCells_18 : decode cX9_litresInCells 18 = .ok (.lstore_n 1, 1) := by decide +kernel
theorem dX9_litresInCells_19 : decode cX9_litresInCells 19 = .ok (.iinc 3 1, 3) := by decide +kernel
theorem dX9_litresInCells_22 : decode cX9_litresInCells 22 = .ok (.goto (-18), 3) := by decide +kernel
theorem dX9_litresInCells_25 : decode cX9_litresInCells 25 = .ok (.lload_n 1, 1) := by decide +kernel
theorem dX9_litresInCells_26 : decode cX9_litresInCells 26 = .ok (.lreturn, 1) := by decide +kernel
theorem dX9_passSecond_0 : decode cX9_passSecond 0 = .ok (.aload_n 0, 1) := by decide +kernel
theorem dX9_passSecond_1 : decode cX9_passSecond 1 = .ok (.invokevirtual 203, 3) := by decide +kernel
theorem dX9_passSecond_4 : decode cX9_passSecond 4 = .ok (.aload_n 0, 1) := by decide +kernel
theorem dX9_passSecond_5 : decode cX9_passSecond 5 = .ok (.invokevirtual 206, 3) := by decide +kernel
theorem dX9_passSecond_8 : decode cX9_passSecond 8 = .ok (.iconst 0, 1) := by decide +kernel
theorem dX9_passSecond_9 : decode cX9_passSecond 9 = .ok (.istore_n 1, 1) := by decide +kernel
theorem dX9_passSecond_10 : decode cX9_passSecond 10 = .ok (.iload_n 1, 1) := by decide +kernel
theorem dX9_passSecond_11 : decode cX9_passSecond 11 = .ok (.aload_n 0, 1) := by decide +kernel
theorem dX9_passSecond_12 : decode cX9_passSecond 12 = .ok (.getfield 22, 3) := by decide +kernel
theorem dX9_passSecond_15 : decode cX9_passSecond 15 = .ok (.invokevirtual 59, 3) := by decide +kernel
theorem dX9_passSecond_18 : decode cX9_passSecond 18 = .ok (.if_icmp .ge 23, 3) := by decide +kernel
theorem dX9_passSecond_21 : decode cX9_passSecond 21 = .ok (.aload_n 0, 1) := by decide +kernel
theorem dX9_passSecond_22 : decode cX9_passSecond 22 = .ok (.getfield 22, 3) := by decide +kernel
theorem dX9_passSecond_25 : decode cX9_passSecond 25 = .ok (.iload_n 1, 1) := by decide +kernel
theorem dX9_passSecond_26 : decode cX9_passSecond 26 = .ok (.invokevirtual 87, 3) := by decide +kernel
theorem dX9_passSecond_29 : decode cX9_passSecond 29 = .ok (.checkcast 103, 3) := by decide +kernel
theorem dX9_passSecond_32 : decode cX9_passSecond 32 = .ok (.invokevirtual 209, 3) := by decide +kernel
theorem dX9_passSecond_35 : decode cX9_passSecond 35 = .ok (.iinc 1 1, 3) := by decide +kernel
theorem dX9_passSecond_38 : decode cX9_passSecond 38 = .ok (.goto (-28), 3) := by decide +kernel
theorem dX9_passSecond_41 : decode cX9_passSecond 41 = .ok (.iconst 0, 1) := by decide +kernel
theorem dX9_passSecond_42 : decode cX9_passSecond 42 = .ok (.istore_n 1, 1) := by decide +kernel
theorem dX9_passSecond_43 : decode cX9_passSecond 43 = .ok (.iload_n 1, 1) := by decide +kernel
theorem dX9_passSecond_44 : decode cX9_passSecond 44 = .ok (.aload_n 0, 1) := by decide +kernel
theorem dX9_passSecond_45 : decode cX9_passSecond 45 = .ok (.getfield 25, 3) := by decide +kernel
theorem dX9_passSecond_48 : decode cX9_passSecond 48 = .ok (.invokevirtual 59, 3) := by decide +kernel
theorem dX9_passSecond_51 : decode cX9_passSecond 51 = .ok (.if_icmp .ge 32, 3) := by decide +kernel
theorem dX9_passSecond_54 : decode cX9_passSecond 54 = .ok (.aload_n 0, 1) := by decide +kernel
theorem dX9_passSecond_55 : decode cX9_passSecond 55 = .ok (.dup, 1) := by decide +kernel
theorem dX9_passSecond_56 : decode cX9_passSecond 56 = .ok (.getfield 172, 3) := by decide +kernel
theorem dX9_passSecond_59 : decode cX9_passSecond 59 = .ok (.aload_n 0, 1) := by decide +kernel
theorem dX9_passSecond_60 : decode cX9_passSecond 60 = .ok (.getfield 25, 3) := by decide +kernel
theorem dX9_passSecond_63 : decode cX9_passSecond 63 = .ok (.iload_n 1, 1) := by decide +kernel
theorem dX9_passSecond_64 : decode cX9_passSecond 64 = .ok (.invokevirtual 87, 3) := by decide +kernel
theorem dX9_passSecond_67 : decode cX9_passSecond 67 = .ok (.checkcast 109, 3) := by decide +kernel
theorem dX9_passSecond_70 : decode cX9_passSecond 70 = .ok (.invokevirtual 212, 3) := by decide +kernel
theorem dX9_passSecond_73 : decode cX9_passSecond 73 = .ok (.ladd, 1) := by decide +kernel
theorem dX9_passSecond_74 : decode cX9_passSecond 74 = .ok (.putfield 172, 3) := by decide +kernel
theorem dX9_passSecond_77 : decode cX9_passSecond 77 = .ok (.iinc 1 1, 3) := by decide +kernel
theorem dX9_passSecond_80 : decode cX9_passSecond 80 = .ok (.goto (-37), 3) := by decide +kernel
theorem dX9_passSecond_83 : decode cX9_passSecond 83 = .ok (.aload_n 0, 1) := by decide +kernel
theorem dX9_passSecond_84 : decode cX9_passSecond 84 = .ok (.invokevirtual 215, 3) := by decide +kernel
theorem dX9_passSecond_87 : decode cX9_passSecond 87 = .ok (.aload_n 0, 1) := by decide +kernel
theorem dX9_passSecond_88 : decode cX9_passSecond 88 = .ok (.invokevirtual 218, 3) := by decide +kernel
theorem dX9_passSecond_91 : decode cX9_passSecond 91 = .ok (.aload_n 0, 1) := by decide +kernel
theorem dX9_passSecond_92 : decode cX9_passSecond 92 = .ok (.dup, 1) := by decide +kernel
theorem dX9_passSecond_93 : decode cX9_passSecond 93 = .ok (.getfield 123, 3) := by decide +kernel
theorem dX9_passSecond_96 : decode cX9_passSecond 96 = .ok (.iconst 1, 1) := by decide +kernel
theorem dX9_passSecond_97 : decode cX9_passSecond 97 = .ok (.iadd, 1) := by decide +kernel
theorem dX9_passSecond_98 : decode cX9_passSecond 98 = .ok (.putfield 123, 3) := by decide +kernel
theorem dX9_passSecond_101 : decode cX9_passSecond 101 = .ok (.return_, 1) := by decide +kernel
theorem dX9_rainOnAreas_0 : decode cX9_rainOnAreas 0 = .ok (.aload_n 0, 1) := by decide +kernel
theorem dX9_rainOnAreas_1 : decode cX9_rainOnAreas 1 = .ok (.getfield 31, 3) := by decide +kernel
theorem dX9_rainOnAreas_4 : decode cX9_rainOnAreas 4 = .ok (.aload_n 0, 1) := by decide +kernel
theorem dX9_rainOnAreas_5 : decode cX9_rainOnAreas 5 = .ok (.getfield 123, 3) := by decide +kernel
theorem dX9_rainOnAreas_8 : decode cX9_rainOnAreas 8 = .ok (.bipush 60, 2) := by decide +kernel
theorem dX9_rainOnAreas_10 : decode cX9_rainOnAreas 10 = .ok (.idiv, 1) := by decide +kernel
theorem dX9_rainOnAreas_11 : decode cX9_rainOnAreas 11 = .ok (.iaload, 1) := by decide +kernel
theorem dX9_rainOnAreas_12 : decode cX9_rainOnAreas 12 = .ok (.istore_n 1, 1) := by decide +kernel
theorem dX9_rainOnAreas_13 : decode cX9_rainOnAreas 13 = .ok (.iconst 0, 1) := by decide +kernel
theorem dX9_rainOnAreas_14 : decode cX9_rainOnAreas 14 = .ok (.istore_n 2, 1) := by decide +kernel
theorem dX9_rainOnAreas_15 : decode cX9_rainOnAreas 15 = .ok (.iload_n 2, 1) := by decide +kernel
theorem dX9_rainOnAreas_16 : decode cX9_rainOnAreas 16 = .ok (.aload_n 0, 1) := by decide +kernel
theorem dX9_rainOnAreas_17 : decode cX9_rainOnAreas 17 = .ok (.getfield 19, 3) := by decide +kernel
theorem dX9_rainOnAreas_20 : decode cX9_rainOnAreas 20 = .ok (.invokevirtual 59, 3) := by decide +kernel
theorem dX9_rainOnAreas_23 : decode cX9_rainOnAreas 23 = .ok (.if_icmp .ge 33, 3) := by decide +kernel
theorem dX9_rainOnAreas_26 : decode cX9_rainOnAreas 26 = .ok (.aload_n 0, 1) := by decide +kernel
theorem dX9_rainOnAreas_27 : decode cX9_rainOnAreas 27 = .ok (.dup, 1) := by decide +kernel
theorem dX9_rainOnAreas_28 : decode cX9_rainOnAreas 28 = .ok (.getfield 163, 3) := by decide +kernel
theorem dX9_rainOnAreas_31 : decode cX9_rainOnAreas 31 = .ok (.aload_n 0, 1) := by decide +kernel
theorem dX9_rainOnAreas_32 : decode cX9_rainOnAreas 32 = .ok (.getfield 19, 3) := by decide +kernel
theorem dX9_rainOnAreas_35 : decode cX9_rainOnAreas 35 = .ok (.iload_n 2, 1) := by decide +kernel
theorem dX9_rainOnAreas_36 : decode cX9_rainOnAreas 36 = .ok (.invokevirtual 87, 3) := by decide +kernel
theorem dX9_rainOnAreas_39 : decode cX9_rainOnAreas 39 = .ok (.checkcast 98, 3) := by decide +kernel
theorem dX9_rainOnAreas_42 : decode cX9_rainOnAreas 42 = .ok (.iload_n 1, 1) := by decide +kernel
theorem dX9_rainOnAreas_43 : decode cX9_rainOnAreas 43 = .ok (.invokevirtual 221, 3) := by decide +kernel
theorem dX9_rainOnAreas_46 : decode cX9_rainOnAreas 46 = .ok (.ladd, 1) := by decide +kernel
theorem dX9_rainOnAreas_47 : decode cX9_rainOnAreas 47 = .ok (.putfield 163, 3) := by decide +kernel
theorem dX9_rainOnAreas_50 : decode cX9_rainOnAreas 50 = .ok (.iinc 2 1, 3) := by decide +kernel
theorem dX9_rainOnAreas_53 : decode cX9_rainOnAreas 53 = .ok (.goto (-38), 3) := by decide +kernel
theorem dX9_rainOnAreas_56 : decode cX9_rainOnAreas 56 = .ok (.return_, 1) := by decide +kernel
theorem dX9_carryByPipes_0 : decode cX9_carryByPipes 0 = .ok (.iconst 0, 1) := by decide +kernel
theorem dX9_carryByPipes_1 : decode cX9_carryByPipes 1 = .ok (.istore_n 1, 1) := by decide +kernel
theorem dX9_carryByPipes_2 : decode cX9_carryByPipes 2 = .ok (.iload_n 1, 1) := by decide +kernel
theorem dX9_carryByPipes_3 : decode cX9_carryByPipes 3 = .ok (.aload_n 0, 1) := by decide +kernel
theorem dX9_carryByPipes_4 : decode cX9_carryByPipes 4 = .ok (.getfield 10, 3) := by decide +kernel
theorem dX9_carryByPipes_7 : decode cX9_carryByPipes 7 = .ok (.invokevirtual 59, 3) := by decide +kernel
theorem dX9_carryByPipes_10 : decode cX9_carryByPipes 10 = .ok (.if_icmp .ge 23, 3) := by decide +kernel
theorem dX9_carryByPipes_13 : decode cX9_carryByPipes 13 = .ok (.aload_n 0, 1) := by decide +kernel
theorem dX9_carryByPipes_14 : decode cX9_carryByPipes 14 = .ok (.getfield 10, 3) := by decide +kernel
theorem dX9_carryByPipes_17 : decode cX9_carryByPipes 17 = .ok (.iload_n 1, 1) := by decide +kernel
theorem dX9_carryByPipes_18 : decode cX9_carryByPipes 18 = .ok (.invokevirtual 87, 3) := by decide +kernel
theorem dX9_carryByPipes_21 : decode cX9_carryByPipes 21 = .ok (.checkcast 72, 3) := by decide +kernel
theorem dX9_carryByPipes_24 : decode cX9_carryByPipes 24 = .ok (.invokevirtual 225, 3) := by decide +kernel
theorem dX9_carryByPipes_27 : decode cX9_carryByPipes 27 = .ok (.iinc 1 1, 3) := by decide +kernel
theorem dX9_carryByPipes_30 : decode cX9_carryByPipes 30 = .ok (.goto (-28), 3) := by decide +kernel
theorem dX9_carryByPipes_33 : decode cX9_carryByPipes 33 = .ok (.iconst 0, 1) := by decide +kernel
theorem dX9_carryByPipes_34 : decode cX9_carryByPipes 34 = .ok (.istore_n 1, 1) := by decide +kernel
theorem dX9_carryByPipes_35 : decode cX9_carryByPipes 35 = .ok (.iload_n 1, 1) := by decide +kernel
theorem dX9_carryByPipes_36 : decode cX9_carryByPipes 36 = .ok (.aload_n 0, 1) := by decide +kernel
theorem dX9_carryByPipes_37 : decode cX9_carryByPipes 37 = .ok (.getfield 16, 3) := by decide +kernel
theorem dX9_carryByPipes_40 : decode cX9_carryByPipes 40 = .ok (.invokevirtual 59, 3) := by decide +kernel
theorem dX9_carryByPipes_43 : decode cX9_carryByPipes 43 = .ok (.if_icmp .ge 23, 3) := by decide +kernel
theorem dX9_carryByPipes_46 : decode cX9_carryByPipes 46 = .ok (.aload_n 0, 1) := by decide +kernel
theorem dX9_carryByPipes_47 : decode cX9_carryByPipes 47 = .ok (.getfield 16, 3) := by decide +kernel
theorem dX9_carryByPipes_50 : decode cX9_carryByPipes 50 = .ok (.iload_n 1, 1) := by decide +kernel
theorem dX9_carryByPipes_51 : decode cX9_carryByPipes 51 = .ok (.invokevirtual 87, 3) := by decide +kernel
theorem dX9_carryByPipes_54 : decode cX9_carryByPipes 54 = .ok (.checkcast 85, 3) := by decide +kernel
theorem dX9_carryByPipes_57 : decode cX9_carryByPipes 57 = .ok (.invokevirtual 228, 3) := by decide +kernel
theorem dX9_carryByPipes_60 : decode cX9_carryByPipes 60 = .ok (.iinc 1 1, 3) := by decide +kernel
theorem dX9_carryByPipes_63 : decode cX9_carryByPipes 63 = .ok (.goto (-28), 3) := by decide +kernel
theorem dX9_carryByPipes_66 : decode cX9_carryByPipes 66 = .ok (.return_, 1) := by decide +kernel
theorem dX9_drainCells_0 : decode cX9_drainCells 0 = .ok (.iconst 0, 1) := by decide +kernel
theorem dX9_drainCells_1 : decode cX9_drainCells 1 = .ok (.istore_n 1, 1) := by decide +kernel
theorem dX9_drainCells_2 : decode cX9_drainCells 2 = .ok (.iload_n 1, 1) := by decide +kernel
theorem dX9_drainCells_3 : decode cX9_drainCells 3 = .ok (.aload_n 0, 1) := by decide +kernel
theorem dX9_drainCells_4 : decode cX9_drainCells 4 = .ok (.getfield 28, 3) := by decide +kernel
theorem dX9_drainCells_7 : decode cX9_drainCells 7 = .ok (.invokevirtual 59, 3) := by decide +kernel
theorem dX9_drainCells_10 : decode cX9_drainCells 10 = .ok (.if_icmp .ge 46, 3) := by decide +kernel
theorem dX9_drainCells_13 : decode cX9_drainCells 13 = .ok (.aload_n 0, 1) := by decide +kernel
theorem dX9_drainCells_14 : decode cX9_drainCells 14 = .ok (.getfield 28, 3) := by decide +kernel
theorem dX9_drainCells_17 : decode cX9_drainCells 17 = .ok (.iload_n 1, 1) := by decide +kernel
theorem dX9_drainCells_18 : decode cX9_drainCells 18 = .ok (.invokevirtual 87, 3) := by decide +kernel
theorem dX9_drainCells_21 : decode cX9_drainCells 21 = .ok (.checkcast 115, 3) := by decide +kernel
theorem dX9_drainCells_24 : decode cX9_drainCells 24 = .ok (.astore_n 2, 1) := by decide +kernel
theorem dX9_drainCells_25 : decode cX9_drainCells 25 = .ok (.aload_n 0, 1) := by decide +kernel
theorem dX9_drainCells_26 : decode cX9_drainCells 26 = .ok (.getfield 35, 3) := by decide +kernel
theorem dX9_drainCells_29 : decode cX9_drainCells 29 = .ok (.aload_n 2, 1) := by decide +kernel
theorem dX9_drainCells_30 : decode cX9_drainCells 30 = .ok (.getfield 231, 3) := by decide +kernel
theorem dX9_drainCells_33 : decode cX9_drainCells 33 = .ok (.dup2, 1) := by decide +kernel
theorem dX9_drainCells_34 : decode cX9_drainCells 34 = .ok (.laload, 1) := by decide +kernel
theorem dX9_drainCells_35 : decode cX9_drainCells 35 = .ok (.aload_n 2, 1) := by decide +kernel
theorem dX9_drainCells_36 : decode cX9_drainCells 36 = .ok (.aload_n 0, 1) := by decide +kernel
theorem dX9_drainCells_37 : decode cX9_drainCells 37 = .ok (.getfield 35, 3) := by decide +kernel
theorem dX9_drainCells_40 : decode cX9_drainCells 40 = .ok (.aload_n 2, 1) := by decide +kernel
theorem dX9_drainCells_41 : decode cX9_drainCells 41 = .ok (.getfield 231, 3) := by decide +kernel
theorem dX9_drainCells_44 : decode cX9_drainCells 44 = .ok (.laload, 1) := by decide +kernel
theorem dX9_drainCells_45 : decode cX9_drainCells 45 = .ok (.invokevirtual 234, 3) := by decide +kernel
theorem dX9_drainCells_48 : decode cX9_drainCells 48 = .ok (.lsub, 1) := by decide +kernel
theorem dX9_drainCells_49 : decode cX9_drainCells 49 = .ok (.lastore, 1) := by decide +kernel
theorem dX9_drainCells_50 : decode cX9_drainCells 50 = .ok (.iinc 1 1, 3) := by decide +kernel
theorem dX9_drainCells_53 : decode cX9_drainCells 53 = .ok (.goto (-51), 3) := by decide +kernel
theorem dX9_drainCells_56 : decode cX9_drainCells 56 = .ok (.return_, 1) := by decide +kernel
theorem dX9_spillNodes_0 : decode cX9_spillNodes 0 = .ok (.iconst 0, 1) := by decide +kernel
theorem dX9_spillNodes_1 : decode cX9_spillNodes 1 = .ok (.istore_n 1, 1) := by decide +kernel
theorem dX9_spillNodes_2 : decode cX9_spillNodes 2 = .ok (.iload_n 1, 1) := by decide +kernel
theorem dX9_spillNodes_3 : decode cX9_spillNodes 3 = .ok (.aload_n 0, 1) := by decide +kernel
theorem dX9_spillNodes_4 : decode cX9_spillNodes 4 = .ok (.getfield 10, 3) := by decide +kernel
theorem dX9_spillNodes_7 : decode cX9_spillNodes 7 = .ok (.invokevirtual 59, 3) := by decide +kernel
theorem dX9_spillNodes_10 : decode cX9_spillNodes 10 = .ok (.if_icmp .ge 60, 3) := by decide +kernel
theorem dX9_spillNodes_13 : decode cX9_spillNodes 13 = .ok (.aload_n 0, 1) := by decide +kernel
theorem dX9_spillNodes_14 : decode cX9_spillNodes 14 = .ok (.getfield 10, 3) := by decide +kernel
theorem dX9_spillNodes_17 : decode cX9_spillNodes 17 = .ok (.iload_n 1, 1) := by decide +kernel
theorem dX9_spillNodes_18 : decode cX9_spillNodes 18 = .ok (.invokevirtual 87, 3) := by decide +kernel
theorem dX9_spillNodes_21 : decode cX9_spillNodes 21 = .ok (.checkcast 72, 3) := by decide +kernel
theorem dX9_spillNodes_24 : decode cX9_spillNodes 24 = .ok (.astore_n 2, 1) := by decide +kernel
theorem dX9_spillNodes_25 : decode cX9_spillNodes 25 = .ok (.aload_n 2, 1) := by decide +kernel
theorem dX9_spillNodes_26 : decode cX9_spillNodes 26 = .ok (.invokevirtual 238, 3) := by decide +kernel
theorem dX9_spillNodes_29 : decode cX9_spillNodes 29 = .ok (.lstore_n 3, 1) := by decide +kernel
theorem dX9_spillNodes_30 : decode cX9_spillNodes 30 = .ok (.aload_n 2, 1) := by decide +kernel
theorem dX9_spillNodes_31 : decode cX9_spillNodes 31 = .ok (.getfield 120, 3) := by decide +kernel
theorem dX9_spillNodes_34 : decode cX9_spillNodes 34 = .ok (.iconst (-1), 1) := by decide +kernel
theorem dX9_spillNodes_35 : decode cX9_spillNodes 35 = .ok (.if_icmp .ne 16, 3) := by decide +kernel
theorem dX9_spillNodes_38 : decode cX9_spillNodes 38 = .ok (.aload_n 0, 1) := by decide +kernel
theorem dX9_spillNodes_39 : decode cX9_spillNodes 39 = .ok (.dup, 1) := by decide +kernel
theorem dX9_spillNodes_40 : decode cX9_spillNodes 40 = .ok (.getfield 175, 3) := by decide +kernel
theorem dX9_spillNodes_43 : decode cX9_spillNodes 43 = .ok (.lload_n 3, 1) := by decide +kernel
theorem dX9_spillNodes_44 : decode cX9_spillNodes 44 = .ok (.ladd, 1) := by decide +kernel
theorem dX9_spillNodes_45 : decode cX9_spillNodes 45 = .ok (.putfield 175, 3) := by decide +kernel
theorem dX9_spillNodes_48 : decode cX9_spillNodes 48 = .ok (.goto 16, 3) := by decide +kernel
theorem dX9_spillNodes_51 : decode cX9_spillNodes 51 = .ok (.aload_n 0, 1) := by decide +kernel
theorem dX9_spillNodes_52 : decode cX9_spillNodes 52 = .ok (.getfield 35, 3) := by decide +kernel
theorem dX9_spillNodes_55 : decode cX9_spillNodes 55 = .ok (.aload_n 2, 1) := by decide +kernel
theorem dX9_spillNodes_56 : decode cX9_spillNodes 56 = .ok (.getfield 120, 3) := by decide +kernel
theorem dX9_spillNodes_59 : decode cX9_spillNodes 59 = .ok (.dup2, 1) := by decide +kernel
theorem dX9_spillNodes_60 : decode cX9_spillNodes 60 = .ok (.laload, 1) := by decide +kernel
theorem dX9_spillNodes_61 : decode cX9_spillNodes 61 = .ok (.lload_n 3, 1) := by decide +kernel
theorem dX9_spillNodes_62 : decode cX9_spillNodes 62 = .ok (.ladd, 1) := by decide +kernel
theorem dX9_spillNodes_63 : decode cX9_spillNodes 63 = .ok (.lastore, 1) := by decide +kernel
theorem dX9_spillNodes_64 : decode cX9_spillNodes 64 = .ok (.iinc 1 1, 3) := by decide +kernel
theorem dX9_spillNodes_67 : decode cX9_spillNodes 67 = .ok (.goto (-65), 3) := by decide +kernel
theorem dX9_spillNodes_70 : decode cX9_spillNodes 70 = .ok (.return_, 1) := by decide +kernel
theorem dX10_init_0 : decode cX10_init 0 = .ok (.aload_n 0, 1) := by decide +kernel
theorem dX10_init_1 : decode cX10_init 1 = .ok (.invokespecial 1, 3) := by decide +kernel
theorem dX10_init_4 : decode cX10_init 4 = .ok (.aload_n 0, 1) := by decide +kernel
theorem dX10_init_5 : decode cX10_init 5 = .ok (.bipush 24, 2) := by decide +kernel
theorem dX10_init_7 : decode cX10_init 7 = .ok (.newarray .int, 2) := by decide +kernel
theorem dX10_init_9 : decode cX10_init 9 = .ok (.putfield 7, 3) := by decide +kernel
theorem dX10_init_12 : decode cX10_init 12 = .ok (.aload_n 0, 1) := by decide +kernel
theorem dX10_init_13 : decode cX10_init 13 = .ok (.bipush 24, 2) := by decide +kernel
theorem dX10_init_15 : decode cX10_init 15 = .ok (.newarray .int, 2) := by decide +kernel
theorem dX10_init_17 : decode cX10_init 17 = .ok (.putfield 13, 3) := by decide +kernel
theorem dX10_init_20 : decode cX10_init 20 = .ok (.aload_n 0, 1) := by decide +kernel
theorem dX10_init_21 : decode cX10_init 21 = .ok (.bipush 24, 2) := by decide +kernel
theorem dX10_init_23 : decode cX10_init 23 = .ok (.newarray .int, 2) := by decide +kernel
theorem dX10_init_25 : decode cX10_init 25 = .ok (.putfield 16, 3) := by decide +kernel
theorem dX10_init_28 : decode cX10_init 28 = .ok (.aload_n 0, 1) := by decide +kernel
theorem dX10_init_29 : decode cX10_init 29 = .ok (.bipush 24, 2) := by decide +kernel
theorem dX10_init_31 : decode cX10_init 31 = .ok (.newarray .int, 2) := by decide +kernel
theorem dX10_init_33 : decode cX10_init 33 = .ok (.putfield 19, 3) := by decide +kernel
theorem dX10_init_36 : decode cX10_init 36 = .ok (.aload_n 0, 1) := by decide +kernel
theorem dX10_init_37 : decode cX10_init 37 = .ok (.bipush 24, 2) := by decide +kernel
theorem dX10_init_39 : decode cX10_init 39 = .ok (.newarray .long, 2) := by decide +kernel
theorem dX10_init_41 : decode cX10_init 41 = .ok (.putfield 22, 3) := by decide +kernel
theorem dX10_init_44 : decode cX10_init 44 = .ok (.aload_n 0, 1) := by decide +kernel
theorem dX10_init_45 : decode cX10_init 45 = .ok (.bipush 24, 2) := by decide +kernel
theorem dX10_init_47 : decode cX10_init 47 = .ok (.newarray .long, 2) := by decide +kernel
theorem dX10_init_49 : decode cX10_init 49 = .ok (.putfield 26, 3) := by decide +kernel
theorem dX10_init_52 : decode cX10_init 52 = .ok (.aload_n 0, 1) := by decide +kernel
theorem dX10_init_53 : decode cX10_init 53 = .ok (.bipush 24, 2) := by decide +kernel
theorem dX10_init_55 : decode cX10_init 55 = .ok (.newarray .long, 2) := by decide +kernel
theorem dX10_init_57 : decode cX10_init 57 = .ok (.putfield 29, 3) := by decide +kernel
theorem dX10_init_60 : decode cX10_init 60 = .ok (.aload_n 0, 1) := by decide +kernel
theorem dX10_init_61 : decode cX10_init 61 = .ok (.bipush 24, 2) := by decide +kernel
theorem dX10_init_63 : decode cX10_init 63 = .ok (.newarray .long, 2) := by decide +kernel
theorem dX10_init_65 : decode cX10_init 65 = .ok (.putfield 32, 3) := by decide +kernel
theorem dX10_init_68 : decode cX10_init 68 = .ok (.aload_n 0, 1) := by decide +kernel
theorem dX10_init_69 : decode cX10_init 69 = .ok (.bipush 40, 2) := by decide +kernel
theorem dX10_init_71 : decode cX10_init 71 = .ok (.newarray .int, 2) := by decide +kernel
theorem dX10_init_73 : decode cX10_init 73 = .ok (.putfield 35, 3) := by decide +kernel
theorem dX10_init_76 : decode cX10_init 76 = .ok (.aload_n 0, 1) := by decide +kernel
theorem dX10_init_77 : decode cX10_init 77 = .ok (.bipush 40, 2) := by decide +kernel
theorem dX10_init_79 : decode cX10_init 79 = .ok (.newarray .int, 2) := by decide +kernel
theorem dX10_init_81 : decode cX10_init 81 = .ok (.putfield 38, 3) := by decide +kernel
theorem dX10_init_84 : decode cX10_init 84 = .ok (.aload_n 0, 1) := by decide +kernel
theorem dX10_init_85 : decode cX10_init 85 = .ok (.bipush 40, 2) := by decide +kernel
theorem dX10_init_87 : decode cX10_init 87 = .ok (.newarray .int, 2) := by decide +kernel
theorem dX10_init_89 : decode cX10_init 89 = .ok (.putfield 41, 3) := by decide +kernel
theorem dX10_init_92 : decode cX10_init 92 = .ok (.aload_n 0, 1) := by decide +kernel
theorem dX10_init_93 : decode cX10_init 93 = .ok (.bipush 40, 2) := by decide +kernel
theorem dX10_init_95 : decode cX10_init 95 = .ok (.newarray .int, 2) := by decide +kernel
theorem dX10_init_97 : decode cX10_init 97 = .ok (.putfield 44, 3) := by decide +kernel
theorem dX10_init_100 : decode cX10_init 100 = .ok (.aload_n 0, 1) := by decide +kernel
theorem dX10_init_101 : decode cX10_init 101 = .ok (.bipush 40, 2) := by decide +kernel
theorem dX10_init_103 : decode cX10_init 103 = .ok (.newarray .long, 2) := by decide +kernel
theorem dX10_init_105 : decode cX10_init 105 = .ok (.putfield 47, 3) := by decide +kernel
theorem dX10_init_108 : decode cX10_init 108 = .ok (.aload_n 0, 1) := by decide +kernel
theorem dX10_init_109 : decode cX10_init 109 = .ok (.bipush 40, 2) := by decide +kernel
theorem dX10_init_111 : decode cX10_init 111 = .ok (.newarray .long, 2) := by decide +kernel
theorem dX10_init_113 : decode cX10_init 113 = .ok (.putfield 50, 3) := by decide +kernel
theorem dX10_init_116 : decode cX10_init 116 = .ok (.aload_n 0, 1) := by decide +kernel
theorem dX10_init_117 : decode cX10_init 117 = .ok (.bipush 40, 2) := by decide +kernel
theorem dX10_init_119 : decode cX10_init 119 = .ok (.newarray .long, 2) := by decide +kernel
theorem dX10_init_121 : decode cX10_init 121 = .ok (.putfield 53, 3) := by decide +kernel
theorem dX10_init_124 : decode cX10_init 124 = .ok (.aload_n 0, 1) := by decide +kernel
theorem dX10_init_125 : decode cX10_init 125 = .ok (.bipush 24, 2) := by decide +kernel
theorem dX10_init_127 : decode cX10_init 127 = .ok (.newarray .int, 2) := by decide +kernel
theorem dX10_init_129 : decode cX10_init 129 = .ok (.putfield 56, 3) := by decide +kernel
theorem dX10_init_132 : decode cX10_init 132 = .ok (.aload_n 0, 1) := by decide +kernel
theorem dX10_init_133 : decode cX10_init 133 = .ok (.bipush 24, 2) := by decide +kernel
theorem dX10_init_135 : decode cX10_init 135 = .ok (.newarray .int, 2) := by decide +kernel
theorem dX10_init_137 : decode cX10_init 137 = .ok (.putfield 59, 3) := by decide +kernel
theorem dX10_init_140 : decode cX10_init 140 = .ok (.aload_n 0, 1) := by decide +kernel
theorem dX10_init_141 : decode cX10_init 141 = .ok (.bipush 24, 2) := by decide +kernel
theorem dX10_init_143 : decode cX10_init 143 = .ok (.newarray .int, 2) := by decide +kernel
theorem dX10_init_145 : decode cX10_init 145 = .ok (.putfield 62, 3) := by decide +kernel
theorem dX10_init_148 : decode cX10_init 148 = .ok (.aload_n 0, 1) := by decide +kernel
theorem dX10_init_149 : decode cX10_init 149 = .ok (.bipush 24, 2) := by decide +kernel
theorem dX10_init_151 : decode cX10_init 151 = .ok (.newarray .long, 2) := by decide +kernel
theorem dX10_init_153 : decode cX10_init 153 = .ok (.putfield 65, 3) := by decide +kernel
theorem dX10_init_156 : decode cX10_init 156 = .ok (.aload_n 0, 1) := by decide +kernel
theorem dX10_init_157 : decode cX10_init 157 = .ok (.sipush 1440, 3) := by decide +kernel
theorem dX10_init_160 : decode cX10_init 160 = .ok (.newarray .int, 2) := by decide +kernel
theorem dX10_init_162 : decode cX10_init 162 = .ok (.putfield 68, 3) := by decide +kernel
theorem dX10_init_165 : decode cX10_init 165 = .ok (.aload_n 0, 1) := by decide +kernel
theorem dX10_init_166 : decode cX10_init 166 = .ok (.bipush 8, 2) := by decide +kernel
theorem dX10_init_168 : decode cX10_init 168 = .ok (.newarray .int, 2) := by decide +kernel
theorem dX10_init_170 : decode cX10_init 170 = .ok (.putfield 71, 3) := by decide +kernel
theorem dX10_init_173 : decode cX10_init 173 = .ok (.aload_n 0, 1) := by decide +kernel
theorem dX10_init_174 : decode cX10_init 174 = .ok (.bipush 8, 2) := by decide +kernel
theorem dX10_init_176 : decode cX10_init 176 = .ok (.newarray .int, 2) := by decide +kernel
theorem dX10_init_178 : decode cX10_init 178 = .ok (.putfield 74, 3) := by decide +kernel
theorem dX10_init_181 : decode cX10_init 181 = .ok (.aload_n 0, 1) := by decide +kernel
theorem dX10_init_182 : decode cX10_init 182 = .ok (.bipush 8, 2) := by decide +kernel
theorem dX10_init_184 : decode cX10_init 184 = .ok (.newarray .int, 2) := by decide +kernel
theorem dX10_init_186 : decode cX10_init 186 = .ok (.putfield 77, 3) := by decide +kernel
theorem dX10_init_189 : decode cX10_init 189 = .ok (.aload_n 0, 1) := by decide +kernel
theorem dX10_init_190 : decode cX10_init 190 = .ok (.bipush 8, 2) := by decide +kernel
theorem dX10_init_192 : decode cX10_init 192 = .ok (.newarray .int, 2) := by decide +kernel
theorem dX10_init_194 : decode cX10_init 194 = .ok (.putfield 80, 3) := by decide +kernel
theorem dX10_init_197 : decode cX10_init 197 = .ok (.aload_n 0, 1) := by decide +kernel
theorem dX10_init_198 : decode cX10_init 198 = .ok (.bipush 8, 2) := by decide +kernel
theorem dX10_init_200 : decode cX10_init 200 = .ok (.newarray .int, 2) := by decide +kernel
theorem dX10_init_202 : decode cX10_init 202 = .ok (.putfield 83, 3) := by decide +kernel
theorem dX10_init_205 : decode cX10_init 205 = .ok (.aload_n 0, 1) := by decide +kernel
theorem dX10_init_206 : decode cX10_init 206 = .ok (.bipush 8, 2) := by decide +kernel
theorem dX10_init_208 : decode cX10_init 208 = .ok (.newarray .boolean, 2) := by decide +kernel
theorem dX10_init_210 : decode cX10_init 210 = .ok (.putfield 86, 3) := by decide +kernel
theorem dX10_init_213 : decode cX10_init 213 = .ok (.aload_n 0, 1) := by decide +kernel
theorem dX10_init_214 : decode cX10_init 214 = .ok (.bipush 8, 2) := by decide +kernel
theorem dX10_init_216 : decode cX10_init 216 = .ok (.newarray .int, 2) := by decide +kernel
theorem dX10_init_218 : decode cX10_init 218 = .ok (.putfield 90, 3) := by decide +kernel
theorem dX10_init_221 : decode cX10_init 221 = .ok (.aload_n 0, 1) := by decide +kernel
theorem dX10_init_222 : decode cX10_init 222 = .ok (.bipush 8, 2) := by decide +kernel
theorem dX10_init_224 : decode cX10_init 224 = .ok (.newarray .int, 2) := by decide +kernel
theorem dX10_init_226 : decode cX10_init 226 = .ok (.putfield 93, 3) := by decide +kernel
theorem dX10_init_229 : decode cX10_init 229 = .ok (.aload_n 0, 1) := by decide +kernel
theorem dX10_init_230 : decode cX10_init 230 = .ok (.bipush 8, 2) := by decide +kernel
theorem dX10_init_232 : decode cX10_init 232 = .ok (.newarray .int, 2) := by decide +kernel
theorem dX10_init_234 : decode cX10_init 234 = .ok (.putfield 96, 3) := by decide +kernel
theorem dX10_init_237 : decode cX10_init 237 = .ok (.aload_n 0, 1) := by decide +kernel
theorem dX10_init_238 : decode cX10_init 238 = .ok (.bipush 8, 2) := by decide +kernel
theorem dX10_init_240 : decode cX10_init 240 = .ok (.newarray .int, 2) := by decide +kernel
theorem dX10_init_242 : decode cX10_init 242 = .ok (.putfield 99, 3) := by decide +kernel
theorem dX10_init_245 : decode cX10_init 245 = .ok (.aload_n 0, 1) := by decide +kernel
theorem dX10_init_246 : decode cX10_init 246 = .ok (.bipush 8, 2) := by decide +kernel
theorem dX10_init_248 : decode cX10_init 248 = .ok (.newarray .int, 2) := by decide +kernel
theorem dX10_init_250 : decode cX10_init 250 = .ok (.putfield 102, 3) := by decide +kernel
theorem dX10_init_253 : decode cX10_init 253 = .ok (.aload_n 0, 1) := by decide +kernel
theorem dX10_init_254 : decode cX10_init 254 = .ok (.bipush 8, 2) := by decide +kernel
theorem dX10_init_256 : decode cX10_init 256 = .ok (.newarray .int, 2) := by decide +kernel
theorem dX10_init_258 : decode cX10_init 258 = .ok (.putfield 105, 3) := by decide +kernel
theorem dX10_init_261 : decode cX10_init 261 = .ok (.aload_n 0, 1) := by decide +kernel
theorem dX10_init_262 : decode cX10_init 262 = .ok (.bipush 8, 2) := by decide +kernel
theorem dX10_init_264 : decode cX10_init 264 = .ok (.newarray .long, 2) := by decide +kernel
theorem dX10_init_266 : decode cX10_init 266 = .ok (.putfield 108, 3) := by decide +kernel
theorem dX10_init_269 : decode cX10_init 269 = .ok (.aload_n 0, 1) := by decide +kernel
theorem dX10_init_270 : decode cX10_init 270 = .ok (.bipush 6, 2) := by decide +kernel
theorem dX10_init_272 : decode cX10_init 272 = .ok (.newarray .int, 2) := by decide +kernel
theorem dX10_init_274 : decode cX10_init 274 = .ok (.putfield 111, 3) := by decide +kernel
theorem dX10_init_277 : decode cX10_init 277 = .ok (.aload_n 0, 1) := by decide +kernel
theorem dX10_init_278 : decode cX10_init 278 = .ok (.bipush 6, 2) := by decide +kernel
theorem dX10_init_280 : decode cX10_init 280 = .ok (.newarray .int, 2) := by decide +kernel
theorem dX10_init_282 : decode cX10_init 282 = .ok (.putfield 114, 3) := by decide +kernel
theorem dX10_init_285 : decode cX10_init 285 = .ok (.aload_n 0, 1) := by decide +kernel
theorem dX10_init_286 : decode cX10_init 286 = .ok (.bipush 10, 2) := by decide +kernel
theorem dX10_init_288 : decode cX10_init 288 = .ok (.newarray .int, 2) := by decide +kernel
theorem dX10_init_290 : decode cX10_init 290 = .ok (.putfield 117, 3) := by decide +kernel
theorem dX10_init_293 : decode cX10_init 293 = .ok (.aload_n 0, 1) := by decide +kernel
theorem dX10_init_294 : decode cX10_init 294 = .ok (.bipush 10, 2) := by decide +kernel
theorem dX10_init_296 : decode cX10_init 296 = .ok (.newarray .int, 2) := by decide +kernel
theorem dX10_init_298 : decode cX10_init 298 = .ok (.putfield 120, 3) := by decide +kernel
theorem dX10_init_301 : decode cX10_init 301 = .ok (.aload_n 0, 1) := by decide +kernel
theorem dX10_init_302 : decode cX10_init 302 = .ok (.bipush 10, 2) := by decide +kernel
theorem dX10_init_304 : decode cX10_init 304 = .ok (.newarray .int, 2) := by decide +kernel
theorem dX10_init_306 : decode cX10_init 306 = .ok (.putfield 123, 3) := by decide +kernel
theorem dX10_init_309 : decode cX10_init 309 = .ok (.aload_n 0, 1) := by decide +kernel
theorem dX10_init_310 : decode cX10_init 310 = .ok (.sipush 26466, 3) := by decide +kernel
theorem dX10_init_313 : decode cX10_init 313 = .ok (.newarray .long, 2) := by decide +kernel
theorem dX10_init_315 : decode cX10_init 315 = .ok (.putfield 126, 3) := by decide +kernel
theorem dX10_init_318 : decode cX10_init 318 = .ok (.aload_n 0, 1) := by decide +kernel
theorem dX10_init_319 : decode cX10_init 319 = .ok (.bipush 10, 2) := by decide +kernel
theorem dX10_init_321 : decode cX10_init 321 = .ok (.newarray .int, 2) := by decide +kernel
theorem dX10_init_323 : decode cX10_init 323 = .ok (.putfield 129, 3) := by decide +kernel
theorem dX10_init_326 : decode cX10_init 326 = .ok (.aload_n 0, 1) := by decide +kernel
theorem dX10_init_327 : decode cX10_init 327 = .ok (.bipush 10, 2) := by decide +kernel
theorem dX10_init_329 : decode cX10_init 329 = .ok (.newarray .int, 2) := by decide +kernel
theorem dX10_init_331 : decode cX10_init 331 = .ok (.putfield 132, 3) := by decide +kernel
theorem dX10_init_334 : decode cX10_init 334 = .ok (.aload_n 0, 1) := by decide +kernel
theorem dX10_init_335 : decode cX10_init 335 = .ok (.bipush 10, 2) := by decide +kernel
theorem dX10_init_337 : decode cX10_init 337 = .ok (.newarray .int, 2) := by decide +kernel
theorem dX10_init_339 : decode cX10_init 339 = .ok (.putfield 135, 3) := by decide +kernel
theorem dX10_init_342 : decode cX10_init 342 = .ok (.aload_n 0, 1) := by decide +kernel
theorem dX10_init_343 : decode cX10_init 343 = .ok (.iload_n 1, 1) := by decide +kernel
theorem dX10_init_344 : decode cX10_init 344 = .ok (.iconst 1, 1) := by decide +kernel
theorem dX10_init_345 : decode cX10_init 345 = .ok (.if_icmp .ge 7, 3) := by decide +kernel
theorem dX10_init_348 : decode cX10_init 348 = .ok (.iconst 1, 1) := by decide +kernel
theorem dX10_init_349 : decode cX10_init 349 = .ok (.goto 15, 3) := by decide +kernel
theorem dX10_init_352 : decode cX10_init 352 = .ok (.iload_n 1, 1) := by decide +kernel
theorem dX10_init_353 : decode cX10_init 353 = .ok (.bipush 24, 2) := by decide +kernel
theorem dX10_init_355 : decode cX10_init 355 = .ok (.if_icmp .le 8, 3) := by decide +kernel
theorem dX10_init_358 : decode cX10_init 358 = .ok (.bipush 24, 2) := by decide +kernel
theorem dX10_init_360 : decode cX10_init 360 = .ok (.goto 4, 3) := by decide +kernel
theorem dX10_init_363 : decode cX10_init 363 = .ok (.iload_n 1, 1) := by decide +kernel
theorem dX10_init_364 : decode cX10_init 364 = .ok (.putfield 138, 3) := by decide +kernel
theorem dX10_init_367 : decode cX10_init 367 = .ok (.return_, 1) := by decide +kernel
theorem dX10_is_0 : decode cX10_is 0 = .ok (.iload_n 0, 1) := by decide +kernel
theorem dX10_is_1 : decode cX10_is 1 = .ok (.iload_n 1, 1) := by decide +kernel
theorem dX10_is_2 : decode cX10_is 2 = .ok (.if_icmp .lt 12, 3) := by decide +kernel
theorem dX10_is_5 : decode cX10_is 5 = .ok (.iload_n 0, 1) := by decide +kernel
theorem dX10_is_6 : decode cX10_is 6 = .ok (.iload_n 2, 1) := by decide +kernel
theorem dX10_is_7 : decode cX10_is 7 = .ok (.if_icmp .gt 7, 3) := by decide +kernel
theorem dX10_is_10 : decode cX10_is 10 = .ok (.iconst 1, 1) := by decide +kernel
theorem dX10_is_11 : decode cX10_is 11 = .ok (.goto 4, 3) := by decide +kernel
theorem dX10_is_14 : decode cX10_is 14 = .ok (.iconst 0, 1) := by decide +kernel
theorem dX10_is_15 : decode cX10_is 15 = .ok (.ireturn, 1) := by decide +kernel
theorem dX10_isNode_0 : decode cX10_isNode 0 = .ok (.iload_n 1, 1) := by decide +kernel
theorem dX10_isNode_1 : decode cX10_isNode 1 = .ok (.iconst 0, 1) := by decide +kernel
theorem dX10_isNode_2 : decode cX10_isNode 2 = .ok (.aload_n 0, 1) := by decide +kernel
theorem dX10_isNode_3 : decode cX10_isNode 3 = .ok (.getfield 142, 3) := by decide +kernel
theorem dX10_isNode_6 : decode cX10_isNode 6 = .ok (.iconst 1, 1) := by decide +kernel
theorem dX10_isNode_7 : decode cX10_isNode 7 = .ok (.isub, 1) := by decide +kernel
theorem dX10_isNode_8 : decode cX10_isNode 8 = .ok (.invokestatic 145, 3) := by decide +kernel
theorem dX10_isNode_11 : decode cX10_isNode 11 = .ok (.ireturn, 1) := by decide +kernel
theorem dX10_node_0 : decode cX10_node 0 = .ok (.aload_n 0, 1) := by decide +kernel
theorem dX10_node_1 : decode cX10_node 1 = .ok (.getfield 142, 3) := by decide +kernel
theorem dX10_node_4 : decode cX10_node 4 = .ok (.aload_n 0, 1) := by decide +kernel
theorem dX10_node_5 : decode cX10_node 5 = .ok (.getfield 138, 3) := by decide +kernel
theorem dX10_node_8 : decode cX10_node 8 = .ok (.if_icmp .eq 40, 3) := by decide +kernel
theorem dX10_node_11 : decode cX10_node 11 = .ok (.iload_n 1, 1) := by decide +kernel
theorem dX10_node_12 : decode cX10_node 12 = .ok (.ldc 149, 2) := by decide +kernel
theorem dX10_node_14 : decode cX10_node 14 = .ok (.ldc 150, 2) := by decide +kernel
theorem dX10_node_16 : decode cX10_node 16 = .ok (.invokestatic 145, 3) := by decide +kernel
theorem dX10_node_19 : decode cX10_node 19 = .ok (.ifCond .eq 29, 3) := by decide +kernel
theorem dX10_node_22 : decode cX10_node 22 = .ok (.iload_n 2, 1) := by decide +kernel
theorem dX10_node_23 : decode cX10_node 23 = .ok (.ldc 149, 2) := by decide +kernel
theorem dX10_node_25 : decode cX10_node 25 = .ok (.ldc 150, 2) := by decide +kernel
theorem dX10_node_27 : decode cX10_node 27 = .ok (.invokestatic 145, 3) := by decide +kernel
theorem dX10_node_30 : decode cX10_node 30 = .ok (.ifCond .eq 18, 3) := by decide +kernel
theorem dX10_node_33 : decode cX10_node 33 = .ok (.iload_n 2, 1) := by decide +kernel
theorem dX10_node_34 : decode cX10_node 34 = .ok (.iload_n 1, 1) := by decide +kernel
theorem dX10_node_35 : decode cX10_node 35 = .ok (.if_icmp .ge 13, 3) := by decide +kernel
theorem dX10_node_38 : decode cX10_node 38 = .ok (.iload_n 3, 1) := by decide +kernel
theorem dX10_node_39 : decode cX10_node 39 = .ok (.iconst 1, 1) := by decide +kernel
theorem dX10_node_40 : decode cX10_node 40 = .ok (.ldc 150, 2) := by decide +kernel
theorem dX10_node_42 : decode cX10_node 42 = .ok (.invokestatic 145, 3) := by decide +kernel
theorem dX10_node_45 : decode cX10_node 45 = .ok (.ifCond .ne 5, 3) := by decide +kernel
theorem dX10_node_48 : decode cX10_node 48 = .ok (.iconst (-1), 1) := by decide +kernel
theorem dX10_node_49 : decode cX10_node 49 = .ok (.ireturn, 1) := by decide +kernel
theorem dX10_node_50 : decode cX10_node 50 = .ok (.aload_n 0, 1) := by decide +kernel
theorem dX10_node_51 : decode cX10_node 51 = .ok (.getfield 7, 3) := by decide +kernel
theorem dX10_node_54 : decode cX10_node 54 = .ok (.aload_n 0, 1) := by decide +kernel
theorem dX10_node_55 : decode cX10_node 55 = .ok (.getfield 142, 3) := by decide +kernel
theorem dX10_node_58 : decode cX10_node 58 = .ok (.iload_n 1, 1) := by decide +kernel
theorem dX10_node_59 : decode cX10_node 59 = .ok (.iastore, 1) := by decide +kernel
theorem dX10_node_60 : decode cX10_node 60 = .ok (.aload_n 0, 1) := by decide +kernel
theorem dX10_node_61 : decode cX10_node 61 = .ok (.getfield 13, 3) := by decide +kernel
theorem dX10_node_64 : decode cX10_node 64 = .ok (.aload_n 0, 1) := by decide +kernel
theorem dX10_node_65 : decode cX10_node 65 = .ok (.getfield 142, 3) := by decide +kernel
theorem dX10_node_68 : decode cX10_node 68 = .ok (.iload_n 2, 1) := by decide +kernel
theorem dX10_node_69 : decode cX10_node 69 = .ok (.iastore, 1) := by decide +kernel
theorem dX10_node_70 : decode cX10_node 70 = .ok (.aload_n 0, 1) := by decide +kernel
theorem dX10_node_71 : decode cX10_node 71 = .ok (.getfield 16, 3) := by decide +kernel
theorem dX10_node_74 : decode cX10_node 74 = .ok (.aload_n 0, 1) := by decide +kernel
theorem dX10_node_75 : decode cX10_node 75 = .ok (.getfield 142, 3) := by decide +kernel
theorem dX10_node_78 : decode cX10_node 78 = .ok (.iload_n 3, 1) := by decide +kernel
theorem dX10_node_79 : decode cX10_node 79 = .ok (.iastore, 1) := by decide +kernel
theorem dX10_node_80 : decode cX10_node 80 = .ok (.aload_n 0, 1) := by decide +kernel
theorem dX10_node_81 : decode cX10_node 81 = .ok (.getfield 19, 3) := by decide +kernel
theorem dX10_node_84 : decode cX10_node 84 = .ok (.aload_n 0, 1) := by decide +kernel
theorem dX10_node_85 : decode cX10_node 85 = .ok (.getfield 142, 3) := by decide +kernel
theorem dX10_node_88 : decode cX10_node 88 = .ok (.iconst (-1), 1) := by decide +kernel
theorem dX10_node_89 : decode cX10_node 89 = .ok (.iastore, 1) := by decide +kernel
theorem dX10_node_90 : decode cX10_node 90 = .ok (.aload_n 0, 1) := by decide +kernel
theorem dX10_node_91 : decode cX10_node 91 = .ok (.dup, 1) := by decide +kernel
theorem dX10_node_92 : decode cX10_node 92 = .ok (.getfield 142, 3) := by decide +kernel
theorem dX10_node_95 : decode cX10_node 95 = .ok (.iconst 1, 1) := by decide +kernel
theorem dX10_node_96 : decode cX10_node 96 = .ok (.iadd, 1) := by decide +kernel
theorem dX10_node_97 : decode cX10_node 97 = .ok (.putfield 142, 3) := by decide +kernel
theorem dX10_node_100 : decode cX10_node 100 = .ok (.aload_n 0, 1) := by decide +kernel
theorem dX10_node_101 : decode cX10_node 101 = .ok (.getfield 142, 3) := by decide +kernel
theorem dX10_node_104 : decode cX10_node 104 = .ok (.iconst 1, 1) := by decide +kernel
theorem dX10_node_105 : decode cX10_node 105 = .ok (.isub, 1) := by decide +kernel
theorem dX10_node_106 : decode cX10_node 106 = .ok (.ireturn, 1) := by decide +kernel
theorem dX10_pipe_0 : decode cX10_pipe 0 = .ok (.aload_n 0, 1) := by decide +kernel
theorem dX10_pipe_1 : decode cX10_pipe 1 = .ok (.getfield 151, 3) := by decide +kernel
theorem dX10_pipe_4 : decode cX10_pipe 4 = .ok (.bipush 40, 2) := by decide +kernel
theorem dX10_pipe_6 : decode cX10_pipe 6 = .ok (.if_icmp .eq 48, 3) := by decide +kernel
theorem dX10_pipe_9 : decode cX10_pipe 9 = .ok (.aload_n 0, 1) := by decide +kernel
theorem dX10_pipe_10 : decode cX10_pipe 10 = .ok (.iload_n 1, 1) := by decide +kernel
theorem dX10_pipe_11 : decode cX10_pipe 11 = .ok (.invokevirtual 154, 3) := by decide +kernel
theorem dX10_pipe_14 : decode cX10_pipe 14 = .ok (.ifCond .eq 40, 3) := by decide +kernel
theorem dX10_pipe_17 : decode cX10_pipe 17 = .ok (.aload_n 0, 1) := by decide +kernel
theorem dX10_pipe_18 : decode cX10_pipe 18 = .ok (.iload_n 2, 1) := by decide +kernel
theorem dX10_pipe_19 : decode cX10_pipe 19 = .ok (.invokevirtual 154, 3) := by decide +kernel
theorem dX10_pipe_22 : decode cX10_pipe 22 = .ok (.ifCond .eq 32, 3) := by decide +kernel
theorem dX10_pipe_25 : decode cX10_pipe 25 = .ok (.iload_n 1, 1) := by decide +kernel
theorem dX10_pipe_26 : decode cX10_pipe 26 = .ok (.iload_n 2, 1) := by decide +kernel
theorem dX10_pipe_27 : decode cX10_pipe 27 = .ok (.if_icmp .eq 27, 3) := by decide +kernel
theorem dX10_pipe_30 : decode cX10_pipe 30 = .ok (.iload_n 3, 1) := by decide +kernel
theorem dX10_pipe_31 : decode cX10_pipe 31 = .ok (.iconst 1, 1) := by decide +kernel
theorem dX10_pipe_32 : decode cX10_pipe 32 = .ok (.sipush 10000, 3) := by decide +kernel
theorem dX10_pipe_35 : decode cX10_pipe 35 = .ok (.invokestatic 145, 3) := by decide +kernel
theorem dX10_pipe_38 : decode cX10_pipe 38 = .ok (.ifCond .eq 16, 3) := by decide +kernel
theorem dX10_pipe_41 : decode cX10_pipe 41 = .ok (.iload 4, 2) := by decide +kernel
theorem dX10_pipe_43 : decode cX10_pipe 43 = .ok (.bipush 10, 2) := by decide +kernel
theorem dX10_pipe_45 : decode cX10_pipe 45 = .ok (.sipush 3000, 3) := by decide +kernel
theorem dX10_pipe_48 : decode cX10_pipe 48 = .ok (.invokestatic 145, 3) := by decide +kernel
theorem dX10_pipe_51 : decode cX10_pipe 51 = .ok (.ifCond .ne 5, 3) := by decide +kernel
theorem dX10_pipe_54 : decode cX10_pipe 54 = .ok (.iconst (-1), 1) := by decide +kernel
theorem dX10_pipe_55 : decode cX10_pipe 55 = .ok (.ireturn, 1) := by decide +kernel
theorem dX10_pipe_56 : decode cX10_pipe 56 = .ok (.aload_n 0, 1) := by decide +kernel
theorem dX10_pipe_57 : decode cX10_pipe 57 = .ok (.getfield 35, 3) := by decide +kernel
theorem dX10_pipe_60 : decode cX10_pipe 60 = .ok (.aload_n 0, 1) := by decide +kernel
theorem dX10_pipe_61 : decode cX10_pipe 61 = .ok (.getfield 151, 3) := by decide +kernel
theorem dX10_pipe_64 : decode cX10_pipe 64 = .ok (.iload_n 1, 1) := by decide +kernel
theorem dX10_pipe_65 : decode cX10_pipe 65 = .ok (.iastore, 1) := by decide +kernel
theorem dX10_pipe_66 : decode cX10_pipe 66 = .ok (.aload_n 0, 1) := by decide +kernel
theorem dX10_pipe_67 : decode cX10_pipe 67 = .ok (.getfield 38, 3) := by decide +kernel
theorem dX10_pipe_70 : decode cX10_pipe 70 = .ok (.aload_n 0, 1) := by decide +kernel
theorem dX10_pipe_71 : decode cX10_pipe 71 = .ok (.getfield 151, 3) := by decide +kernel
theorem dX10_pipe_74 : decode cX10_pipe 74 = .ok (.iload_n 2, 1) := by decide +kernel
theorem dX10_pipe_75 : decode cX10_pipe 75 = .ok (.iastore, 1) := by decide +kernel
theorem dX10_pipe_76 : decode cX10_pipe 76 = .ok (.aload_n 0, 1) := by decide +kernel
theorem dX10_pipe_77 : decode cX10_pipe 77 = .ok (.getfield 41, 3) := by decide +kernel
theorem dX10_pipe_80 : decode cX10_pipe 80 = .ok (.aload_n 0, 1) := by decide +kernel
theorem dX10_pipe_81 : decode cX10_pipe 81 = .ok (.getfield 151, 3) := by decide +kernel
theorem dX10_pipe_84 : decode cX10_pipe 84 = .ok (.iload_n 3, 1) := by decide +kernel
theorem dX10_pipe_85 : decode cX10_pipe 85 = .ok (.iastore, 1) := by decide +kernel
theorem dX10_pipe_86 : decode cX10_pipe 86 = .ok (.aload_n 0, 1) := by decide +kernel
theorem dX10_pipe_87 : decode cX10_pipe 87 = .ok (.getfield 44, 3) := by decide +kernel
theorem dX10_pipe_90 : decode cX10_pipe 90 = .ok (.aload_n 0, 1) := by decide +kernel
theorem dX10_pipe_91 : decode cX10_pipe 91 = .ok (.getfield 151, 3) := by decide +kernel
theorem dX10_pipe_94 : decode cX10_pipe 94 = .ok (.iload 4, 2) := by decide +kernel
theorem dX10_pipe_96 : decode cX10_pipe 96 = .ok (.iastore, 1) := by decide +kernel
theorem dX10_pipe_97 : decode cX10_pipe 97 = .ok (.aload_n 0, 1) := by decide +kernel
theorem dX10_pipe_98 : decode cX10_pipe 98 = .ok (.dup, 1) := by decide +kernel
theorem dX10_pipe_99 : decode cX10_pipe 99 = .ok (.getfield 151, 3) := by decide +kernel
theorem dX10_pipe_102 : decode cX10_pipe 102 = .ok (.iconst 1, 1) := by decide +kernel
theorem dX10_pipe_103 : decode cX10_pipe 103 = .ok (.iadd, 1) := by decide +kernel
theorem dX10_pipe_104 : decode cX10_pipe 104 = .ok (.putfield 151, 3) := by decide +kernel
theorem dX10_pipe_107 : decode cX10_pipe 107 = .ok (.aload_n 0, 1) := by decide +kernel
theorem dX10_pipe_108 : decode cX10_pipe 108 = .ok (.getfield 151, 3) := by decide +kernel
theorem dX10_pipe_111 : decode cX10_pipe 111 = .ok (.iconst 1, 1) := by decide +kernel
theorem dX10_pipe_112 : decode cX10_pipe 112 = .ok (.isub, 1) := by decide +kernel
theorem dX10_pipe_113 : decode cX10_pipe 113 = .ok (.ireturn, 1) := by decide +kernel
theorem dX10_area_0 : decode cX10_area 0 = .ok (.aload_n 0, 1) := by decide +kernel
theorem dX10_area_1 : decode cX10_area 1 = .ok (.getfield 158, 3) := by decide +kernel
theorem dX10_area_4 : decode cX10_area 4 = .ok (.bipush 24, 2) := by decide +kernel
theorem dX10_area_6 : decode cX10_area 6 = .ok (.if_icmp .eq 32, 3) := by decide +kernel
theorem dX10_area_9 : decode cX10_area 9 = .ok (.aload_n 0, 1) := by decide +kernel
theorem dX10_area_10 : decode cX10_area 10 = .ok (.iload_n 1, 1) := by decide +kernel
theorem dX10_area_11 : decode cX10_area 11 = .ok (.invokevirtual 154, 3) := by decide +kernel
theorem dX10_area_14 : decode cX10_area 14 = .ok (.ifCond .eq 24, 3) := by decide +kernel
theorem dX10_area_17 : decode cX10_area 17 = .ok (.iload_n 2, 1) := by decide +kernel
theorem dX10_area_18 : decode cX10_area 18 = .ok (.iconst 1, 1) := by decide +kernel
theorem dX10_area_19 : decode cX10_area 19 = .ok (.ldc 161, 2) := by decide +kernel
theorem dX10_area_21 : decode cX10_area 21 = .ok (.invokestatic 145, 3) := by decide +kernel
theorem dX10_area_24 : decode cX10_area 24 = .ok (.ifCond .eq 14, 3) := by decide +kernel
theorem dX10_area_27 : decode cX10_area 27 = .ok (.iload_n 3, 1) := by decide +kernel
theorem dX10_area_28 : decode cX10_area 28 = .ok (.iconst 0, 1) := by decide +kernel
theorem dX10_area_29 : decode cX10_area 29 = .ok (.sipush 1000, 3) := by decide +kernel
theorem dX10_area_32 : decode cX10_area 32 = .ok (.invokestatic 145, 3) := by decide +kernel
theorem dX10_area_35 : decode cX10_area 35 = .ok (.ifCond .ne 5, 3) := by decide +kernel
theorem dX10_area_38 : decode cX10_area 38 = .ok (.iconst (-1), 1) := by decide +kernel
theorem dX10_area_39 : decode cX10_area 39 = .ok (.ireturn, 1) := by decide +kernel
theorem dX10_area_40 : decode cX10_area 40 = .ok (.aload_n 0, 1) := by decide +kernel
theorem dX10_area_41 : decode cX10_area 41 = .ok (.getfield 56, 3) := by decide +kernel
theorem dX10_area_44 : decode cX10_area 44 = .ok (.aload_n 0, 1) := by decide +kernel
theorem dX10_area_45 : decode cX10_area 45 = .ok (.getfield 158, 3) := by decide +kernel
theorem dX10_area_48 : decode cX10_area 48 = .ok (.iload_n 1, 1) := by decide +kernel
theorem dX10_area_49 : decode cX10_area 49 = .ok (.iastore, 1) := by decide +kernel
theorem dX10_area_50 : decode cX10_area 50 = .ok (.aload_n 0, 1) := by decide +kernel
theorem dX10_area_51 : decode cX10_area 51 = .ok (.getfield 59, 3) := by decide +kernel
theorem dX10_area_54 : decode cX10_area 54 = .ok (.aload_n 0, 1) := by decide +kernel
theorem dX10_area_55 : decode cX10_area 55 = .ok (.getfield 158, 3) := by decide +kernel
theorem dX10_area_58 : decode cX10_area 58 = .ok (.iload_n 2, 1) := by decide +kernel
theorem dX10_area_59 : decode cX10_area 59 = .ok (.iastore, 1) := by decide +kernel
theorem dX10_area_60 : decode cX10_area 60 = .ok (.aload_n 0, 1) := by decide +kernel
theorem dX10_area_61 : decode cX10_area 61 = .ok (.getfield 62, 3) := by decide +kernel
theorem dX10_area_64 : decode cX10_area 64 = .ok (.aload_n 0, 1) := by decide +kernel
theorem dX10_area_65 : decode cX10_area 65 = .ok (.getfield 158, 3) := by decide +kernel
theorem dX10_area_68 : decode cX10_area 68 = .ok (.iload_n 3, 1) := by decide +kernel
theorem dX10_area_69 : decode cX10_area 69 = .ok (.iastore, 1) := by decide +kernel
theorem dX10_area_70 : decode cX10_area 70 = .ok (.aload_n 0, 1) := by decide +kernel
theorem dX10_area_71 : decode cX10_area 71 = .ok (.dup, 1) := by decide +kernel
theorem dX10_area_72 : decode cX10_area 72 = .ok (.getfield 158, 3) := by decide +kernel
theorem dX10_area_75 : decode cX10_area 75 = .ok (.iconst 1, 1) := by decide +kernel
theorem dX10_area_76 : decode cX10_area 76 = .ok (.iadd, 1) := by decide +kernel
theorem dX10_area_77 : decode cX10_area 77 = .ok (.putfield 158, 3) := by decide +kernel
theorem dX10_area_80 : decode cX10_area 80 = .ok (.aload_n 0, 1) := by decide +kernel
theorem dX10_area_81 : decode cX10_area 81 = .ok (.getfield 158, 3) := by decide +kernel
theorem dX10_area_84 : decode cX10_area 84 = .ok (.iconst 1, 1) := by decide +kernel
theorem dX10_area_85 : decode cX10_area 85 = .ok (.isub, 1) := by decide +kernel
theorem dX10_area_86 : decode cX10_area 86 = .ok (.ireturn, 1) := by decide +kernel
theorem dX10_rain_0 : decode cX10_rain 0 = .ok (.iload_n 1, 1) := by decide +kernel
theorem dX10_rain_1 : decode cX10_rain 1 = .ok (.iconst 0, 1) := by decide +kernel
theorem dX10_rain_2 : decode cX10_rain 2 = .ok (.sipush 1439, 3) := by decide +kernel
theorem dX10_rain_5 : decode cX10_rain 5 = .ok (.invokestatic 145, 3) := by decide +kernel
theorem dX10_rain_8 : decode cX10_rain 8 = .ok (.ifCond .eq 14, 3) := by decide +kernel
theorem dX10_rain_11 : decode cX10_rain 11 = .ok (.iload_n 2, 1) := by decide +kernel
theorem dX10_rain_12 : decode cX10_rain 12 = .ok (.iconst 0, 1) := by decide +kernel
theorem dX10_rain_13 : decode cX10_rain 13 = .ok (.sipush 20000, 3) := by decide +kernel
theorem dX10_rain_16 : decode cX10_rain 16 = .ok (.invokestatic 145, 3) := by decide +kernel
theorem dX10_rain_19 : decode cX10_rain 19 = .ok (.ifCond .ne 5, 3) := by decide +kernel
theorem dX10_rain_22 : decode cX10_rain 22 = .ok (.iconst (-1), 1) := by decide +kernel
theorem dX10_rain_23 : decode cX10_rain 23 = .ok (.ireturn, 1) := by decide +kernel
theorem dX10_rain_24 : decode cX10_rain 24 = .ok (.aload_n 0, 1) := by decide +kernel
theorem dX10_rain_25 : decode cX10_rain 25 = .ok (.getfield 68, 3) := by decide +kernel
theorem dX10_rain_28 : decode cX10_rain 28 = .ok (.iload_n 1, 1) := by decide +kernel
theorem dX10_rain_29 : decode cX10_rain 29 = .ok (.iaload, 1) := by decide +kernel
theorem dX10_rain_30 : decode cX10_rain 30 = .ok (.istore_n 3, 1) := by decide +kernel
theorem dX10_rain_31 : decode cX10_rain 31 = .ok (.aload_n 0, 1) := by decide +kernel
theorem dX10_rain_32 : decode cX10_rain 32 = .ok (.getfield 68, 3) := by decide +kernel
theorem dX10_rain_35 : decode cX10_rain 35 = .ok (.iload_n 1, 1) := by decide +kernel
theorem dX10_rain_36 : decode cX10_rain 36 = .ok (.iload_n 2, 1) := by decide +kernel
theorem dX10_rain_37 : decode cX10_rain 37 = .ok (.iastore, 1) := by decide +kernel
theorem dX10_rain_38 : decode cX10_rain 38 = .ok (.iload_n 3, 1) := by decide +kernel
theorem dX10_rain_39 : decode cX10_rain 39 = .ok (.ireturn, 1) := by decide +kernel
theorem dX10_pump_0 : decode cX10_pump 0 = .ok (.aload_n 0, 1) := by decide +kernel
theorem dX10_pump_1 : decode cX10_pump 1 = .ok (.getfield 162, 3) := by decide +kernel
theorem dX10_pump_4 : decode cX10_pump 4 = .ok (.bipush 8, 2) := by decide +kernel
theorem dX10_pump_6 : decode cX10_pump 6 = .ok (.if_icmp .eq 41, 3) := by decide +kernel
theorem dX10_pump_9 : decode cX10_pump 9 = .ok (.aload_n 0, 1) := by decide +kernel
theorem dX10_pump_10 : decode cX10_pump 10 = .ok (.iload_n 1, 1) := by decide +kernel
theorem dX10_pump_11 : decode cX10_pump 11 = .ok (.invokevirtual 154, 3) := by decide +kernel
theorem dX10_pump_14 : decode cX10_pump 14 = .ok (.ifCond .eq 33, 3) := by decide +kernel
theorem dX10_pump_17 : decode cX10_pump 17 = .ok (.aload_n 0, 1) := by decide +kernel
theorem dX10_pump_18 : decode cX10_pump 18 = .ok (.iload_n 2, 1) := by decide +kernel
theorem dX10_pump_19 : decode cX10_pump 19 = .ok (.invokevirtual 154, 3) := by decide +kernel
theorem dX10_pump_22 : decode cX10_pump 22 = .ok (.ifCond .eq 25, 3) := by decide +kernel
theorem dX10_pump_25 : decode cX10_pump 25 = .ok (.iload_n 1, 1) := by decide +kernel
theorem dX10_pump_26 : decode cX10_pump 26 = .ok (.iload_n 2, 1) := by decide +kernel
theorem dX10_pump_27 : decode cX10_pump 27 = .ok (.if_icmp .eq 20, 3) := by decide +kernel
theorem dX10_pump_30 : decode cX10_pump 30 = .ok (.iload_n 3, 1) := by decide +kernel
theorem dX10_pump_31 : decode cX10_pump 31 = .ok (.iload 4, 2) := by decide +kernel
theorem dX10_pump_33 : decode cX10_pump 33 = .ok (.if_icmp .le 14, 3) := by decide +kernel
theorem dX10_pump_36 : decode cX10_pump 36 = .ok (.iload 5, 2) := by decide +kernel
theorem dX10_pump_38 : decode cX10_pump 38 = .ok (.iconst 1, 1) := by decide +kernel
theorem dX10_pump_39 : decode cX10_pump 39 = .ok (.ldc 150, 2) := by decide +kernel
theorem dX10_pump_41 : decode cX10_pump 41 = .ok (.invokestatic 145, 3) := by decide +kernel
theorem dX10_pump_44 : decode cX10_pump 44 = .ok (.ifCond .ne 5, 3) := by decide +kernel
theorem dX10_pump_47 : decode cX10_pump 47 = .ok (.iconst (-1), 1) := by decide +kernel
theorem dX10_pump_48 : decode cX10_pump 48 = .ok (.ireturn, 1) := by decide +kernel
theorem dX10_pump_49 : decode cX10_pump 49 = .ok (.aload_n 0, 1) := by decide +kernel
theorem dX10_pump_50 : decode cX10_pump 50 = .ok (.getfield 71, 3) := by decide +kernel
theorem dX10_pump_53 : decode cX10_pump 53 = .ok (.aload_n 0, 1) := by decide +kernel
theorem dX10_pump_54 : decode cX10_pump 54 = .ok (.getfield 162, 3) := by decide +kernel
theorem dX10_pump_57 : decode cX10_pump 57 = .ok (.iload_n 1, 1) := by decide +kernel
theorem dX10_pump_58 : decode cX10_pump 58 = .ok (.iastore, 1) := by decide +kernel

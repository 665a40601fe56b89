theorem dX10_pump_59 : decode cX10_pump 59 = .ok (.aload_n 0, 1) := by decide +kernel
theorem dX10_pump_60 : decode cX10_pump 60 = .ok (.getfield 74, 3) := by decide +kernel
theorem dX10_pump_63 : decode cX10_pump 63 = .ok (.aload_n 0, 1) := by decide +kernel
theorem dX10_pump_64 : decode cX10_pump 64 = .ok (.getfield 162, 3) := by decide +kernel
theorem dX10_pump_67 : decode cX10_pump 67 = .ok (.iload_n 2, 1) := by decide +kernel
theorem dX10_pump_68 : decode cX10_pump 68 = .ok (.iastore, 1) := by decide +kernel
theorem dX10_pump_69 : decode cX10_pump 69 = .ok (.aload_n 0, 1) := by decide +kernel
theorem dX10_pump_70 : decode cX10_pump 70 = .ok (.getfield 77, 3) := by decide +kernel
theorem dX10_pump_73 : decode cX10_pump 73 = .ok (.aload_n 0, 1) := by decide +kernel
theorem dX10_pump_74 : decode cX10_pump 74 = .ok (.getfield 162, 3) := by decide +kernel
theorem dX10_pump_77 : decode cX10_pump 77 = .ok (.iload_n 3, 1) := by decide +kernel
theorem dX10_pump_78 : decode cX10_pump 78 = .ok (.iastore, 1) := by decide +kernel
theorem dX10_pump_79 : decode cX10_pump 79 = .ok (.aload_n 0, 1) := by decide +kernel
theorem dX10_pump_80 : decode cX10_pump 80 = .ok (.getfield 80, 3) := by decide +kernel
theorem dX10_pump_83 : decode cX10_pump 83 = .ok (.aload_n 0, 1) := by decide +kernel
theorem dX10_pump_84 : decode cX10_pump 84 = .ok (.getfield 162, 3) := by decide +kernel
theorem dX10_pump_87 : decode cX10_pump 87 = .ok (.iload 4, 2) := by decide +kernel
theorem dX10_pump_89 : decode cX10_pump 89 = .ok (.iastore, 1) := by decide +kernel
theorem dX10_pump_90 : decode cX10_pump 90 = .ok (.aload_n 0, 1) := by decide +kernel
theorem dX10_pump_91 : decode cX10_pump 91 = .ok (.getfield 83, 3) := by decide +kernel
theorem dX10_pump_94 : decode cX10_pump 94 = .ok (.aload_n 0, 1) := by decide +kernel
theorem dX10_pump_95 : decode cX10_pump 95 = .ok (.getfield 162, 3) := by decide +kernel
theorem dX10_pump_98 : decode cX10_pump 98 = .ok (.iload 5, 2) := by decide +kernel
theorem dX10_pump_100 : decode cX10_pump 100 = .ok (.iastore, 1) := by decide +kernel
theorem dX10_pump_101 : decode cX10_pump 101 = .ok (.aload_n 0, 1) := by decide +kernel
theorem dX10_pump_102 : decode cX10_pump 102 = .ok (.dup, 1) := by decide +kernel
theorem dX10_pump_103 : decode cX10_pump 103 = .ok (.getfield 162, 3) := by decide +kernel
theorem dX10_pump_106 : decode cX10_pump 106 = .ok (.iconst 1, 1) := by decide +kernel
theorem dX10_pump_107 : decode cX10_pump 107 = .ok (.iadd, 1) := by decide +kernel
theorem dX10_pump_108 : decode cX10_pump 108 = .ok (.putfield 162, 3) := by decide +kernel
theorem dX10_pump_111 : decode cX10_pump 111 = .ok (.aload_n 0, 1) := by decide +kernel
theorem dX10_pump_112 : decode cX10_pump 112 = .ok (.getfield 162, 3) := by decide +kernel
theorem dX10_pump_115 : decode cX10_pump 115 = .ok (.iconst 1, 1) := by decide +kernel
theorem dX10_pump_116 : decode cX10_pump 116 = .ok (.isub, 1) := by decide +kernel
theorem dX10_pump_117 : decode cX10_pump 117 = .ok (.ireturn, 1) := by decide +kernel
theorem dX10_gate_0 : decode cX10_gate 0 = .ok (.aload_n 0, 1) := by decide +kernel
theorem dX10_gate_1 : decode cX10_gate 1 = .ok (.getfield 165, 3) := by decide +kernel
theorem dX10_gate_4 : decode cX10_gate 4 = .ok (.bipush 8, 2) := by decide +kernel
theorem dX10_gate_6 : decode cX10_gate 6 = .ok (.if_icmp .eq 31, 3) := by decide +kernel
theorem dX10_gate_9 : decode cX10_gate 9 = .ok (.aload_n 0, 1) := by decide +kernel
theorem dX10_gate_10 : decode cX10_gate 10 = .ok (.iload_n 1, 1) := by decide +kernel
theorem dX10_gate_11 : decode cX10_gate 11 = .ok (.invokevirtual 154, 3) := by decide +kernel
theorem dX10_gate_14 : decode cX10_gate 14 = .ok (.ifCond .eq 23, 3) := by decide +kernel
theorem dX10_gate_17 : decode cX10_gate 17 = .ok (.iload_n 2, 1) := by decide +kernel
theorem dX10_gate_18 : decode cX10_gate 18 = .ok (.iconst 0, 1) := by decide +kernel
theorem dX10_gate_19 : decode cX10_gate 19 = .ok (.ldc 168, 2) := by decide +kernel
theorem dX10_gate_21 : decode cX10_gate 21 = .ok (.invokestatic 145, 3) := by decide +kernel
theorem dX10_gate_24 : decode cX10_gate 24 = .ok (.ifCond .eq 13, 3) := by decide +kernel
theorem dX10_gate_27 : decode cX10_gate 27 = .ok (.iload_n 3, 1) := by decide +kernel
theorem dX10_gate_28 : decode cX10_gate 28 = .ok (.iconst 1, 1) := by decide +kernel
theorem dX10_gate_29 : decode cX10_gate 29 = .ok (.ldc 161, 2) := by decide +kernel
theorem dX10_gate_31 : decode cX10_gate 31 = .ok (.invokestatic 145, 3) := by decide +kernel
theorem dX10_gate_34 : decode cX10_gate 34 = .ok (.ifCond .ne 5, 3) := by decide +kernel
theorem dX10_gate_37 : decode cX10_gate 37 = .ok (.iconst (-1), 1) := by decide +kernel
theorem dX10_gate_38 : decode cX10_gate 38 = .ok (.ireturn, 1) := by decide +kernel
theorem dX10_gate_39 : decode cX10_gate 39 = .ok (.aload_n 0, 1) := by decide +kernel
theorem dX10_gate_40 : decode cX10_gate 40 = .ok (.getfield 90, 3) := by decide +kernel
theorem dX10_gate_43 : decode cX10_gate 43 = .ok (.aload_n 0, 1) := by decide +kernel
theorem dX10_gate_44 : decode cX10_gate 44 = .ok (.getfield 165, 3) := by decide +kernel
theorem dX10_gate_47 : decode cX10_gate 47 = .ok (.iload_n 1, 1) := by decide +kernel
theorem dX10_gate_48 : decode cX10_gate 48 = .ok (.iastore, 1) := by decide +kernel
theorem dX10_gate_49 : decode cX10_gate 49 = .ok (.aload_n 0, 1) := by decide +kernel
theorem dX10_gate_50 : decode cX10_gate 50 = .ok (.getfield 93, 3) := by decide +kernel
theorem dX10_gate_53 : decode cX10_gate 53 = .ok (.aload_n 0, 1) := by decide +kernel
theorem dX10_gate_54 : decode cX10_gate 54 = .ok (.getfield 165, 3) := by decide +kernel
theorem dX10_gate_57 : decode cX10_gate 57 = .ok (.iload_n 2, 1) := by decide +kernel
theorem dX10_gate_58 : decode cX10_gate 58 = .ok (.iastore, 1) := by decide +kernel
theorem dX10_gate_59 : decode cX10_gate 59 = .ok (.aload_n 0, 1) := by decide +kernel
theorem dX10_gate_60 : decode cX10_gate 60 = .ok (.getfield 96, 3) := by decide +kernel
theorem dX10_gate_63 : decode cX10_gate 63 = .ok (.aload_n 0, 1) := by decide +kernel
theorem dX10_gate_64 : decode cX10_gate 64 = .ok (.getfield 165, 3) := by decide +kernel
theorem dX10_gate_67 : decode cX10_gate 67 = .ok (.iload_n 3, 1) := by decide +kernel
theorem dX10_gate_68 : decode cX10_gate 68 = .ok (.iastore, 1) := by decide +kernel
theorem dX10_gate_69 : decode cX10_gate 69 = .ok (.aload_n 0, 1) := by decide +kernel
theorem dX10_gate_70 : decode cX10_gate 70 = .ok (.dup, 1) := by decide +kernel
theorem dX10_gate_71 : decode cX10_gate 71 = .ok (.getfield 165, 3) := by decide +kernel
theorem dX10_gate_74 : decode cX10_gate 74 = .ok (.iconst 1, 1) := by decide +kernel
theorem dX10_gate_75 : decode cX10_gate 75 = .ok (.iadd, 1) := by decide +kernel
theorem dX10_gate_76 : decode cX10_gate 76 = .ok (.putfield 165, 3) := by decide +kernel
theorem dX10_gate_79 : decode cX10_gate 79 = .ok (.aload_n 0, 1) := by decide +kernel
theorem dX10_gate_80 : decode cX10_gate 80 = .ok (.getfield 165, 3) := by decide +kernel
theorem dX10_gate_83 : decode cX10_gate 83 = .ok (.iconst 1, 1) := by decide +kernel
theorem dX10_gate_84 : decode cX10_gate 84 = .ok (.isub, 1) := by decide +kernel
theorem dX10_gate_85 : decode cX10_gate 85 = .ok (.ireturn, 1) := by decide +kernel
theorem dX10_gully_0 : decode cX10_gully 0 = .ok (.aload_n 0, 1) := by decide +kernel
theorem dX10_gully_1 : decode cX10_gully 1 = .ok (.getfield 169, 3) := by decide +kernel
theorem dX10_gully_4 : decode cX10_gully 4 = .ok (.bipush 8, 2) := by decide +kernel
theorem dX10_gully_6 : decode cX10_gully 6 = .ok (.if_icmp .eq 31, 3) := by decide +kernel
theorem dX10_gully_9 : decode cX10_gully 9 = .ok (.iload_n 1, 1) := by decide +kernel
theorem dX10_gully_10 : decode cX10_gully 10 = .ok (.iconst 0, 1) := by decide +kernel
theorem dX10_gully_11 : decode cX10_gully 11 = .ok (.bipush 7, 2) := by decide +kernel
theorem dX10_gully_13 : decode cX10_gully 13 = .ok (.invokestatic 145, 3) := by decide +kernel
theorem dX10_gully_16 : decode cX10_gully 16 = .ok (.ifCond .eq 21, 3) := by decide +kernel
theorem dX10_gully_19 : decode cX10_gully 19 = .ok (.aload_n 0, 1) := by decide +kernel
theorem dX10_gully_20 : decode cX10_gully 20 = .ok (.iload_n 2, 1) := by decide +kernel
theorem dX10_gully_21 : decode cX10_gully 21 = .ok (.invokevirtual 154, 3) := by decide +kernel
theorem dX10_gully_24 : decode cX10_gully 24 = .ok (.ifCond .eq 13, 3) := by decide +kernel
theorem dX10_gully_27 : decode cX10_gully 27 = .ok (.iload_n 3, 1) := by decide +kernel
theorem dX10_gully_28 : decode cX10_gully 28 = .ok (.iconst 1, 1) := by decide +kernel
theorem dX10_gully_29 : decode cX10_gully 29 = .ok (.ldc 150, 2) := by decide +kernel
theorem dX10_gully_31 : decode cX10_gully 31 = .ok (.invokestatic 145, 3) := by decide +kernel
theorem dX10_gully_34 : decode cX10_gully 34 = .ok (.ifCond .ne 5, 3) := by decide +kernel
theorem dX10_gully_37 : decode cX10_gully 37 = .ok (.iconst (-1), 1) := by decide +kernel
theorem dX10_gully_38 : decode cX10_gully 38 = .ok (.ireturn, 1) := by decide +kernel
theorem dX10_gully_39 : decode cX10_gully 39 = .ok (.aload_n 0, 1) := by decide +kernel
theorem dX10_gully_40 : decode cX10_gully 40 = .ok (.getfield 99, 3) := by decide +kernel
theorem dX10_gully_43 : decode cX10_gully 43 = .ok (.aload_n 0, 1) := by decide +kernel
theorem dX10_gully_44 : decode cX10_gully 44 = .ok (.getfield 169, 3) := by decide +kernel
theorem dX10_gully_47 : decode cX10_gully 47 = .ok (.iload_n 1, 1) := by decide +kernel
theorem dX10_gully_48 : decode cX10_gully 48 = .ok (.iastore, 1) := by decide +kernel
theorem dX10_gully_49 : decode cX10_gully 49 = .ok (.aload_n 0, 1) := by decide +kernel
theorem dX10_gully_50 : decode cX10_gully 50 = .ok (.getfield 102, 3) := by decide +kernel
theorem dX10_gully_53 : decode cX10_gully 53 = .ok (.aload_n 0, 1) := by decide +kernel
theorem dX10_gully_54 : decode cX10_gully 54 = .ok (.getfield 169, 3) := by decide +kernel
theorem dX10_gully_57 : decode cX10_gully 57 = .ok (.iload_n 2, 1) := by decide +kernel
theorem dX10_gully_58 : decode cX10_gully 58 = .ok (.iastore, 1) := by decide +kernel
theorem dX10_gully_59 : decode cX10_gully 59 = .ok (.aload_n 0, 1) := by decide +kernel
theorem dX10_gully_60 : decode cX10_gully 60 = .ok (.getfield 105, 3) := by decide +kernel
theorem dX10_gully_63 : decode cX10_gully 63 = .ok (.aload_n 0, 1) := by decide +kernel
theorem dX10_gully_64 : decode cX10_gully 64 = .ok (.getfield 169, 3) := by decide +kernel
theorem dX10_gully_67 : decode cX10_gully 67 = .ok (.iload_n 3, 1) := by decide +kernel
theorem dX10_gully_68 : decode cX10_gully 68 = .ok (.iastore, 1) := by decide +kernel
theorem dX10_gully_69 : decode cX10_gully 69 = .ok (.aload_n 0, 1) := by decide +kernel
theorem dX10_gully_70 : decode cX10_gully 70 = .ok (.dup, 1) := by decide +kernel
theorem dX10_gully_71 : decode cX10_gully 71 = .ok (.getfield 169, 3) := by decide +kernel
theorem dX10_gully_74 : decode cX10_gully 74 = .ok (.iconst 1, 1) := by decide +kernel
theorem dX10_gully_75 : decode cX10_gully 75 = .ok (.iadd, 1) := by decide +kernel
theorem dX10_gully_76 : decode cX10_gully 76 = .ok (.putfield 169, 3) := by decide +kernel
theorem dX10_gully_79 : decode cX10_gully 79 = .ok (.aload_n 0, 1) := by decide +kernel
theorem dX10_gully_80 : decode cX10_gully 80 = .ok (.getfield 169, 3) := by decide +kernel
theorem dX10_gully_83 : decode cX10_gully 83 = .ok (.iconst 1, 1) := by decide +kernel
theorem dX10_gully_84 : decode cX10_gully 84 = .ok (.isub, 1) := by decide +kernel
theorem dX10_gully_85 : decode cX10_gully 85 = .ok (.ireturn, 1) := by decide +kernel
theorem dX10_street_0 : decode cX10_street 0 = .ok (.aload_n 0, 1) := by decide +kernel
theorem dX10_street_1 : decode cX10_street 1 = .ok (.iload_n 1, 1) := by decide +kernel
theorem dX10_street_2 : decode cX10_street 2 = .ok (.invokevirtual 154, 3) := by decide +kernel
theorem dX10_street_5 : decode cX10_street 5 = .ok (.ifCond .eq 13, 3) := by decide +kernel
theorem dX10_street_8 : decode cX10_street 8 = .ok (.iload_n 2, 1) := by decide +kernel
theorem dX10_street_9 : decode cX10_street 9 = .ok (.iconst (-1), 1) := by decide +kernel
theorem dX10_street_10 : decode cX10_street 10 = .ok (.bipush 7, 2) := by decide +kernel
theorem dX10_street_12 : decode cX10_street 12 = .ok (.invokestatic 145, 3) := by decide +kernel
theorem dX10_street_15 : decode cX10_street 15 = .ok (.ifCond .ne 6, 3) := by decide +kernel
theorem dX10_street_18 : decode cX10_street 18 = .ok (.bipush (-2), 2) := by decide +kernel
theorem dX10_street_20 : decode cX10_street 20 = .ok (.ireturn, 1) := by decide +kernel
theorem dX10_street_21 : decode cX10_street 21 = .ok (.aload_n 0, 1) := by decide +kernel
theorem dX10_street_22 : decode cX10_street 22 = .ok (.getfield 19, 3) := by decide +kernel
theorem dX10_street_25 : decode cX10_street 25 = .ok (.iload_n 1, 1) := by decide +kernel
theorem dX10_street_26 : decode cX10_street 26 = .ok (.iaload, 1) := by decide +kernel
theorem dX10_street_27 : decode cX10_street 27 = .ok (.istore_n 3, 1) := by decide +kernel
theorem dX10_street_28 : decode cX10_street 28 = .ok (.aload_n 0, 1) := by decide +kernel
theorem dX10_street_29 : decode cX10_street 29 = .ok (.getfield 19, 3) := by decide +kernel
theorem dX10_street_32 : decode cX10_street 32 = .ok (.iload_n 1, 1) := by decide +kernel
theorem dX10_street_33 : decode cX10_street 33 = .ok (.iload_n 2, 1) := by decide +kernel
theorem dX10_street_34 : decode cX10_street 34 = .ok (.iastore, 1) := by decide +kernel
theorem dX10_street_35 : decode cX10_street 35 = .ok (.iload_n 3, 1) := by decide +kernel
theorem dX10_street_36 : decode cX10_street 36 = .ok (.ireturn, 1) := by decide +kernel
theorem dX10_levelOf_0 : decode cX10_levelOf 0 = .ok (.aload_n 0, 1) := by decide +kernel
theorem dX10_levelOf_1 : decode cX10_levelOf 1 = .ok (.getfield 13, 3) := by decide +kernel
theorem dX10_levelOf_4 : decode cX10_levelOf 4 = .ok (.iload_n 1, 1) := by decide +kernel
theorem dX10_levelOf_5 : decode cX10_levelOf 5 = .ok (.iaload, 1) := by decide +kernel
theorem dX10_levelOf_6 : decode cX10_levelOf 6 = .ok (.i2l, 1) := by decide +kernel
theorem dX10_levelOf_7 : decode cX10_levelOf 7 = .ok (.aload_n 0, 1) := by decide +kernel
theorem dX10_levelOf_8 : decode cX10_levelOf 8 = .ok (.getfield 22, 3) := by decide +kernel
theorem dX10_levelOf_11 : decode cX10_levelOf 11 = .ok (.iload_n 1, 1) := by decide +kernel
theorem dX10_levelOf_12 : decode cX10_levelOf 12 = .ok (.laload, 1) := by decide +kernel
theorem dX10_levelOf_13 : decode cX10_levelOf 13 = .ok (.aload_n 0, 1) := by decide +kernel
theorem dX10_levelOf_14 : decode cX10_levelOf 14 = .ok (.getfield 16, 3) := by decide +kernel
theorem dX10_levelOf_17 : decode cX10_levelOf 17 = .ok (.iload_n 1, 1) := by decide +kernel
theorem dX10_levelOf_18 : decode cX10_levelOf 18 = .ok (.iaload, 1) := by decide +kernel
theorem dX10_levelOf_19 : decode cX10_levelOf 19 = .ok (.i2l, 1) := by decide +kernel
theorem dX10_levelOf_20 : decode cX10_levelOf 20 = .ok (.ldiv, 1) := by decide +kernel
theorem dX10_levelOf_21 : decode cX10_levelOf 21 = .ok (.ladd, 1) := by decide +kernel
theorem dX10_levelOf_22 : decode cX10_levelOf 22 = .ok (.lreturn, 1) := by decide +kernel
theorem dX10_fullOf_0 : decode cX10_fullOf 0 = .ok (.aload_n 0, 1) := by decide +kernel
theorem dX10_fullOf_1 : decode cX10_fullOf 1 = .ok (.getfield 16, 3) := by decide +kernel
theorem dX10_fullOf_4 : decode cX10_fullOf 4 = .ok (.iload_n 1, 1) := by decide +kernel
theorem dX10_fullOf_5 : decode cX10_fullOf 5 = .ok (.iaload, 1) := by decide +kernel
theorem dX10_fullOf_6 : decode cX10_fullOf 6 = .ok (.i2l, 1) := by decide +kernel
theorem dX10_fullOf_7 : decode cX10_fullOf 7 = .ok (.aload_n 0, 1) := by decide +kernel
theorem dX10_fullOf_8 : decode cX10_fullOf 8 = .ok (.getfield 7, 3) := by decide +kernel
theorem dX10_fullOf_11 : decode cX10_fullOf 11 = .ok (.iload_n 1, 1) := by decide +kernel
theorem dX10_fullOf_12 : decode cX10_fullOf 12 = .ok (.iaload, 1) := by decide +kernel
theorem dX10_fullOf_13 : decode cX10_fullOf 13 = .ok (.aload_n 0, 1) := by decide +kernel
theorem dX10_fullOf_14 : decode cX10_fullOf 14 = .ok (.getfield 13, 3) := by decide +kernel
theorem dX10_fullOf_17 : decode cX10_fullOf 17 = .ok (.iload_n 1, 1) := by decide +kernel
theorem dX10_fullOf_18 : decode cX10_fullOf 18 = .ok (.iaload, 1) := by decide +kernel
theorem dX10_fullOf_19 : decode cX10_fullOf 19 = .ok (.isub, 1) := by decide +kernel
theorem dX10_fullOf_20 : decode cX10_fullOf 20 = .ok (.i2l, 1) := by decide +kernel
theorem dX10_fullOf_21 : decode cX10_fullOf 21 = .ok (.lmul, 1) := by decide +kernel
theorem dX10_fullOf_22 : decode cX10_fullOf 22 = .ok (.lreturn, 1) := by decide +kernel
theorem dX10_less_0 : decode cX10_less 0 = .ok (.lload_n 0, 1) := by decide +kernel
theorem dX10_less_1 : decode cX10_less 1 = .ok (.lload_n 2, 1) := by decide +kernel
theorem dX10_less_2 : decode cX10_less 2 = .ok (.lcmp, 1) := by decide +kernel
theorem dX10_less_3 : decode cX10_less 3 = .ok (.ifCond .ge 7, 3) := by decide +kernel
theorem dX10_less_6 : decode cX10_less 6 = .ok (.lload_n 0, 1) := by decide +kernel
theorem dX10_less_7 : decode cX10_less 7 = .ok (.goto 4, 3) := by decide +kernel
theorem dX10_less_10 : decode cX10_less 10 = .ok (.lload_n 2, 1) := by decide +kernel
theorem dX10_less_11 : decode cX10_less 11 = .ok (.lreturn, 1) := by decide +kernel
theorem dX10_rainOf_0 : decode cX10_rainOf 0 = .ok (.aload_n 0, 1) := by decide +kernel
theorem dX10_rainOf_1 : decode cX10_rainOf 1 = .ok (.getfield 65, 3) := by decide +kernel
theorem dX10_rainOf_4 : decode cX10_rainOf 4 = .ok (.iload_n 1, 1) := by decide +kernel
theorem dX10_rainOf_5 : decode cX10_rainOf 5 = .ok (.dup2, 1) := by decide +kernel
theorem dX10_rainOf_6 : decode cX10_rainOf 6 = .ok (.laload, 1) := by decide +kernel
theorem dX10_rainOf_7 : decode cX10_rainOf 7 = .ok (.aload_n 0, 1) := by decide +kernel
theorem dX10_rainOf_8 : decode cX10_rainOf 8 = .ok (.getfield 59, 3) := by decide +kernel
theorem dX10_rainOf_11 : decode cX10_rainOf 11 = .ok (.iload_n 1, 1) := by decide +kernel
theorem dX10_rainOf_12 : decode cX10_rainOf 12 = .ok (.iaload, 1) := by decide +kernel
theorem dX10_rainOf_13 : decode cX10_rainOf 13 = .ok (.i2l, 1) := by decide +kernel
theorem dX10_rainOf_14 : decode cX10_rainOf 14 = .ok (.aload_n 0, 1) := by decide +kernel
theorem dX10_rainOf_15 : decode cX10_rainOf 15 = .ok (.getfield 68, 3) := by decide +kernel
theorem dX10_rainOf_18 : decode cX10_rainOf 18 = .ok (.iload_n 2, 1) := by decide +kernel
theorem dX10_rainOf_19 : decode cX10_rainOf 19 = .ok (.iaload, 1) := by decide +kernel
theorem dX10_rainOf_20 : decode cX10_rainOf 20 = .ok (.i2l, 1) := by decide +kernel
theorem dX10_rainOf_21 : decode cX10_rainOf 21 = .ok (.lmul, 1) := by decide +kernel
theorem dX10_rainOf_22 : decode cX10_rainOf 22 = .ok (.sipush 1000, 3) := by decide +kernel
theorem dX10_rainOf_25 : decode cX10_rainOf 25 = .ok (.aload_n 0, 1) := by decide +kernel
theorem dX10_rainOf_26 : decode cX10_rainOf 26 = .ok (.getfield 62, 3) := by decide +kernel
theorem dX10_rainOf_29 : decode cX10_rainOf 29 = .ok (.iload_n 1, 1) := by decide +kernel
theorem dX10_rainOf_30 : decode cX10_rainOf 30 = .ok (.iaload, 1) := by decide +kernel
theorem dX10_rainOf_31 : decode cX10_rainOf 31 = .ok (.isub, 1) := by decide +kernel
theorem dX10_rainOf_32 : decode cX10_rainOf 32 = .ok (.i2l, 1) := by decide +kernel
theorem dX10_rainOf_33 : decode cX10_rainOf 33 = .ok (.lmul, 1) := by decide +kernel
theorem dX10_rainOf_34 : decode cX10_rainOf 34 = .ok (.ladd, 1) := by decide +kernel
theorem dX10_rainOf_35 : decode cX10_rainOf 35 = .ok (.lastore, 1) := by decide +kernel
theorem dX10_rainOf_36 : decode cX10_rainOf 36 = .ok (.aload_n 0, 1) := by decide +kernel
theorem dX10_rainOf_37 : decode cX10_rainOf 37 = .ok (.getfield 65, 3) := by decide +kernel
theorem dX10_rainOf_40 : decode cX10_rainOf 40 = .ok (.iload_n 1, 1) := by decide +kernel
theorem dX10_rainOf_41 : decode cX10_rainOf 41 = .ok (.laload, 1) := by decide +kernel
theorem dX10_rainOf_42 : decode cX10_rainOf 42 = .ok (.ldc2_w 172, 3) := by decide +kernel
theorem dX10_rainOf_45 : decode cX10_rainOf 45 = .ok (.ldiv, 1) := by decide +kernel
theorem dX10_rainOf_46 : decode cX10_rainOf 46 = .ok (.lstore_n 3, 1) := by decide +kernel
theorem dX10_rainOf_47 : decode cX10_rainOf 47 = .ok (.aload_n 0, 1) := by decide +kernel
theorem dX10_rainOf_48 : decode cX10_rainOf 48 = .ok (.getfield 65, 3) := by decide +kernel
theorem dX10_rainOf_51 : decode cX10_rainOf 51 = .ok (.iload_n 1, 1) := by decide +kernel
theorem dX10_rainOf_52 : decode cX10_rainOf 52 = .ok (.dup2, 1) := by decide +kernel
theorem dX10_rainOf_53 : decode cX10_rainOf 53 = .ok (.laload, 1) := by decide +kernel
theorem dX10_rainOf_54 : decode cX10_rainOf 54 = .ok (.lload_n 3, 1) := by decide +kernel
theorem dX10_rainOf_55 : decode cX10_rainOf 55 = .ok (.ldc2_w 172, 3) := by decide +kernel
theorem dX10_rainOf_58 : decode cX10_rainOf 58 = .ok (.lmul, 1) := by decide +kernel
theorem dX10_rainOf_59 : decode cX10_rainOf 59 = .ok (.lsub, 1) := by decide +kernel
theorem dX10_rainOf_60 : decode cX10_rainOf 60 = .ok (.lastore, 1) := by decide +kernel
theorem dX10_rainOf_61 : decode cX10_rainOf 61 = .ok (.aload_n 0, 1) := by decide +kernel
theorem dX10_rainOf_62 : decode cX10_rainOf 62 = .ok (.getfield 22, 3) := by decide +kernel
theorem dX10_rainOf_65 : decode cX10_rainOf 65 = .ok (.aload_n 0, 1) := by decide +kernel
theorem dX10_rainOf_66 : decode cX10_rainOf 66 = .ok (.getfield 56, 3) := by decide +kernel
theorem dX10_rainOf_69 : decode cX10_rainOf 69 = .ok (.iload_n 1, 1) := by decide +kernel
theorem dX10_rainOf_70 : decode cX10_rainOf 70 = .ok (.iaload, 1) := by decide +kernel
theorem dX10_rainOf_71 : decode cX10_rainOf 71 = .ok (.dup2, 1) := by decide +kernel
theorem dX10_rainOf_72 : decode cX10_rainOf 72 = .ok (.laload, 1) := by decide +kernel
theorem dX10_rainOf_73 : decode cX10_rainOf 73 = .ok (.lload_n 3, 1) := by decide +kernel
theorem dX10_rainOf_74 : decode cX10_rainOf 74 = .ok (.ladd, 1) := by decide +kernel
theorem dX10_rainOf_75 : decode cX10_rainOf 75 = .ok (.lastore, 1) := by decide +kernel
theorem dX10_rainOf_76 : decode cX10_rainOf 76 = .ok (.aload_n 0, 1) := by decide +kernel
theorem dX10_rainOf_77 : decode cX10_rainOf 77 = .ok (.dup, 1) := by decide +kernel
theorem dX10_rainOf_78 : decode cX10_rainOf 78 = .ok (.getfield 174, 3) := by decide +kernel
theorem dX10_rainOf_81 : decode cX10_rainOf 81 = .ok (.lload_n 3, 1) := by decide +kernel
theorem dX10_rainOf_82 : decode cX10_rainOf 82 = .ok (.ladd, 1) := by decide +kernel
theorem dX10_rainOf_83 : decode cX10_rainOf 83 = .ok (.putfield 174, 3) := by decide +kernel
theorem dX10_rainOf_86 : decode cX10_rainOf 86 = .ok (.return_, 1) := by decide +kernel
theorem dX10_flowOf_0 : decode cX10_flowOf 0 = .ok (.aload_n 0, 1) := by decide +kernel
theorem dX10_flowOf_1 : decode cX10_flowOf 1 = .ok (.getfield 35, 3) := by decide +kernel
theorem dX10_flowOf_4 : decode cX10_flowOf 4 = .ok (.iload_n 1, 1) := by decide +kernel
theorem dX10_flowOf_5 : decode cX10_flowOf 5 = .ok (.iaload, 1) := by decide +kernel
theorem dX10_flowOf_6 : decode cX10_flowOf 6 = .ok (.istore_n 2, 1) := by decide +kernel
theorem dX10_flowOf_7 : decode cX10_flowOf 7 = .ok (.aload_n 0, 1) := by decide +kernel
theorem dX10_flowOf_8 : decode cX10_flowOf 8 = .ok (.getfield 38, 3) := by decide +kernel
theorem dX10_flowOf_11 : decode cX10_flowOf 11 = .ok (.iload_n 1, 1) := by decide +kernel
theorem dX10_flowOf_12 : decode cX10_flowOf 12 = .ok (.iaload, 1) := by decide +kernel
theorem dX10_flowOf_13 : decode cX10_flowOf 13 = .ok (.istore_n 3, 1) := by decide +kernel
theorem dX10_flowOf_14 : decode cX10_flowOf 14 = .ok (.aload_n 0, 1) := by decide +kernel
theorem dX10_flowOf_15 : decode cX10_flowOf 15 = .ok (.getfield 47, 3) := by decide +kernel
theorem dX10_flowOf_18 : decode cX10_flowOf 18 = .ok (.iload_n 1, 1) := by decide +kernel
theorem dX10_flowOf_19 : decode cX10_flowOf 19 = .ok (.dup2, 1) := by decide +kernel
theorem dX10_flowOf_20 : decode cX10_flowOf 20 = .ok (.laload, 1) := by decide +kernel
theorem dX10_flowOf_21 : decode cX10_flowOf 21 = .ok (.aload_n 0, 1) := by decide +kernel
theorem dX10_flowOf_22 : decode cX10_flowOf 22 = .ok (.getfield 44, 3) := by decide +kernel
theorem dX10_flowOf_25 : decode cX10_flowOf 25 = .ok (.iload_n 1, 1) := by decide +kernel
theorem dX10_flowOf_26 : decode cX10_flowOf 26 = .ok (.iaload, 1) := by decide +kernel
theorem dX10_flowOf_27 : decode cX10_flowOf 27 = .ok (.i2l, 1) := by decide +kernel
theorem dX10_flowOf_28 : decode cX10_flowOf 28 = .ok (.aload_n 0, 1) := by decide +kernel
theorem dX10_flowOf_29 : decode cX10_flowOf 29 = .ok (.getfield 44, 3) := by decide +kernel
theorem dX10_flowOf_32 : decode cX10_flowOf 32 = .ok (.iload_n 1, 1) := by decide +kernel
theorem dX10_flowOf_33 : decode cX10_flowOf 33 = .ok (.iaload, 1) := by decide +kernel
theorem dX10_flowOf_34 : decode cX10_flowOf 34 = .ok (.i2l, 1) := by decide +kernel
theorem dX10_flowOf_35 : decode cX10_flowOf 35 = .ok (.lmul, 1) := by decide +kernel
theorem dX10_flowOf_36 : decode cX10_flowOf 36 = .ok (.aload_n 0, 1) := by decide +kernel
theorem dX10_flowOf_37 : decode cX10_flowOf 37 = .ok (.getfield 32, 3) := by decide +kernel
theorem dX10_flowOf_40 : decode cX10_flowOf 40 = .ok (.iload_n 2, 1) := by decide +kernel
theorem dX10_flowOf_41 : decode cX10_flowOf 41 = .ok (.laload, 1) := by decide +kernel
theorem dX10_flowOf_42 : decode cX10_flowOf 42 = .ok (.aload_n 0, 1) := by decide +kernel
theorem dX10_flowOf_43 : decode cX10_flowOf 43 = .ok (.getfield 32, 3) := by decide +kernel
theorem dX10_flowOf_46 : decode cX10_flowOf 46 = .ok (.iload_n 3, 1) := by decide +kernel
theorem dX10_flowOf_47 : decode cX10_flowOf 47 = .ok (.laload, 1) := by decide +kernel
theorem dX10_flowOf_48 : decode cX10_flowOf 48 = .ok (.lsub, 1) := by decide +kernel
theorem dX10_flowOf_49 : decode cX10_flowOf 49 = .ok (.lmul, 1) := by decide +kernel
theorem dX10_flowOf_50 : decode cX10_flowOf 50 = .ok (.ladd, 1) := by decide +kernel
theorem dX10_flowOf_51 : decode cX10_flowOf 51 = .ok (.lastore, 1) := by decide +kernel
theorem dX10_flowOf_52 : decode cX10_flowOf 52 = .ok (.ldc2_w 178, 3) := by decide +kernel
theorem dX10_flowOf_55 : decode cX10_flowOf 55 = .ok (.aload_n 0, 1) := by decide +kernel
theorem dX10_flowOf_56 : decode cX10_flowOf 56 = .ok (.getfield 41, 3) := by decide +kernel
theorem dX10_flowOf_59 : decode cX10_flowOf 59 = .ok (.iload_n 1, 1) := by decide +kernel
theorem dX10_flowOf_60 : decode cX10_flowOf 60 = .ok (.iaload, 1) := by decide +kernel
theorem dX10_flowOf_61 : decode cX10_flowOf 61 = .ok (.i2l, 1) := by decide +kernel
theorem dX10_flowOf_62 : decode cX10_flowOf 62 = .ok (.lmul, 1) := by decide +kernel
theorem dX10_flowOf_63 : decode cX10_flowOf 63 = .ok (.lstore 4, 2) := by decide +kernel
theorem dX10_flowOf_65 : decode cX10_flowOf 65 = .ok (.aload_n 0, 1) := by decide +kernel
theorem dX10_flowOf_66 : decode cX10_flowOf 66 = .ok (.getfield 47, 3) := by decide +kernel
theorem dX10_flowOf_69 : decode cX10_flowOf 69 = .ok (.iload_n 1, 1) := by decide +kernel
theorem dX10_flowOf_70 : decode cX10_flowOf 70 = .ok (.laload, 1) := by decide +kernel
theorem dX10_flowOf_71 : decode cX10_flowOf 71 = .ok (.lload 4, 2) := by decide +kernel
theorem dX10_flowOf_73 : decode cX10_flowOf 73 = .ok (.ldiv, 1) := by decide +kernel
theorem dX10_flowOf_74 : decode cX10_flowOf 74 = .ok (.lstore 6, 2) := by decide +kernel
theorem dX10_flowOf_76 : decode cX10_flowOf 76 = .ok (.aload_n 0, 1) := by decide +kernel
theorem dX10_flowOf_77 : decode cX10_flowOf 77 = .ok (.getfield 47, 3) := by decide +kernel
theorem dX10_flowOf_80 : decode cX10_flowOf 80 = .ok (.iload_n 1, 1) := by decide +kernel
theorem dX10_flowOf_81 : decode cX10_flowOf 81 = .ok (.dup2, 1) := by decide +kernel
theorem dX10_flowOf_82 : decode cX10_flowOf 82 = .ok (.laload, 1) := by decide +kernel
theorem dX10_flowOf_83 : decode cX10_flowOf 83 = .ok (.lload 6, 2) := by decide +kernel
theorem dX10_flowOf_85 : decode cX10_flowOf 85 = .ok (.lload 4, 2) := by decide +kernel
theorem dX10_flowOf_87 : decode cX10_flowOf 87 = .ok (.lmul, 1) := by decide +kernel
theorem dX10_flowOf_88 : decode cX10_flowOf 88 = .ok (.lsub, 1) := by decide +kernel
theorem dX10_flowOf_89 : decode cX10_flowOf 89 = .ok (.lastore, 1) := by decide +kernel
theorem dX10_flowOf_90 : decode cX10_flowOf 90 = .ok (.lload 6, 2) := by decide +kernel
theorem dX10_flowOf_92 : decode cX10_flowOf 92 = .ok (.lconst 0, 1) := by decide +kernel
theorem dX10_flowOf_93 : decode cX10_flowOf 93 = .ok (.lcmp, 1) := by decide +kernel
theorem dX10_flowOf_94 : decode cX10_flowOf 94 = .ok (.ifCond .lt 17, 3) := by decide +kernel
theorem dX10_flowOf_97 : decode cX10_flowOf 97 = .ok (.lload 6, 2) := by decide +kernel
theorem dX10_flowOf_99 : decode cX10_flowOf 99 = .ok (.aload_n 0, 1) := by decide +kernel
theorem dX10_flowOf_100 : decode cX10_flowOf 100 = .ok (.getfield 22, 3) := by decide +kernel
theorem dX10_flowOf_103 : decode cX10_flowOf 103 = .ok (.iload_n 2, 1) := by decide +kernel
theorem dX10_flowOf_104 : decode cX10_flowOf 104 = .ok (.laload, 1) := by decide +kernel
theorem dX10_flowOf_105 : decode cX10_flowOf 105 = .ok (.invokestatic 180, 3) := by decide +kernel
theorem dX10_flowOf_108 : decode cX10_flowOf 108 = .ok (.goto 16, 3) := by decide +kernel
theorem dX10_flowOf_111 : decode cX10_flowOf 111 = .ok (.lload 6, 2) := by decide +kernel
theorem dX10_flowOf_113 : decode cX10_flowOf 113 = .ok (.lneg, 1) := by decide +kernel
theorem dX10_flowOf_114 : decode cX10_flowOf 114 = .ok (.aload_n 0, 1) := by decide +kernel
theorem dX10_flowOf_115 : decode cX10_flowOf 115 = .ok (.getfield 22, 3) := by decide +kernel
theorem dX10_flowOf_118 : decode cX10_flowOf 118 = .ok (.iload_n 3, 1) := by decide +kernel
theorem dX10_flowOf_119 : decode cX10_flowOf 119 = .ok (.laload, 1) := by decide +kernel
theorem dX10_flowOf_120 : decode cX10_flowOf 120 = .ok (.invokestatic 180, 3) := by decide +kernel
theorem dX10_flowOf_123 : decode cX10_flowOf 123 = .ok (.lneg, 1) := by decide +kernel
theorem dX10_flowOf_124 : decode cX10_flowOf 124 = .ok (.lstore 8, 2) := by decide +kernel
theorem dX10_flowOf_126 : decode cX10_flowOf 126 = .ok (.aload_n 0, 1) := by decide +kernel
theorem dX10_flowOf_127 : decode cX10_flowOf 127 = .ok (.getfield 22, 3) := by decide +kernel
theorem dX10_flowOf_130 : decode cX10_flowOf 130 = .ok (.iload_n 2, 1) := by decide +kernel
theorem dX10_flowOf_131 : decode cX10_flowOf 131 = .ok (.dup2, 1) := by decide +kernel
theorem dX10_flowOf_132 : decode cX10_flowOf 132 = .ok (.laload, 1) := by decide +kernel
theorem dX10_flowOf_133 : decode cX10_flowOf 133 = .ok (.lload 8, 2) := by decide +kernel
theorem dX10_flowOf_135 : decode cX10_flowOf 135 = .ok (.lsub, 1) := by decide +kernel
theorem dX10_flowOf_136 : decode cX10_flowOf 136 = .ok (.lastore, 1) := by decide +kernel
theorem dX10_flowOf_137 : decode cX10_flowOf 137 = .ok (.aload_n 0, 1) := by decide +kernel
theorem dX10_flowOf_138 : decode cX10_flowOf 138 = .ok (.getfield 22, 3) := by decide +kernel
theorem dX10_flowOf_141 : decode cX10_flowOf 141 = .ok (.iload_n 3, 1) := by decide +kernel
theorem dX10_flowOf_142 : decode cX10_flowOf 142 = .ok (.dup2, 1) := by decide +kernel
theorem dX10_flowOf_143 : decode cX10_flowOf 143 = .ok (.laload, 1) := by decide +kernel
theorem dX10_flowOf_144 : decode cX10_flowOf 144 = .ok (.lload 8, 2) := by decide +kernel
theorem dX10_flowOf_146 : decode cX10_flowOf 146 = .ok (.ladd, 1) := by decide +kernel
theorem dX10_flowOf_147 : decode cX10_flowOf 147 = .ok (.lastore, 1) := by decide +kernel
theorem dX10_flowOf_148 : decode cX10_flowOf 148 = .ok (.aload_n 0, 1) := by decide +kernel
theorem dX10_flowOf_149 : decode cX10_flowOf 149 = .ok (.getfield 50, 3) := by decide +kernel
theorem dX10_flowOf_152 : decode cX10_flowOf 152 = .ok (.iload_n 1, 1) := by decide +kernel
theorem dX10_flowOf_153 : decode cX10_flowOf 153 = .ok (.lload 8, 2) := by decide +kernel
theorem dX10_flowOf_155 : decode cX10_flowOf 155 = .ok (.lastore, 1) := by decide +kernel
theorem dX10_flowOf_156 : decode cX10_flowOf 156 = .ok (.aload_n 0, 1) := by decide +kernel
theorem dX10_flowOf_157 : decode cX10_flowOf 157 = .ok (.getfield 53, 3) := by decide +kernel
theorem dX10_flowOf_160 : decode cX10_flowOf 160 = .ok (.iload_n 1, 1) := by decide +kernel
theorem dX10_flowOf_161 : decode cX10_flowOf 161 = .ok (.dup2, 1) := by decide +kernel
theorem dX10_flowOf_162 : decode cX10_flowOf 162 = .ok (.laload, 1) := by decide +kernel
theorem dX10_flowOf_163 : decode cX10_flowOf 163 = .ok (.lload 8, 2) := by decide +kernel
theorem dX10_flowOf_165 : decode cX10_flowOf 165 = .ok (.ladd, 1) := by decide +kernel
theorem dX10_flowOf_166 : decode cX10_flowOf 166 = .ok (.lastore, 1) := by decide +kernel
theorem dX10_flowOf_167 : decode cX10_flowOf 167 = .ok (.return_, 1) := by decide +kernel
theorem dX10_pumpOf_0 : decode cX10_pumpOf 0 = .ok (.aload_n 0, 1) := by decide +kernel
theorem dX10_pumpOf_1 : decode cX10_pumpOf 1 = .ok (.aload_n 0, 1) := by decide +kernel
theorem dX10_pumpOf_2 : decode cX10_pumpOf 2 = .ok (.getfield 71, 3) := by decide +kernel
theorem dX10_pumpOf_5 : decode cX10_pumpOf 5 = .ok (.iload_n 1, 1) := by decide +kernel
theorem dX10_pumpOf_6 : decode cX10_pumpOf 6 = .ok (.iaload, 1) := by decide +kernel
theorem dX10_pumpOf_7 : decode cX10_pumpOf 7 = .ok (.invokevirtual 184, 3) := by decide +kernel
theorem dX10_pumpOf_10 : decode cX10_pumpOf 10 = .ok (.lstore_n 2, 1) := by decide +kernel
theorem dX10_pumpOf_11 : decode cX10_pumpOf 11 = .ok (.lload_n 2, 1) := by decide +kernel
theorem dX10_pumpOf_12 : decode cX10_pumpOf 12 = .ok (.aload_n 0, 1) := by decide +kernel
theorem dX10_pumpOf_13 : decode cX10_pumpOf 13 = .ok (.getfield 77, 3) := by decide +kernel
theorem dX10_pumpOf_16 : decode cX10_pumpOf 16 = .ok (.iload_n 1, 1) := by decide +kernel
theorem dX10_pumpOf_17 : decode cX10_pumpOf 17 = .ok (.iaload, 1) := by decide +kernel
theorem dX10_pumpOf_18 : decode cX10_pumpOf 18 = .ok (.i2l, 1) := by decide +kernel
theorem dX10_pumpOf_19 : decode cX10_pumpOf 19 = .ok (.lcmp, 1) := by decide +kernel
theorem dX10_pumpOf_20 : decode cX10_pumpOf 20 = .ok (.ifCond .lt 13, 3) := by decide +kernel
theorem dX10_pumpOf_23 : decode cX10_pumpOf 23 = .ok (.aload_n 0, 1) := by decide +kernel
theorem dX10_pumpOf_24 : decode cX10_pumpOf 24 = .ok (.getfield 86, 3) := by decide +kernel
theorem dX10_pumpOf_27 : decode cX10_pumpOf 27 = .ok (.iload_n 1, 1) := by decide +kernel
theorem dX10_pumpOf_28 : decode cX10_pumpOf 28 = .ok (.iconst 1, 1) := by decide +kernel
theorem dX10_pumpOf_29 : decode cX10_pumpOf 29 = .ok (.bastore, 1) := by decide +kernel
theorem dX10_pumpOf_30 : decode cX10_pumpOf 30 = .ok (.goto 22, 3) := by decide +kernel
theorem dX10_pumpOf_33 : decode cX10_pumpOf 33 = .ok (.lload_n 2, 1) := by decide +kernel
theorem dX10_pumpOf_34 : decode cX10_pumpOf 34 = .ok (.aload_n 0, 1) := by decide +kernel
theorem dX10_pumpOf_35 : decode cX10_pumpOf 35 = .ok (.getfield 80, 3) := by decide +kernel
theorem dX10_pumpOf_38 : decode cX10_pumpOf 38 = .ok (.iload_n 1, 1) := by decide +kernel
theorem dX10_pumpOf_39 : decode cX10_pumpOf 39 = .ok (.iaload, 1) := by decide +kernel
theorem dX10_pumpOf_40 : decode cX10_pumpOf 40 = .ok (.i2l, 1) := by decide +kernel
theorem dX10_pumpOf_41 : decode cX10_pumpOf 41 = .ok (.lcmp, 1) := by decide +kernel
theorem dX10_pumpOf_42 : decode cX10_pumpOf 42 = .ok (.ifCond .gt 10, 3) := by decide +kernel
theorem dX10_pumpOf_45 : decode cX10_pumpOf 45 = .ok (.aload_n 0, 1) := by decide +kernel
theorem dX10_pumpOf_46 : decode cX10_pumpOf 46 = .ok (.getfield 86, 3) := by decide +kernel
theorem dX10_pumpOf_49 : decode cX10_pumpOf 49 = .ok (.iload_n 1, 1) := by decide +kernel
theorem dX10_pumpOf_50 : decode cX10_pumpOf 50 = .ok (.iconst 0, 1) := by decide +kernel
theorem dX10_pumpOf_51 : decode cX10_pumpOf 51 = .ok (.bastore, 1) := by decide +kernel
theorem dX10_pumpOf_52 : decode cX10_pumpOf 52 = .ok (.aload_n 0, 1) := by decide +kernel
theorem dX10_pumpOf_53 : decode cX10_pumpOf 53 = .ok (.getfield 86, 3) := by decide +kernel
theorem dX10_pumpOf_56 : decode cX10_pumpOf 56 = .ok (.iload_n 1, 1) := by decide +kernel
theorem dX10_pumpOf_57 : decode cX10_pumpOf 57 = .ok (.baload, 1) := by decide +kernel
theorem dX10_pumpOf_58 : decode cX10_pumpOf 58 = .ok (.ifCond .eq 27, 3) := by decide +kernel
theorem dX10_pumpOf_61 : decode cX10_pumpOf 61 = .ok (.aload_n 0, 1) := by decide +kernel
theorem dX10_pumpOf_62 : decode cX10_pumpOf 62 = .ok (.getfield 83, 3) := by decide +kernel
theorem dX10_pumpOf_65 : decode cX10_pumpOf 65 = .ok (.iload_n 1, 1) := by decide +kernel
theorem dX10_pumpOf_66 : decode cX10_pumpOf 66 = .ok (.iaload, 1) := by decide +kernel
theorem dX10_pumpOf_67 : decode cX10_pumpOf 67 = .ok (.i2l, 1) := by decide +kernel
theorem dX10_pumpOf_68 : decode cX10_pumpOf 68 = .ok (.aload_n 0, 1) := by decide +kernel
theorem dX10_pumpOf_69 : decode cX10_pumpOf 69 = .ok (.getfield 22, 3) := by decide +kernel
theorem dX10_pumpOf_72 : decode cX10_pumpOf 72 = .ok (.aload_n 0, 1) := by decide +kernel
theorem dX10_pumpOf_73 : decode cX10_pumpOf 73 = .ok (.getfield 71, 3) := by decide +kernel
theorem dX10_pumpOf_76 : decode cX10_pumpOf 76 = .ok (.iload_n 1, 1) := by decide +kernel
theorem dX10_pumpOf_77 : decode cX10_pumpOf 77 = .ok (.iaload, 1) := by decide +kernel
theorem dX10_pumpOf_78 : decode cX10_pumpOf 78 = .ok (.laload, 1) := by decide +kernel
theorem dX10_pumpOf_79 : decode cX10_pumpOf 79 = .ok (.invokestatic 180, 3) := by decide +kernel
theorem dX10_pumpOf_82 : decode cX10_pumpOf 82 = .ok (.goto 4, 3) := by decide +kernel
theorem dX10_pumpOf_85 : decode cX10_pumpOf 85 = .ok (.lconst 0, 1) := by decide +kernel
theorem dX10_pumpOf_86 : decode cX10_pumpOf 86 = .ok (.lstore 4, 2) := by decide +kernel
theorem dX10_pumpOf_88 : decode cX10_pumpOf 88 = .ok (.aload_n 0, 1) := by decide +kernel
theorem dX10_pumpOf_89 : decode cX10_pumpOf 89 = .ok (.getfield 22, 3) := by decide +kernel
theorem dX10_pumpOf_92 : decode cX10_pumpOf 92 = .ok (.aload_n 0, 1) := by decide +kernel
theorem dX10_pumpOf_93 : decode cX10_pumpOf 93 = .ok (.getfield 71, 3) := by decide +kernel
theorem dX10_pumpOf_96 : decode cX10_pumpOf 96 = .ok (.iload_n 1, 1) := by decide +kernel
theorem dX10_pumpOf_97 : decode cX10_pumpOf 97 = .ok (.iaload, 1) := by decide +kernel
theorem dX10_pumpOf_98 : decode cX10_pumpOf 98 = .ok (.dup2, 1) := by decide +kernel
theorem dX10_pumpOf_99 : decode cX10_pumpOf 99 = .ok (.laload, 1) := by decide +kernel
theorem dX10_pumpOf_100 : decode cX10_pumpOf 100 = .ok (.lload 4, 2) := by decide +kernel
theorem dX10_pumpOf_102 : decode cX10_pumpOf 102 = .ok (.lsub, 1) := by decide +kernel
theorem dX10_pumpOf_103 : decode cX10_pumpOf 103 = .ok (.lastore, 1) := by decide +kernel
theorem dX10_pumpOf_104 : decode cX10_pumpOf 104 = .ok (.aload_n 0, 1) := by decide +kernel
theorem dX10_pumpOf_105 : decode cX10_pumpOf 105 = .ok (.getfield 22, 3) := by decide +kernel
theorem dX10_pumpOf_108 : decode cX10_pumpOf 108 = .ok (.aload_n 0, 1) := by decide +kernel
theorem dX10_pumpOf_109 : decode cX10_pumpOf 109 = .ok (.getfield 74, 3) := by decide +kernel
theorem dX10_pumpOf_112 : decode cX10_pumpOf 112 = .ok (.iload_n 1, 1) := by decide +kernel
theorem dX10_pumpOf_113 : decode cX10_pumpOf 113 = .ok (.iaload, 1) := by decide +kernel
theorem dX10_pumpOf_114 : decode cX10_pumpOf 114 = .ok (.dup2, 1) := by decide +kernel
theorem dX10_pumpOf_115 : decode cX10_pumpOf 115 = .ok (.laload, 1) := by decide +kernel
theorem dX10_pumpOf_116 : decode cX10_pumpOf 116 = .ok (.lload 4, 2) := by decide +kernel
theorem dX10_pumpOf_118 : decode cX10_pumpOf 118 = .ok (.ladd, 1) := by decide +kernel
theorem dX10_pumpOf_119 : decode cX10_pumpOf 119 = .ok (.lastore, 1) := by decide +kernel
theorem dX10_pumpOf_120 : decode cX10_pumpOf 120 = .ok (.return_, 1) := by decide +kernel
theorem dX10_gateOf_0 : decode cX10_gateOf 0 = .ok (.aload_n 0, 1) := by decide +kernel
theorem dX10_gateOf_1 : decode cX10_gateOf 1 = .ok (.getfield 90, 3) := by decide +kernel
theorem dX10_gateOf_4 : decode cX10_gateOf 4 = .ok (.iload_n 1, 1) := by decide +kernel
theorem dX10_gateOf_5 : decode cX10_gateOf 5 = .ok (.iaload, 1) := by decide +kernel
theorem dX10_gateOf_6 : decode cX10_gateOf 6 = .ok (.istore_n 2, 1) := by decide +kernel
theorem dX10_gateOf_7 : decode cX10_gateOf 7 = .ok (.aload_n 0, 1) := by decide +kernel
theorem dX10_gateOf_8 : decode cX10_gateOf 8 = .ok (.getfield 22, 3) := by decide +kernel
theorem dX10_gateOf_11 : decode cX10_gateOf 11 = .ok (.iload_n 2, 1) := by decide +kernel
theorem dX10_gateOf_12 : decode cX10_gateOf 12 = .ok (.laload, 1) := by decide +kernel
theorem dX10_gateOf_13 : decode cX10_gateOf 13 = .ok (.aload_n 0, 1) := by decide +kernel
theorem dX10_gateOf_14 : decode cX10_gateOf 14 = .ok (.getfield 93, 3) := by decide +kernel
theorem dX10_gateOf_17 : decode cX10_gateOf 17 = .ok (.iload_n 1, 1) := by decide +kernel
theorem dX10_gateOf_18 : decode cX10_gateOf 18 = .ok (.iaload, 1) := by decide +kernel
theorem dX10_gateOf_19 : decode cX10_gateOf 19 = .ok (.i2l, 1) := by decide +kernel
theorem dX10_gateOf_20 : decode cX10_gateOf 20 = .ok (.aload_n 0, 1) := by decide +kernel
theorem dX10_gateOf_21 : decode cX10_gateOf 21 = .ok (.getfield 16, 3) := by decide +kernel
theorem dX10_gateOf_24 : decode cX10_gateOf 24 = .ok (.iload_n 2, 1) := by decide +kernel
theorem dX10_gateOf_25 : decode cX10_gateOf 25 = .ok (.iaload, 1) := by decide +kernel
theorem dX10_gateOf_26 : decode cX10_gateOf 26 = .ok (.i2l, 1) := by decide +kernel
theorem dX10_gateOf_27 : decode cX10_gateOf 27 = .ok (.lmul, 1) := by decide +kernel
theorem dX10_gateOf_28 : decode cX10_gateOf 28 = .ok (.lsub, 1) := by decide +kernel
theorem dX10_gateOf_29 : decode cX10_gateOf 29 = .ok (.lstore_n 3, 1) := by decide +kernel
theorem dX10_gateOf_30 : decode cX10_gateOf 30 = .ok (.lload_n 3, 1) := by decide +kernel
theorem dX10_gateOf_31 : decode cX10_gateOf 31 = .ok (.lconst 0, 1) := by decide +kernel
theorem dX10_gateOf_32 : decode cX10_gateOf 32 = .ok (.lcmp, 1) := by decide +kernel
theorem dX10_gateOf_33 : decode cX10_gateOf 33 = .ok (.ifCond .le 17, 3) := by decide +kernel
theorem dX10_gateOf_36 : decode cX10_gateOf 36 = .ok (.lload_n 3, 1) := by decide +kernel
theorem dX10_gateOf_37 : decode cX10_gateOf 37 = .ok (.aload_n 0, 1) := by decide +kernel
theorem dX10_gateOf_38 : decode cX10_gateOf 38 = .ok (.getfield 96, 3) := by decide +kernel
theorem dX10_gateOf_41 : decode cX10_gateOf 41 = .ok (.iload_n 1, 1) := by decide +kernel
theorem dX10_gateOf_42 : decode cX10_gateOf 42 = .ok (.iaload, 1) := by decide +kernel
theorem dX10_gateOf_43 : decode cX10_gateOf 43 = .ok (.i2l, 1) := by decide +kernel
theorem dX10_gateOf_44 : decode cX10_gateOf 44 = .ok (.invokestatic 180, 3) := by decide +kernel
theorem dX10_gateOf_47 : decode cX10_gateOf 47 = .ok (.goto 4, 3) := by decide +kernel
theorem dX10_gateOf_50 : decode cX10_gateOf 50 = .ok (.lconst 0, 1) := by decide +kernel
theorem dX10_gateOf_51 : decode cX10_gateOf 51 = .ok (.lstore 5, 2) := by decide +kernel
theorem dX10_gateOf_53 : decode cX10_gateOf 53 = .ok (.aload_n 0, 1) := by decide +kernel
theorem dX10_gateOf_54 : decode cX10_gateOf 54 = .ok (.getfield 22, 3) := by decide +kernel
theorem dX10_gateOf_57 : decode cX10_gateOf 57 = .ok (.iload_n 2, 1) := by decide +kernel
theorem dX10_gateOf_58 : decode cX10_gateOf 58 = .ok (.dup2, 1) := by decide +kernel
theorem dX10_gateOf_59 : decode cX10_gateOf 59 = .ok (.laload, 1) := by decide +kernel
theorem dX10_gateOf_60 : decode cX10_gateOf 60 = .ok (.lload 5, 2) := by decide +kernel
theorem dX10_gateOf_62 : decode cX10_gateOf 62 = .ok (.lsub, 1) := by decide +kernel
theorem dX10_gateOf_63 : decode cX10_gateOf 63 = .ok (.lastore, 1) := by decide +kernel
theorem dX10_gateOf_64 : decode cX10_gateOf 64 = .ok (.aload_n 0, 1) := by decide +kernel
theorem dX10_gateOf_65 : decode cX10_gateOf 65 = .ok (.getfield 29, 3) := by decide +kernel
theorem dX10_gateOf_68 : decode cX10_gateOf 68 = .ok (.iload_n 2, 1) := by decide +kernel
theorem dX10_gateOf_69 : decode cX10_gateOf 69 = .ok (.dup2, 1) := by decide +kernel
theorem dX10_gateOf_70 : decode cX10_gateOf 70 = .ok (.laload, 1) := by decide +kernel
theorem dX10_gateOf_71 : decode cX10_gateOf 71 = .ok (.lload 5, 2) := by decide +kernel
theorem dX10_gateOf_73 : decode cX10_gateOf 73 = .ok (.ladd, 1) := by decide +kernel
theorem dX10_gateOf_74 : decode cX10_gateOf 74 = .ok (.lastore, 1) := by decide +kernel
theorem dX10_gateOf_75 : decode cX10_gateOf 75 = .ok (.aload_n 0, 1) := by decide +kernel
theorem dX10_gateOf_76 : decode cX10_gateOf 76 = .ok (.dup, 1) := by decide +kernel
theorem dX10_gateOf_77 : decode cX10_gateOf 77 = .ok (.getfield 188, 3) := by decide +kernel
theorem dX10_gateOf_80 : decode cX10_gateOf 80 = .ok (.lload 5, 2) := by decide +kernel
theorem dX10_gateOf_82 : decode cX10_gateOf 82 = .ok (.ladd, 1) := by decide +kernel
theorem dX10_gateOf_83 : decode cX10_gateOf 83 = .ok (.putfield 188, 3) := by decide +kernel
theorem dX10_gateOf_86 : decode cX10_gateOf 86 = .ok (.return_, 1) := by decide +kernel
theorem dX10_gullyOf_0 : decode cX10_gullyOf 0 = .ok (.aload_n 0, 1) := by decide +kernel
theorem dX10_gullyOf_1 : decode cX10_gullyOf 1 = .ok (.getfield 102, 3) := by decide +kernel
theorem dX10_gullyOf_4 : decode cX10_gullyOf 4 = .ok (.iload_n 1, 1) := by decide +kernel
theorem dX10_gullyOf_5 : decode cX10_gullyOf 5 = .ok (.iaload, 1) := by decide +kernel
theorem dX10_gullyOf_6 : decode cX10_gullyOf 6 = .ok (.istore_n 2, 1) := by decide +kernel
theorem dX10_gullyOf_7 : decode cX10_gullyOf 7 = .ok (.aload_n 0, 1) := by decide +kernel
theorem dX10_gullyOf_8 : decode cX10_gullyOf 8 = .ok (.iload_n 2, 1) := by decide +kernel
theorem dX10_gullyOf_9 : decode cX10_gullyOf 9 = .ok (.invokevirtual 191, 3) := by decide +kernel
theorem dX10_gullyOf_12 : decode cX10_gullyOf 12 = .ok (.aload_n 0, 1) := by decide +kernel
theorem dX10_gullyOf_13 : decode cX10_gullyOf 13 = .ok (.getfield 22, 3) := by decide +kernel
theorem dX10_gullyOf_16 : decode cX10_gullyOf 16 = .ok (.iload_n 2, 1) := by decide +kernel
theorem dX10_gullyOf_17 : decode cX10_gullyOf 17 = .ok (.laload, 1) := by decide +kernel
theorem dX10_gullyOf_18 : decode cX10_gullyOf 18 = .ok (.lsub, 1) := by decide +kernel
theorem dX10_gullyOf_19 : decode cX10_gullyOf 19 = .ok (.lstore_n 3, 1) := by decide +kernel
theorem dX10_gullyOf_20 : decode cX10_gullyOf 20 = .ok (.lload_n 3, 1) := by decide +kernel
theorem dX10_gullyOf_21 : decode cX10_gullyOf 21 = .ok (.lconst 0, 1) := by decide +kernel
theorem dX10_gullyOf_22 : decode cX10_gullyOf 22 = .ok (.lcmp, 1) := by decide +kernel
theorem dX10_gullyOf_23 : decode cX10_gullyOf 23 = .ok (.ifCond .le 31, 3) := by decide +kernel
theorem dX10_gullyOf_26 : decode cX10_gullyOf 26 = .ok (.lload_n 3, 1) := by decide +kernel
theorem dX10_gullyOf_27 : decode cX10_gullyOf 27 = .ok (.aload_n 0, 1) := by decide +kernel
theorem dX10_gullyOf_28 : decode cX10_gullyOf 28 = .ok (.getfield 105, 3) := by decide +kernel
theorem dX10_gullyOf_31 : decode cX10_gullyOf 31 = .ok (.iload_n 1, 1) := by decide +kernel
theorem dX10_gullyOf_32 : decode cX10_gullyOf 32 = .ok (.iaload, 1) := by decide +kernel
theorem dX10_gullyOf_33 : decode cX10_gullyOf 33 = .ok (.i2l, 1) := by decide +kernel
theorem dX10_gullyOf_34 : decode cX10_gullyOf 34 = .ok (.aload_n 0, 1) := by decide +kernel
theorem dX10_gullyOf_35 : decode cX10_gullyOf 35 = .ok (.getfield 108, 3) := by decide +kernel
theorem dX10_gullyOf_38 : decode cX10_gullyOf 38 = .ok (.aload_n 0, 1) := by decide +kernel
theorem dX10_gullyOf_39 : decode cX10_gullyOf 39 = .ok (.getfield 99, 3) := by decide +kernel
theorem dX10_gullyOf_42 : decode cX10_gullyOf 42 = .ok (.iload_n 1, 1) := by decide +kernel
theorem dX10_gullyOf_43 : decode cX10_gullyOf 43 = .ok (.iaload, 1) := by decide +kernel
theorem dX10_gullyOf_44 : decode cX10_gullyOf 44 = .ok (.laload, 1) := by decide +kernel
theorem dX10_gullyOf_45 : decode cX10_gullyOf 45 = .ok (.invokestatic 180, 3) := by decide +kernel
theorem dX10_gullyOf_48 : decode cX10_gullyOf 48 = .ok (.invokestatic 180, 3) := by decide +kernel
theorem dX10_gullyOf_51 : decode cX10_gullyOf 51 = .ok (.goto 4, 3) := by decide +kernel
theorem dX10_gullyOf_54 : decode cX10_gullyOf 54 = .ok (.lconst 0, 1) := by decide +kernel
theorem dX10_gullyOf_55 : decode cX10_gullyOf 55 = .ok (.lstore 5, 2) := by decide +kernel
theorem dX10_gullyOf_57 : decode cX10_gullyOf 57 = .ok (.aload_n 0, 1) := by decide +kernel
theorem dX10_gullyOf_58 : decode cX10_gullyOf 58 = .ok (.getfield 108, 3) := by decide +kernel
theorem dX10_gullyOf_61 : decode cX10_gullyOf 61 = .ok (.aload_n 0, 1) := by decide +kernel
theorem dX10_gullyOf_62 : decode cX10_gullyOf 62 = .ok (.getfield 99, 3) := by decide +kernel
theorem dX10_gullyOf_65 : decode cX10_gullyOf 65 = .ok (.iload_n 1, 1) := by decide +kernel
theorem dX10_gullyOf_66 : decode cX10_gullyOf 66 = .ok (.iaload, 1) := by decide +kernel
theorem dX10_gullyOf_67 : decode cX10_gullyOf 67 = .ok (.dup2, 1) := by decide +kernel
theorem dX10_gullyOf_68 : decode cX10_gullyOf 68 = .ok (.laload, 1) := by decide +kernel
theorem dX10_gullyOf_69 : decode cX10_gullyOf 69 = .ok (.lload 5, 2) := by decide +kernel
theorem dX10_gullyOf_71 : decode cX10_gullyOf 71 = .ok (.lsub, 1) := by decide +kernel
theorem dX10_gullyOf_72 : decode cX10_gullyOf 72 = .ok (.lastore, 1) := by decide +kernel
theorem dX10_gullyOf_73 : decode cX10_gullyOf 73 = .ok (.aload_n 0, 1) := by decide +kernel
theorem dX10_gullyOf_74 : decode cX10_gullyOf 74 = .ok (.getfield 22, 3) := by decide +kernel
theorem dX10_gullyOf_77 : decode cX10_gullyOf 77 = .ok (.iload_n 2, 1) := by decide +kernel
theorem dX10_gullyOf_78 : decode cX10_gullyOf 78 = .ok (.dup2, 1) := by decide +kernel
theorem dX10_gullyOf_79 : decode cX10_gullyOf 79 = .ok (.laload, 1) := by decide +kernel
theorem dX10_gullyOf_80 : decode cX10_gullyOf 80 = .ok (.lload 5, 2) := by decide +kernel
theorem dX10_gullyOf_82 : decode cX10_gullyOf 82 = .ok (.ladd, 1) := by decide +kernel
theorem dX10_gullyOf_83 : decode cX10_gullyOf 83 = .ok (.lastore, 1) := by decide +kernel
theorem dX10_gullyOf_84 : decode cX10_gullyOf 84 = .ok (.return_, 1) := by decide +kernel
theorem dX10_nodeOf_0 : decode cX10_nodeOf 0 = .ok (.aload_n 0, 1) := by decide +kernel
theorem dX10_nodeOf_1 : decode cX10_nodeOf 1 = .ok (.getfield 22, 3) := by decide +kernel
theorem dX10_nodeOf_4 : decode cX10_nodeOf 4 = .ok (.iload_n 1, 1) := by decide +kernel
theorem dX10_nodeOf_5 : decode cX10_nodeOf 5 = .ok (.laload, 1) := by decide +kernel
theorem dX10_nodeOf_6 : decode cX10_nodeOf 6 = .ok (.aload_n 0, 1) := by decide +kernel
theorem dX10_nodeOf_7 : decode cX10_nodeOf 7 = .ok (.iload_n 1, 1) := by decide +kernel
theorem dX10_nodeOf_8 : decode cX10_nodeOf 8 = .ok (.invokevirtual 191, 3) := by decide +kernel
theorem dX10_nodeOf_11 : decode cX10_nodeOf 11 = .ok (.lsub, 1) := by decide +kernel
theorem dX10_nodeOf_12 : decode cX10_nodeOf 12 = .ok (.lstore_n 2, 1) := by decide +kernel
theorem dX10_nodeOf_13 : decode cX10_nodeOf 13 = .ok (.lload_n 2, 1) := by decide +kernel
theorem dX10_nodeOf_14 : decode cX10_nodeOf 14 = .ok (.lconst 0, 1) := by decide +kernel
theorem dX10_nodeOf_15 : decode cX10_nodeOf 15 = .ok (.lcmp, 1) := by decide +kernel
theorem dX10_nodeOf_16 : decode cX10_nodeOf 16 = .ok (.ifCond .gt 4, 3) := by decide +kernel
theorem dX10_nodeOf_19 : decode cX10_nodeOf 19 = .ok (.return_, 1) := by decide +kernel
theorem dX10_nodeOf_20 : decode cX10_nodeOf 20 = .ok (.aload_n 0, 1) := by decide +kernel
theorem dX10_nodeOf_21 : decode cX10_nodeOf 21 = .ok (.getfield 22, 3) := by decide +kernel
theorem dX10_nodeOf_24 : decode cX10_nodeOf 24 = .ok (.iload_n 1, 1) := by decide +kernel
theorem dX10_nodeOf_25 : decode cX10_nodeOf 25 = .ok (.dup2, 1) := by decide +kernel
theorem dX10_nodeOf_26 : decode cX10_nodeOf 26 = .ok (.laload, 1) := by decide +kernel
theorem dX10_nodeOf_27 : decode cX10_nodeOf 27 = .ok (.lload_n 2, 1) := by decide +kernel
theorem dX10_nodeOf_28 : decode cX10_nodeOf 28 = .ok (.lsub, 1) := by decide +kernel
theorem dX10_nodeOf_29 : decode cX10_nodeOf 29 = .ok (.lastore, 1) := by decide +kernel
theorem dX10_nodeOf_30 : decode cX10_nodeOf 30 = .ok (.aload_n 0, 1) := by decide +kernel
theorem dX10_nodeOf_31 : decode cX10_nodeOf 31 = .ok (.getfield 26, 3) := by decide +kernel
theorem dX10_nodeOf_34 : decode cX10_nodeOf 34 = .ok (.iload_n 1, 1) := by decide +kernel
theorem dX10_nodeOf_35 : decode cX10_nodeOf 35 = .ok (.dup2, 1) := by decide +kernel
theorem dX10_nodeOf_36 : decode cX10_nodeOf 36 = .ok (.laload, 1) := by decide +kernel
theorem dX10_nodeOf_37 : decode cX10_nodeOf 37 = .ok (.lload_n 2, 1) := by decide +kernel
theorem dX10_nodeOf_38 : decode cX10_nodeOf 38 = .ok (.ladd, 1) := by decide +kernel
theorem dX10_nodeOf_39 : decode cX10_nodeOf 39 = .ok (.lastore, 1) := by decide +kernel
theorem dX10_nodeOf_40 : decode cX10_nodeOf 40 = .ok (.aload_n 0, 1) := by decide +kernel
theorem dX10_nodeOf_41 : decode cX10_nodeOf 41 = .ok (.getfield 19, 3) := by decide +kernel
theorem dX10_nodeOf_44 : decode cX10_nodeOf 44 = .ok (.iload_n 1, 1) := by decide +kernel
theorem dX10_nodeOf_45 : decode cX10_nodeOf 45 = .ok (.iaload, 1) := by decide +kernel
theorem dX10_nodeOf_46 : decode cX10_nodeOf 46 = .ok (.ifCond .lt 21, 3) := by decide +kernel
theorem dX10_nodeOf_49 : decode cX10_nodeOf 49 = .ok (.aload_n 0, 1) := by decide +kernel
theorem dX10_nodeOf_50 : decode cX10_nodeOf 50 = .ok (.getfield 108, 3) := by decide +kernel
theorem dX10_nodeOf_53 : decode cX10_nodeOf 53 = .ok (.aload_n 0, 1) := by decide +kernel
theorem dX10_nodeOf_54 : decode cX10_nodeOf 54 = .ok (.getfield 19, 3) := by decide +kernel
theorem dX10_nodeOf_57 : decode cX10_nodeOf 57 = .ok (.iload_n 1, 1) := by decide +kernel
theorem dX10_nodeOf_58 : decode cX10_nodeOf 58 = .ok (.iaload, 1) := by decide +kernel
theorem dX10_nodeOf_59 : decode cX10_nodeOf 59 = .ok (.dup2, 1) := by decide +kernel
theorem dX10_nodeOf_60 : decode cX10_nodeOf 60 = .ok (.laload, 1) := by decide +kernel
theorem dX10_nodeOf_61 : decode cX10_nodeOf 61 = .ok (.lload_n 2, 1) := by decide +kernel
theorem dX10_nodeOf_62 : decode cX10_nodeOf 62 = .ok (.ladd, 1) := by decide +kernel
theorem dX10_nodeOf_63 : decode cX10_nodeOf 63 = .ok (.lastore, 1) := by decide +kernel
theorem dX10_nodeOf_64 : decode cX10_nodeOf 64 = .ok (.goto 13, 3) := by decide +kernel
theorem dX10_nodeOf_67 : decode cX10_nodeOf 67 = .ok (.aload_n 0, 1) := by decide +kernel
theorem dX10_nodeOf_68 : decode cX10_nodeOf 68 = .ok (.dup, 1) := by decide +kernel
theorem dX10_nodeOf_69 : decode cX10_nodeOf 69 = .ok (.getfield 194, 3) := by decide +kernel
theorem dX10_nodeOf_72 : decode cX10_nodeOf 72 = .ok (.lload_n 2, 1) := by decide +kernel
theorem dX10_nodeOf_73 : decode cX10_nodeOf 73 = .ok (.ladd, 1) := by decide +kernel
theorem dX10_nodeOf_74 : decode cX10_nodeOf 74 = .ok (.putfield 194, 3) := by decide +kernel
theorem dX10_nodeOf_77 : decode cX10_nodeOf 77 = .ok (.return_, 1) := by decide +kernel
theorem dX10_run_0 : decode cX10_run 0 = .ok (.iload_n 1, 1) := by decide +kernel
theorem dX10_run_1 : decode cX10_run 1 = .ok (.iconst 1, 1) := by decide +kernel
theorem dX10_run_2 : decode cX10_run 2 = .ok (.sipush 600, 3) := by decide +kernel
theorem dX10_run_5 : decode cX10_run 5 = .ok (.invokestatic 145, 3) := by decide +kernel
theorem dX10_run_8 : decode cX10_run 8 = .ok (.ifCond .eq 14, 3) := by decide +kernel
theorem dX10_run_11 : decode cX10_run 11 = .ok (.aload_n 0, 1) := by decide +kernel
theorem dX10_run_12 : decode cX10_run 12 = .ok (.getfield 197, 3) := by decide +kernel
theorem dX10_run_15 : decode cX10_run 15 = .ok (.iload_n 1, 1) := by decide +kernel
theorem dX10_run_16 : decode cX10_run 16 = .ok (.iadd, 1) := by decide +kernel
theorem dX10_run_17 : decode cX10_run 17 = .ok (.ldc 200, 2) := by decide +kernel
theorem dX10_run_19 : decode cX10_run 19 = .ok (.if_icmp .le 5, 3) := by decide +kernel
theorem dX10_run_22 : decode cX10_run 22 = .ok (.iconst (-1), 1) := by decide +kernel
theorem dX10_run_23 : decode cX10_run 23 = .ok (.ireturn, 1) := by decide +kernel
theorem dX10_run_24 : decode cX10_run 24 = .ok (.iconst 0, 1) := by decide +kernel
theorem dX10_run_25 : decode cX10_run 25 = .ok (.istore_n 2, 1) := by decide +kernel
theorem dX10_run_26 : decode cX10_run 26 = .ok (.iload_n 2, 1) := by decide +kernel
theorem dX10_run_27 : decode cX10_run 27 = .ok (.iload_n 1, 1) := by decide +kernel
theorem dX10_run_28 : decode cX10_run 28 = .ok (.if_icmp .ge 179, 3) := by decide +kernel
theorem dX10_run_31 : decode cX10_run 31 = .ok (.iconst 0, 1) := by decide +kernel
theorem dX10_run_32 : decode cX10_run 32 = .ok (.istore_n 3, 1) := by decide +kernel
theorem dX10_run_33 : decode cX10_run 33 = .ok (.iload_n 3, 1) := by decide +kernel
theorem dX10_run_34 : decode cX10_run 34 = .ok (.aload_n 0, 1) := by decide +kernel
theorem dX10_run_35 : decode cX10_run 35 = .ok (.getfield 158, 3) := by decide +kernel
theorem dX10_run_38 : decode cX10_run 38 = .ok (.if_icmp .ge 21, 3) := by decide +kernel
theorem dX10_run_41 : decode cX10_run 41 = .ok (.aload_n 0, 1) := by decide +kernel
theorem dX10_run_42 : decode cX10_run 42 = .ok (.iload_n 3, 1) := by decide +kernel
theorem dX10_run_43 : decode cX10_run 43 = .ok (.aload_n 0, 1) := by decide +kernel
theorem dX10_run_44 : decode cX10_run 44 = .ok (.getfield 197, 3) := by decide +kernel
theorem dX10_run_47 : decode cX10_run 47 = .ok (.bipush 60, 2) := by decide +kernel
theorem dX10_run_49 : decode cX10_run 49 = .ok (.idiv, 1) := by decide +kernel
theorem dX10_run_50 : decode cX10_run 50 = .ok (.invokevirtual 201, 3) := by decide +kernel
theorem dX10_run_53 : decode cX10_run 53 = .ok (.iinc 3 1, 3) := by decide +kernel
theorem dX10_run_56 : decode cX10_run 56 = .ok (.goto (-23), 3) := by decide +kernel
theorem dX10_run_59 : decode cX10_run 59 = .ok (.iconst 0, 1) := by decide +kernel
theorem dX10_run_60 : decode cX10_run 60 = .ok (.istore_n 3, 1) := by decide +kernel
theorem dX10_run_61 : decode cX10_run 61 = .ok (.iload_n 3, 1) := by decide +kernel
theorem dX10_run_62 : decode cX10_run 62 = .ok (.aload_n 0, 1) := by decide +kernel
theorem dX10_run_63 : decode cX10_run 63 = .ok (.getfield 142, 3) := by decide +kernel
theorem dX10_run_66 : decode cX10_run 66 = .ok (.if_icmp .ge 20, 3) := by decide +kernel
theorem dX10_run_69 : decode cX10_run 69 = .ok (.aload_n 0, 1) := by decide +kernel
theorem dX10_run_70 : decode cX10_run 70 = .ok (.getfield 32, 3) := by decide +kernel
theorem dX10_run_73 : decode cX10_run 73 = .ok (.iload_n 3, 1) := by decide +kernel
theorem dX10_run_74 : decode cX10_run 74 = .ok (.aload_n 0, 1) := by decide +kernel
theorem dX10_run_75 : decode cX10_run 75 = .ok (.iload_n 3, 1) := by decide +kernel
theorem dX10_run_76 : decode cX10_run 76 = .ok (.invokevirtual 184, 3) := by decide +kernel
theorem dX10_run_79 : decode cX10_run 79 = .ok (.lastore, 1) := by decide +kernel
theorem dX10_run_80 : decode cX10_run 80 = .ok (.iinc 3 1, 3) := by decide +kernel
theorem dX10_run_83 : decode cX10_run 83 = .ok (.goto (-22), 3) := by decide +kernel
theorem dX10_run_86 : decode cX10_run 86 = .ok (.iconst 0, 1) := by decide +kernel
theorem dX10_run_87 : decode cX10_run 87 = .ok (.istore_n 3, 1) := by decide +kernel
theorem dX10_run_88 : decode cX10_run 88 = .ok (.iload_n 3, 1) := by decide +kernel
theorem dX10_run_89 : decode cX10_run 89 = .ok (.aload_n 0, 1) := by decide +kernel
theorem dX10_run_90 : decode cX10_run 90 = .ok (.getfield 151, 3) := by decide +kernel
theorem dX10_run_93 : decode cX10_run 93 = .ok (.if_icmp .ge 14, 3) := by decide +kernel
theorem dX10_run_96 : decode cX10_run 96 = .ok (.aload_n 0, 1) := by decide +kernel
theorem dX10_run_97 : decode cX10_run 97 = .ok (.iload_n 3, 1) := by decide +kernel
theorem dX10_run_98 : decode cX10_run 98 = .ok (.invokevirtual 205, 3) := by decide +kernel
theorem dX10_run_101 : decode cX10_run 101 = .ok (.iinc 3 1, 3) := by decide +kernel
theorem dX10_run_104 : decode cX10_run 104 = .ok (.goto (-16), 3) := by decide +kernel
theorem dX10_run_107 : decode cX10_run 107 = .ok (.iconst 0, 1) := by decide +kernel
theorem dX10_run_108 : decode cX10_run 108 = .ok (.istore_n 3, 1) := by decide +kernel
theorem dX10_run_109 : decode cX10_run 109 = .ok (.iload_n 3, 1) := by decide +kernel
theorem dX10_run_110 : decode cX10_run 110 = .ok (.aload_n 0, 1) := by decide +kernel
theorem dX10_run_111 : decode cX10_run 111 = .ok (.getfield 162, 3) := by decide +kernel
theorem dX10_run_114 : decode cX10_run 114 = .ok (.if_icmp .ge 14, 3) := by decide +kernel
theorem dX10_run_117 : decode cX10_run 117 = .ok (.aload_n 0, 1) := by decide +kernel
theorem dX10_run_118 : decode cX10_run 118 = .ok (.iload_n 3, 1) := by decide +kernel
theorem dX10_run_119 : decode cX10_run 119 = .ok (.invokevirtual 209, 3) := by decide +kernel
theorem dX10_run_122 : decode cX10_run 122 = .ok (.iinc 3 1, 3) := by decide +kernel
theorem dX10_run_125 : decode cX10_run 125 = .ok (.goto (-16), 3) := by decide +kernel
theorem dX10_run_128 : decode cX10_run 128 = .ok (.iconst 0, 1) := by decide +kernel
theorem dX10_run_129 : decode cX10_run 129 = .ok (.istore_n 3, 1) := by decide +kernel
theorem dX10_run_130 : decode cX10_run 130 = .ok (.iload_n 3, 1) := by decide +kernel
theorem dX10_run_131 : decode cX10_run 131 = .ok (.aload_n 0, 1) := by decide +kernel
theorem dX10_run_132 : decode cX10_run 132 = .ok (.getfield 165, 3) := by decide +kernel
theorem dX10_run_135 : decode cX10_run 135 = .ok (.if_icmp .ge 14, 3) := by decide +kernel
theorem dX10_run_138 : decode cX10_run 138 = .ok (.aload_n 0, 1) := by decide +kernel
theorem dX10_run_139 : decode cX10_run 139 = .ok (.iload_n 3, 1) := by decide +kernel
theorem dX10_run_140 : decode cX10_run 140 = .ok (.invokevirtual 212, 3) := by decide +kernel
theorem dX10_run_143 : decode cX10_run 143 = .ok (.iinc 3 1, 3) := by decide +kernel
theorem dX10_run_146 : decode cX10_run 146 = .ok (.goto (-16), 3) := by decide +kernel
theorem dX10_run_149 : decode cX10_run 149 = .ok (.iconst 0, 1) := by decide +kernel
theorem dX10_run_150 : decode cX10_run 150 = .ok (.istore_n 3, 1) := by decide +kernel
theorem dX10_run_151 : decode cX10_run 151 = .ok (.iload_n 3, 1) := by decide +kernel
theorem dX10_run_152 : decode cX10_run 152 = .ok (.aload_n 0, 1) := by decide +kernel
theorem dX10_run_153 : decode cX10_run 153 = .ok (.getfield 169, 3) := by decide +kernel
theorem dX10_run_156 : decode cX10_run 156 = .ok (.if_icmp .ge 14, 3) := by decide +kernel
theorem dX10_run_159 : decode cX10_run 159 = .ok (.aload_n 0, 1) := by decide +kernel
theorem dX10_run_160 : decode cX10_run 160 = .ok (.iload_n 3, 1) := by decide +kernel
theorem dX10_run_161 : decode cX10_run 161 = .ok (.invokevirtual 215, 3) := by decide +kernel
theorem dX10_run_164 : decode cX10_run 164 = .ok (.iinc 3 1, 3) := by decide +kernel
theorem dX10_run_167 : decode cX10_run 167 = .ok (.goto (-16), 3) := by decide +kernel
theorem dX10_run_170 : decode cX10_run 170 = .ok (.iconst 0, 1) := by decide +kernel
theorem dX10_run_171 : decode cX10_run 171 = .ok (.istore_n 3, 1) := by decide +kernel
theorem dX10_run_172 : decode cX10_run 172 = .ok (.iload_n 3, 1) := by decide +kernel
theorem dX10_run_173 : decode cX10_run 173 = .ok (.aload_n 0, 1) := by decide +kernel
theorem dX10_run_174 : decode cX10_run 174 = .ok (.getfield 142, 3) := by decide +kernel
theorem dX10_run_177 : decode cX10_run 177 = .ok (.if_icmp .ge 14, 3) := by decide +kernel
theorem dX10_run_180 : decode cX10_run 180 = .ok (.aload_n 0, 1) := by decide +kernel
theorem dX10_run_181 : decode cX10_run 181 = .ok (.iload_n 3, 1) := by decide +kernel
theorem dX10_run_182 : decode cX10_run 182 = .ok (.invokevirtual 218, 3) := by decide +kernel
theorem dX10_run_185 : decode cX10_run 185 = .ok (.iinc 3 1, 3) := by decide +kernel
theorem dX10_run_188 : decode cX10_run 188 = .ok (.goto (-16), 3) := by decide +kernel
theorem dX10_run_191 : decode cX10_run 191 = .ok (.aload_n 0, 1) := by decide +kernel
theorem dX10_run_192 : decode cX10_run 192 = .ok (.dup, 1) := by decide +kernel
theorem dX10_run_193 : decode cX10_run 193 = .ok (.getfield 197, 3) := by decide +kernel
theorem dX10_run_196 : decode cX10_run 196 = .ok (.iconst 1, 1) := by decide +kernel
theorem dX10_run_197 : decode cX10_run 197 = .ok (.iadd, 1) := by decide +kernel
theorem dX10_run_198 : decode cX10_run 198 = .ok (.putfield 197, 3) := by decide +kernel
theorem dX10_run_201 : decode cX10_run 201 = .ok (.iinc 2 1, 3) := by decide +kernel
theorem dX10_run_204 : decode cX10_run 204 = .ok (.goto (-178), 3) := by decide +kernel
theorem dX10_run_207 : decode cX10_run 207 = .ok (.aload_n 0, 1) := by decide +kernel
theorem dX10_run_208 : decode cX10_run 208 = .ok (.getfield 197, 3) := by decide +kernel
theorem dX10_run_211 : decode cX10_run 211 = .ok (.ireturn, 1) := by decide +kernel
theorem dX10_told_0 : decode cX10_told 0 = .ok (.aload_n 0, 1) := by decide +kernel
theorem dX10_told_1 : decode cX10_told 1 = .ok (.iload_n 1, 1) := by decide +kernel
theorem dX10_told_2 : decode cX10_told 2 = .ok (.invokevirtual 154, 3) := by decide +kernel
theorem dX10_told_5 : decode cX10_told 5 = .ok (.ifCond .eq 12, 3) := by decide +kernel
theorem dX10_told_8 : decode cX10_told 8 = .ok (.iload_n 2, 1) := by decide +kernel
theorem dX10_told_9 : decode cX10_told 9 = .ok (.iconst 0, 1) := by decide +kernel
theorem dX10_told_10 : decode cX10_told 10 = .ok (.iconst 3, 1) := by decide +kernel
theorem dX10_told_11 : decode cX10_told 11 = .ok (.invokestatic 145, 3) := by decide +kernel
theorem dX10_told_14 : decode cX10_told 14 = .ok (.ifCond .ne 7, 3) := by decide +kernel
theorem dX10_told_17 : decode cX10_told 17 = .ok (.ldc2_w 221, 3) := by decide +kernel
theorem dX10_told_20 : decode cX10_told 20 = .ok (.lreturn, 1) := by decide +kernel
theorem dX10_told_21 : decode cX10_told 21 = .ok (.iload_n 2, 1) := by decide +kernel
theorem dX10_told_22 : decode cX10_told 22 = .ok (.ifCond .ne 12, 3) := by decide +kernel
theorem dX10_told_25 : decode cX10_told 25 = .ok (.aload_n 0, 1) := by decide +kernel
theorem dX10_told_26 : decode cX10_told 26 = .ok (.getfield 22, 3) := by decide +kernel
theorem dX10_told_29 : decode cX10_told 29 = .ok (.iload_n 1, 1) := by decide +kernel
theorem dX10_told_30 : decode cX10_told 30 = .ok (.laload, 1) := by decide +kernel
theorem dX10_told_31 : decode cX10_told 31 = .ok (.goto 36, 3) := by decide +kernel
theorem dX10_told_34 : decode cX10_told 34 = .ok (.iload_n 2, 1) := by decide +kernel
theorem dX10_told_35 : decode cX10_told 35 = .ok (.iconst 1, 1) := by decide +kernel
theorem dX10_told_36 : decode cX10_told 36 = .ok (.if_icmp .ne 11, 3) := by decide +kernel
theorem dX10_told_39 : decode cX10_told 39 = .ok (.aload_n 0, 1) := by decide +kernel
theorem dX10_told_40 : decode cX10_told 40 = .ok (.iload_n 1, 1) := by decide +kernel
theorem dX10_told_41 : decode cX10_told 41 = .ok (.invokevirtual 184, 3) := by decide +kernel
theorem dX10_told_44 : decode cX10_told 44 = .ok (.goto 23, 3) := by decide +kernel
theorem dX10_told_47 : decode cX10_told 47 = .ok (.iload_n 2, 1) := by decide +kernel
theorem dX10_told_48 : decode cX10_told 48 = .ok (.iconst 2, 1) := by decide +kernel
theorem dX10_told_49 : decode cX10_told 49 = .ok (.if_icmp .ne 12, 3) := by decide +kernel
theorem dX10_told_52 : decode cX10_told 52 = .ok (.aload_n 0, 1) := by decide +kernel
theorem dX10_told_53 : decode cX10_told 53 = .ok (.getfield 26, 3) := by decide +kernel
theorem dX10_told_56 : decode cX10_told 56 = .ok (.iload_n 1, 1) := by decide +kernel
theorem dX10_told_57 : decode cX10_told 57 = .ok (.laload, 1) := by decide +kernel
theorem dX10_told_58 : decode cX10_told 58 = .ok (.goto 9, 3) := by decide +kernel
theorem dX10_told_61 : decode cX10_told 61 = .ok (.aload_n 0, 1) := by decide +kernel
theorem dX10_told_62 : decode cX10_told 62 = .ok (.getfield 29, 3) := by decide +kernel
theorem dX10_told_65 : decode cX10_told 65 = .ok (.iload_n 1, 1) := by decide +kernel
theorem dX10_told_66 : decode cX10_told 66 = .ok (.laload, 1) := by decide +kernel
theorem dX10_told_67 : decode cX10_told 67 = .ok (.lreturn, 1) := by decide +kernel
theorem dX10_flow_0 : decode cX10_flow 0 = .ok (.iload_n 1, 1) := by decide +kernel
theorem dX10_flow_1 : decode cX10_flow 1 = .ok (.iconst 0, 1) := by decide +kernel
theorem dX10_flow_2 : decode cX10_flow 2 = .ok (.aload_n 0, 1) := by decide +kernel
theorem dX10_flow_3 : decode cX10_flow 3 = .ok (.getfield 151, 3) := by decide +kernel
theorem dX10_flow_6 : decode cX10_flow 6 = .ok (.iconst 1, 1) := by decide +kernel
theorem dX10_flow_7 : decode cX10_flow 7 = .ok (.isub, 1) := by decide +kernel
theorem dX10_flow_8 : decode cX10_flow 8 = .ok (.invokestatic 145, 3) := by decide +kernel
theorem dX10_flow_11 : decode cX10_flow 11 = .ok (.ifCond .eq 12, 3) := by decide +kernel
theorem dX10_flow_14 : decode cX10_flow 14 = .ok (.iload_n 2, 1) := by decide +kernel
theorem dX10_flow_15 : decode cX10_flow 15 = .ok (.iconst 0, 1) := by decide +kernel
theorem dX10_flow_16 : decode cX10_flow 16 = .ok (.iconst 2, 1) := by decide +kernel
theorem dX10_flow_17 : decode cX10_flow 17 = .ok (.invokestatic 145, 3) := by decide +kernel
theorem dX10_flow_20 : decode cX10_flow 20 = .ok (.ifCond .ne 7, 3) := by decide +kernel
theorem dX10_flow_23 : decode cX10_flow 23 = .ok (.ldc2_w 223, 3) := by decide +kernel
theorem dX10_flow_26 : decode cX10_flow 26 = .ok (.lreturn, 1) := by decide +kernel
theorem dX10_flow_27 : decode cX10_flow 27 = .ok (.iload_n 2, 1) := by decide +kernel
theorem dX10_flow_28 : decode cX10_flow 28 = .ok (.ifCond .ne 12, 3) := by decide +kernel
theorem dX10_flow_31 : decode cX10_flow 31 = .ok (.aload_n 0, 1) := by decide +kernel
theorem dX10_flow_32 : decode cX10_flow 32 = .ok (.getfield 50, 3) := by decide +kernel
theorem dX10_flow_35 : decode cX10_flow 35 = .ok (.iload_n 1, 1) := by decide +kernel
theorem dX10_flow_36 : decode cX10_flow 36 = .ok (.laload, 1) := by decide +kernel
theorem dX10_flow_37 : decode cX10_flow 37 = .ok (.goto 23, 3) := by decide +kernel
theorem dX10_flow_40 : decode cX10_flow 40 = .ok (.iload_n 2, 1) := by decide +kernel
theorem dX10_flow_41 : decode cX10_flow 41 = .ok (.iconst 1, 1) := by decide +kernel
theorem dX10_flow_42 : decode cX10_flow 42 = .ok (.if_icmp .ne 12, 3) := by decide +kernel
theorem dX10_flow_45 : decode cX10_flow 45 = .ok (.aload_n 0, 1) := by decide +kernel
theorem dX10_flow_46 : decode cX10_flow 46 = .ok (.getfield 53, 3) := by decide +kernel
theorem dX10_flow_49 : decode cX10_flow 49 = .ok (.iload_n 1, 1) := by decide +kernel
theorem dX10_flow_50 : decode cX10_flow 50 = .ok (.laload, 1) := by decide +kernel
theorem dX10_flow_51 : decode cX10_flow 51 = .ok (.goto 9, 3) := by decide +kernel
theorem dX10_flow_54 : decode cX10_flow 54 = .ok (.aload_n 0, 1) := by decide +kernel
theorem dX10_flow_55 : decode cX10_flow 55 = .ok (.getfield 47, 3) := by decide +kernel
theorem dX10_flow_58 : decode cX10_flow 58 = .ok (.iload_n 1, 1) := by decide +kernel
theorem dX10_flow_59 : decode cX10_flow 59 = .ok (.laload, 1) := by decide +kernel
theorem dX10_flow_60 : decode cX10_flow 60 = .ok (.lreturn, 1) := by decide +kernel
theorem dX10_cell_0 : decode cX10_cell 0 = .ok (.iload_n 1, 1) := by decide +kernel
theorem dX10_cell_1 : decode cX10_cell 1 = .ok (.iconst 0, 1) := by decide +kernel
theorem dX10_cell_2 : decode cX10_cell 2 = .ok (.bipush 7, 2) := by decide +kernel
theorem dX10_cell_4 : decode cX10_cell 4 = .ok (.invokestatic 145, 3) := by decide +kernel
theorem dX10_cell_7 : decode cX10_cell 7 = .ok (.ifCond .eq 12, 3) := by decide +kernel
theorem dX10_cell_10 : decode cX10_cell 10 = .ok (.aload_n 0, 1) := by decide +kernel
theorem dX10_cell_11 : decode cX10_cell 11 = .ok (.getfield 108, 3) := by decide +kernel
theorem dX10_cell_14 : decode cX10_cell 14 = .ok (.iload_n 1, 1) := by decide +kernel
theorem dX10_cell_15 : decode cX10_cell 15 = .ok (.laload, 1) := by decide +kernel
theorem dX10_cell_16 : decode cX10_cell 16 = .ok (.goto 6, 3) := by decide +kernel
theorem dX10_cell_19 : decode cX10_cell 19 = .ok (.ldc2_w 225, 3) := by decide +kernel
theorem dX10_cell_22 : decode cX10_cell 22 = .ok (.lreturn, 1) := by decide +kernel
theorem dX10_pumps_0 : decode cX10_pumps 0 = .ok (.iload_n 1, 1) := by decide +kernel
theorem dX10_pumps_1 : decode cX10_pumps 1 = .ok (.iconst 0, 1) := by decide +kernel
theorem dX10_pumps_2 : decode cX10_pumps 2 = .ok (.aload_n 0, 1) := by decide +kernel
theorem dX10_pumps_3 : decode cX10_pumps 3 = .ok (.getfield 162, 3) := by decide +kernel
theorem dX10_pumps_6 : decode cX10_pumps 6 = .ok (.iconst 1, 1) := by decide +kernel
theorem dX10_pumps_7 : decode cX10_pumps 7 = .ok (.isub, 1) := by decide +kernel
theorem dX10_pumps_8 : decode cX10_pumps 8 = .ok (.invokestatic 145, 3) := by decide +kernel
theorem dX10_pumps_11 : decode cX10_pumps 11 = .ok (.ifCond .ne 7, 3) := by decide +kernel
theorem dX10_pumps_14 : decode cX10_pumps 14 = .ok (.iconst (-1), 1) := by decide +kernel
theorem dX10_pumps_15 : decode cX10_pumps 15 = .ok (.goto 17, 3) := by decide +kernel
theorem dX10_pumps_18 : decode cX10_pumps 18 = .ok (.aload_n 0, 1) := by decide +kernel
theorem dX10_pumps_19 : decode cX10_pumps 19 = .ok (.getfield 86, 3) := by decide +kernel
theorem dX10_pumps_22 : decode cX10_pumps 22 = .ok (.iload_n 1, 1) := by decide +kernel
theorem dX10_pumps_23 : decode cX10_pumps 23 = .ok (.baload, 1) := by decide +kernel
theorem dX10_pumps_24 : decode cX10_pumps 24 = .ok (.ifCond .eq 7, 3) := by decide +kernel
theorem dX10_pumps_27 : decode cX10_pumps 27 = .ok (.iconst 1, 1) := by decide +kernel
theorem dX10_pumps_28 : decode cX10_pumps 28 = .ok (.goto 4, 3) := by decide +kernel
theorem dX10_pumps_31 : decode cX10_pumps 31 = .ok (.iconst 0, 1) := by decide +kernel
theorem dX10_pumps_32 : decode cX10_pumps 32 = .ok (.ireturn, 1) := by decide +kernel
theorem dX10_inNodes_0 : decode cX10_inNodes 0 = .ok (.lconst 0, 1) := by decide +kernel
theorem dX10_inNodes_1 : decode cX10_inNodes 1 = .ok (.lstore_n 1, 1) := by decide +kernel
theorem dX10_inNodes_2 : decode cX10_inNodes 2 = .ok (.iconst 0, 1) := by decide +kernel
theorem dX10_inNodes_3 : decode cX10_inNodes 3 = .ok (.istore_n 3, 1) := by decide +kernel
theorem dX10_inNodes_4 : decode cX10_inNodes 4 = .ok (.iload_n 3, 1) := by decide +kernel
theorem dX10_inNodes_5 : decode cX10_inNodes 5 = .ok (.aload_n 0, 1) := by decide +kernel
theorem dX10_inNodes_6 : decode cX10_inNodes 6 = .ok (.getfield 142, 3) := by decide +kernel
theorem dX10_inNodes_9 : decode cX10_inNodes 9 = .ok (.if_icmp .ge 18, 3) := by decide +kernel
theorem dX10_inNodes_12 : decode cX10_inNodes 12 = .ok (.lload_n 1, 1) := by decide +kernel
theorem dX10_inNodes_13 : decode cX10_inNodes 13 = .ok (.aload_n 0, 1) := by decide +kernel
theorem dX10_inNodes_14 : decode cX10_inNodes 14 = .ok (.getfield 22, 3) := by decide +kernel
theorem dX10_inNodes_17 : decode cX10_inNodes 17 = .ok (.iload_n 3, 1) := by decide +kernel
theorem dX10_inNodes_18 : decode cX10_inNodes 18 = .ok (.laload, 1) := by decide +kernel
theorem dX10_inNodes_19 : decode cX10_inNodes 19 = .ok (.ladd, 1) := by decide +kernel
theorem dX10_inNodes_20 : decode cX10_inNodes 20 = .ok (.lstore_n 1, 1) := by decide +kernel
theorem dX10_inNodes_21 : decode cX10_inNodes 21 = .ok (.iinc 3 1, 3) := by decide +kernel
theorem dX10_inNodes_24 : decode cX10_inNodes 24 = .ok (.goto (-20), 3) := by decide +kernel
theorem dX10_inNodes_27 : decode cX10_inNodes 27 = .ok (.lload_n 1, 1) := by decide +kernel
theorem dX10_inNodes_28 : decode cX10_inNodes 28 = .ok (.lreturn, 1) := by decide +kernel
theorem dX10_inCells_0 : decode cX10_inCells 0 = .ok (.lconst 0, 1) := by decide +kernel
theorem dX10_inCells_1 : decode cX10_inCells 1 = .ok (.lstore_n 1, 1) := by decide +kernel
theorem dX10_inCells_2 : decode cX10_inCells 2 = .ok (.iconst 0, 1) := by decide +kernel
theorem dX10_inCells_3 : decode cX10_inCells 3 = .ok (.istore_n 3, 1) := by decide +kernel
theorem dX10_inCells_4 : decode cX10_inCells 4 = .ok (.iload_n 3, 1) := by decide +kernel
theorem dX10_inCells_5 : decode cX10_inCells 5 = .ok (.bipush 8, 2) := by decide +kernel
theorem dX10_inCells_7 : decode cX10_inCells 7 = .ok (.if_icmp .ge 18, 3) := by decide +kernel
theorem dX10_inCells_10 : decode cX10_inCells 10 = .ok (.lload_n 1, 1) := by decide +kernel
theorem dX10_inCells_11 : decode cX10_inCells 11 = .ok (.aload_n 0, 1) := by decide +kernel
theorem dX10_inCells_12 : decode cX10_inCells 12 = .ok (.getfield 108, 3) := by decide +kernel
theorem dX10_inCells_15 : decode cX10_inCells 15 = .ok (.iload_n 3, 1) := by decide +kernel
theorem dX10_inCells_16 : decode cX10_inCells 16 = .ok (.laload, 1) := by decide +kernel
theorem dX10_inCells_17 : decode cX10_inCells 17 = .ok (.ladd, 1) := by decide +kernel
theorem dX10_inCells_18 : decode cX10_inCells 18 = .ok (.lstore_n 1, 1) := by decide +kernel
theorem dX10_inCells_19 : decode cX10_inCells 19 = .ok (.iinc 3 1, 3) := by decide +kernel
theorem dX10_inCells_22 : decode cX10_inCells 22 = .ok (.goto (-18), 3) := by decide +kernel
theorem dX10_inCells_25 : decode cX10_inCells 25 = .ok (.lload_n 1, 1) := by decide +kernel
theorem dX10_inCells_26 : decode cX10_inCells 26 = .ok (.lreturn, 1) := by decide +kernel
theorem dX10_litres_0 : decode cX10_litres 0 = .ok (.iload_n 1, 1) := by decide +kernel
theorem dX10_litres_1 : decode cX10_litres 1 = .ok (.tableswitch 60 0 4 #[35, 40, 45, 50, 55], 35) := by decide +kernel
theorem dX10_litres_36 : decode cX10_litres 36 = .ok (.aload_n 0, 1) := by decide +kernel
theorem dX10_litres_37 : decode cX10_litres 37 = .ok (.getfield 174, 3) := by decide +kernel
theorem dX10_litres_40 : decode cX10_litres 40 = .ok (.lreturn, 1) := by decide +kernel
theorem dX10_litres_41 : decode cX10_litres 41 = .ok (.aload_n 0, 1) := by decide +kernel
theorem dX10_litres_42 : decode cX10_litres 42 = .ok (.invokevirtual 227, 3) := by decide +kernel
theorem dX10_litres_45 : decode cX10_litres 45 = .ok (.lreturn, 1) := by decide +kernel
theorem dX10_litres_46 : decode cX10_litres 46 = .ok (.aload_n 0, 1) := by decide +kernel
theorem dX10_litres_47 : decode cX10_litres 47 = .ok (.invokevirtual 231, 3) := by decide +kernel
theorem dX10_litres_50 : decode cX10_litres 50 = .ok (.lreturn, 1) := by decide +kernel
theorem dX10_litres_51 : decode cX10_litres 51 = .ok (.aload_n 0, 1) := by decide +kernel
theorem dX10_litres_52 : decode cX10_litres 52 = .ok (.getfield 188, 3) := by decide +kernel
theorem dX10_litres_55 : decode cX10_litres 55 = .ok (.lreturn, 1) := by decide +kernel
theorem dX10_litres_56 : decode cX10_litres 56 = .ok (.aload_n 0, 1) := by decide +kernel
theorem dX10_litres_57 : decode cX10_litres 57 = .ok (.getfield 194, 3) := by decide +kernel
theorem dX10_litres_60 : decode cX10_litres 60 = .ok (.lreturn, 1) := by decide +kernel
theorem dX10_litres_61 : decode cX10_litres 61 = .ok (.ldc2_w 225, 3) := by decide +kernel
theorem dX10_litres_64 : decode cX10_litres 64 = .ok (.lreturn, 1) := by decide +kernel
theorem dX10_keeps_0 : decode cX10_keeps 0 = .ok (.aload_n 0, 1) := by decide +kernel
theorem dX10_keeps_1 : decode cX10_keeps 1 = .ok (.getfield 174, 3) := by decide +kernel
theorem dX10_keeps_4 : decode cX10_keeps 4 = .ok (.aload_n 0, 1) := by decide +kernel
theorem dX10_keeps_5 : decode cX10_keeps 5 = .ok (.invokevirtual 227, 3) := by decide +kernel
theorem dX10_keeps_8 : decode cX10_keeps 8 = .ok (.aload_n 0, 1) := by decide +kernel
theorem dX10_keeps_9 : decode cX10_keeps 9 = .ok (.invokevirtual 231, 3) := by decide +kernel
theorem dX10_keeps_12 : decode cX10_keeps 12 = .ok (.ladd, 1) := by decide +kernel
theorem dX10_keeps_13 : decode cX10_keeps 13 = .ok (.aload_n 0, 1) := by decide +kernel
theorem dX10_keeps_14 : decode cX10_keeps 14 = .ok (.getfield 188, 3) := by decide +kernel
theorem dX10_keeps_17 : decode cX10_keeps 17 = .ok (.ladd, 1) := by decide +kernel
theorem dX10_keeps_18 : decode cX10_keeps 18 = .ok (.aload_n 0, 1) := by decide +kernel
theorem dX10_keeps_19 : decode cX10_keeps 19 = .ok (.getfield 194, 3) := by decide +kernel
theorem dX10_keeps_22 : decode cX10_keeps 22 = .ok (.ladd, 1) := by decide +kernel
theorem dX10_keeps_23 : decode cX10_keeps 23 = .ok (.lcmp, 1) := by decide +kernel
theorem dX10_keeps_24 : decode cX10_keeps 24 = .ok (.ifCond .ne 7, 3) := by decide +kernel
theorem dX10_keeps_27 : decode cX10_keeps 27 = .ok (.iconst 1, 1) := by decide +kernel
theorem dX10_keeps_28 : decode cX10_keeps 28 = .ok (.goto 4, 3) := by decide +kernel
theorem dX10_keeps_31 : decode cX10_keeps 31 = .ok (.iconst 0, 1) := by decide +kernel
theorem dX10_keeps_32 : decode cX10_keeps 32 = .ok (.ireturn, 1) := by decide +kernel
theorem dX10_list_0 : decode cX10_list 0 = .ok (.aload_n 0, 1) := by decide +kernel
theorem dX10_list_1 : decode cX10_list 1 = .ok (.getfield 234, 3) := by decide +kernel
theorem dX10_list_4 : decode cX10_list 4 = .ok (.bipush 6, 2) := by decide +kernel
theorem dX10_list_6 : decode cX10_list 6 = .ok (.if_icmp .eq 47, 3) := by decide +kernel
theorem dX10_list_9 : decode cX10_list 9 = .ok (.iload_n 1, 1) := by decide +kernel
theorem dX10_list_10 : decode cX10_list 10 = .ok (.bipush 10, 2) := by decide +kernel
theorem dX10_list_12 : decode cX10_list 12 = .ok (.sipush 3000, 3) := by decide +kernel
theorem dX10_list_15 : decode cX10_list 15 = .ok (.invokestatic 145, 3) := by decide +kernel
theorem dX10_list_18 : decode cX10_list 18 = .ok (.ifCond .eq 35, 3) := by decide +kernel
theorem dX10_list_21 : decode cX10_list 21 = .ok (.iload_n 2, 1) := by decide +kernel
theorem dX10_list_22 : decode cX10_list 22 = .ok (.iconst 0, 1) := by decide +kernel
theorem dX10_list_23 : decode cX10_list 23 = .ok (.ldc 150, 2) := by decide +kernel
theorem dX10_list_25 : decode cX10_list 25 = .ok (.invokestatic 145, 3) := by decide +kernel
theorem dX10_list_28 : decode cX10_list 28 = .ok (.ifCond .eq 25, 3) := by decide +kernel
theorem dX10_list_31 : decode cX10_list 31 = .ok (.aload_n 0, 1) := by decide +kernel
theorem dX10_list_32 : decode cX10_list 32 = .ok (.getfield 234, 3) := by decide +kernel
theorem dX10_list_35 : decode cX10_list 35 = .ok (.ifCond .le 20, 3) := by decide +kernel
theorem dX10_list_38 : decode cX10_list 38 = .ok (.iload_n 1, 1) := by decide +kernel
theorem dX10_list_39 : decode cX10_list 39 = .ok (.aload_n 0, 1) := by decide +kernel
theorem dX10_list_40 : decode cX10_list 40 = .ok (.getfield 111, 3) := by decide +kernel
theorem dX10_list_43 : decode cX10_list 43 = .ok (.aload_n 0, 1) := by decide +kernel
theorem dX10_list_44 : decode cX10_list 44 = .ok (.getfield 234, 3) := by decide +kernel
theorem dX10_list_47 : decode cX10_list 47 = .ok (.iconst 1, 1) := by decide +kernel
theorem dX10_list_48 : decode cX10_list 48 = .ok (.isub, 1) := by decide +kernel
theorem dX10_list_49 : decode cX10_list 49 = .ok (.iaload, 1) := by decide +kernel
theorem dX10_list_50 : decode cX10_list 50 = .ok (.if_icmp .gt 5, 3) := by decide +kernel
theorem dX10_list_53 : decode cX10_list 53 = .ok (.iconst (-1), 1) := by decide +kernel
theorem dX10_list_54 : decode cX10_list 54 = .ok (.ireturn, 1) := by decide +kernel
theorem dX10_list_55 : decode cX10_list 55 = .ok (.aload_n 0, 1) := by decide +kernel
theorem dX10_list_56 : decode cX10_list 56 = .ok (.getfield 111, 3) := by decide +kernel
theorem dX10_list_59 : decode cX10_list 59 = .ok (.aload_n 0, 1) := by decide +kernel
theorem dX10_list_60 : decode cX10_list 60 = .ok (.getfield 234, 3) := by decide +kernel
theorem dX10_list_63 : decode cX10_list 63 = .ok (.iload_n 1, 1) := by decide +kernel
theorem dX10_list_64 : decode cX10_list 64 = .ok (.iastore, 1) := by decide +kernel
theorem dX10_list_65 : decode cX10_list 65 = .ok (.aload_n 0, 1) := by decide +kernel
theorem dX10_list_66 : decode cX10_list 66 = .ok (.getfield 114, 3) := by decide +kernel
theorem dX10_list_69 : decode cX10_list 69 = .ok (.aload_n 0, 1) := by decide +kernel
theorem dX10_list_70 : decode cX10_list 70 = .ok (.getfield 234, 3) := by decide +kernel
theorem dX10_list_73 : decode cX10_list 73 = .ok (.iload_n 2, 1) := by decide +kernel
theorem dX10_list_74 : decode cX10_list 74 = .ok (.iastore, 1) := by decide +kernel
theorem dX10_list_75 : decode cX10_list 75 = .ok (.aload_n 0, 1) := by decide +kernel
theorem dX10_list_76 : decode cX10_list 76 = .ok (.dup, 1) := by decide +kernel
theorem dX10_list_77 : decode cX10_list 77 = .ok (.getfield 234, 3) := by decide +kernel
theorem dX10_list_80 : decode cX10_list 80 = .ok (.iconst 1, 1) := by decide +kernel
theorem dX10_list_81 : decode cX10_list 81 = .ok (.iadd, 1) := by decide +kernel
theorem dX10_list_82 : decode cX10_list 82 = .ok (.putfield 234, 3) := by decide +kernel
theorem dX10_list_85 : decode cX10_list 85 = .ok (.aload_n 0, 1) := by decide +kernel
theorem dX10_list_86 : decode cX10_list 86 = .ok (.iconst 0, 1) := by decide +kernel
theorem dX10_list_87 : decode cX10_list 87 = .ok (.putfield 237, 3) := by decide +kernel
theorem dX10_list_90 : decode cX10_list 90 = .ok (.aload_n 0, 1) := by decide +kernel
theorem dX10_list_91 : decode cX10_list 91 = .ok (.getfield 234, 3) := by decide +kernel
theorem dX10_list_94 : decode cX10_list 94 = .ok (.iconst 1, 1) := by decide +kernel
theorem dX10_list_95 : decode cX10_list 95 = .ok (.isub, 1) := by decide +kernel
theorem dX10_list_96 : decode cX10_list 96 = .ok (.ireturn, 1) := by decide +kernel
theorem dX10_begin_0 : decode cX10_begin 0 = .ok (.iload_n 1, 1) := by decide +kernel
theorem dX10_begin_1 : decode cX10_begin 1 = .ok (.ldc 149, 2) := by decide +kernel
theorem dX10_begin_3 : decode cX10_begin 3 = .ok (.ldc 150, 2) := by decide +kernel
theorem dX10_begin_5 : decode cX10_begin 5 = .ok (.invokestatic 145, 3) := by decide +kernel
theorem dX10_begin_8 : decode cX10_begin 8 = .ok (.ifCond .eq 14, 3) := by decide +kernel
theorem dX10_begin_11 : decode cX10_begin 11 = .ok (.iload_n 2, 1) := by decide +kernel
theorem dX10_begin_12 : decode cX10_begin 12 = .ok (.ldc 149, 2) := by decide +kernel
theorem dX10_begin_14 : decode cX10_begin 14 = .ok (.ldc 150, 2) := by decide +kernel
theorem dX10_begin_16 : decode cX10_begin 16 = .ok (.invokestatic 145, 3) := by decide +kernel
theorem dX10_begin_19 : decode cX10_begin 19 = .ok (.ifCond .ne 5, 3) := by decide +kernel
theorem dX10_begin_22 : decode cX10_begin 22 = .ok (.iconst 0, 1) := by decide +kernel
theorem dX10_begin_23 : decode cX10_begin 23 = .ok (.ireturn, 1) := by decide +kernel
theorem dX10_begin_24 : decode cX10_begin 24 = .ok (.aload_n 0, 1) := by decide +kernel
theorem dX10_begin_25 : decode cX10_begin 25 = .ok (.iconst 1, 1) := by decide +kernel
theorem dX10_begin_26 : decode cX10_begin 26 = .ok (.putfield 241, 3) := by decide +kernel
theorem dX10_begin_29 : decode cX10_begin 29 = .ok (.aload_n 0, 1) := by decide +kernel
theorem dX10_begin_30 : decode cX10_begin 30 = .ok (.iload_n 1, 1) := by decide +kernel
theorem dX10_begin_31 : decode cX10_begin 31 = .ok (.putfield 244, 3) := by decide +kernel
theorem dX10_begin_34 : decode cX10_begin 34 = .ok (.aload_n 0, 1) := by decide +kernel
theorem dX10_begin_35 : decode cX10_begin 35 = .ok (.iload_n 2, 1) := by decide +kernel
theorem dX10_begin_36 : decode cX10_begin 36 = .ok (.putfield 247, 3) := by decide +kernel
theorem dX10_begin_39 : decode cX10_begin 39 = .ok (.aload_n 0, 1) := by decide +kernel
theorem dX10_begin_40 : decode cX10_begin 40 = .ok (.iconst 0, 1) := by decide +kernel
theorem dX10_begin_41 : decode cX10_begin 41 = .ok (.putfield 250, 3) := by decide +kernel
theorem dX10_begin_44 : decode cX10_begin 44 = .ok (.aload_n 0, 1) := by decide +kernel
theorem dX10_begin_45 : decode cX10_begin 45 = .ok (.iconst 0, 1) := by decide +kernel
theorem dX10_begin_46 : decode cX10_begin 46 = .ok (.putfield 237, 3) := by decide +kernel
theorem dX10_begin_49 : decode cX10_begin 49 = .ok (.iconst 1, 1) := by decide +kernel
theorem dX10_begin_50 : decode cX10_begin 50 = .ok (.ireturn, 1) := by decide +kernel
theorem dX10_piece_0 : decode cX10_piece 0 = .ok (.aload_n 0, 1) := by decide +kernel
theorem dX10_piece_1 : decode cX10_piece 1 = .ok (.getfield 241, 3) := by decide +kernel
theorem dX10_piece_4 : decode cX10_piece 4 = .ok (.ifCond .eq 45, 3) := by decide +kernel
theorem dX10_piece_7 : decode cX10_piece 7 = .ok (.aload_n 0, 1) := by decide +kernel
theorem dX10_piece_8 : decode cX10_piece 8 = .ok (.getfield 250, 3) := by decide +kernel
theorem dX10_piece_11 : decode cX10_piece 11 = .ok (.bipush 10, 2) := by decide +kernel
theorem dX10_piece_13 : decode cX10_piece 13 = .ok (.if_icmp .eq 36, 3) := by decide +kernel
theorem dX10_piece_16 : decode cX10_piece 16 = .ok (.iload_n 1, 1) := by decide +kernel
theorem dX10_piece_17 : decode cX10_piece 17 = .ok (.ldc 149, 2) := by decide +kernel
theorem dX10_piece_19 : decode cX10_piece 19 = .ok (.ldc 150, 2) := by decide +kernel
theorem dX10_piece_21 : decode cX10_piece 21 = .ok (.invokestatic 145, 3) := by decide +kernel
theorem dX10_piece_24 : decode cX10_piece 24 = .ok (.ifCond .eq 25, 3) := by decide +kernel
theorem dX10_piece_27 : decode cX10_piece 27 = .ok (.iload_n 2, 1) := by decide +kernel
theorem dX10_piece_28 : decode cX10_piece 28 = .ok (.iconst 1, 1) := by decide +kernel
theorem dX10_piece_29 : decode cX10_piece 29 = .ok (.sipush 10000, 3) := by decide +kernel
theorem dX10_piece_32 : decode cX10_piece 32 = .ok (.invokestatic 145, 3) := by decide +kernel
theorem dX10_piece_35 : decode cX10_piece 35 = .ok (.ifCond .eq 14, 3) := by decide +kernel
theorem dX10_piece_38 : decode cX10_piece 38 = .ok (.iload_n 3, 1) := by decide +kernel
theorem dX10_piece_39 : decode cX10_piece 39 = .ok (.iconst 0, 1) := by decide +kernel
theorem dX10_piece_40 : decode cX10_piece 40 = .ok (.sipush 10000, 3) := by decide +kernel
theorem dX10_piece_43 : decode cX10_piece 43 = .ok (.invokestatic 145, 3) := by decide +kernel
theorem dX10_piece_46 : decode cX10_piece 46 = .ok (.ifCond .ne 5, 3) := by decide +kernel
theorem dX10_piece_49 : decode cX10_piece 49 = .ok (.iconst (-1), 1) := by decide +kernel
theorem dX10_piece_50 : decode cX10_piece 50 = .ok (.ireturn, 1) := by decide +kernel
theorem dX10_piece_51 : decode cX10_piece 51 = .ok (.aload_n 0, 1) := by decide +kernel
theorem dX10_piece_52 : decode cX10_piece 52 = .ok (.getfield 117, 3) := by decide +kernel
theorem dX10_piece_55 : decode cX10_piece 55 = .ok (.aload_n 0, 1) := by decide +kernel
theorem dX10_piece_56 : decode cX10_piece 56 = .ok (.getfield 250, 3) := by decide +kernel
theorem dX10_piece_59 : decode cX10_piece 59 = .ok (.iload_n 1, 1) := by decide +kernel
theorem dX10_piece_60 : decode cX10_piece 60 = .ok (.iastore, 1) := by decide +kernel
theorem dX10_piece_61 : decode cX10_piece 61 = .ok (.aload_n 0, 1) := by decide +kernel
theorem dX10_piece_62 : decode cX10_piece 62 = .ok (.getfield 120, 3) := by decide +kernel
theorem dX10_piece_65 : decode cX10_piece 65 = .ok (.aload_n 0, 1) := by decide +kernel
theorem dX10_piece_66 : decode cX10_piece 66 = .ok (.getfield 250, 3) := by decide +kernel
theorem dX10_piece_69 : decode cX10_piece 69 = .ok (.iload_n 2, 1) := by decide +kernel
theorem dX10_piece_70 : decode cX10_piece 70 = .ok (.iastore, 1) := by decide +kernel
theorem dX10_piece_71 : decode cX10_piece 71 = .ok (.aload_n 0, 1) := by decide +kernel
theorem dX10_piece_72 : decode cX10_piece 72 = .ok (.getfield 123, 3) := by decide +kernel
theorem dX10_piece_75 : decode cX10_piece 75 = .ok (.aload_n 0, 1) := by decide +kernel
theorem dX10_piece_76 : decode cX10_piece 76 = .ok (.getfield 250, 3) := by decide +kernel
theorem dX10_piece_79 : decode cX10_piece 79 = .ok (.iload_n 3, 1) := by decide +kernel
theorem dX10_piece_80 : decode cX10_piece 80 = .ok (.iastore, 1) := by decide +kernel
theorem dX10_piece_81 : decode cX10_piece 81 = .ok (.aload_n 0, 1) := by decide +kernel
theorem dX10_piece_82 : decode cX10_piece 82 = .ok (.dup, 1) := by decide +kernel
theorem dX10_piece_83 : decode cX10_piece 83 = .ok (.getfield 250, 3) := by decide +kernel
theorem dX10_piece_86 : decode cX10_piece 86 = .ok (.iconst 1, 1) := by decide +kernel
theorem dX10_piece_87 : decode cX10_piece 87 = .ok (.iadd, 1) := by decide +kernel
theorem dX10_piece_88 : decode cX10_piece 88 = .ok (.putfield 250, 3) := by decide +kernel
theorem dX10_piece_91 : decode cX10_piece 91 = .ok (.aload_n 0, 1) := by decide +kernel
theorem dX10_piece_92 : decode cX10_piece 92 = .ok (.iconst 0, 1) := by decide +kernel
theorem dX10_piece_93 : decode cX10_piece 93 = .ok (.putfield 237, 3) := by decide +kernel
theorem dX10_piece_96 : decode cX10_piece 96 = .ok (.aload_n 0, 1) := by decide +kernel
theorem dX10_piece_97 : decode cX10_piece 97 = .ok (.getfield 250, 3) := by decide +kernel
theorem dX10_piece_100 : decode cX10_piece 100 = .ok (.iconst 1, 1) := by decide +kernel
theorem dX10_piece_101 : decode cX10_piece 101 = .ok (.isub, 1) := by decide +kernel
theorem dX10_piece_102 : decode cX10_piece 102 = .ok (.ireturn, 1) := by decide +kernel
theorem dX10_place_0 : decode cX10_place 0 = .ok (.iload_n 1, 1) := by decide +kernel
theorem dX10_place_1 : decode cX10_place 1 = .ok (.sipush 401, 3) := by decide +kernel
theorem dX10_place_4 : decode cX10_place 4 = .ok (.imul, 1) := by decide +kernel
theorem dX10_place_5 : decode cX10_place 5 = .ok (.iload_n 2, 1) := by decide +kernel
theorem dX10_place_6 : decode cX10_place 6 = .ok (.iadd, 1) := by decide +kernel
theorem dX10_place_7 : decode cX10_place 7 = .ok (.bipush 6, 2) := by decide +kernel
theorem dX10_place_9 : decode cX10_place 9 = .ok (.imul, 1) := by decide +kernel
theorem dX10_place_10 : decode cX10_place 10 = .ok (.iload_n 3, 1) := by decide +kernel
theorem dX10_place_11 : decode cX10_place 11 = .ok (.iadd, 1) := by decide +kernel
theorem dX10_place_12 : decode cX10_place 12 = .ok (.ireturn, 1) := by decide +kernel
theorem dX10_with_0 : decode cX10_with 0 = .ok (.aload_n 0, 1) := by decide +kernel
theorem dX10_with_1 : decode cX10_with 1 = .ok (.getfield 111, 3) := by decide +kernel
theorem dX10_with_4 : decode cX10_with 4 = .ok (.iload_n 3, 1) := by decide +kernel
theorem dX10_with_5 : decode cX10_with 5 = .ok (.iaload, 1) := by decide +kernel
theorem dX10_with_6 : decode cX10_with 6 = .ok (.iload 5, 2) := by decide +kernel
theorem dX10_with_8 : decode cX10_with 8 = .ok (.iadd, 1) := by decide +kernel
theorem dX10_with_9 : decode cX10_with 9 = .ok (.istore 7, 2) := by decide +kernel
theorem dX10_with_11 : decode cX10_with 11 = .ok (.iload_n 1, 1) := by decide +kernel
theorem dX10_with_12 : decode cX10_with 12 = .ok (.ifCond .ne 10, 3) := by decide +kernel
theorem dX10_with_15 : decode cX10_with 15 = .ok (.aload_n 0, 1) := by decide +kernel
theorem dX10_with_16 : decode cX10_with 16 = .ok (.getfield 244, 3) := by decide +kernel
theorem dX10_with_19 : decode cX10_with 19 = .ok (.goto 11, 3) := by decide +kernel
theorem dX10_with_22 : decode cX10_with 22 = .ok (.aload_n 0, 1) := by decide +kernel
theorem dX10_with_23 : decode cX10_with 23 = .ok (.getfield 117, 3) := by decide +kernel
theorem dX10_with_26 : decode cX10_with 26 = .ok (.iload_n 1, 1) := by decide +kernel
theorem dX10_with_27 : decode cX10_with 27 = .ok (.iconst 1, 1) := by decide +kernel
theorem dX10_with_28 : decode cX10_with 28 = .ok (.isub, 1) := by decide +kernel
theorem dX10_with_29 : decode cX10_with 29 = .ok (.iaload, 1) := by decide +kernel
theorem dX10_with_30 : decode cX10_with 30 = .ok (.aload_n 0, 1) := by decide +kernel
theorem dX10_with_31 : decode cX10_with 31 = .ok (.getfield 247, 3) := by decide +kernel
theorem dX10_with_34 : decode cX10_with 34 = .ok (.iload_n 2, 1) := by decide +kernel
theorem dX10_with_35 : decode cX10_with 35 = .ok (.isub, 1) := by decide +kernel
theorem dX10_with_36 : decode cX10_with 36 = .ok (.isub, 1) := by decide +kernel
theorem dX10_with_37 : decode cX10_with 37 = .ok (.istore 8, 2) := by decide +kernel
theorem dX10_with_39 : decode cX10_with 39 = .ok (.aload_n 0, 1) := by decide +kernel
theorem dX10_with_40 : decode cX10_with 40 = .ok (.getfield 117, 3) := by decide +kernel
theorem dX10_with_43 : decode cX10_with 43 = .ok (.iload_n 1, 1) := by decide +kernel
theorem dX10_with_44 : decode cX10_with 44 = .ok (.iaload, 1) := by decide +kernel
theorem dX10_with_45 : decode cX10_with 45 = .ok (.aload_n 0, 1) := by decide +kernel
theorem dX10_with_46 : decode cX10_with 46 = .ok (.getfield 247, 3) := by decide +kernel
theorem dX10_with_49 : decode cX10_with 49 = .ok (.iload_n 2, 1) := by decide +kernel
theorem dX10_with_50 : decode cX10_with 50 = .ok (.isub, 1) := by decide +kernel
theorem dX10_with_51 : decode cX10_with 51 = .ok (.iload 4, 2) := by decide +kernel
theorem dX10_with_53 : decode cX10_with 53 = .ok (.isub, 1) := by decide +kernel
theorem dX10_with_54 : decode cX10_with 54 = .ok (.isub, 1) := by decide +kernel
theorem dX10_with_55 : decode cX10_with 55 = .ok (.istore 9, 2) := by decide +kernel
theorem dX10_with_57 : decode cX10_with 57 = .ok (.aload_n 0, 1) := by decide +kernel
theorem dX10_with_58 : decode cX10_with 58 = .ok (.getfield 111, 3) := by decide +kernel
theorem dX10_with_61 : decode cX10_with 61 = .ok (.iload_n 3, 1) := by decide +kernel
theorem dX10_with_62 : decode cX10_with 62 = .ok (.iaload, 1) := by decide +kernel
theorem dX10_with_63 : decode cX10_with 63 = .ok (.i2l, 1) := by decide +kernel
theorem dX10_with_64 : decode cX10_with 64 = .ok (.aload_n 0, 1) := by decide +kernel
theorem dX10_with_65 : decode cX10_with 65 = .ok (.getfield 111, 3) := by decide +kernel
theorem dX10_with_68 : decode cX10_with 68 = .ok (.iload_n 3, 1) := by decide +kernel
theorem dX10_with_69 : decode cX10_with 69 = .ok (.iaload, 1) := by decide +kernel
theorem dX10_with_70 : decode cX10_with 70 = .ok (.i2l, 1) := by decide +kernel
theorem dX10_with_71 : decode cX10_with 71 = .ok (.lmul, 1) := by decide +kernel
theorem dX10_with_72 : decode cX10_with 72 = .ok (.iload 4, 2) := by decide +kernel
theorem dX10_with_74 : decode cX10_with 74 = .ok (.i2l, 1) := by decide +kernel
theorem dX10_with_75 : decode cX10_with 75 = .ok (.lmul, 1) := by decide +kernel
theorem dX10_with_76 : decode cX10_with 76 = .ok (.ldc2_w 178, 3) := by decide +kernel
theorem dX10_with_79 : decode cX10_with 79 = .ok (.aload_n 0, 1) := by decide +kernel
theorem dX10_with_80 : decode cX10_with 80 = .ok (.getfield 120, 3) := by decide +kernel
theorem dX10_with_83 : decode cX10_with 83 = .ok (.iload_n 1, 1) := by decide +kernel
theorem dX10_with_84 : decode cX10_with 84 = .ok (.iaload, 1) := by decide +kernel
theorem dX10_with_85 : decode cX10_with 85 = .ok (.i2l, 1) := by decide +kernel
theorem dX10_with_86 : decode cX10_with 86 = .ok (.lmul, 1) := by decide +kernel
theorem dX10_with_87 : decode cX10_with 87 = .ok (.aload_n 0, 1) := by decide +kernel
theorem dX10_with_88 : decode cX10_with 88 = .ok (.getfield 123, 3) := by decide +kernel
theorem dX10_with_91 : decode cX10_with 91 = .ok (.iload_n 1, 1) := by decide +kernel
theorem dX10_with_92 : decode cX10_with 92 = .ok (.iaload, 1) := by decide +kernel
theorem dX10_with_93 : decode cX10_with 93 = .ok (.i2l, 1) := by decide +kernel
theorem dX10_with_94 : decode cX10_with 94 = .ok (.lmul, 1) := by decide +kernel
theorem dX10_with_95 : decode cX10_with 95 = .ok (.lcmp, 1) := by decide +kernel
theorem dX10_with_96 : decode cX10_with 96 = .ok (.ifCond .lt 7, 3) := by decide +kernel
theorem dX10_with_99 : decode cX10_with 99 = .ok (.iconst 1, 1) := by decide +kernel
theorem dX10_with_100 : decode cX10_with 100 = .ok (.goto 4, 3) := by decide +kernel
theorem dX10_with_103 : decode cX10_with 103 = .ok (.iconst 0, 1) := by decide +kernel
theorem dX10_with_104 : decode cX10_with 104 = .ok (.istore 10, 2) := by decide +kernel
theorem dX10_with_106 : decode cX10_with 106 = .ok (.iload 10, 2) := by decide +kernel
theorem dX10_with_108 : decode cX10_with 108 = .ok (.ifCond .eq 17, 3) := by decide +kernel
theorem dX10_with_111 : decode cX10_with 111 = .ok (.iload 8, 2) := by decide +kernel
theorem dX10_with_113 : decode cX10_with 113 = .ok (.iload 7, 2) := by decide +kernel
theorem dX10_with_115 : decode cX10_with 115 = .ok (.if_icmp .lt 10, 3) := by decide +kernel
theorem dX10_with_118 : decode cX10_with 118 = .ok (.iload 9, 2) := by decide +kernel
theorem dX10_with_120 : decode cX10_with 120 = .ok (.iload 7, 2) := by decide +kernel
theorem dX10_with_122 : decode cX10_with 122 = .ok (.if_icmp .ge 7, 3) := by decide +kernel
theorem dX10_with_125 : decode cX10_with 125 = .ok (.ldc2_w 253, 3) := by decide +kernel
theorem dX10_with_128 : decode cX10_with 128 = .ok (.lreturn, 1) := by decide +kernel
theorem dX10_with_129 : decode cX10_with 129 = .ok (.iload_n 1, 1) := by decide +kernel
theorem dX10_with_130 : decode cX10_with 130 = .ok (.iconst 1, 1) := by decide +kernel
theorem dX10_with_131 : decode cX10_with 131 = .ok (.iadd, 1) := by decide +kernel
theorem dX10_with_132 : decode cX10_with 132 = .ok (.aload_n 0, 1) := by decide +kernel
theorem dX10_with_133 : decode cX10_with 133 = .ok (.getfield 250, 3) := by decide +kernel
theorem dX10_with_136 : decode cX10_with 136 = .ok (.if_icmp .ne 7, 3) := by decide +kernel
theorem dX10_with_139 : decode cX10_with 139 = .ok (.lconst 0, 1) := by decide +kernel
theorem dX10_with_140 : decode cX10_with 140 = .ok (.goto 20, 3) := by decide +kernel
theorem dX10_with_143 : decode cX10_with 143 = .ok (.aload_n 0, 1) := by decide +kernel
theorem dX10_with_144 : decode cX10_with 144 = .ok (.getfield 126, 3) := by decide +kernel
theorem dX10_with_147 : decode cX10_with 147 = .ok (.aload_n 0, 1) := by decide +kernel
theorem dX10_with_148 : decode cX10_with 148 = .ok (.iload_n 1, 1) := by decide +kernel
theorem dX10_with_149 : decode cX10_with 149 = .ok (.iconst 1, 1) := by decide +kernel
theorem dX10_with_150 : decode cX10_with 150 = .ok (.iadd, 1) := by decide +kernel
theorem dX10_with_151 : decode cX10_with 151 = .ok (.iload_n 2, 1) := by decide +kernel
theorem dX10_with_152 : decode cX10_with 152 = .ok (.iload 4, 2) := by decide +kernel
theorem dX10_with_154 : decode cX10_with 154 = .ok (.iadd, 1) := by decide +kernel
theorem dX10_with_155 : decode cX10_with 155 = .ok (.iload_n 3, 1) := by decide +kernel
theorem dX10_with_156 : decode cX10_with 156 = .ok (.invokevirtual 255, 3) := by decide +kernel
theorem dX10_with_159 : decode cX10_with 159 = .ok (.laload, 1) := by decide +kernel
theorem dX10_with_160 : decode cX10_with 160 = .ok (.lstore 11, 2) := by decide +kernel
theorem dX10_with_162 : decode cX10_with 162 = .ok (.lload 11, 2) := by decide +kernel
theorem dX10_with_164 : decode cX10_with 164 = .ok (.ldc2_w 253, 3) := by decide +kernel
theorem dX10_with_167 : decode cX10_with 167 = .ok (.lcmp, 1) := by decide +kernel
theorem dX10_with_168 : decode cX10_with 168 = .ok (.ifCond .lt 9, 3) := by decide +kernel
theorem dX10_with_171 : decode cX10_with 171 = .ok (.ldc2_w 253, 3) := by decide +kernel
theorem dX10_with_174 : decode cX10_with 174 = .ok (.goto 29, 3) := by decide +kernel
theorem dX10_with_177 : decode cX10_with 177 = .ok (.lload 11, 2) := by decide +kernel
theorem dX10_with_179 : decode cX10_with 179 = .ok (.aload_n 0, 1) := by decide +kernel
theorem dX10_with_180 : decode cX10_with 180 = .ok (.getfield 120, 3) := by decide +kernel
theorem dX10_with_183 : decode cX10_with 183 = .ok (.iload_n 1, 1) := by decide +kernel
theorem dX10_with_184 : decode cX10_with 184 = .ok (.iaload, 1) := by decide +kernel
theorem dX10_with_185 : decode cX10_with 185 = .ok (.i2l, 1) := by decide +kernel
theorem dX10_with_186 : decode cX10_with 186 = .ok (.aload_n 0, 1) := by decide +kernel
theorem dX10_with_187 : decode cX10_with 187 = .ok (.getfield 114, 3) := by decide +kernel
theorem dX10_with_190 : decode cX10_with 190 = .ok (.iload_n 3, 1) := by decide +kernel
theorem dX10_with_191 : decode cX10_with 191 = .ok (.iaload, 1) := by decide +kernel
theorem dX10_with_192 : decode cX10_with 192 = .ok (.i2l, 1) := by decide +kernel
theorem dX10_with_193 : decode cX10_with 193 = .ok (.iload 6, 2) := by decide +kernel
theorem dX10_with_195 : decode cX10_with 195 = .ok (.i2l, 1) := by decide +kernel
theorem dX10_with_196 : decode cX10_with 196 = .ok (.iload 9, 2) := by decide +kernel
theorem dX10_with_198 : decode cX10_with 198 = .ok (.i2l, 1) := by decide +kernel
theorem dX10_with_199 : decode cX10_with 199 = .ok (.lmul, 1) := by decide +kernel
theorem dX10_with_200 : decode cX10_with 200 = .ok (.ladd, 1) := by decide +kernel
theorem dX10_with_201 : decode cX10_with 201 = .ok (.lmul, 1) := by decide +kernel
theorem dX10_with_202 : decode cX10_with 202 = .ok (.ladd, 1) := by decide +kernel
theorem dX10_with_203 : decode cX10_with 203 = .ok (.lreturn, 1) := by decide +kernel
theorem dX10_lay_0 : decode cX10_lay 0 = .ok (.aload_n 0, 1) := by decide +kernel
theorem dX10_lay_1 : decode cX10_lay 1 = .ok (.getfield 250, 3) := by decide +kernel
theorem dX10_lay_4 : decode cX10_lay 4 = .ok (.ifCond .eq 25, 3) := by decide +kernel
theorem dX10_lay_7 : decode cX10_lay 7 = .ok (.iload_n 1, 1) := by decide +kernel
theorem dX10_lay_8 : decode cX10_lay 8 = .ok (.iconst 0, 1) := by decide +kernel
theorem dX10_lay_9 : decode cX10_lay 9 = .ok (.sipush 10000, 3) := by decide +kernel
theorem dX10_lay_12 : decode cX10_lay 12 = .ok (.invokestatic 145, 3) := by decide +kernel
theorem dX10_lay_15 : decode cX10_lay 15 = .ok (.ifCond .eq 14, 3) := by decide +kernel
theorem dX10_lay_18 : decode cX10_lay 18 = .ok (.iload_n 2, 1) := by decide +kernel
theorem dX10_lay_19 : decode cX10_lay 19 = .ok (.iconst 0, 1) := by decide +kernel
theorem dX10_lay_20 : decode cX10_lay 20 = .ok (.sipush 1000, 3) := by decide +kernel
theorem dX10_lay_23 : decode cX10_lay 23 = .ok (.invokestatic 145, 3) := by decide +kernel
theorem dX10_lay_26 : decode cX10_lay 26 = .ok (.ifCond .ne 7, 3) := by decide +kernel
theorem dX10_lay_29 : decode cX10_lay 29 = .ok (.ldc2_w 225, 3) := by decide +kernel
theorem dX10_lay_32 : decode cX10_lay 32 = .ok (.lreturn, 1) := by decide +kernel
theorem dX10_lay_33 : decode cX10_lay 33 = .ok (.aload_n 0, 1) := by decide +kernel
theorem dX10_lay_34 : decode cX10_lay 34 = .ok (.getfield 250, 3) := by decide +kernel
theorem dX10_lay_37 : decode cX10_lay 37 = .ok (.iconst 1, 1) := by decide +kernel
theorem dX10_lay_38 : decode cX10_lay 38 = .ok (.isub, 1) := by decide +kernel
theorem dX10_lay_39 : decode cX10_lay 39 = .ok (.istore_n 3, 1) := by decide +kernel
theorem dX10_lay_40 : decode cX10_lay 40 = .ok (.iload_n 3, 1) := by decide +kernel
theorem dX10_lay_41 : decode cX10_lay 41 = .ok (.ifCond .lt 115, 3) := by decide +kernel
theorem dX10_lay_44 : decode cX10_lay 44 = .ok (.iconst 0, 1) := by decide +kernel
theorem dX10_lay_45 : decode cX10_lay 45 = .ok (.istore 4, 2) := by decide +kernel
theorem dX10_lay_47 : decode cX10_lay 47 = .ok (.iload 4, 2) := by decide +kernel
theorem dX10_lay_49 : decode cX10_lay 49 = .ok (.bipush 40, 2) := by decide +kernel
theorem dX10_lay_51 : decode cX10_lay 51 = .ok (.iload_n 3, 1) := by decide +kernel
theorem dX10_lay_52 : decode cX10_lay 52 = .ok (.imul, 1) := by decide +kernel
theorem dX10_lay_53 : decode cX10_lay 53 = .ok (.if_icmp .gt 97, 3) := by decide +kernel
theorem dX10_lay_56 : decode cX10_lay 56 = .ok (.ldc2_w 253, 3) := by decide +kernel
theorem dX10_lay_59 : decode cX10_lay 59 = .ok (.lstore 5, 2) := by decide +kernel
theorem dX10_lay_61 : decode cX10_lay 61 = .ok (.aload_n 0, 1) := by decide +kernel
theorem dX10_lay_62 : decode cX10_lay 62 = .ok (.getfield 234, 3) := by decide +kernel
theorem dX10_lay_65 : decode cX10_lay 65 = .ok (.iconst 1, 1) := by decide +kernel
theorem dX10_lay_66 : decode cX10_lay 66 = .ok (.isub, 1) := by decide +kernel
theorem dX10_lay_67 : decode cX10_lay 67 = .ok (.istore 7, 2) := by decide +kernel
theorem dX10_lay_69 : decode cX10_lay 69 = .ok (.iload 7, 2) := by decide +kernel
theorem dX10_lay_71 : decode cX10_lay 71 = .ok (.ifCond .lt 73, 3) := by decide +kernel
theorem dX10_lay_74 : decode cX10_lay 74 = .ok (.iconst 1, 1) := by decide +kernel
theorem dX10_lay_75 : decode cX10_lay 75 = .ok (.istore 8, 2) := by decide +kernel
theorem dX10_lay_77 : decode cX10_lay 77 = .ok (.iload 8, 2) := by decide +kernel
theorem dX10_lay_79 : decode cX10_lay 79 = .ok (.bipush 40, 2) := by decide +kernel
theorem dX10_lay_81 : decode cX10_lay 81 = .ok (.if_icmp .gt 41, 3) := by decide +kernel
theorem dX10_lay_84 : decode cX10_lay 84 = .ok (.aload_n 0, 1) := by decide +kernel
theorem dX10_lay_85 : decode cX10_lay 85 = .ok (.iload_n 3, 1) := by decide +kernel
theorem dX10_lay_86 : decode cX10_lay 86 = .ok (.iload 4, 2) := by decide +kernel
theorem dX10_lay_88 : decode cX10_lay 88 = .ok (.iload 7, 2) := by decide +kernel
theorem dX10_lay_90 : decode cX10_lay 90 = .ok (.iload 8, 2) := by decide +kernel
theorem dX10_lay_92 : decode cX10_lay 92 = .ok (.iload_n 1, 1) := by decide +kernel
theorem dX10_lay_93 : decode cX10_lay 93 = .ok (.iload_n 2, 1) := by decide +kernel
theorem dX10_lay_94 : decode cX10_lay 94 = .ok (.invokevirtual 259, 3) := by decide +kernel
theorem dX10_lay_97 : decode cX10_lay 97 = .ok (.lstore 9, 2) := by decide +kernel
theorem dX10_lay_99 : decode cX10_lay 99 = .ok (.lload 9, 2) := by decide +kernel
theorem dX10_lay_101 : decode cX10_lay 101 = .ok (.lload 5, 2) := by decide +kernel
theorem dX10_lay_103 : decode cX10_lay 103 = .ok (.lcmp, 1) := by decide +kernel
theorem dX10_lay_104 : decode cX10_lay 104 = .ok (.ifCond .ge 8, 3) := by decide +kernel
theorem dX10_lay_107 : decode cX10_lay 107 = .ok (.lload 9, 2) := by decide +kernel
theorem dX10_lay_109 : decode cX10_lay 109 = .ok (.goto 5, 3) := by decide +kernel
theorem dX10_lay_112 : decode cX10_lay 112 = .ok (.lload 5, 2) := by decide +kernel
theorem dX10_lay_114 : decode cX10_lay 114 = .ok (.lstore 5, 2) := by decide +kernel
theorem dX10_lay_116 : decode cX10_lay 116 = .ok (.iinc 8 1, 3) := by decide +kernel
theorem dX10_lay_119 : decode cX10_lay 119 = .ok (.goto (-42), 3) := by decide +kernel
theorem dX10_lay_122 : decode cX10_lay 122 = .ok (.aload_n 0, 1) := by decide +kernel
theorem dX10_lay_123 : decode cX10_lay 123 = .ok (.getfield 126, 3) := by decide +kernel
theorem dX10_lay_126 : decode cX10_lay 126 = .ok (.aload_n 0, 1) := by decide +kernel
theorem dX10_lay_127 : decode cX10_lay 127 = .ok (.iload_n 3, 1) := by decide +kernel
theorem dX10_lay_128 : decode cX10_lay 128 = .ok (.iload 4, 2) := by decide +kernel
theorem dX10_lay_130 : decode cX10_lay 130 = .ok (.iload 7, 2) := by decide +kernel
theorem dX10_lay_132 : decode cX10_lay 132 = .ok (.invokevirtual 255, 3) := by decide +kernel
theorem dX10_lay_135 : decode cX10_lay 135 = .ok (.lload 5, 2) := by decide +kernel
theorem dX10_lay_137 : decode cX10_lay 137 = .ok (.lastore, 1) := by decide +kernel
theorem dX10_lay_138 : decode cX10_lay 138 = .ok (.iinc 7 (-1), 3) := by decide +kernel
theorem dX10_lay_141 : decode cX10_lay 141 = .ok (.goto (-72), 3) := by decide +kernel
theorem dX10_lay_144 : decode cX10_lay 144 = .ok (.iinc 4 1, 3) := by decide +kernel
theorem dX10_lay_147 : decode cX10_lay 147 = .ok (.goto (-100), 3) := by decide +kernel
theorem dX10_lay_150 : decode cX10_lay 150 = .ok (.iinc 3 (-1), 3) := by decide +kernel
theorem dX10_lay_153 : decode cX10_lay 153 = .ok (.goto (-113), 3) := by decide +kernel
theorem dX10_lay_156 : decode cX10_lay 156 = .ok (.aload_n 0, 1) := by decide +kernel
theorem dX10_lay_157 : decode cX10_lay 157 = .ok (.getfield 234, 3) := by decide +kernel
theorem dX10_lay_160 : decode cX10_lay 160 = .ok (.ifCond .ne 9, 3) := by decide +kernel
theorem dX10_lay_163 : decode cX10_lay 163 = .ok (.ldc2_w 253, 3) := by decide +kernel
theorem dX10_lay_166 : decode cX10_lay 166 = .ok (.goto 15, 3) := by decide +kernel
theorem dX10_lay_169 : decode cX10_lay 169 = .ok (.aload_n 0, 1) := by decide +kernel
theorem dX10_lay_170 : decode cX10_lay 170 = .ok (.getfield 126, 3) := by decide +kernel
theorem dX10_lay_173 : decode cX10_lay 173 = .ok (.aload_n 0, 1) := by decide +kernel
theorem dX10_lay_174 : decode cX10_lay 174 = .ok (.iconst 0, 1) := by decide +kernel
theorem dX10_lay_175 : decode cX10_lay 175 = .ok (.iconst 0, 1) := by decide +kernel
theorem dX10_lay_176 : decode cX10_lay 176 = .ok (.iconst 0, 1) := by decide +kernel
theorem dX10_lay_177 : decode cX10_lay 177 = .ok (.invokevirtual 255, 3) := by decide +kernel
theorem dX10_lay_180 : decode cX10_lay 180 = .ok (.laload, 1) := by decide +kernel
theorem dX10_lay_181 : decode cX10_lay 181 = .ok (.lstore_n 3, 1) := by decide +kernel
theorem dX10_lay_182 : decode cX10_lay 182 = .ok (.aload_n 0, 1) := by decide +kernel
theorem dX10_lay_183 : decode cX10_lay 183 = .ok (.lload_n 3, 1) := by decide +kernel
theorem dX10_lay_184 : decode cX10_lay 184 = .ok (.ldc2_w 253, 3) := by decide +kernel
theorem dX10_lay_187 : decode cX10_lay 187 = .ok (.lcmp, 1) := by decide +kernel
theorem dX10_lay_188 : decode cX10_lay 188 = .ok (.ifCond .ge 7, 3) := by decide +kernel
theorem dX10_lay_191 : decode cX10_lay 191 = .ok (.iconst 1, 1) := by decide +kernel
theorem dX10_lay_192 : decode cX10_lay 192 = .ok (.goto 4, 3) := by decide +kernel
theorem dX10_lay_195 : decode cX10_lay 195 = .ok (.iconst 0, 1) := by decide +kernel
theorem dX10_lay_196 : decode cX10_lay 196 = .ok (.putfield 237, 3) := by decide +kernel
theorem dX10_lay_199 : decode cX10_lay 199 = .ok (.iconst 0, 1) := by decide +kernel
theorem dX10_lay_200 : decode cX10_lay 200 = .ok (.istore 5, 2) := by decide +kernel
theorem dX10_lay_202 : decode cX10_lay 202 = .ok (.iconst 0, 1) := by decide +kernel
theorem dX10_lay_203 : decode cX10_lay 203 = .ok (.istore 6, 2) := by decide +kernel
theorem dX10_lay_205 : decode cX10_lay 205 = .ok (.iconst 0, 1) := by decide +kernel
theorem dX10_lay_206 : decode cX10_lay 206 = .ok (.istore 7, 2) := by decide +kernel
theorem dX10_lay_208 : decode cX10_lay 208 = .ok (.iload 7, 2) := by decide +kernel
theorem dX10_lay_210 : decode cX10_lay 210 = .ok (.aload_n 0, 1) := by decide +kernel
theorem dX10_lay_211 : decode cX10_lay 211 = .ok (.getfield 250, 3) := by decide +kernel
theorem dX10_lay_214 : decode cX10_lay 214 = .ok (.if_icmp .ge 137, 3) := by decide +kernel
theorem dX10_lay_217 : decode cX10_lay 217 = .ok (.aload_n 0, 1) := by decide +kernel
theorem dX10_lay_218 : decode cX10_lay 218 = .ok (.getfield 237, 3) := by decide +kernel
theorem dX10_lay_221 : decode cX10_lay 221 = .ok (.ifCond .eq 130, 3) := by decide +kernel
theorem dX10_lay_224 : decode cX10_lay 224 = .ok (.aload_n 0, 1) := by decide +kernel
theorem dX10_lay_225 : decode cX10_lay 225 = .ok (.getfield 126, 3) := by decide +kernel
theorem dX10_lay_228 : decode cX10_lay 228 = .ok (.aload_n 0, 1) := by decide +kernel
theorem dX10_lay_229 : decode cX10_lay 229 = .ok (.iload 7, 2) := by decide +kernel
theorem dX10_lay_231 : decode cX10_lay 231 = .ok (.iload 5, 2) := by decide +kernel
theorem dX10_lay_233 : decode cX10_lay 233 = .ok (.iload 6, 2) := by decide +kernel
theorem dX10_lay_235 : decode cX10_lay 235 = .ok (.invokevirtual 255, 3) := by decide +kernel
theorem dX10_lay_238 : decode cX10_lay 238 = .ok (.laload, 1) := by decide +kernel
theorem dX10_lay_239 : decode cX10_lay 239 = .ok (.lstore 8, 2) := by decide +kernel
theorem dX10_lay_241 : decode cX10_lay 241 = .ok (.iconst 0, 1) := by decide +kernel
theorem dX10_lay_242 : decode cX10_lay 242 = .ok (.istore 10, 2) := by decide +kernel
theorem dX10_lay_244 : decode cX10_lay 244 = .ok (.iload 6, 2) := by decide +kernel
theorem dX10_lay_246 : decode cX10_lay 246 = .ok (.istore 11, 2) := by decide +kernel
theorem dX10_lay_248 : decode cX10_lay 248 = .ok (.iconst 0, 1) := by decide +kernel
theorem dX10_lay_249 : decode cX10_lay 249 = .ok (.istore 12, 2) := by decide +kernel
theorem dX10_lay_251 : decode cX10_lay 251 = .ok (.iload 10, 2) := by decide +kernel
theorem dX10_lay_253 : decode cX10_lay 253 = .ok (.ifCond .ne 49, 3) := by decide +kernel
theorem dX10_lay_256 : decode cX10_lay 256 = .ok (.iinc 12 1, 3) := by decide +kernel
theorem dX10_lay_259 : decode cX10_lay 259 = .ok (.iload 12, 2) := by decide +kernel
theorem dX10_lay_261 : decode cX10_lay 261 = .ok (.bipush 40, 2) := by decide +kernel
theorem dX10_lay_263 : decode cX10_lay 263 = .ok (.if_icmp .le 9, 3) := by decide +kernel
theorem dX10_lay_266 : decode cX10_lay 266 = .ok (.iconst 1, 1) := by decide +kernel
theorem dX10_lay_267 : decode cX10_lay 267 = .ok (.istore 12, 2) := by decide +kernel
theorem dX10_lay_269 : decode cX10_lay 269 = .ok (.iinc 11 1, 3) := by decide +kernel
theorem dX10_lay_272 : decode cX10_lay 272 = .ok (.aload_n 0, 1) := by decide +kernel
theorem dX10_lay_273 : decode cX10_lay 273 = .ok (.iload 7, 2) := by decide +kernel
theorem dX10_lay_275 : decode cX10_lay 275 = .ok (.iload 5, 2) := by decide +kernel
theorem dX10_lay_277 : decode cX10_lay 277 = .ok (.iload 11, 2) := by decide +kernel
theorem dX10_lay_279 : decode cX10_lay 279 = .ok (.iload 12, 2) := by decide +kernel
theorem dX10_lay_281 : decode cX10_lay 281 = .ok (.iload_n 1, 1) := by decide +kernel
theorem dX10_lay_282 : decode cX10_lay 282 = .ok (.iload_n 2, 1) := by decide +kernel
theorem dX10_lay_283 : decode cX10_lay 283 = .ok (.invokevirtual 259, 3) := by decide +kernel
theorem dX10_lay_286 : decode cX10_lay 286 = .ok (.lload 8, 2) := by decide +kernel
theorem dX10_lay_288 : decode cX10_lay 288 = .ok (.lcmp, 1) := by decide +kernel
theorem dX10_lay_289 : decode cX10_lay 289 = .ok (.ifCond .ne 7, 3) := by decide +kernel
theorem dX10_lay_292 : decode cX10_lay 292 = .ok (.iconst 1, 1) := by decide +kernel
theorem dX10_lay_293 : decode cX10_lay 293 = .ok (.goto 4, 3) := by decide +kernel
theorem dX10_lay_296 : decode cX10_lay 296 = .ok (.iconst 0, 1) := by decide +kernel
theorem dX10_lay_297 : decode cX10_lay 297 = .ok (.istore 10, 2) := by decide +kernel
theorem dX10_lay_299 : decode cX10_lay 299 = .ok (.goto (-48), 3) := by decide +kernel
theorem dX10_lay_302 : decode cX10_lay 302 = .ok (.iload 5, 2) := by decide +kernel
theorem dX10_lay_304 : decode cX10_lay 304 = .ok (.iload 12, 2) := by decide +kernel
theorem dX10_lay_306 : decode cX10_lay 306 = .ok (.iadd, 1) := by decide +kernel
theorem dX10_lay_307 : decode cX10_lay 307 = .ok (.istore 5, 2) := by decide +kernel
theorem dX10_lay_309 : decode cX10_lay 309 = .ok (.iload 11, 2) := by decide +kernel
theorem dX10_lay_311 : decode cX10_lay 311 = .ok (.istore 6, 2) := by decide +kernel
theorem dX10_lay_313 : decode cX10_lay 313 = .ok (.aload_n 0, 1) := by decide +kernel
theorem dX10_lay_314 : decode cX10_lay 314 = .ok (.getfield 129, 3) := by decide +kernel
theorem dX10_lay_317 : decode cX10_lay 317 = .ok (.iload 7, 2) := by decide +kernel
theorem dX10_lay_319 : decode cX10_lay 319 = .ok (.iload 11, 2) := by decide +kernel
theorem dX10_lay_321 : decode cX10_lay 321 = .ok (.iastore, 1) := by decide +kernel
theorem dX10_lay_322 : decode cX10_lay 322 = .ok (.aload_n 0, 1) := by decide +kernel
theorem dX10_lay_323 : decode cX10_lay 323 = .ok (.getfield 132, 3) := by decide +kernel
theorem dX10_lay_326 : decode cX10_lay 326 = .ok (.iload 7, 2) := by decide +kernel
theorem dX10_lay_328 : decode cX10_lay 328 = .ok (.iload 12, 2) := by decide +kernel
theorem dX10_lay_330 : decode cX10_lay 330 = .ok (.iastore, 1) := by decide +kernel
theorem dX10_lay_331 : decode cX10_lay 331 = .ok (.aload_n 0, 1) := by decide +kernel
theorem dX10_lay_332 : decode cX10_lay 332 = .ok (.getfield 135, 3) := by decide +kernel
theorem dX10_lay_335 : decode cX10_lay 335 = .ok (.iload 7, 2) := by decide +kernel
theorem dX10_lay_337 : decode cX10_lay 337 = .ok (.aload_n 0, 1) := by decide +kernel
theorem dX10_lay_338 : decode cX10_lay 338 = .ok (.getfield 247, 3) := by decide +kernel
theorem dX10_lay_341 : decode cX10_lay 341 = .ok (.iload 5, 2) := by decide +kernel
theorem dX10_lay_343 : decode cX10_lay 343 = .ok (.isub, 1) := by decide +kernel
theorem dX10_lay_344 : decode cX10_lay 344 = .ok (.iastore, 1) := by decide +kernel
theorem dX10_lay_345 : decode cX10_lay 345 = .ok (.iinc 7 1, 3) := by decide +kernel
theorem dX10_lay_348 : decode cX10_lay 348 = .ok (.goto (-140), 3) := by decide +kernel
theorem dX10_lay_351 : decode cX10_lay 351 = .ok (.aload_n 0, 1) := by decide +kernel
theorem dX10_lay_352 : decode cX10_lay 352 = .ok (.getfield 237, 3) := by decide +kernel
theorem dX10_lay_355 : decode cX10_lay 355 = .ok (.ifCond .eq 7, 3) := by decide +kernel
theorem dX10_lay_358 : decode cX10_lay 358 = .ok (.lload_n 3, 1) := by decide +kernel
theorem dX10_lay_359 : decode cX10_lay 359 = .ok (.goto 6, 3) := by decide +kernel
theorem dX10_lay_362 : decode cX10_lay 362 = .ok (.ldc2_w 263, 3) := by decide +kernel
theorem dX10_lay_365 : decode cX10_lay 365 = .ok (.lreturn, 1) := by decide +kernel
theorem dX10_laid_0 : decode cX10_laid 0 = .ok (.aload_n 0, 1) := by decide +kernel
theorem dX10_laid_1 : decode cX10_laid 1 = .ok (.getfield 237, 3) := by decide +kernel
theorem dX10_laid_4 : decode cX10_laid 4 = .ok (.ifCond .eq 26, 3) := by decide +kernel
theorem dX10_laid_7 : decode cX10_laid 7 = .ok (.iload_n 1, 1) := by decide +kernel
theorem dX10_laid_8 : decode cX10_laid 8 = .ok (.iconst 0, 1) := by decide +kernel
theorem dX10_laid_9 : decode cX10_laid 9 = .ok (.aload_n 0, 1) := by decide +kernel
theorem dX10_laid_10 : decode cX10_laid 10 = .ok (.getfield 250, 3) := by decide +kernel
theorem dX10_laid_13 : decode cX10_laid 13 = .ok (.iconst 1, 1) := by decide +kernel
theorem dX10_laid_14 : decode cX10_laid 14 = .ok (.isub, 1) := by decide +kernel
theorem dX10_laid_15 : decode cX10_laid 15 = .ok (.invokestatic 145, 3) := by decide +kernel
theorem dX10_laid_18 : decode cX10_laid 18 = .ok (.ifCond .eq 12, 3) := by decide +kernel
theorem dX10_laid_21 : decode cX10_laid 21 = .ok (.iload_n 2, 1) := by decide +kernel
theorem dX10_laid_22 : decode cX10_laid 22 = .ok (.iconst 0, 1) := by decide +kernel
theorem dX10_laid_23 : decode cX10_laid 23 = .ok (.iconst 2, 1) := by decide +kernel
theorem dX10_laid_24 : decode cX10_laid 24 = .ok (.invokestatic 145, 3) := by decide +kernel
theorem dX10_laid_27 : decode cX10_laid 27 = .ok (.ifCond .ne 7, 3) := by decide +kernel
theorem dX10_laid_30 : decode cX10_laid 30 = .ok (.ldc_w 265, 3) := by decide +kernel
theorem dX10_laid_33 : decode cX10_laid 33 = .ok (.ireturn, 1) := by decide +kernel
theorem dX10_laid_34 : decode cX10_laid 34 = .ok (.iload_n 2, 1) := by decide +kernel
theorem dX10_laid_35 : decode cX10_laid 35 = .ok (.ifCond .ne 12, 3) := by decide +kernel
theorem dX10_laid_38 : decode cX10_laid 38 = .ok (.aload_n 0, 1) := by decide +kernel
theorem dX10_laid_39 : decode cX10_laid 39 = .ok (.getfield 129, 3) := by decide +kernel
theorem dX10_laid_42 : decode cX10_laid 42 = .ok (.iload_n 1, 1) := by decide +kernel
theorem dX10_laid_43 : decode cX10_laid 43 = .ok (.iaload, 1) := by decide +kernel
theorem dX10_laid_44 : decode cX10_laid 44 = .ok (.goto 23, 3) := by decide +kernel
theorem dX10_laid_47 : decode cX10_laid 47 = .ok (.iload_n 2, 1) := by decide +kernel
theorem dX10_laid_48 : decode cX10_laid 48 = .ok (.iconst 1, 1) := by decide +kernel
theorem dX10_laid_49 : decode cX10_laid 49 = .ok (.if_icmp .ne 12, 3) := by decide +kernel
theorem dX10_laid_52 : decode cX10_laid 52 = .ok (.aload_n 0, 1) := by decide +kernel
theorem dX10_laid_53 : decode cX10_laid 53 = .ok (.getfield 132, 3) := by decide +kernel
theorem dX10_laid_56 : decode cX10_laid 56 = .ok (.iload_n 1, 1) := by decide +kernel
theorem dX10_laid_57 : decode cX10_laid 57 = .ok (.iaload, 1) := by decide +kernel
theorem dX10_laid_58 : decode cX10_laid 58 = .ok (.goto 9, 3) := by decide +kernel
theorem dX10_laid_61 : decode cX10_laid 61 = .ok (.aload_n 0, 1) := by decide +kernel
theorem dX10_laid_62 : decode cX10_laid 62 = .ok (.getfield 135, 3) := by decide +kernel
theorem dX10_laid_65 : decode cX10_laid 65 = .ok (.iload_n 1, 1) := by decide +kernel
theorem dX10_laid_66 : decode cX10_laid 66 = .ok (.iaload, 1) := by decide +kernel
theorem dX10_laid_67 : decode cX10_laid 67 = .ok (.ireturn, 1) := by decide +kernel
theorem dX10_count_0 : decode cX10_count 0 = .ok (.iload_n 1, 1) := by decide +kernel
theorem dX10_count_1 : decode cX10_count 1 = .ok (.tableswitch 96 0 8 #[51, 56, 61, 66, 71, 76, 81, 86, 91], 51) := by decide +kernel
theorem dX10_count_52 : decode cX10_count 52 = .ok (.aload_n 0, 1) := by decide +kernel
theorem dX10_count_53 : decode cX10_count 53 = .ok (.getfield 142, 3) := by decide +kernel
theorem dX10_count_56 : decode cX10_count 56 = .ok (.ireturn, 1) := by decide +kernel
theorem dX10_count_57 : decode cX10_count 57 = .ok (.aload_n 0, 1) := by decide +kernel
theorem dX10_count_58 : decode cX10_count 58 = .ok (.getfield 151, 3) := by decide +kernel
theorem dX10_count_61 : decode cX10_count 61 = .ok (.ireturn, 1) := by decide +kernel
theorem dX10_count_62 : decode cX10_count 62 = .ok (.aload_n 0, 1) := by decide +kernel
theorem dX10_count_63 : decode cX10_count 63 = .ok (.getfield 158, 3) := by decide +kernel
theorem dX10_count_66 : decode cX10_count 66 = .ok (.ireturn, 1) := by decide +kernel
theorem dX10_count_67 : decode cX10_count 67 = .ok (.aload_n 0, 1) := by decide +kernel
theorem dX10_count_68 : decode cX10_count 68 = .ok (.getfield 162, 3) := by decide +kernel
theorem dX10_count_71 : decode cX10_count 71 = .ok (.ireturn, 1) := by decide +kernel
theorem dX10_count_72 : decode cX10_count 72 = .ok (.aload_n 0, 1) := by decide +kernel
theorem dX10_count_73 : decode cX10_count 73 = .ok (.getfield 165, 3) := by decide +kernel
theorem dX10_count_76 : decode cX10_count 76 = .ok (.ireturn, 1) := by decide +kernel
theorem dX10_count_77 : decode cX10_count 77 = .ok (.aload_n 0, 1) := by decide +kernel
theorem dX10_count_78 : decode cX10_count 78 = .ok (.getfield 169, 3) := by decide +kernel
theorem dX10_count_81 : decode cX10_count 81 = .ok (.ireturn, 1) := by decide +kernel
theorem dX10_count_82 : decode cX10_count 82 = .ok (.aload_n 0, 1) := by decide +kernel
theorem dX10_count_83 : decode cX10_count 83 = .ok (.getfield 234, 3) := by decide +kernel
theorem dX10_count_86 : decode cX10_count 86 = .ok (.ireturn, 1) := by decide +kernel
theorem dX10_count_87 : decode cX10_count 87 = .ok (.aload_n 0, 1) := by decide +kernel
theorem dX10_count_88 : decode cX10_count 88 = .ok (.getfield 250, 3) := by decide +kernel
theorem dX10_count_91 : decode cX10_count 91 = .ok (.ireturn, 1) := by decide +kernel
theorem dX10_count_92 : decode cX10_count 92 = .ok (.aload_n 0, 1) := by decide +kernel
theorem dX10_count_93 : decode cX10_count 93 = .ok (.getfield 197, 3) := by decide +kernel
theorem dX10_count_96 : decode cX10_count 96 = .ok (.ireturn, 1) := by decide +kernel
theorem dX10_count_97 : decode cX10_count 97 = .ok (.iconst (-1), 1) := by decide +kernel
theorem dX10_count_98 : decode cX10_count 98 = .ok (.ireturn, 1) := by decide +kernel
theorem dJ9_max_7cf53_0 : decode cJ9_max_7cf53 0 = .ok (.iload_n 0, 1) := by decide +kernel
theorem dJ9_max_7cf53_1 : decode cJ9_max_7cf53 1 = .ok (.iload_n 1, 1) := by decide +kernel
theorem dJ9_max_7cf53_2 : decode cJ9_max_7cf53 2 = .ok (.if_icmp .lt 7, 3) := by decide +kernel
theorem dJ9_max_7cf53_5 : decode cJ9_max_7cf53 5 = .ok (.iload_n 0, 1) := by decide +kernel
theorem dJ9_max_7cf53_6 : decode cJ9_max_7cf53 6 = .ok (.goto 4, 3) := by decide +kernel
theorem dJ9_max_7cf53_9 : decode cJ9_max_7cf53 9 = .ok (.iload_n 1, 1) := by decide +kernel
theorem dJ9_max_7cf53_10 : decode cJ9_max_7cf53 10 = .ok (.ireturn, 1) := by decide +kernel
theorem dJ9_max_f86c9_0 : decode cJ9_max_f86c9 0 = .ok (.lload_n 0, 1) := by decide +kernel
theorem dJ9_max_f86c9_1 : decode cJ9_max_f86c9 1 = .ok (.lload_n 2, 1) := by decide +kernel
theorem dJ9_max_f86c9_2 : decode cJ9_max_f86c9 2 = .ok (.lcmp, 1) := by decide +kernel
theorem dJ9_max_f86c9_3 : decode cJ9_max_f86c9 3 = .ok (.ifCond .lt 7, 3) := by decide +kernel
theorem dJ9_max_f86c9_6 : decode cJ9_max_f86c9 6 = .ok (.lload_n 0, 1) := by decide +kernel
theorem dJ9_max_f86c9_7 : decode cJ9_max_f86c9 7 = .ok (.goto 4, 3) := by decide +kernel
theorem dJ9_max_f86c9_10 : decode cJ9_max_f86c9 10 = .ok (.lload_n 2, 1) := by decide +kernel
theorem dJ9_max_f86c9_11 : decode cJ9_max_f86c9 11 = .ok (.lreturn, 1) := by decide +kernel
theorem dJ9_min_7cf53_0 : decode cJ9_min_7cf53 0 = .ok (.iload_n 0, 1) := by decide +kernel
theorem dJ9_min_7cf53_1 : decode cJ9_min_7cf53 1 = .ok (.iload_n 1, 1) := by decide +kernel
theorem dJ9_min_7cf53_2 : decode cJ9_min_7cf53 2 = .ok (.if_icmp .gt 7, 3) := by decide +kernel
theorem dJ9_min_7cf53_5 : decode cJ9_min_7cf53 5 = .ok (.iload_n 0, 1) := by decide +kernel
theorem dJ9_min_7cf53_6 : decode cJ9_min_7cf53 6 = .ok (.goto 4, 3) := by decide +kernel
theorem dJ9_min_7cf53_9 : decode cJ9_min_7cf53 9 = .ok (.iload_n 1, 1) := by decide +kernel
theorem dJ9_min_7cf53_10 : decode cJ9_min_7cf53 10 = .ok (.ireturn, 1) := by decide +kernel
theorem dJ9_min_f86c9_0 : decode cJ9_min_f86c9 0 = .ok (.lload_n 0, 1) := by decide +kernel
theorem dJ9_min_f86c9_1 : decode cJ9_min_f86c9 1 = .ok (.lload_n 2, 1) := by decide +kernel
theorem dJ9_min_f86c9_2 : decode cJ9_min_f86c9 2 = .ok (.lcmp, 1) := by decide +kernel
theorem dJ9_min_f86c9_3 : decode cJ9_min_f86c9 3 = .ok (.ifCond .gt 7, 3) := by decide +kernel
theorem dJ9_min_f86c9_6 : decode cJ9_min_f86c9 6 = .ok (.lload_n 0, 1) := by decide +kernel
theorem dJ9_min_f86c9_7 : decode cJ9_min_f86c9 7 = .ok (.goto 4, 3) := by decide +kernel
theorem dJ9_min_f86c9_10 : decode cJ9_min_f86c9 10 = .ok (.lload_n 2, 1) := by decide +kernel
theorem dJ9_min_f86c9_11 : decode cJ9_min_f86c9 11 = .ok (.lreturn, 1) := by decide +kernel
theorem dJxa1e45_init_da8c8_0 : decode cJxa1e45_init_da8c8 0 = .ok (.aload_n 0, 1) := by decide +kernel
theorem dJxa1e45_init_da8c8_1 : decode cJxa1e45_init_da8c8 1 = .ok (.invokespecial 1, 3) := by decide +kernel
theorem dJxa1e45_init_da8c8_4 : decode cJxa1e45_init_da8c8 4 = .ok (.return_, 1) := by decide +kernel
theorem dJxc12de_init_da8c8_0 : decode cJxc12de_init_da8c8 0 = .ok (.aload_n 0, 1) := by decide +kernel
theorem dJxc12de_init_da8c8_1 : decode cJxc12de_init_da8c8 1 = .ok (.invokespecial 1, 3) := by decide +kernel
theorem dJxc12de_init_da8c8_4 : decode cJxc12de_init_da8c8 4 = .ok (.aload_n 0, 1) := by decide +kernel
theorem dJxc12de_init_da8c8_5 : decode cJxc12de_init_da8c8 5 = .ok (.iconst 0, 1) := by decide +kernel
theorem dJxc12de_init_da8c8_6 : decode cJxc12de_init_da8c8 6 = .ok (.putfield 7, 3) := by decide +kernel
theorem dJxc12de_init_da8c8_9 : decode cJxc12de_init_da8c8 9 = .ok (.return_, 1) := by decide +kernel
theorem dJx4a65c_init_da8c8_0 : decode cJx4a65c_init_da8c8 0 = .ok (.aload_n 0, 1) := by decide +kernel
theorem dJx4a65c_init_da8c8_1 : decode cJx4a65c_init_da8c8 1 = .ok (.invokespecial 1, 3) := by decide +kernel
theorem dJx4a65c_init_da8c8_4 : decode cJx4a65c_init_da8c8 4 = .ok (.aload_n 0, 1) := by decide +kernel
theorem dJx4a65c_init_da8c8_5 : decode cJx4a65c_init_da8c8 5 = .ok (.getstatic 39, 3) := by decide +kernel
theorem dJx4a65c_init_da8c8_8 : decode cJx4a65c_init_da8c8 8 = .ok (.putfield 9, 3) := by decide +kernel
theorem dJx4a65c_init_da8c8_11 : decode cJx4a65c_init_da8c8 11 = .ok (.return_, 1) := by decide +kernel
theorem dJx4a65c_grow_92f84_0 : decode cJx4a65c_grow_92f84 0 = .ok (.aload_n 0, 1) := by decide +kernel
theorem dJx4a65c_grow_92f84_1 : decode cJx4a65c_grow_92f84 1 = .ok (.getfield 9, 3) := by decide +kernel
theorem dJx4a65c_grow_92f84_4 : decode cJx4a65c_grow_92f84 4 = .ok (.arraylength, 1) := by decide +kernel
theorem dJx4a65c_grow_92f84_5 : decode cJx4a65c_grow_92f84 5 = .ok (.istore_n 2, 1) := by decide +kernel
theorem dJx4a65c_grow_92f84_6 : decode cJx4a65c_grow_92f84 6 = .ok (.iload_n 2, 1) := by decide +kernel
theorem dJx4a65c_grow_92f84_7 : decode cJx4a65c_grow_92f84 7 = .ok (.ifCond .gt 13, 3) := by decide +kernel
theorem dJx4a65c_grow_92f84_10 : decode cJx4a65c_grow_92f84 10 = .ok (.aload_n 0, 1) := by decide +kernel
theorem dJx4a65c_grow_92f84_11 : decode cJx4a65c_grow_92f84 11 = .ok (.getfield 9, 3) := by decide +kernel
theorem dJx4a65c_grow_92f84_14 : decode cJx4a65c_grow_92f84 14 = .ok (.getstatic 39, 3) := by decide +kernel
theorem dJx4a65c_grow_92f84_17 : decode cJx4a65c_grow_92f84 17 = .ok (.if_acmp .eq 28, 3) := by decide +kernel
theorem dJx4a65c_grow_92f84_20 : decode cJx4a65c_grow_92f84 20 = .ok (.iload_n 2, 1) := by decide +kernel
theorem dJx4a65c_grow_92f84_21 : decode cJx4a65c_grow_92f84 21 = .ok (.iload_n 1, 1) := by decide +kernel
theorem dJx4a65c_grow_92f84_22 : decode cJx4a65c_grow_92f84 22 = .ok (.iload_n 2, 1) := by decide +kernel
theorem dJx4a65c_grow_92f84_23 : decode cJx4a65c_grow_92f84 23 = .ok (.isub, 1) := by decide +kernel
theorem dJx4a65c_grow_92f84_24 : decode cJx4a65c_grow_92f84 24 = .ok (.iload_n 2, 1) := by decide +kernel
theorem dJx4a65c_grow_92f84_25 : decode cJx4a65c_grow_92f84 25 = .ok (.iconst 1, 1) := by decide +kernel
theorem dJx4a65c_grow_92f84_26 : decode cJx4a65c_grow_92f84 26 = .ok (.ishr, 1) := by decide +kernel
theorem dJx4a65c_grow_92f84_27 : decode cJx4a65c_grow_92f84 27 = .ok (.invokestatic 73, 3) := by decide +kernel
theorem dJx4a65c_grow_92f84_30 : decode cJx4a65c_grow_92f84 30 = .ok (.istore_n 3, 1) := by decide +kernel
theorem dJx4a65c_grow_92f84_31 : decode cJx4a65c_grow_92f84 31 = .ok (.aload_n 0, 1) := by decide +kernel
theorem dJx4a65c_grow_92f84_32 : decode cJx4a65c_grow_92f84 32 = .ok (.aload_n 0, 1) := by decide +kernel
theorem dJx4a65c_grow_92f84_33 : decode cJx4a65c_grow_92f84 33 = .ok (.getfield 9, 3) := by decide +kernel
theorem dJx4a65c_grow_92f84_36 : decode cJx4a65c_grow_92f84 36 = .ok (.iload_n 3, 1) := by decide +kernel
theorem dJx4a65c_grow_92f84_37 : decode cJx4a65c_grow_92f84 37 = .ok (.invokestatic 66, 3) := by decide +kernel
theorem dJx4a65c_grow_92f84_40 : decode cJx4a65c_grow_92f84 40 = .ok (.dup_x1, 1) := by decide +kernel
theorem dJx4a65c_grow_92f84_41 : decode cJx4a65c_grow_92f84 41 = .ok (.putfield 9, 3) := by decide +kernel
theorem dJx4a65c_grow_92f84_44 : decode cJx4a65c_grow_92f84 44 = .ok (.areturn, 1) := by decide +kernel
theorem dJx4a65c_grow_92f84_45 : decode cJx4a65c_grow_92f84 45 = .ok (.aload_n 0, 1) := by decide +kernel
theorem dJx4a65c_grow_92f84_46 : decode cJx4a65c_grow_92f84 46 = .ok (.bipush 10, 2) := by decide +kernel
theorem dJx4a65c_grow_92f84_48 : decode cJx4a65c_grow_92f84 48 = .ok (.iload_n 1, 1) := by decide +kernel
theorem dJx4a65c_grow_92f84_49 : decode cJx4a65c_grow_92f84 49 = .ok (.invokestatic 79, 3) := by decide +kernel
theorem dJx4a65c_grow_92f84_52 : decode cJx4a65c_grow_92f84 52 = .ok (.anewarray 7, 3) := by decide +kernel
theorem dJx4a65c_grow_92f84_55 : decode cJx4a65c_grow_92f84 55 = .ok (.dup_x1, 1) := by decide +kernel
theorem dJx4a65c_grow_92f84_56 : decode cJx4a65c_grow_92f84 56 = .ok (.putfield 9, 3) := by decide +kernel
theorem dJx4a65c_grow_92f84_59 : decode cJx4a65c_grow_92f84 59 = .ok (.areturn, 1) := by decide +kernel
theorem dJx4a65c_grow_d5877_0 : decode cJx4a65c_grow_d5877 0 = .ok (.aload_n 0, 1) := by decide +kernel
theorem dJx4a65c_grow_d5877_1 : decode cJx4a65c_grow_d5877 1 = .ok (.aload_n 0, 1) := by decide +kernel
theorem dJx4a65c_grow_d5877_2 : decode cJx4a65c_grow_d5877 2 = .ok (.getfield 48, 3) := by decide +kernel
theorem dJx4a65c_grow_d5877_5 : decode cJx4a65c_grow_d5877 5 = .ok (.iconst 1, 1) := by decide +kernel
theorem dJx4a65c_grow_d5877_6 : decode cJx4a65c_grow_d5877 6 = .ok (.iadd, 1) := by decide +kernel
theorem dJx4a65c_grow_d5877_7 : decode cJx4a65c_grow_d5877 7 = .ok (.invokevirtual 69, 3) := by decide +kernel
theorem dJx4a65c_grow_d5877_10 : decode cJx4a65c_grow_d5877 10 = .ok (.areturn, 1) := by decide +kernel
theorem dJx4a65c_size_8abf5_0 : decode cJx4a65c_size_8abf5 0 = .ok (.aload_n 0, 1) := by decide +kernel
theorem dJx4a65c_size_8abf5_1 : decode cJx4a65c_size_8abf5 1 = .ok (.getfield 48, 3) := by decide +kernel
theorem dJx4a65c_size_8abf5_4 : decode cJx4a65c_size_8abf5 4 = .ok (.ireturn, 1) := by decide +kernel
theorem dJx4a65c_isEmpty_aae02_0 : decode cJx4a65c_isEmpty_aae02 0 = .ok (.aload_n 0, 1) := by decide +kernel
theorem dJx4a65c_isEmpty_aae02_1 : decode cJx4a65c_isEmpty_aae02 1 = .ok (.getfield 48, 3) := by decide +kernel
theorem dJx4a65c_isEmpty_aae02_4 : decode cJx4a65c_isEmpty_aae02 4 = .ok (.ifCond .ne 7, 3) := by decide +kernel
theorem dJx4a65c_isEmpty_aae02_7 : decode cJx4a65c_isEmpty_aae02 7 = .ok (.iconst 1, 1) := by decide +kernel
theorem dJx4a65c_isEmpty_aae02_8 : decode cJx4a65c_isEmpty_aae02 8 = .ok (.goto 4, 3) := by decide +kernel
theorem dJx4a65c_isEmpty_aae02_11 : decode cJx4a65c_isEmpty_aae02 11 = .ok (.iconst 0, 1) := by decide +kernel
theorem dJx4a65c_isEmpty_aae02_12 : decode cJx4a65c_isEmpty_aae02 12 = .ok (.ireturn, 1) := by decide +kernel
theorem dJx4a65c_elementData_915e3_0 : decode cJx4a65c_elementData_915e3 0 = .ok (.aload_n 0, 1) := by decide +kernel
theorem dJx4a65c_elementData_915e3_1 : decode cJx4a65c_elementData_915e3 1 = .ok (.getfield 9, 3) := by decide +kernel
theorem dJx4a65c_elementData_915e3_4 : decode cJx4a65c_elementData_915e3 4 = .ok (.iload_n 1, 1) := by decide +kernel
theorem dJx4a65c_elementData_915e3_5 : decode cJx4a65c_elementData_915e3 5 = .ok (.aaload, 1) := by decide +kernel
theorem dJx4a65c_elementData_915e3_6 : decode cJx4a65c_elementData_915e3 6 = .ok (.areturn, 1) := by decide +kernel
theorem dJx4a65c_get_915e3_0 : decode cJx4a65c_get_915e3 0 = .ok (.iload_n 1, 1) := by decide +kernel
theorem dJx4a65c_get_915e3_1 : decode cJx4a65c_get_915e3 1 = .ok (.aload_n 0, 1) := by decide +kernel
theorem dJx4a65c_get_915e3_2 : decode cJx4a65c_get_915e3 2 = .ok (.getfield 48, 3) := by decide +kernel
theorem dJx4a65c_get_915e3_5 : decode cJx4a65c_get_915e3 5 = .ok (.invokestatic 118, 3) := by decide +kernel
theorem dJx4a65c_get_915e3_8 : decode cJx4a65c_get_915e3 8 = .ok (.pop, 1) := by decide +kernel
theorem dJx4a65c_get_915e3_9 : decode cJx4a65c_get_915e3 9 = .ok (.aload_n 0, 1) := by decide +kernel
theorem dJx4a65c_get_915e3_10 : decode cJx4a65c_get_915e3 10 = .ok (.iload_n 1, 1) := by decide +kernel
theorem dJx4a65c_get_915e3_11 : decode cJx4a65c_get_915e3 11 = .ok (.invokevirtual 123, 3) := by decide +kernel
theorem dJx4a65c_get_915e3_14 : decode cJx4a65c_get_915e3 14 = .ok (.areturn, 1) := by decide +kernel
theorem dJx4a65c_add_72be8_0 : decode cJx4a65c_add_72be8 0 = .ok (.iload_n 3, 1) := by decide +kernel
theorem dJx4a65c_add_72be8_1 : decode cJx4a65c_add_72be8 1 = .ok (.aload_n 2, 1) := by decide +kernel
theorem dJx4a65c_add_72be8_2 : decode cJx4a65c_add_72be8 2 = .ok (.arraylength, 1) := by decide +kernel
theorem dJx4a65c_add_72be8_3 : decode cJx4a65c_add_72be8 3 = .ok (.if_icmp .ne 8, 3) := by decide +kernel
theorem dJx4a65c_add_72be8_6 : decode cJx4a65c_add_72be8 6 = .ok (.aload_n 0, 1) := by decide +kernel
theorem dJx4a65c_add_72be8_7 : decode cJx4a65c_add_72be8 7 = .ok (.invokevirtual 129, 3) := by decide +kernel
theorem dJx4a65c_add_72be8_10 : decode cJx4a65c_add_72be8 10 = .ok (.astore_n 2, 1) := by decide +kernel
theorem dJx4a65c_add_72be8_11 : decode cJx4a65c_add_72be8 11 = .ok (.aload_n 2, 1) := by decide +kernel
theorem dJx4a65c_add_72be8_12 : decode cJx4a65c_add_72be8 12 = .ok (.iload_n 3, 1) := by decide +kernel
theorem dJx4a65c_add_72be8_13 : decode cJx4a65c_add_72be8 13 = .ok (.aload_n 1, 1) := by decide +kernel
theorem dJx4a65c_add_72be8_14 : decode cJx4a65c_add_72be8 14 = .ok (.aastore, 1) := by decide +kernel
theorem dJx4a65c_add_72be8_15 : decode cJx4a65c_add_72be8 15 = .ok (.aload_n 0, 1) := by decide +kernel
theorem dJx4a65c_add_72be8_16 : decode cJx4a65c_add_72be8 16 = .ok (.iload_n 3, 1) := by decide +kernel
theorem dJx4a65c_add_72be8_17 : decode cJx4a65c_add_72be8 17 = .ok (.iconst 1, 1) := by decide +kernel
theorem dJx4a65c_add_72be8_18 : decode cJx4a65c_add_72be8 18 = .ok (.iadd, 1) := by decide +kernel
theorem dJx4a65c_add_72be8_19 : decode cJx4a65c_add_72be8 19 = .ok (.putfield 48, 3) := by decide +kernel
theorem dJx4a65c_add_72be8_22 : decode cJx4a65c_add_72be8 22 = .ok (.return_, 1) := by decide +kernel
theorem dJx4a65c_add_9ea2d_0 : decode cJx4a65c_add_9ea2d 0 = .ok (.aload_n 0, 1) := by decide +kernel
theorem dJx4a65c_add_9ea2d_1 : decode cJx4a65c_add_9ea2d 1 = .ok (.dup, 1) := by decide +kernel
theorem dJx4a65c_add_9ea2d_2 : decode cJx4a65c_add_9ea2d 2 = .ok (.getfield 63, 3) := by decide +kernel
theorem dJx4a65c_add_9ea2d_5 : decode cJx4a65c_add_9ea2d 5 = .ok (.iconst 1, 1) := by decide +kernel
theorem dJx4a65c_add_9ea2d_6 : decode cJx4a65c_add_9ea2d 6 = .ok (.iadd, 1) := by decide +kernel
theorem dJx4a65c_add_9ea2d_7 : decode cJx4a65c_add_9ea2d 7 = .ok (.putfield 63, 3) := by decide +kernel
theorem dJx4a65c_add_9ea2d_10 : decode cJx4a65c_add_9ea2d 10 = .ok (.aload_n 0, 1) := by decide +kernel
theorem dJx4a65c_add_9ea2d_11 : decode cJx4a65c_add_9ea2d 11 = .ok (.aload_n 1, 1) := by decide +kernel
theorem dJx4a65c_add_9ea2d_12 : decode cJx4a65c_add_9ea2d 12 = .ok (.aload_n 0, 1) := by decide +kernel
theorem dJx4a65c_add_9ea2d_13 : decode cJx4a65c_add_9ea2d 13 = .ok (.getfield 9, 3) := by decide +kernel
theorem dJx4a65c_add_9ea2d_16 : decode cJx4a65c_add_9ea2d 16 = .ok (.aload_n 0, 1) := by decide +kernel
theorem dJx4a65c_add_9ea2d_17 : decode cJx4a65c_add_9ea2d 17 = .ok (.getfield 48, 3) := by decide +kernel
theorem dJx4a65c_add_9ea2d_20 : decode cJx4a65c_add_9ea2d 20 = .ok (.invokevirtual 131, 3) := by decide +kernel
theorem dJx4a65c_add_9ea2d_23 : decode cJx4a65c_add_9ea2d 23 = .ok (.iconst 1, 1) := by decide +kernel
theorem dJx4a65c_add_9ea2d_24 : decode cJx4a65c_add_9ea2d 24 = .ok (.ireturn, 1) := by decide +kernel
theorem dJ7_copyOf_1904c_0 : decode cJ7_copyOf_1904c 0 = .ok (.aload_n 0, 1) := by decide +kernel
theorem dJ7_copyOf_1904c_1 : decode cJ7_copyOf_1904c 1 = .ok (.iload_n 1, 1) := by decide +kernel
theorem dJ7_copyOf_1904c_2 : decode cJ7_copyOf_1904c 2 = .ok (.aload_n 0, 1) := by decide +kernel
theorem dJ7_copyOf_1904c_3 : decode cJ7_copyOf_1904c 3 = .ok (.invokevirtual 86, 3) := by decide +kernel
theorem dJ7_copyOf_1904c_6 : decode cJ7_copyOf_1904c 6 = .ok (.invokestatic 300, 3) := by decide +kernel
theorem dJ7_copyOf_1904c_9 : decode cJ7_copyOf_1904c 9 = .ok (.areturn, 1) := by decide +kernel
theorem dJ7_copyOf_6403c_0 : decode cJ7_copyOf_6403c 0 = .ok (.aload_n 2, 1) := by decide +kernel
theorem dJ7_copyOf_6403c_1 : decode cJ7_copyOf_6403c 1 = .ok (.ldc 110, 2) := by decide +kernel
theorem dJ7_copyOf_6403c_3 : decode cJ7_copyOf_6403c 3 = .ok (.if_acmp .ne 10, 3) := by decide +kernel
theorem dJ7_copyOf_6403c_6 : decode cJ7_copyOf_6403c 6 = .ok (.iload_n 1, 1) := by decide +kernel
theorem dJ7_copyOf_6403c_7 : decode cJ7_copyOf_6403c 7 = .ok (.anewarray 2, 3) := by decide +kernel
theorem dJ7_copyOf_6403c_10 : decode cJ7_copyOf_6403c 10 = .ok (.goto 14, 3) := by decide +kernel
theorem dJ7_copyOf_6403c_13 : decode cJ7_copyOf_6403c 13 = .ok (.aload_n 2, 1) := by decide +kernel
theorem dJ7_copyOf_6403c_14 : decode cJ7_copyOf_6403c 14 = .ok (.invokevirtual 90, 3) := by decide +kernel
theorem dJ7_copyOf_6403c_17 : decode cJ7_copyOf_6403c 17 = .ok (.iload_n 1, 1) := by decide +kernel
theorem dJ7_copyOf_6403c_18 : decode cJ7_copyOf_6403c 18 = .ok (.invokestatic 95, 3) := by decide +kernel
theorem dJ7_copyOf_6403c_21 : decode cJ7_copyOf_6403c 21 = .ok (.checkcast 110, 3) := by decide +kernel
theorem dJ7_copyOf_6403c_24 : decode cJ7_copyOf_6403c 24 = .ok (.astore_n 3, 1) := by decide +kernel
theorem dJ7_copyOf_6403c_25 : decode cJ7_copyOf_6403c 25 = .ok (.aload_n 0, 1) := by decide +kernel
theorem dJ7_copyOf_6403c_26 : decode cJ7_copyOf_6403c 26 = .ok (.iconst 0, 1) := by decide +kernel
theorem dJ7_copyOf_6403c_27 : decode cJ7_copyOf_6403c 27 = .ok (.aload_n 3, 1) := by decide +kernel
theorem dJ7_copyOf_6403c_28 : decode cJ7_copyOf_6403c 28 = .ok (.iconst 0, 1) := by decide +kernel
theorem dJ7_copyOf_6403c_29 : decode cJ7_copyOf_6403c 29 = .ok (.aload_n 0, 1) := by decide +kernel
theorem dJ7_copyOf_6403c_30 : decode cJ7_copyOf_6403c 30 = .ok (.arraylength, 1) := by decide +kernel
theorem dJ7_copyOf_6403c_31 : decode cJ7_copyOf_6403c 31 = .ok (.iload_n 1, 1) := by decide +kernel
theorem dJ7_copyOf_6403c_32 : decode cJ7_copyOf_6403c 32 = .ok (.invokestatic 304, 3) := by decide +kernel
theorem dJ7_copyOf_6403c_35 : decode cJ7_copyOf_6403c 35 = .ok (.invokestatic 150, 3) := by decide +kernel
theorem dJ7_copyOf_6403c_38 : decode cJ7_copyOf_6403c 38 = .ok (.aload_n 3, 1) := by decide +kernel
theorem dJ7_copyOf_6403c_39 : decode cJ7_copyOf_6403c 39 = .ok (.areturn, 1) := by decide +kernel
theorem dJ15_checkIndex_7cf53_0 : decode cJ15_checkIndex_7cf53 0 = .ok (.iload_n 0, 1) := by decide +kernel
theorem dJ15_checkIndex_7cf53_1 : decode cJ15_checkIndex_7cf53 1 = .ok (.iload_n 1, 1) := by decide +kernel
theorem dJ15_checkIndex_7cf53_2 : decode cJ15_checkIndex_7cf53 2 = .ok (.aconst_null, 1) := by decide +kernel
theorem dJ15_checkIndex_7cf53_3 : decode cJ15_checkIndex_7cf53 3 = .ok (.invokestatic 105, 3) := by decide +kernel
theorem dJ15_checkIndex_7cf53_6 : decode cJ15_checkIndex_7cf53 6 = .ok (.ireturn, 1) := by decide +kernel
theorem dJ8_newLength_cabcc_0 : decode cJ8_newLength_cabcc 0 = .ok (.iload_n 0, 1) := by decide +kernel
theorem dJ8_newLength_cabcc_1 : decode cJ8_newLength_cabcc 1 = .ok (.iload_n 1, 1) := by decide +kernel
theorem dJ8_newLength_cabcc_2 : decode cJ8_newLength_cabcc 2 = .ok (.iload_n 2, 1) := by decide +kernel
theorem dJ8_newLength_cabcc_3 : decode cJ8_newLength_cabcc 3 = .ok (.invokestatic 194, 3) := by decide +kernel
theorem dJ8_newLength_cabcc_6 : decode cJ8_newLength_cabcc 6 = .ok (.iadd, 1) := by decide +kernel
theorem dJ8_newLength_cabcc_7 : decode cJ8_newLength_cabcc 7 = .ok (.istore_n 3, 1) := by decide +kernel
theorem dJ8_newLength_cabcc_8 : decode cJ8_newLength_cabcc 8 = .ok (.iconst 0, 1) := by decide +kernel
theorem dJ8_newLength_cabcc_9 : decode cJ8_newLength_cabcc 9 = .ok (.iload_n 3, 1) := by decide +kernel
theorem dJ8_newLength_cabcc_10 : decode cJ8_newLength_cabcc 10 = .ok (.if_icmp .ge 11, 3) := by decide +kernel
theorem dJ8_newLength_cabcc_13 : decode cJ8_newLength_cabcc 13 = .ok (.iload_n 3, 1) := by decide +kernel
theorem dJ8_newLength_cabcc_14 : decode cJ8_newLength_cabcc 14 = .ok (.ldc 200, 2) := by decide +kernel
theorem dJ8_newLength_cabcc_16 : decode cJ8_newLength_cabcc 16 = .ok (.if_icmp .gt 5, 3) := by decide +kernel
theorem dJ8_newLength_cabcc_19 : decode cJ8_newLength_cabcc 19 = .ok (.iload_n 3, 1) := by decide +kernel
theorem dJ8_newLength_cabcc_20 : decode cJ8_newLength_cabcc 20 = .ok (.ireturn, 1) := by decide +kernel
theorem dJ8_newLength_cabcc_21 : decode cJ8_newLength_cabcc 21 = .ok (.iload_n 0, 1) := by decide +kernel
theorem dJ8_newLength_cabcc_22 : decode cJ8_newLength_cabcc 22 = .ok (.iload_n 1, 1) := by decide +kernel
theorem dJ8_newLength_cabcc_23 : decode cJ8_newLength_cabcc 23 = .ok (.invokestatic 201, 3) := by decide +kernel
theorem dJ8_newLength_cabcc_26 : decode cJ8_newLength_cabcc 26 = .ok (.ireturn, 1) := by decide +kernel
theorem dJ8_hugeLength_7cf53_0 : decode cJ8_hugeLength_7cf53 0 = .ok (.iload_n 0, 1) := by decide +kernel
theorem dJ8_hugeLength_7cf53_1 : decode cJ8_hugeLength_7cf53 1 = .ok (.iload_n 1, 1) := by decide +kernel
theorem dJ8_hugeLength_7cf53_2 : decode cJ8_hugeLength_7cf53 2 = .ok (.iadd, 1) := by decide +kernel
theorem dJ8_hugeLength_7cf53_3 : decode cJ8_hugeLength_7cf53 3 = .ok (.istore_n 2, 1) := by decide +kernel
theorem dJ8_hugeLength_7cf53_4 : decode cJ8_hugeLength_7cf53 4 = .ok (.iload_n 2, 1) := by decide +kernel
theorem dJ8_hugeLength_7cf53_5 : decode cJ8_hugeLength_7cf53 5 = .ok (.ifCond .ge 44, 3) := by decide +kernel
theorem dJ8_hugeLength_7cf53_8 : decode cJ8_hugeLength_7cf53 8 = .ok (.new 204, 3) := by decide +kernel
theorem dJ8_hugeLength_7cf53_11 : decode cJ8_hugeLength_7cf53 11 = .ok (.dup, 1) := by decide +kernel
theorem dJ8_hugeLength_7cf53_12 : decode cJ8_hugeLength_7cf53 12 = .ok (.new 89, 3) := by decide +kernel
theorem dJ8_hugeLength_7cf53_15 : decode cJ8_hugeLength_7cf53 15 = .ok (.dup, 1) := by decide +kernel
theorem dJ8_hugeLength_7cf53_16 : decode cJ8_hugeLength_7cf53 16 = .ok (.invokespecial 91, 3) := by decide +kernel
theorem dJ8_hugeLength_7cf53_19 : decode cJ8_hugeLength_7cf53 19 = .ok (.ldc 206, 2) := by decide +kernel
theorem dJ8_hugeLength_7cf53_21 : decode cJ8_hugeLength_7cf53 21 = .ok (.invokevirtual 94, 3) := by decide +kernel
theorem dJ8_hugeLength_7cf53_24 : decode cJ8_hugeLength_7cf53 24 = .ok (.iload_n 0, 1) := by decide +kernel
theorem dJ8_hugeLength_7cf53_25 : decode cJ8_hugeLength_7cf53 25 = .ok (.invokevirtual 98, 3) := by decide +kernel
theorem dJ8_hugeLength_7cf53_28 : decode cJ8_hugeLength_7cf53 28 = .ok (.ldc 208, 2) := by decide +kernel
theorem dJ8_hugeLength_7cf53_30 : decode cJ8_hugeLength_7cf53 30 = .ok (.invokevirtual 94, 3) := by decide +kernel
theorem dJ8_hugeLength_7cf53_33 : decode cJ8_hugeLength_7cf53 33 = .ok (.iload_n 1, 1) := by decide +kernel
theorem dJ8_hugeLength_7cf53_34 : decode cJ8_hugeLength_7cf53 34 = .ok (.invokevirtual 98, 3) := by decide +kernel
theorem dJ8_hugeLength_7cf53_37 : decode cJ8_hugeLength_7cf53 37 = .ok (.ldc 210, 2) := by decide +kernel
theorem dJ8_hugeLength_7cf53_39 : decode cJ8_hugeLength_7cf53 39 = .ok (.invokevirtual 94, 3) := by decide +kernel
theorem dJ8_hugeLength_7cf53_42 : decode cJ8_hugeLength_7cf53 42 = .ok (.invokevirtual 101, 3) := by decide +kernel
theorem dJ8_hugeLength_7cf53_45 : decode cJ8_hugeLength_7cf53 45 = .ok (.invokespecial 212, 3) := by decide +kernel
theorem dJ8_hugeLength_7cf53_48 : decode cJ8_hugeLength_7cf53 48 = .ok (.athrow, 1) := by decide +kernel
theorem dJ8_hugeLength_7cf53_49 : decode cJ8_hugeLength_7cf53 49 = .ok (.iload_n 2, 1) := by decide +kernel
theorem dJ8_hugeLength_7cf53_50 : decode cJ8_hugeLength_7cf53 50 = .ok (.ldc 200, 2) := by decide +kernel
theorem dJ8_hugeLength_7cf53_52 : decode cJ8_hugeLength_7cf53 52 = .ok (.if_icmp .gt 6, 3) := by decide +kernel
theorem dJ8_hugeLength_7cf53_55 : decode cJ8_hugeLength_7cf53 55 = .ok (.ldc 200, 2) := by decide +kernel
theorem dJ8_hugeLength_7cf53_57 : decode cJ8_hugeLength_7cf53 57 = .ok (.ireturn, 1) := by decide +kernel
theorem dJ8_hugeLength_7cf53_58 : decode cJ8_hugeLength_7cf53 58 = .ok (.iload_n 2, 1) := by decide +kernel
theorem dJ8_hugeLength_7cf53_59 : decode cJ8_hugeLength_7cf53 59 = .ok (.ireturn, 1) := by decide +kernel
theorem dJ3_checkIndex_8e157_0 : decode cJ3_checkIndex_8e157 0 = .ok (.iload_n 0, 1) := by decide +kernel
theorem dJ3_checkIndex_8e157_1 : decode cJ3_checkIndex_8e157 1 = .ok (.ifCond .lt 8, 3) := by decide +kernel
theorem dJ3_checkIndex_8e157_4 : decode cJ3_checkIndex_8e157 4 = .ok (.iload_n 0, 1) := by decide +kernel
theorem dJ3_checkIndex_8e157_5 : decode cJ3_checkIndex_8e157 5 = .ok (.iload_n 1, 1) := by decide +kernel
theorem dJ3_checkIndex_8e157_6 : decode cJ3_checkIndex_8e157 6 = .ok (.if_icmp .lt 10, 3) := by decide +kernel
theorem dJ3_checkIndex_8e157_9 : decode cJ3_checkIndex_8e157 9 = .ok (.aload_n 2, 1) := by decide +kernel
theorem dJ3_checkIndex_8e157_10 : decode cJ3_checkIndex_8e157 10 = .ok (.iload_n 0, 1) := by decide +kernel
theorem dJ3_checkIndex_8e157_11 : decode cJ3_checkIndex_8e157 11 = .ok (.iload_n 1, 1) := by decide +kernel
theorem dJ3_checkIndex_8e157_12 : decode cJ3_checkIndex_8e157 12 = .ok (.invokestatic 95, 3) := by decide +kernel
theorem dJ3_checkIndex_8e157_15 : decode cJ3_checkIndex_8e157 15 = .ok (.athrow, 1) := by decide +kernel
theorem dJ3_checkIndex_8e157_16 : decode cJ3_checkIndex_8e157 16 = .ok (.iload_n 0, 1) := by decide +kernel
theorem dJ3_checkIndex_8e157_17 : decode cJ3_checkIndex_8e157 17 = .ok (.ireturn, 1) := by decide +kernel
theorem dL_cell_0 : decode cL_cell 0 = .ok (.iload_n 1, 1) := by decide +kernel
theorem dL_cell_1 : decode cL_cell 1 = .ok (.aload_n 0, 1) := by decide +kernel
theorem dL_cell_2 : decode cL_cell 2 = .ok (.arraylength, 1) := by decide +kernel
theorem dL_cell_3 : decode cL_cell 3 = .ok (.if_icmp .ge 9, 3) := by decide +kernel
theorem dL_cell_6 : decode cL_cell 6 = .ok (.aload_n 0, 1) := by decide +kernel
theorem dL_cell_7 : decode cL_cell 7 = .ok (.iload_n 1, 1) := by decide +kernel
theorem dL_cell_8 : decode cL_cell 8 = .ok (.iaload, 1) := by decide +kernel
theorem dL_cell_9 : decode cL_cell 9 = .ok (.goto 4, 3) := by decide +kernel
theorem dL_cell_12 : decode cL_cell 12 = .ok (.iconst 0, 1) := by decide +kernel
theorem dL_cell_13 : decode cL_cell 13 = .ok (.ireturn, 1) := by decide +kernel
theorem dL_law_0 : decode cL_law 0 = .ok (.new 7, 3) := by decide +kernel
theorem dL_law_3 : decode cL_law 3 = .ok (.dup, 1) := by decide +kernel
theorem dL_law_4 : decode cL_law 4 = .ok (.aload_n 0, 1) := by decide +kernel
theorem dL_law_5 : decode cL_law 5 = .ok (.iconst 0, 1) := by decide +kernel
theorem dL_law_6 : decode cL_law 6 = .ok (.invokestatic 9, 3) := by decide +kernel
theorem dL_law_9 : decode cL_law 9 = .ok (.invokespecial 15, 3) := by decide +kernel
theorem dL_law_12 : decode cL_law 12 = .ok (.astore_n 1, 1) := by decide +kernel
theorem dL_law_13 : decode cL_law 13 = .ok (.new 18, 3) := by decide +kernel
theorem dL_law_16 : decode cL_law 16 = .ok (.dup, 1) := by decide +kernel
theorem dL_law_17 : decode cL_law 17 = .ok (.aload_n 0, 1) := by decide +kernel
theorem dL_law_18 : decode cL_law 18 = .ok (.iconst 0, 1) := by decide +kernel
theorem dL_law_19 : decode cL_law 19 = .ok (.invokestatic 9, 3) := by decide +kernel
theorem dL_law_22 : decode cL_law 22 = .ok (.invokespecial 20, 3) := by decide +kernel
theorem dL_law_25 : decode cL_law 25 = .ok (.astore_n 2, 1) := by decide +kernel
theorem dL_law_26 : decode cL_law 26 = .ok (.iconst 1, 1) := by decide +kernel
theorem dL_law_27 : decode cL_law 27 = .ok (.istore_n 3, 1) := by decide +kernel
theorem dL_law_28 : decode cL_law 28 = .ok (.iload_n 3, 1) := by decide +kernel
theorem dL_law_29 : decode cL_law 29 = .ok (.aload_n 0, 1) := by decide +kernel
theorem dL_law_30 : decode cL_law 30 = .ok (.arraylength, 1) := by decide +kernel
theorem dL_law_31 : decode cL_law 31 = .ok (.bipush 6, 2) := by decide +kernel
theorem dL_law_33 : decode cL_law 33 = .ok (.isub, 1) := by decide +kernel
theorem dL_law_34 : decode cL_law 34 = .ok (.if_icmp .gt 840, 3) := by decide +kernel
theorem dL_law_37 : decode cL_law 37 = .ok (.aload_n 0, 1) := by decide +kernel
theorem dL_law_38 : decode cL_law 38 = .ok (.iload_n 3, 1) := by decide +kernel
theorem dL_law_39 : decode cL_law 39 = .ok (.iaload, 1) := by decide +kernel
theorem dL_law_40 : decode cL_law 40 = .ok (.bipush 31, 2) := by decide +kernel
theorem dL_law_42 : decode cL_law 42 = .ok (.iand, 1) := by decide +kernel
theorem dL_law_43 : decode cL_law 43 = .ok (.tableswitch 825 0 20 #[97, 140, 193, 236, 269, 332, 375, 418, 451, 474, 508, 542, 566, 589, 613, 626, 659, 692, 735, 769, 802], 97) := by decide +kernel
theorem dL_law_140 : decode cL_law 140 = .ok (.aload_n 1, 1) := by decide +kernel
theorem dL_law_141 : decode cL_law 141 = .ok (.aload_n 0, 1) := by decide +kernel
theorem dL_law_142 : decode cL_law 142 = .ok (.iload_n 3, 1) := by decide +kernel
theorem dL_law_143 : decode cL_law 143 = .ok (.iconst 1, 1) := by decide +kernel
theorem dL_law_144 : decode cL_law 144 = .ok (.iadd, 1) := by decide +kernel
theorem dL_law_145 : decode cL_law 145 = .ok (.iaload, 1) := by decide +kernel
theorem dL_law_146 : decode cL_law 146 = .ok (.aload_n 0, 1) := by decide +kernel
theorem dL_law_147 : decode cL_law 147 = .ok (.iload_n 3, 1) := by decide +kernel
theorem dL_law_148 : decode cL_law 148 = .ok (.iconst 2, 1) := by decide +kernel
theorem dL_law_149 : decode cL_law 149 = .ok (.iadd, 1) := by decide +kernel
theorem dL_law_150 : decode cL_law 150 = .ok (.iaload, 1) := by decide +kernel
theorem dL_law_151 : decode cL_law 151 = .ok (.aload_n 0, 1) := by decide +kernel
theorem dL_law_152 : decode cL_law 152 = .ok (.iload_n 3, 1) := by decide +kernel
theorem dL_law_153 : decode cL_law 153 = .ok (.iconst 3, 1) := by decide +kernel
theorem dL_law_154 : decode cL_law 154 = .ok (.iadd, 1) := by decide +kernel
theorem dL_law_155 : decode cL_law 155 = .ok (.iaload, 1) := by decide +kernel
theorem dL_law_156 : decode cL_law 156 = .ok (.invokevirtual 21, 3) := by decide +kernel
theorem dL_law_159 : decode cL_law 159 = .ok (.aload_n 2, 1) := by decide +kernel
theorem dL_law_160 : decode cL_law 160 = .ok (.aload_n 0, 1) := by decide +kernel
theorem dL_law_161 : decode cL_law 161 = .ok (.iload_n 3, 1) := by decide +kernel
theorem dL_law_162 : decode cL_law 162 = .ok (.iconst 1, 1) := by decide +kernel
theorem dL_law_163 : decode cL_law 163 = .ok (.iadd, 1) := by decide +kernel
theorem dL_law_164 : decode cL_law 164 = .ok (.iaload, 1) := by decide +kernel
theorem dL_law_165 : decode cL_law 165 = .ok (.aload_n 0, 1) := by decide +kernel
theorem dL_law_166 : decode cL_law 166 = .ok (.iload_n 3, 1) := by decide +kernel
theorem dL_law_167 : decode cL_law 167 = .ok (.iconst 2, 1) := by decide +kernel
theorem dL_law_168 : decode cL_law 168 = .ok (.iadd, 1) := by decide +kernel
theorem dL_law_169 : decode cL_law 169 = .ok (.iaload, 1) := by decide +kernel
theorem dL_law_170 : decode cL_law 170 = .ok (.aload_n 0, 1) := by decide +kernel
theorem dL_law_171 : decode cL_law 171 = .ok (.iload_n 3, 1) := by decide +kernel
theorem dL_law_172 : decode cL_law 172 = .ok (.iconst 3, 1) := by decide +kernel
theorem dL_law_173 : decode cL_law 173 = .ok (.iadd, 1) := by decide +kernel
theorem dL_law_174 : decode cL_law 174 = .ok (.iaload, 1) := by decide +kernel
theorem dL_law_175 : decode cL_law 175 = .ok (.invokevirtual 25, 3) := by decide +kernel
theorem dL_law_178 : decode cL_law 178 = .ok (.if_icmp .eq 690, 3) := by decide +kernel
theorem dL_law_181 : decode cL_law 181 = .ok (.iconst 0, 1) := by decide +kernel
theorem dL_law_182 : decode cL_law 182 = .ok (.ireturn, 1) := by decide +kernel
theorem dL_law_183 : decode cL_law 183 = .ok (.aload_n 1, 1) := by decide +kernel
theorem dL_law_184 : decode cL_law 184 = .ok (.aload_n 0, 1) := by decide +kernel
theorem dL_law_185 : decode cL_law 185 = .ok (.iload_n 3, 1) := by decide +kernel
theorem dL_law_186 : decode cL_law 186 = .ok (.iconst 1, 1) := by decide +kernel
theorem dL_law_187 : decode cL_law 187 = .ok (.iadd, 1) := by decide +kernel
theorem dL_law_188 : decode cL_law 188 = .ok (.iaload, 1) := by decide +kernel
theorem dL_law_189 : decode cL_law 189 = .ok (.aload_n 0, 1) := by decide +kernel
theorem dL_law_190 : decode cL_law 190 = .ok (.iload_n 3, 1) := by decide +kernel
theorem dL_law_191 : decode cL_law 191 = .ok (.iconst 2, 1) := by decide +kernel
theorem dL_law_192 : decode cL_law 192 = .ok (.iadd, 1) := by decide +kernel
theorem dL_law_193 : decode cL_law 193 = .ok (.iaload, 1) := by decide +kernel
theorem dL_law_194 : decode cL_law 194 = .ok (.aload_n 0, 1) := by decide +kernel
theorem dL_law_195 : decode cL_law 195 = .ok (.iload_n 3, 1) := by decide +kernel
theorem dL_law_196 : decode cL_law 196 = .ok (.iconst 3, 1) := by decide +kernel
theorem dL_law_197 : decode cL_law 197 = .ok (.iadd, 1) := by decide +kernel
theorem dL_law_198 : decode cL_law 198 = .ok (.iaload, 1) := by decide +kernel
theorem dL_law_199 : decode cL_law 199 = .ok (.aload_n 0, 1) := by decide +kernel
theorem dL_law_200 : decode cL_law 200 = .ok (.iload_n 3, 1) := by decide +kernel
theorem dL_law_201 : decode cL_law 201 = .ok (.iconst 4, 1) := by decide +kernel
theorem dL_law_202 : decode cL_law 202 = .ok (.iadd, 1) := by decide +kernel
theorem dL_law_203 : decode cL_law 203 = .ok (.iaload, 1) := by decide +kernel
theorem dL_law_204 : decode cL_law 204 = .ok (.invokevirtual 26, 3) := by decide +kernel
theorem dL_law_207 : decode cL_law 207 = .ok (.aload_n 2, 1) := by decide +kernel
theorem dL_law_208 : decode cL_law 208 = .ok (.aload_n 0, 1) := by decide +kernel
theorem dL_law_209 : decode cL_law 209 = .ok (.iload_n 3, 1) := by decide +kernel
theorem dL_law_210 : decode cL_law 210 = .ok (.iconst 1, 1) := by decide +kernel
theorem dL_law_211 : decode cL_law 211 = .ok (.iadd, 1) := by decide +kernel
theorem dL_law_212 : decode cL_law 212 = .ok (.iaload, 1) := by decide +kernel
theorem dL_law_213 : decode cL_law 213 = .ok (.aload_n 0, 1) := by decide +kernel
theorem dL_law_214 : decode cL_law 214 = .ok (.iload_n 3, 1) := by decide +kernel
theorem dL_law_215 : decode cL_law 215 = .ok (.iconst 2, 1) := by decide +kernel
theorem dL_law_216 : decode cL_law 216 = .ok (.iadd, 1) := by decide +kernel
theorem dL_law_217 : decode cL_law 217 = .ok (.iaload, 1) := by decide +kernel
theorem dL_law_218 : decode cL_law 218 = .ok (.aload_n 0, 1) := by decide +kernel
theorem dL_law_219 : decode cL_law 219 = .ok (.iload_n 3, 1) := by decide +kernel
theorem dL_law_220 : decode cL_law 220 = .ok (.iconst 3, 1) := by decide +kernel
theorem dL_law_221 : decode cL_law 221 = .ok (.iadd, 1) := by decide +kernel
theorem dL_law_222 : decode cL_law 222 = .ok (.iaload, 1) := by decide +kernel
theorem dL_law_223 : decode cL_law 223 = .ok (.aload_n 0, 1) := by decide +kernel
theorem dL_law_224 : decode cL_law 224 = .ok (.iload_n 3, 1) := by decide +kernel
theorem dL_law_225 : decode cL_law 225 = .ok (.iconst 4, 1) := by decide +kernel
theorem dL_law_226 : decode cL_law 226 = .ok (.iadd, 1) := by decide +kernel
theorem dL_law_227 : decode cL_law 227 = .ok (.iaload, 1) := by decide +kernel
theorem dL_law_228 : decode cL_law 228 = .ok (.invokevirtual 30, 3) := by decide +kernel
theorem dL_law_231 : decode cL_law 231 = .ok (.if_icmp .eq 637, 3) := by decide +kernel
theorem dL_law_234 : decode cL_law 234 = .ok (.iconst 0, 1) := by decide +kernel
theorem dL_law_235 : decode cL_law 235 = .ok (.ireturn, 1) := by decide +kernel
theorem dL_law_236 : decode cL_law 236 = .ok (.aload_n 1, 1) := by decide +kernel
theorem dL_law_237 : decode cL_law 237 = .ok (.aload_n 0, 1) := by decide +kernel
theorem dL_law_238 : decode cL_law 238 = .ok (.iload_n 3, 1) := by decide +kernel
theorem dL_law_239 : decode cL_law 239 = .ok (.iconst 1, 1) := by decide +kernel
theorem dL_law_240 : decode cL_law 240 = .ok (.iadd, 1) := by decide +kernel
theorem dL_law_241 : decode cL_law 241 = .ok (.iaload, 1) := by decide +kernel
theorem dL_law_242 : decode cL_law 242 = .ok (.aload_n 0, 1) := by decide +kernel
theorem dL_law_243 : decode cL_law 243 = .ok (.iload_n 3, 1) := by decide +kernel
theorem dL_law_244 : decode cL_law 244 = .ok (.iconst 2, 1) := by decide +kernel
theorem dL_law_245 : decode cL_law 245 = .ok (.iadd, 1) := by decide +kernel
theorem dL_law_246 : decode cL_law 246 = .ok (.iaload, 1) := by decide +kernel
theorem dL_law_247 : decode cL_law 247 = .ok (.aload_n 0, 1) := by decide +kernel
theorem dL_law_248 : decode cL_law 248 = .ok (.iload_n 3, 1) := by decide +kernel
theorem dL_law_249 : decode cL_law 249 = .ok (.iconst 3, 1) := by decide +kernel
theorem dL_law_250 : decode cL_law 250 = .ok (.iadd, 1) := by decide +kernel
theorem dL_law_251 : decode cL_law 251 = .ok (.iaload, 1) := by decide +kernel
theorem dL_law_252 : decode cL_law 252 = .ok (.invokevirtual 31, 3) := by decide +kernel
theorem dL_law_255 : decode cL_law 255 = .ok (.aload_n 2, 1) := by decide +kernel
theorem dL_law_256 : decode cL_law 256 = .ok (.aload_n 0, 1) := by decide +kernel
theorem dL_law_257 : decode cL_law 257 = .ok (.iload_n 3, 1) := by decide +kernel
theorem dL_law_258 : decode cL_law 258 = .ok (.iconst 1, 1) := by decide +kernel
theorem dL_law_259 : decode cL_law 259 = .ok (.iadd, 1) := by decide +kernel
theorem dL_law_260 : decode cL_law 260 = .ok (.iaload, 1) := by decide +kernel
theorem dL_law_261 : decode cL_law 261 = .ok (.aload_n 0, 1) := by decide +kernel
theorem dL_law_262 : decode cL_law 262 = .ok (.iload_n 3, 1) := by decide +kernel
theorem dL_law_263 : decode cL_law 263 = .ok (.iconst 2, 1) := by decide +kernel
theorem dL_law_264 : decode cL_law 264 = .ok (.iadd, 1) := by decide +kernel
theorem dL_law_265 : decode cL_law 265 = .ok (.iaload, 1) := by decide +kernel
theorem dL_law_266 : decode cL_law 266 = .ok (.aload_n 0, 1) := by decide +kernel
theorem dL_law_267 : decode cL_law 267 = .ok (.iload_n 3, 1) := by decide +kernel
theorem dL_law_268 : decode cL_law 268 = .ok (.iconst 3, 1) := by decide +kernel
theorem dL_law_269 : decode cL_law 269 = .ok (.iadd, 1) := by decide +kernel
theorem dL_law_270 : decode cL_law 270 = .ok (.iaload, 1) := by decide +kernel
theorem dL_law_271 : decode cL_law 271 = .ok (.invokevirtual 34, 3) := by decide +kernel
theorem dL_law_274 : decode cL_law 274 = .ok (.if_icmp .eq 594, 3) := by decide +kernel
theorem dL_law_277 : decode cL_law 277 = .ok (.iconst 0, 1) := by decide +kernel
theorem dL_law_278 : decode cL_law 278 = .ok (.ireturn, 1) := by decide +kernel
theorem dL_law_279 : decode cL_law 279 = .ok (.aload_n 1, 1) := by decide +kernel
theorem dL_law_280 : decode cL_law 280 = .ok (.aload_n 0, 1) := by decide +kernel
theorem dL_law_281 : decode cL_law 281 = .ok (.iload_n 3, 1) := by decide +kernel
theorem dL_law_282 : decode cL_law 282 = .ok (.iconst 1, 1) := by decide +kernel
theorem dL_law_283 : decode cL_law 283 = .ok (.iadd, 1) := by decide +kernel
theorem dL_law_284 : decode cL_law 284 = .ok (.iaload, 1) := by decide +kernel
theorem dL_law_285 : decode cL_law 285 = .ok (.aload_n 0, 1) := by decide +kernel
theorem dL_law_286 : decode cL_law 286 = .ok (.iload_n 3, 1) := by decide +kernel
theorem dL_law_287 : decode cL_law 287 = .ok (.iconst 2, 1) := by decide +kernel
theorem dL_law_288 : decode cL_law 288 = .ok (.iadd, 1) := by decide +kernel
theorem dL_law_289 : decode cL_law 289 = .ok (.iaload, 1) := by decide +kernel
theorem dL_law_290 : decode cL_law 290 = .ok (.invokevirtual 35, 3) := by decide +kernel
theorem dL_law_293 : decode cL_law 293 = .ok (.aload_n 2, 1) := by decide +kernel
theorem dL_law_294 : decode cL_law 294 = .ok (.aload_n 0, 1) := by decide +kernel
theorem dL_law_295 : decode cL_law 295 = .ok (.iload_n 3, 1) := by decide +kernel
theorem dL_law_296 : decode cL_law 296 = .ok (.iconst 1, 1) := by decide +kernel
theorem dL_law_297 : decode cL_law 297 = .ok (.iadd, 1) := by decide +kernel
theorem dL_law_298 : decode cL_law 298 = .ok (.iaload, 1) := by decide +kernel
theorem dL_law_299 : decode cL_law 299 = .ok (.aload_n 0, 1) := by decide +kernel
theorem dL_law_300 : decode cL_law 300 = .ok (.iload_n 3, 1) := by decide +kernel
theorem dL_law_301 : decode cL_law 301 = .ok (.iconst 2, 1) := by decide +kernel
theorem dL_law_302 : decode cL_law 302 = .ok (.iadd, 1) := by decide +kernel
theorem dL_law_303 : decode cL_law 303 = .ok (.iaload, 1) := by decide +kernel
theorem dL_law_304 : decode cL_law 304 = .ok (.invokevirtual 39, 3) := by decide +kernel
theorem dL_law_307 : decode cL_law 307 = .ok (.if_icmp .eq 561, 3) := by decide +kernel
theorem dL_law_310 : decode cL_law 310 = .ok (.iconst 0, 1) := by decide +kernel
theorem dL_law_311 : decode cL_law 311 = .ok (.ireturn, 1) := by decide +kernel
theorem dL_law_312 : decode cL_law 312 = .ok (.aload_n 1, 1) := by decide +kernel
theorem dL_law_313 : decode cL_law 313 = .ok (.aload_n 0, 1) := by decide +kernel
theorem dL_law_314 : decode cL_law 314 = .ok (.iload_n 3, 1) := by decide +kernel
theorem dL_law_315 : decode cL_law 315 = .ok (.iconst 1, 1) := by decide +kernel
theorem dL_law_316 : decode cL_law 316 = .ok (.iadd, 1) := by decide +kernel
theorem dL_law_317 : decode cL_law 317 = .ok (.iaload, 1) := by decide +kernel
theorem dL_law_318 : decode cL_law 318 = .ok (.aload_n 0, 1) := by decide +kernel
theorem dL_law_319 : decode cL_law 319 = .ok (.iload_n 3, 1) := by decide +kernel
theorem dL_law_320 : decode cL_law 320 = .ok (.iconst 2, 1) := by decide +kernel
theorem dL_law_321 : decode cL_law 321 = .ok (.iadd, 1) := by decide +kernel
theorem dL_law_322 : decode cL_law 322 = .ok (.iaload, 1) := by decide +kernel
theorem dL_law_323 : decode cL_law 323 = .ok (.aload_n 0, 1) := by decide +kernel
theorem dL_law_324 : decode cL_law 324 = .ok (.iload_n 3, 1) := by decide +kernel
theorem dL_law_325 : decode cL_law 325 = .ok (.iconst 3, 1) := by decide +kernel
theorem dL_law_326 : decode cL_law 326 = .ok (.iadd, 1) := by decide +kernel
theorem dL_law_327 : decode cL_law 327 = .ok (.iaload, 1) := by decide +kernel
theorem dL_law_328 : decode cL_law 328 = .ok (.aload_n 0, 1) := by decide +kernel
theorem dL_law_329 : decode cL_law 329 = .ok (.iload_n 3, 1) := by decide +kernel
theorem dL_law_330 : decode cL_law 330 = .ok (.iconst 4, 1) := by decide +kernel
theorem dL_law_331 : decode cL_law 331 = .ok (.iadd, 1) := by decide +kernel
theorem dL_law_332 : decode cL_law 332 = .ok (.iaload, 1) := by decide +kernel
theorem dL_law_333 : decode cL_law 333 = .ok (.aload_n 0, 1) := by decide +kernel
theorem dL_law_334 : decode cL_law 334 = .ok (.iload_n 3, 1) := by decide +kernel
theorem dL_law_335 : decode cL_law 335 = .ok (.iconst 5, 1) := by decide +kernel
theorem dL_law_336 : decode cL_law 336 = .ok (.iadd, 1) := by decide +kernel
theorem dL_law_337 : decode cL_law 337 = .ok (.iaload, 1) := by decide +kernel
theorem dL_law_338 : decode cL_law 338 = .ok (.invokevirtual 40, 3) := by decide +kernel
theorem dL_law_341 : decode cL_law 341 = .ok (.aload_n 2, 1) := by decide +kernel
theorem dL_law_342 : decode cL_law 342 = .ok (.aload_n 0, 1) := by decide +kernel
theorem dL_law_343 : decode cL_law 343 = .ok (.iload_n 3, 1) := by decide +kernel
theorem dL_law_344 : decode cL_law 344 = .ok (.iconst 1, 1) := by decide +kernel
theorem dL_law_345 : decode cL_law 345 = .ok (.iadd, 1) := by decide +kernel
theorem dL_law_346 : decode cL_law 346 = .ok (.iaload, 1) := by decide +kernel
theorem dL_law_347 : decode cL_law 347 = .ok (.aload_n 0, 1) := by decide +kernel
theorem dL_law_348 : decode cL_law 348 = .ok (.iload_n 3, 1) := by decide +kernel
theorem dL_law_349 : decode cL_law 349 = .ok (.iconst 2, 1) := by decide +kernel
theorem dL_law_350 : decode cL_law 350 = .ok (.iadd, 1) := by decide +kernel
theorem dL_law_351 : decode cL_law 351 = .ok (.iaload, 1) := by decide +kernel
theorem dL_law_352 : decode cL_law 352 = .ok (.aload_n 0, 1) := by decide +kernel
theorem dL_law_353 : decode cL_law 353 = .ok (.iload_n 3, 1) := by decide +kernel
theorem dL_law_354 : decode cL_law 354 = .ok (.iconst 3, 1) := by decide +kernel
theorem dL_law_355 : decode cL_law 355 = .ok (.iadd, 1) := by decide +kernel
theorem dL_law_356 : decode cL_law 356 = .ok (.iaload, 1) := by decide +kernel
theorem dL_law_357 : decode cL_law 357 = .ok (.aload_n 0, 1) := by decide +kernel
theorem dL_law_358 : decode cL_law 358 = .ok (.iload_n 3, 1) := by decide +kernel
theorem dL_law_359 : decode cL_law 359 = .ok (.iconst 4, 1) := by decide +kernel
theorem dL_law_360 : decode cL_law 360 = .ok (.iadd, 1) := by decide +kernel
theorem dL_law_361 : decode cL_law 361 = .ok (.iaload, 1) := by decide +kernel
theorem dL_law_362 : decode cL_law 362 = .ok (.aload_n 0, 1) := by decide +kernel
theorem dL_law_363 : decode cL_law 363 = .ok (.iload_n 3, 1) := by decide +kernel
theorem dL_law_364 : decode cL_law 364 = .ok (.iconst 5, 1) := by decide +kernel
theorem dL_law_365 : decode cL_law 365 = .ok (.iadd, 1) := by decide +kernel
theorem dL_law_366 : decode cL_law 366 = .ok (.iaload, 1) := by decide +kernel
theorem dL_law_367 : decode cL_law 367 = .ok (.invokevirtual 44, 3) := by decide +kernel
theorem dL_law_370 : decode cL_law 370 = .ok (.if_icmp .eq 498, 3) := by decide +kernel
theorem dL_law_373 : decode cL_law 373 = .ok (.iconst 0, 1) := by decide +kernel
theorem dL_law_374 : decode cL_law 374 = .ok (.ireturn, 1) := by decide +kernel
theorem dL_law_375 : decode cL_law 375 = .ok (.aload_n 1, 1) := by decide +kernel
theorem dL_law_376 : decode cL_law 376 = .ok (.aload_n 0, 1) := by decide +kernel
theorem dL_law_377 : decode cL_law 377 = .ok (.iload_n 3, 1) := by decide +kernel
theorem dL_law_378 : decode cL_law 378 = .ok (.iconst 1, 1) := by decide +kernel
theorem dL_law_379 : decode cL_law 379 = .ok (.iadd, 1) := by decide +kernel
theorem dL_law_380 : decode cL_law 380 = .ok (.iaload, 1) := by decide +kernel
theorem dL_law_381 : decode cL_law 381 = .ok (.aload_n 0, 1) := by decide +kernel
theorem dL_law_382 : decode cL_law 382 = .ok (.iload_n 3, 1) := by decide +kernel
theorem dL_law_383 : decode cL_law 383 = .ok (.iconst 2, 1) := by decide +kernel
theorem dL_law_384 : decode cL_law 384 = .ok (.iadd, 1) := by decide +kernel
theorem dL_law_385 : decode cL_law 385 = .ok (.iaload, 1) := by decide +kernel
theorem dL_law_386 : decode cL_law 386 = .ok (.aload_n 0, 1) := by decide +kernel
theorem dL_law_387 : decode cL_law 387 = .ok (.iload_n 3, 1) := by decide +kernel
theorem dL_law_388 : decode cL_law 388 = .ok (.iconst 3, 1) := by decide +kernel
theorem dL_law_389 : decode cL_law 389 = .ok (.iadd, 1) := by decide +kernel
theorem dL_law_390 : decode cL_law 390 = .ok (.iaload, 1) := by decide +kernel
theorem dL_law_391 : decode cL_law 391 = .ok (.invokevirtual 45, 3) := by decide +kernel
theorem dL_law_394 : decode cL_law 394 = .ok (.aload_n 2, 1) := by decide +kernel
theorem dL_law_395 : decode cL_law 395 = .ok (.aload_n 0, 1) := by decide +kernel
theorem dL_law_396 : decode cL_law 396 = .ok (.iload_n 3, 1) := by decide +kernel
theorem dL_law_397 : decode cL_law 397 = .ok (.iconst 1, 1) := by decide +kernel
theorem dL_law_398 : decode cL_law 398 = .ok (.iadd, 1) := by decide +kernel
theorem dL_law_399 : decode cL_law 399 = .ok (.iaload, 1) := by decide +kernel
theorem dL_law_400 : decode cL_law 400 = .ok (.aload_n 0, 1) := by decide +kernel
theorem dL_law_401 : decode cL_law 401 = .ok (.iload_n 3, 1) := by decide +kernel
theorem dL_law_402 : decode cL_law 402 = .ok (.iconst 2, 1) := by decide +kernel
theorem dL_law_403 : decode cL_law 403 = .ok (.iadd, 1) := by decide +kernel
theorem dL_law_404 : decode cL_law 404 = .ok (.iaload, 1) := by decide +kernel
theorem dL_law_405 : decode cL_law 405 = .ok (.aload_n 0, 1) := by decide +kernel
theorem dL_law_406 : decode cL_law 406 = .ok (.iload_n 3, 1) := by decide +kernel
theorem dL_law_407 : decode cL_law 407 = .ok (.iconst 3, 1) := by decide +kernel
theorem dL_law_408 : decode cL_law 408 = .ok (.iadd, 1) := by decide +kernel
theorem dL_law_409 : decode cL_law 409 = .ok (.iaload, 1) := by decide +kernel
theorem dL_law_410 : decode cL_law 410 = .ok (.invokevirtual 48, 3) := by decide +kernel
theorem dL_law_413 : decode cL_law 413 = .ok (.if_icmp .eq 455, 3) := by decide +kernel
theorem dL_law_416 : decode cL_law 416 = .ok (.iconst 0, 1) := by decide +kernel
theorem dL_law_417 : decode cL_law 417 = .ok (.ireturn, 1) := by decide +kernel
theorem dL_law_418 : decode cL_law 418 = .ok (.aload_n 1, 1) := by decide +kernel
theorem dL_law_419 : decode cL_law 419 = .ok (.aload_n 0, 1) := by decide +kernel
theorem dL_law_420 : decode cL_law 420 = .ok (.iload_n 3, 1) := by decide +kernel
theorem dL_law_421 : decode cL_law 421 = .ok (.iconst 1, 1) := by decide +kernel
theorem dL_law_422 : decode cL_law 422 = .ok (.iadd, 1) := by decide +kernel
theorem dL_law_423 : decode cL_law 423 = .ok (.iaload, 1) := by decide +kernel
theorem dL_law_424 : decode cL_law 424 = .ok (.aload_n 0, 1) := by decide +kernel
theorem dL_law_425 : decode cL_law 425 = .ok (.iload_n 3, 1) := by decide +kernel
theorem dL_law_426 : decode cL_law 426 = .ok (.iconst 2, 1) := by decide +kernel
theorem dL_law_427 : decode cL_law 427 = .ok (.iadd, 1) := by decide +kernel
theorem dL_law_428 : decode cL_law 428 = .ok (.iaload, 1) := by decide +kernel
theorem dL_law_429 : decode cL_law 429 = .ok (.aload_n 0, 1) := by decide +kernel
theorem dL_law_430 : decode cL_law 430 = .ok (.iload_n 3, 1) := by decide +kernel
theorem dL_law_431 : decode cL_law 431 = .ok (.iconst 3, 1) := by decide +kernel
theorem dL_law_432 : decode cL_law 432 = .ok (.iadd, 1) := by decide +kernel
theorem dL_law_433 : decode cL_law 433 = .ok (.iaload, 1) := by decide +kernel
theorem dL_law_434 : decode cL_law 434 = .ok (.invokevirtual 49, 3) := by decide +kernel
theorem dL_law_437 : decode cL_law 437 = .ok (.aload_n 2, 1) := by decide +kernel
theorem dL_law_438 : decode cL_law 438 = .ok (.aload_n 0, 1) := by decide +kernel
theorem dL_law_439 : decode cL_law 439 = .ok (.iload_n 3, 1) := by decide +kernel
theorem dL_law_440 : decode cL_law 440 = .ok (.iconst 1, 1) := by decide +kernel
theorem dL_law_441 : decode cL_law 441 = .ok (.iadd, 1) := by decide +kernel
theorem dL_law_442 : decode cL_law 442 = .ok (.iaload, 1) := by decide +kernel
theorem dL_law_443 : decode cL_law 443 = .ok (.aload_n 0, 1) := by decide +kernel
theorem dL_law_444 : decode cL_law 444 = .ok (.iload_n 3, 1) := by decide +kernel
theorem dL_law_445 : decode cL_law 445 = .ok (.iconst 2, 1) := by decide +kernel
theorem dL_law_446 : decode cL_law 446 = .ok (.iadd, 1) := by decide +kernel
theorem dL_law_447 : decode cL_law 447 = .ok (.iaload, 1) := by decide +kernel
theorem dL_law_448 : decode cL_law 448 = .ok (.aload_n 0, 1) := by decide +kernel
theorem dL_law_449 : decode cL_law 449 = .ok (.iload_n 3, 1) := by decide +kernel
theorem dL_law_450 : decode cL_law 450 = .ok (.iconst 3, 1) := by decide +kernel
theorem dL_law_451 : decode cL_law 451 = .ok (.iadd, 1) := by decide +kernel
theorem dL_law_452 : decode cL_law 452 = .ok (.iaload, 1) := by decide +kernel
theorem dL_law_453 : decode cL_law 453 = .ok (.invokevirtual 52, 3) := by decide +kernel
theorem dL_law_456 : decode cL_law 456 = .ok (.if_icmp .eq 412, 3) := by decide +kernel
theorem dL_law_459 : decode cL_law 459 = .ok (.iconst 0, 1) := by decide +kernel
theorem dL_law_460 : decode cL_law 460 = .ok (.ireturn, 1) := by decide +kernel
theorem dL_law_461 : decode cL_law 461 = .ok (.aload_n 1, 1) := by decide +kernel
theorem dL_law_462 : decode cL_law 462 = .ok (.aload_n 0, 1) := by decide +kernel
theorem dL_law_463 : decode cL_law 463 = .ok (.iload_n 3, 1) := by decide +kernel
theorem dL_law_464 : decode cL_law 464 = .ok (.iconst 1, 1) := by decide +kernel
theorem dL_law_465 : decode cL_law 465 = .ok (.iadd, 1) := by decide +kernel
theorem dL_law_466 : decode cL_law 466 = .ok (.iaload, 1) := by decide +kernel
theorem dL_law_467 : decode cL_law 467 = .ok (.aload_n 0, 1) := by decide +kernel
theorem dL_law_468 : decode cL_law 468 = .ok (.iload_n 3, 1) := by decide +kernel
theorem dL_law_469 : decode cL_law 469 = .ok (.iconst 2, 1) := by decide +kernel
theorem dL_law_470 : decode cL_law 470 = .ok (.iadd, 1) := by decide +kernel
theorem dL_law_471 : decode cL_law 471 = .ok (.iaload, 1) := by decide +kernel
theorem dL_law_472 : decode cL_law 472 = .ok (.invokevirtual 53, 3) := by decide +kernel
theorem dL_law_475 : decode cL_law 475 = .ok (.aload_n 2, 1) := by decide +kernel
theorem dL_law_476 : decode cL_law 476 = .ok (.aload_n 0, 1) := by decide +kernel
theorem dL_law_477 : decode cL_law 477 = .ok (.iload_n 3, 1) := by decide +kernel
theorem dL_law_478 : decode cL_law 478 = .ok (.iconst 1, 1) := by decide +kernel
theorem dL_law_479 : decode cL_law 479 = .ok (.iadd, 1) := by decide +kernel
theorem dL_law_480 : decode cL_law 480 = .ok (.iaload, 1) := by decide +kernel
theorem dL_law_481 : decode cL_law 481 = .ok (.aload_n 0, 1) := by decide +kernel
theorem dL_law_482 : decode cL_law 482 = .ok (.iload_n 3, 1) := by decide +kernel
theorem dL_law_483 : decode cL_law 483 = .ok (.iconst 2, 1) := by decide +kernel
theorem dL_law_484 : decode cL_law 484 = .ok (.iadd, 1) := by decide +kernel
theorem dL_law_485 : decode cL_law 485 = .ok (.iaload, 1) := by decide +kernel
theorem dL_law_486 : decode cL_law 486 = .ok (.invokevirtual 56, 3) := by decide +kernel
theorem dL_law_489 : decode cL_law 489 = .ok (.if_icmp .eq 379, 3) := by decide +kernel
theorem dL_law_492 : decode cL_law 492 = .ok (.iconst 0, 1) := by decide +kernel
theorem dL_law_493 : decode cL_law 493 = .ok (.ireturn, 1) := by decide +kernel
theorem dL_law_494 : decode cL_law 494 = .ok (.aload_n 1, 1) := by decide +kernel
theorem dL_law_495 : decode cL_law 495 = .ok (.aload_n 0, 1) := by decide +kernel
theorem dL_law_496 : decode cL_law 496 = .ok (.iload_n 3, 1) := by decide +kernel
theorem dL_law_497 : decode cL_law 497 = .ok (.iconst 1, 1) := by decide +kernel
theorem dL_law_498 : decode cL_law 498 = .ok (.iadd, 1) := by decide +kernel
theorem dL_law_499 : decode cL_law 499 = .ok (.iaload, 1) := by decide +kernel
theorem dL_law_500 : decode cL_law 500 = .ok (.invokevirtual 57, 3) := by decide +kernel
theorem dL_law_503 : decode cL_law 503 = .ok (.aload_n 2, 1) := by decide +kernel
theorem dL_law_504 : decode cL_law 504 = .ok (.aload_n 0, 1) := by decide +kernel
theorem dL_law_505 : decode cL_law 505 = .ok (.iload_n 3, 1) := by decide +kernel
theorem dL_law_506 : decode cL_law 506 = .ok (.iconst 1, 1) := by decide +kernel
theorem dL_law_507 : decode cL_law 507 = .ok (.iadd, 1) := by decide +kernel
theorem dL_law_508 : decode cL_law 508 = .ok (.iaload, 1) := by decide +kernel
theorem dL_law_509 : decode cL_law 509 = .ok (.invokevirtual 61, 3) := by decide +kernel
theorem dL_law_512 : decode cL_law 512 = .ok (.if_icmp .eq 356, 3) := by decide +kernel
theorem dL_law_515 : decode cL_law 515 = .ok (.iconst 0, 1) := by decide +kernel
theorem dL_law_516 : decode cL_law 516 = .ok (.ireturn, 1) := by decide +kernel
theorem dL_law_517 : decode cL_law 517 = .ok (.aload_n 1, 1) := by decide +kernel
theorem dL_law_518 : decode cL_law 518 = .ok (.aload_n 0, 1) := by decide +kernel
theorem dL_law_519 : decode cL_law 519 = .ok (.iload_n 3, 1) := by decide +kernel
theorem dL_law_520 : decode cL_law 520 = .ok (.iconst 1, 1) := by decide +kernel
theorem dL_law_521 : decode cL_law 521 = .ok (.iadd, 1) := by decide +kernel
theorem dL_law_522 : decode cL_law 522 = .ok (.iaload, 1) := by decide +kernel
theorem dL_law_523 : decode cL_law 523 = .ok (.aload_n 0, 1) := by decide +kernel
theorem dL_law_524 : decode cL_law 524 = .ok (.iload_n 3, 1) := by decide +kernel
theorem dL_law_525 : decode cL_law 525 = .ok (.iconst 2, 1) := by decide +kernel
theorem dL_law_526 : decode cL_law 526 = .ok (.iadd, 1) := by decide +kernel
theorem dL_law_527 : decode cL_law 527 = .ok (.iaload, 1) := by decide +kernel
theorem dL_law_528 : decode cL_law 528 = .ok (.invokevirtual 62, 3) := by decide +kernel
theorem dL_law_531 : decode cL_law 531 = .ok (.aload_n 2, 1) := by decide +kernel
theorem dL_law_532 : decode cL_law 532 = .ok (.aload_n 0, 1) := by decide +kernel
theorem dL_law_533 : decode cL_law 533 = .ok (.iload_n 3, 1) := by decide +kernel
theorem dL_law_534 : decode cL_law 534 = .ok (.iconst 1, 1) := by decide +kernel
theorem dL_law_535 : decode cL_law 535 = .ok (.iadd, 1) := by decide +kernel
theorem dL_law_536 : decode cL_law 536 = .ok (.iaload, 1) := by decide +kernel
theorem dL_law_537 : decode cL_law 537 = .ok (.aload_n 0, 1) := by decide +kernel
theorem dL_law_538 : decode cL_law 538 = .ok (.iload_n 3, 1) := by decide +kernel
theorem dL_law_539 : decode cL_law 539 = .ok (.iconst 2, 1) := by decide +kernel
theorem dL_law_540 : decode cL_law 540 = .ok (.iadd, 1) := by decide +kernel
theorem dL_law_541 : decode cL_law 541 = .ok (.iaload, 1) := by decide +kernel
theorem dL_law_542 : decode cL_law 542 = .ok (.invokevirtual 66, 3) := by decide +kernel
theorem dL_law_545 : decode cL_law 545 = .ok (.lcmp, 1) := by decide +kernel
theorem dL_law_546 : decode cL_law 546 = .ok (.ifCond .eq 322, 3) := by decide +kernel
theorem dL_law_549 : decode cL_law 549 = .ok (.iconst 0, 1) := by decide +kernel
theorem dL_law_550 : decode cL_law 550 = .ok (.ireturn, 1) := by decide +kernel
theorem dL_law_551 : decode cL_law 551 = .ok (.aload_n 1, 1) := by decide +kernel
theorem dL_law_552 : decode cL_law 552 = .ok (.aload_n 0, 1) := by decide +kernel
theorem dL_law_553 : decode cL_law 553 = .ok (.iload_n 3, 1) := by decide +kernel
theorem dL_law_554 : decode cL_law 554 = .ok (.iconst 1, 1) := by decide +kernel
theorem dL_law_555 : decode cL_law 555 = .ok (.iadd, 1) := by decide +kernel
theorem dL_law_556 : decode cL_law 556 = .ok (.iaload, 1) := by decide +kernel
theorem dL_law_557 : decode cL_law 557 = .ok (.aload_n 0, 1) := by decide +kernel
theorem dL_law_558 : decode cL_law 558 = .ok (.iload_n 3, 1) := by decide +kernel
theorem dL_law_559 : decode cL_law 559 = .ok (.iconst 2, 1) := by decide +kernel
theorem dL_law_560 : decode cL_law 560 = .ok (.iadd, 1) := by decide +kernel
theorem dL_law_561 : decode cL_law 561 = .ok (.iaload, 1) := by decide +kernel
theorem dL_law_562 : decode cL_law 562 = .ok (.invokevirtual 67, 3) := by decide +kernel
theorem dL_law_565 : decode cL_law 565 = .ok (.aload_n 2, 1) := by decide +kernel
theorem dL_law_566 : decode cL_law 566 = .ok (.aload_n 0, 1) := by decide +kernel
theorem dL_law_567 : decode cL_law 567 = .ok (.iload_n 3, 1) := by decide +kernel
theorem dL_law_568 : decode cL_law 568 = .ok (.iconst 1, 1) := by decide +kernel
theorem dL_law_569 : decode cL_law 569 = .ok (.iadd, 1) := by decide +kernel
theorem dL_law_570 : decode cL_law 570 = .ok (.iaload, 1) := by decide +kernel
theorem dL_law_571 : decode cL_law 571 = .ok (.aload_n 0, 1) := by decide +kernel
theorem dL_law_572 : decode cL_law 572 = .ok (.iload_n 3, 1) := by decide +kernel
theorem dL_law_573 : decode cL_law 573 = .ok (.iconst 2, 1) := by decide +kernel
theorem dL_law_574 : decode cL_law 574 = .ok (.iadd, 1) := by decide +kernel
theorem dL_law_575 : decode cL_law 575 = .ok (.iaload, 1) := by decide +kernel
theorem dL_law_576 : decode cL_law 576 = .ok (.invokevirtual 70, 3) := by decide +kernel
theorem dL_law_579 : decode cL_law 579 = .ok (.lcmp, 1) := by decide +kernel
theorem dL_law_580 : decode cL_law 580 = .ok (.ifCond .eq 288, 3) := by decide +kernel
theorem dL_law_583 : decode cL_law 583 = .ok (.iconst 0, 1) := by decide +kernel
theorem dL_law_584 : decode cL_law 584 = .ok (.ireturn, 1) := by decide +kernel
theorem dL_law_585 : decode cL_law 585 = .ok (.aload_n 1, 1) := by decide +kernel
theorem dL_law_586 : decode cL_law 586 = .ok (.aload_n 0, 1) := by decide +kernel
theorem dL_law_587 : decode cL_law 587 = .ok (.iload_n 3, 1) := by decide +kernel
theorem dL_law_588 : decode cL_law 588 = .ok (.iconst 1, 1) := by decide +kernel
theorem dL_law_589 : decode cL_law 589 = .ok (.iadd, 1) := by decide +kernel
theorem dL_law_590 : decode cL_law 590 = .ok (.iaload, 1) := by decide +kernel
theorem dL_law_591 : decode cL_law 591 = .ok (.invokevirtual 71, 3) := by decide +kernel
theorem dL_law_594 : decode cL_law 594 = .ok (.aload_n 2, 1) := by decide +kernel
theorem dL_law_595 : decode cL_law 595 = .ok (.aload_n 0, 1) := by decide +kernel
theorem dL_law_596 : decode cL_law 596 = .ok (.iload_n 3, 1) := by decide +kernel
theorem dL_law_597 : decode cL_law 597 = .ok (.iconst 1, 1) := by decide +kernel
theorem dL_law_598 : decode cL_law 598 = .ok (.iadd, 1) := by decide +kernel
theorem dL_law_599 : decode cL_law 599 = .ok (.iaload, 1) := by decide +kernel
theorem dL_law_600 : decode cL_law 600 = .ok (.invokevirtual 74, 3) := by decide +kernel
theorem dL_law_603 : decode cL_law 603 = .ok (.lcmp, 1) := by decide +kernel
theorem dL_law_604 : decode cL_law 604 = .ok (.ifCond .eq 264, 3) := by decide +kernel
theorem dL_law_607 : decode cL_law 607 = .ok (.iconst 0, 1) := by decide +kernel
theorem dL_law_608 : decode cL_law 608 = .ok (.ireturn, 1) := by decide +kernel
theorem dL_law_609 : decode cL_law 609 = .ok (.aload_n 1, 1) := by decide +kernel
theorem dL_law_610 : decode cL_law 610 = .ok (.aload_n 0, 1) := by decide +kernel
theorem dL_law_611 : decode cL_law 611 = .ok (.iload_n 3, 1) := by decide +kernel
theorem dL_law_612 : decode cL_law 612 = .ok (.iconst 1, 1) := by decide +kernel
theorem dL_law_613 : decode cL_law 613 = .ok (.iadd, 1) := by decide +kernel
theorem dL_law_614 : decode cL_law 614 = .ok (.iaload, 1) := by decide +kernel
theorem dL_law_615 : decode cL_law 615 = .ok (.invokevirtual 75, 3) := by decide +kernel
theorem dL_law_618 : decode cL_law 618 = .ok (.aload_n 2, 1) := by decide +kernel
theorem dL_law_619 : decode cL_law 619 = .ok (.aload_n 0, 1) := by decide +kernel
theorem dL_law_620 : decode cL_law 620 = .ok (.iload_n 3, 1) := by decide +kernel
theorem dL_law_621 : decode cL_law 621 = .ok (.iconst 1, 1) := by decide +kernel
theorem dL_law_622 : decode cL_law 622 = .ok (.iadd, 1) := by decide +kernel
theorem dL_law_623 : decode cL_law 623 = .ok (.iaload, 1) := by decide +kernel
theorem dL_law_624 : decode cL_law 624 = .ok (.invokevirtual 78, 3) := by decide +kernel
theorem dL_law_627 : decode cL_law 627 = .ok (.if_icmp .eq 241, 3) := by decide +kernel
theorem dL_law_630 : decode cL_law 630 = .ok (.iconst 0, 1) := by decide +kernel
theorem dL_law_631 : decode cL_law 631 = .ok (.ireturn, 1) := by decide +kernel
theorem dL_law_632 : decode cL_law 632 = .ok (.aload_n 1, 1) := by decide +kernel
theorem dL_law_633 : decode cL_law 633 = .ok (.aload_n 0, 1) := by decide +kernel
theorem dL_law_634 : decode cL_law 634 = .ok (.iload_n 3, 1) := by decide +kernel
theorem dL_law_635 : decode cL_law 635 = .ok (.iconst 1, 1) := by decide +kernel
theorem dL_law_636 : decode cL_law 636 = .ok (.iadd, 1) := by decide +kernel
theorem dL_law_637 : decode cL_law 637 = .ok (.iaload, 1) := by decide +kernel
theorem dL_law_638 : decode cL_law 638 = .ok (.invokevirtual 79, 3) := by decide +kernel
theorem dL_law_641 : decode cL_law 641 = .ok (.aload_n 2, 1) := by decide +kernel
theorem dL_law_642 : decode cL_law 642 = .ok (.aload_n 0, 1) := by decide +kernel
theorem dL_law_643 : decode cL_law 643 = .ok (.iload_n 3, 1) := by decide +kernel
theorem dL_law_644 : decode cL_law 644 = .ok (.iconst 1, 1) := by decide +kernel
theorem dL_law_645 : decode cL_law 645 = .ok (.iadd, 1) := by decide +kernel
theorem dL_law_646 : decode cL_law 646 = .ok (.iaload, 1) := by decide +kernel
theorem dL_law_647 : decode cL_law 647 = .ok (.invokevirtual 82, 3) := by decide +kernel
theorem dL_law_650 : decode cL_law 650 = .ok (.lcmp, 1) := by decide +kernel
theorem dL_law_651 : decode cL_law 651 = .ok (.ifCond .eq 217, 3) := by decide +kernel
theorem dL_law_654 : decode cL_law 654 = .ok (.iconst 0, 1) := by decide +kernel
theorem dL_law_655 : decode cL_law 655 = .ok (.ireturn, 1) := by decide +kernel
theorem dL_law_656 : decode cL_law 656 = .ok (.aload_n 1, 1) := by decide +kernel
theorem dL_law_657 : decode cL_law 657 = .ok (.invokevirtual 83, 3) := by decide +kernel
theorem dL_law_660 : decode cL_law 660 = .ok (.aload_n 2, 1) := by decide +kernel
theorem dL_law_661 : decode cL_law 661 = .ok (.invokevirtual 87, 3) := by decide +kernel
theorem dL_law_664 : decode cL_law 664 = .ok (.if_icmp .eq 204, 3) := by decide +kernel
theorem dL_law_667 : decode cL_law 667 = .ok (.iconst 0, 1) := by decide +kernel
theorem dL_law_668 : decode cL_law 668 = .ok (.ireturn, 1) := by decide +kernel
theorem dL_law_669 : decode cL_law 669 = .ok (.aload_n 1, 1) := by decide +kernel
theorem dL_law_670 : decode cL_law 670 = .ok (.aload_n 0, 1) := by decide +kernel
theorem dL_law_671 : decode cL_law 671 = .ok (.iload_n 3, 1) := by decide +kernel
theorem dL_law_672 : decode cL_law 672 = .ok (.iconst 1, 1) := by decide +kernel
theorem dL_law_673 : decode cL_law 673 = .ok (.iadd, 1) := by decide +kernel
theorem dL_law_674 : decode cL_law 674 = .ok (.iaload, 1) := by decide +kernel
theorem dL_law_675 : decode cL_law 675 = .ok (.aload_n 0, 1) := by decide +kernel
theorem dL_law_676 : decode cL_law 676 = .ok (.iload_n 3, 1) := by decide +kernel
theorem dL_law_677 : decode cL_law 677 = .ok (.iconst 2, 1) := by decide +kernel
theorem dL_law_678 : decode cL_law 678 = .ok (.iadd, 1) := by decide +kernel
theorem dL_law_679 : decode cL_law 679 = .ok (.iaload, 1) := by decide +kernel
theorem dL_law_680 : decode cL_law 680 = .ok (.invokevirtual 88, 3) := by decide +kernel
theorem dL_law_683 : decode cL_law 683 = .ok (.aload_n 2, 1) := by decide +kernel
theorem dL_law_684 : decode cL_law 684 = .ok (.aload_n 0, 1) := by decide +kernel
theorem dL_law_685 : decode cL_law 685 = .ok (.iload_n 3, 1) := by decide +kernel
theorem dL_law_686 : decode cL_law 686 = .ok (.iconst 1, 1) := by decide +kernel
theorem dL_law_687 : decode cL_law 687 = .ok (.iadd, 1) := by decide +kernel
theorem dL_law_688 : decode cL_law 688 = .ok (.iaload, 1) := by decide +kernel
theorem dL_law_689 : decode cL_law 689 = .ok (.aload_n 0, 1) := by decide +kernel
theorem dL_law_690 : decode cL_law 690 = .ok (.iload_n 3, 1) := by decide +kernel
theorem dL_law_691 : decode cL_law 691 = .ok (.iconst 2, 1) := by decide +kernel
theorem dL_law_692 : decode cL_law 692 = .ok (.iadd, 1) := by decide +kernel
theorem dL_law_693 : decode cL_law 693 = .ok (.iaload, 1) := by decide +kernel
theorem dL_law_694 : decode cL_law 694 = .ok (.invokevirtual 91, 3) := by decide +kernel
theorem dL_law_697 : decode cL_law 697 = .ok (.if_icmp .eq 171, 3) := by decide +kernel
theorem dL_law_700 : decode cL_law 700 = .ok (.iconst 0, 1) := by decide +kernel
theorem dL_law_701 : decode cL_law 701 = .ok (.ireturn, 1) := by decide +kernel
theorem dL_law_702 : decode cL_law 702 = .ok (.aload_n 1, 1) := by decide +kernel
theorem dL_law_703 : decode cL_law 703 = .ok (.aload_n 0, 1) := by decide +kernel
theorem dL_law_704 : decode cL_law 704 = .ok (.iload_n 3, 1) := by decide +kernel
theorem dL_law_705 : decode cL_law 705 = .ok (.iconst 1, 1) := by decide +kernel
theorem dL_law_706 : decode cL_law 706 = .ok (.iadd, 1) := by decide +kernel
theorem dL_law_707 : decode cL_law 707 = .ok (.iaload, 1) := by decide +kernel
theorem dL_law_708 : decode cL_law 708 = .ok (.aload_n 0, 1) := by decide +kernel
theorem dL_law_709 : decode cL_law 709 = .ok (.iload_n 3, 1) := by decide +kernel
theorem dL_law_710 : decode cL_law 710 = .ok (.iconst 2, 1) := by decide +kernel
theorem dL_law_711 : decode cL_law 711 = .ok (.iadd, 1) := by decide +kernel
theorem dL_law_712 : decode cL_law 712 = .ok (.iaload, 1) := by decide +kernel
theorem dL_law_713 : decode cL_law 713 = .ok (.invokevirtual 92, 3) := by decide +kernel
theorem dL_law_716 : decode cL_law 716 = .ok (.aload_n 2, 1) := by decide +kernel
theorem dL_law_717 : decode cL_law 717 = .ok (.aload_n 0, 1) := by decide +kernel
theorem dL_law_718 : decode cL_law 718 = .ok (.iload_n 3, 1) := by decide +kernel
theorem dL_law_719 : decode cL_law 719 = .ok (.iconst 1, 1) := by decide +kernel
theorem dL_law_720 : decode cL_law 720 = .ok (.iadd, 1) := by decide +kernel
theorem dL_law_721 : decode cL_law 721 = .ok (.iaload, 1) := by decide +kernel
theorem dL_law_722 : decode cL_law 722 = .ok (.aload_n 0, 1) := by decide +kernel
theorem dL_law_723 : decode cL_law 723 = .ok (.iload_n 3, 1) := by decide +kernel
theorem dL_law_724 : decode cL_law 724 = .ok (.iconst 2, 1) := by decide +kernel
theorem dL_law_725 : decode cL_law 725 = .ok (.iadd, 1) := by decide +kernel
theorem dL_law_726 : decode cL_law 726 = .ok (.iaload, 1) := by decide +kernel
theorem dL_law_727 : decode cL_law 727 = .ok (.invokevirtual 96, 3) := by decide +kernel
theorem dL_law_730 : decode cL_law 730 = .ok (.if_icmp .eq 138, 3) := by decide +kernel
theorem dL_law_733 : decode cL_law 733 = .ok (.iconst 0, 1) := by decide +kernel
theorem dL_law_734 : decode cL_law 734 = .ok (.ireturn, 1) := by decide +kernel
theorem dL_law_735 : decode cL_law 735 = .ok (.aload_n 1, 1) := by decide +kernel
theorem dL_law_736 : decode cL_law 736 = .ok (.aload_n 0, 1) := by decide +kernel
theorem dL_law_737 : decode cL_law 737 = .ok (.iload_n 3, 1) := by decide +kernel
theorem dL_law_738 : decode cL_law 738 = .ok (.iconst 1, 1) := by decide +kernel
theorem dL_law_739 : decode cL_law 739 = .ok (.iadd, 1) := by decide +kernel
theorem dL_law_740 : decode cL_law 740 = .ok (.iaload, 1) := by decide +kernel
theorem dL_law_741 : decode cL_law 741 = .ok (.aload_n 0, 1) := by decide +kernel
theorem dL_law_742 : decode cL_law 742 = .ok (.iload_n 3, 1) := by decide +kernel
theorem dL_law_743 : decode cL_law 743 = .ok (.iconst 2, 1) := by decide +kernel
theorem dL_law_744 : decode cL_law 744 = .ok (.iadd, 1) := by decide +kernel
theorem dL_law_745 : decode cL_law 745 = .ok (.iaload, 1) := by decide +kernel
theorem dL_law_746 : decode cL_law 746 = .ok (.aload_n 0, 1) := by decide +kernel
theorem dL_law_747 : decode cL_law 747 = .ok (.iload_n 3, 1) := by decide +kernel
theorem dL_law_748 : decode cL_law 748 = .ok (.iconst 3, 1) := by decide +kernel
theorem dL_law_749 : decode cL_law 749 = .ok (.iadd, 1) := by decide +kernel
theorem dL_law_750 : decode cL_law 750 = .ok (.iaload, 1) := by decide +kernel
theorem dL_law_751 : decode cL_law 751 = .ok (.invokevirtual 97, 3) := by decide +kernel
theorem dL_law_754 : decode cL_law 754 = .ok (.aload_n 2, 1) := by decide +kernel
theorem dL_law_755 : decode cL_law 755 = .ok (.aload_n 0, 1) := by decide +kernel
theorem dL_law_756 : decode cL_law 756 = .ok (.iload_n 3, 1) := by decide +kernel
theorem dL_law_757 : decode cL_law 757 = .ok (.iconst 1, 1) := by decide +kernel
theorem dL_law_758 : decode cL_law 758 = .ok (.iadd, 1) := by decide +kernel
theorem dL_law_759 : decode cL_law 759 = .ok (.iaload, 1) := by decide +kernel
theorem dL_law_760 : decode cL_law 760 = .ok (.aload_n 0, 1) := by decide +kernel
theorem dL_law_761 : decode cL_law 761 = .ok (.iload_n 3, 1) := by decide +kernel
theorem dL_law_762 : decode cL_law 762 = .ok (.iconst 2, 1) := by decide +kernel
theorem dL_law_763 : decode cL_law 763 = .ok (.iadd, 1) := by decide +kernel
theorem dL_law_764 : decode cL_law 764 = .ok (.iaload, 1) := by decide +kernel
theorem dL_law_765 : decode cL_law 765 = .ok (.aload_n 0, 1) := by decide +kernel
theorem dL_law_766 : decode cL_law 766 = .ok (.iload_n 3, 1) := by decide +kernel
theorem dL_law_767 : decode cL_law 767 = .ok (.iconst 3, 1) := by decide +kernel
theorem dL_law_768 : decode cL_law 768 = .ok (.iadd, 1) := by decide +kernel
theorem dL_law_769 : decode cL_law 769 = .ok (.iaload, 1) := by decide +kernel
theorem dL_law_770 : decode cL_law 770 = .ok (.invokevirtual 100, 3) := by decide +kernel
theorem dL_law_773 : decode cL_law 773 = .ok (.if_icmp .eq 95, 3) := by decide +kernel
theorem dL_law_776 : decode cL_law 776 = .ok (.iconst 0, 1) := by decide +kernel
theorem dL_law_777 : decode cL_law 777 = .ok (.ireturn, 1) := by decide +kernel
theorem dL_law_778 : decode cL_law 778 = .ok (.aload_n 1, 1) := by decide +kernel
theorem dL_law_779 : decode cL_law 779 = .ok (.aload_n 0, 1) := by decide +kernel
theorem dL_law_780 : decode cL_law 780 = .ok (.iload_n 3, 1) := by decide +kernel
theorem dL_law_781 : decode cL_law 781 = .ok (.iconst 1, 1) := by decide +kernel
theorem dL_law_782 : decode cL_law 782 = .ok (.iadd, 1) := by decide +kernel
theorem dL_law_783 : decode cL_law 783 = .ok (.iaload, 1) := by decide +kernel
theorem dL_law_784 : decode cL_law 784 = .ok (.aload_n 0, 1) := by decide +kernel
theorem dL_law_785 : decode cL_law 785 = .ok (.iload_n 3, 1) := by decide +kernel
theorem dL_law_786 : decode cL_law 786 = .ok (.iconst 2, 1) := by decide +kernel
theorem dL_law_787 : decode cL_law 787 = .ok (.iadd, 1) := by decide +kernel
theorem dL_law_788 : decode cL_law 788 = .ok (.iaload, 1) := by decide +kernel
theorem dL_law_789 : decode cL_law 789 = .ok (.invokevirtual 101, 3) := by decide +kernel
theorem dL_law_792 : decode cL_law 792 = .ok (.aload_n 2, 1) := by decide +kernel
theorem dL_law_793 : decode cL_law 793 = .ok (.aload_n 0, 1) := by decide +kernel
theorem dL_law_794 : decode cL_law 794 = .ok (.iload_n 3, 1) := by decide +kernel
theorem dL_law_795 : decode cL_law 795 = .ok (.iconst 1, 1) := by decide +kernel
theorem dL_law_796 : decode cL_law 796 = .ok (.iadd, 1) := by decide +kernel
theorem dL_law_797 : decode cL_law 797 = .ok (.iaload, 1) := by decide +kernel
theorem dL_law_798 : decode cL_law 798 = .ok (.aload_n 0, 1) := by decide +kernel
theorem dL_law_799 : decode cL_law 799 = .ok (.iload_n 3, 1) := by decide +kernel
theorem dL_law_800 : decode cL_law 800 = .ok (.iconst 2, 1) := by decide +kernel
theorem dL_law_801 : decode cL_law 801 = .ok (.iadd, 1) := by decide +kernel
theorem dL_law_802 : decode cL_law 802 = .ok (.iaload, 1) := by decide +kernel
theorem dL_law_803 : decode cL_law 803 = .ok (.invokevirtual 104, 3) := by decide +kernel
theorem dL_law_806 : decode cL_law 806 = .ok (.lcmp, 1) := by decide +kernel
theorem dL_law_807 : decode cL_law 807 = .ok (.ifCond .eq 61, 3) := by decide +kernel
theorem dL_law_810 : decode cL_law 810 = .ok (.iconst 0, 1) := by decide +kernel
theorem dL_law_811 : decode cL_law 811 = .ok (.ireturn, 1) := by decide +kernel
theorem dL_law_812 : decode cL_law 812 = .ok (.aload_n 1, 1) := by decide +kernel
theorem dL_law_813 : decode cL_law 813 = .ok (.aload_n 0, 1) := by decide +kernel
theorem dL_law_814 : decode cL_law 814 = .ok (.iload_n 3, 1) := by decide +kernel
theorem dL_law_815 : decode cL_law 815 = .ok (.iconst 1, 1) := by decide +kernel
theorem dL_law_816 : decode cL_law 816 = .ok (.iadd, 1) := by decide +kernel
theorem dL_law_817 : decode cL_law 817 = .ok (.iaload, 1) := by decide +kernel
theorem dL_law_818 : decode cL_law 818 = .ok (.aload_n 0, 1) := by decide +kernel
theorem dL_law_819 : decode cL_law 819 = .ok (.iload_n 3, 1) := by decide +kernel
theorem dL_law_820 : decode cL_law 820 = .ok (.iconst 2, 1) := by decide +kernel
theorem dL_law_821 : decode cL_law 821 = .ok (.iadd, 1) := by decide +kernel
theorem dL_law_822 : decode cL_law 822 = .ok (.iaload, 1) := by decide +kernel
theorem dL_law_823 : decode cL_law 823 = .ok (.invokevirtual 105, 3) := by decide +kernel
theorem dL_law_826 : decode cL_law 826 = .ok (.aload_n 2, 1) := by decide +kernel
theorem dL_law_827 : decode cL_law 827 = .ok (.aload_n 0, 1) := by decide +kernel
theorem dL_law_828 : decode cL_law 828 = .ok (.iload_n 3, 1) := by decide +kernel
theorem dL_law_829 : decode cL_law 829 = .ok (.iconst 1, 1) := by decide +kernel
theorem dL_law_830 : decode cL_law 830 = .ok (.iadd, 1) := by decide +kernel
theorem dL_law_831 : decode cL_law 831 = .ok (.iaload, 1) := by decide +kernel
theorem dL_law_832 : decode cL_law 832 = .ok (.aload_n 0, 1) := by decide +kernel
theorem dL_law_833 : decode cL_law 833 = .ok (.iload_n 3, 1) := by decide +kernel
theorem dL_law_834 : decode cL_law 834 = .ok (.iconst 2, 1) := by decide +kernel
theorem dL_law_835 : decode cL_law 835 = .ok (.iadd, 1) := by decide +kernel
theorem dL_law_836 : decode cL_law 836 = .ok (.iaload, 1) := by decide +kernel
theorem dL_law_837 : decode cL_law 837 = .ok (.invokevirtual 108, 3) := by decide +kernel
theorem dL_law_840 : decode cL_law 840 = .ok (.if_icmp .eq 28, 3) := by decide +kernel
theorem dL_law_843 : decode cL_law 843 = .ok (.iconst 0, 1) := by decide +kernel
theorem dL_law_844 : decode cL_law 844 = .ok (.ireturn, 1) := by decide +kernel
theorem dL_law_845 : decode cL_law 845 = .ok (.aload_n 1, 1) := by decide +kernel
theorem dL_law_846 : decode cL_law 846 = .ok (.aload_n 0, 1) := by decide +kernel
theorem dL_law_847 : decode cL_law 847 = .ok (.iload_n 3, 1) := by decide +kernel
theorem dL_law_848 : decode cL_law 848 = .ok (.iconst 1, 1) := by decide +kernel
theorem dL_law_849 : decode cL_law 849 = .ok (.iadd, 1) := by decide +kernel
theorem dL_law_850 : decode cL_law 850 = .ok (.iaload, 1) := by decide +kernel
theorem dL_law_851 : decode cL_law 851 = .ok (.invokevirtual 109, 3) := by decide +kernel
theorem dL_law_854 : decode cL_law 854 = .ok (.aload_n 2, 1) := by decide +kernel
theorem dL_law_855 : decode cL_law 855 = .ok (.aload_n 0, 1) := by decide +kernel
theorem dL_law_856 : decode cL_law 856 = .ok (.iload_n 3, 1) := by decide +kernel
theorem dL_law_857 : decode cL_law 857 = .ok (.iconst 1, 1) := by decide +kernel
theorem dL_law_858 : decode cL_law 858 = .ok (.iadd, 1) := by decide +kernel
theorem dL_law_859 : decode cL_law 859 = .ok (.iaload, 1) := by decide +kernel
theorem dL_law_860 : decode cL_law 860 = .ok (.invokevirtual 112, 3) := by decide +kernel
theorem dL_law_863 : decode cL_law 863 = .ok (.if_icmp .eq 5, 3) := by decide +kernel
theorem dL_law_866 : decode cL_law 866 = .ok (.iconst 0, 1) := by decide +kernel
theorem dL_law_867 : decode cL_law 867 = .ok (.ireturn, 1) := by decide +kernel
theorem dL_law_868 : decode cL_law 868 = .ok (.iinc 3 6, 3) := by decide +kernel
theorem dL_law_871 : decode cL_law 871 = .ok (.goto (-843), 3) := by decide +kernel
theorem dL_law_874 : decode cL_law 874 = .ok (.iconst 1, 1) := by decide +kernel
theorem dL_law_875 : decode cL_law 875 = .ok (.ireturn, 1) := by decide +kernel

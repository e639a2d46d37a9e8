theorem dX0_init_0 : decode cX0_init 0 = .ok (.aload_n 0, 1) := by decide +kernel
theorem dX0_init_1 : decode cX0_init 1 = .ok (.invokespecial 1, 3) := by decide +kernel
theorem dX0_init_4 : decode cX0_init 4 = .ok (.return_, 1) := by decide +kernel
theorem dX1_init_0 : decode cX1_init 0 = .ok (.aload_n 0, 1) := by decide +kernel
theorem dX1_init_1 : decode cX1_init 1 = .ok (.invokespecial 3, 3) := by decide +kernel
theorem dX1_init_4 : decode cX1_init 4 = .ok (.aload_n 0, 1) := by decide +kernel
theorem dX1_init_5 : decode cX1_init 5 = .ok (.iconst 4, 1) := by decide +kernel
theorem dX1_init_6 : decode cX1_init 6 = .ok (.anewarray 9, 3) := by decide +kernel
theorem dX1_init_9 : decode cX1_init 9 = .ok (.putfield 11, 3) := by decide +kernel
theorem dX1_init_12 : decode cX1_init 12 = .ok (.iconst 0, 1) := by decide +kernel
theorem dX1_init_13 : decode cX1_init 13 = .ok (.istore_n 1, 1) := by decide +kernel
theorem dX1_init_14 : decode cX1_init 14 = .ok (.iload_n 1, 1) := by decide +kernel
theorem dX1_init_15 : decode cX1_init 15 = .ok (.iconst 4, 1) := by decide +kernel
theorem dX1_init_16 : decode cX1_init 16 = .ok (.if_icmp .ge 22, 3) := by decide +kernel
theorem dX1_init_19 : decode cX1_init 19 = .ok (.aload_n 0, 1) := by decide +kernel
theorem dX1_init_20 : decode cX1_init 20 = .ok (.getfield 11, 3) := by decide +kernel
theorem dX1_init_23 : decode cX1_init 23 = .ok (.iload_n 1, 1) := by decide +kernel
theorem dX1_init_24 : decode cX1_init 24 = .ok (.new 9, 3) := by decide +kernel
theorem dX1_init_27 : decode cX1_init 27 = .ok (.dup, 1) := by decide +kernel
theorem dX1_init_28 : decode cX1_init 28 = .ok (.invokespecial 17, 3) := by decide +kernel
theorem dX1_init_31 : decode cX1_init 31 = .ok (.aastore, 1) := by decide +kernel
theorem dX1_init_32 : decode cX1_init 32 = .ok (.iinc 1 1, 3) := by decide +kernel
theorem dX1_init_35 : decode cX1_init 35 = .ok (.goto (-21), 3) := by decide +kernel
theorem dX1_init_38 : decode cX1_init 38 = .ok (.aload_n 0, 1) := by decide +kernel
theorem dX1_init_39 : decode cX1_init 39 = .ok (.bipush 8, 2) := by decide +kernel
theorem dX1_init_41 : decode cX1_init 41 = .ok (.anewarray 18, 3) := by decide +kernel
theorem dX1_init_44 : decode cX1_init 44 = .ok (.putfield 20, 3) := by decide +kernel
theorem dX1_init_47 : decode cX1_init 47 = .ok (.iconst 0, 1) := by decide +kernel
theorem dX1_init_48 : decode cX1_init 48 = .ok (.istore_n 1, 1) := by decide +kernel
theorem dX1_init_49 : decode cX1_init 49 = .ok (.iload_n 1, 1) := by decide +kernel
theorem dX1_init_50 : decode cX1_init 50 = .ok (.bipush 8, 2) := by decide +kernel
theorem dX1_init_52 : decode cX1_init 52 = .ok (.if_icmp .ge 22, 3) := by decide +kernel
theorem dX1_init_55 : decode cX1_init 55 = .ok (.aload_n 0, 1) := by decide +kernel
theorem dX1_init_56 : decode cX1_init 56 = .ok (.getfield 20, 3) := by decide +kernel
theorem dX1_init_59 : decode cX1_init 59 = .ok (.iload_n 1, 1) := by decide +kernel
theorem dX1_init_60 : decode cX1_init 60 = .ok (.new 18, 3) := by decide +kernel
theorem dX1_init_63 : decode cX1_init 63 = .ok (.dup, 1) := by decide +kernel
theorem dX1_init_64 : decode cX1_init 64 = .ok (.invokespecial 24, 3) := by decide +kernel
theorem dX1_init_67 : decode cX1_init 67 = .ok (.aastore, 1) := by decide +kernel
theorem dX1_init_68 : decode cX1_init 68 = .ok (.iinc 1 1, 3) := by decide +kernel
theorem dX1_init_71 : decode cX1_init 71 = .ok (.goto (-22), 3) := by decide +kernel
theorem dX1_init_74 : decode cX1_init 74 = .ok (.aload_n 0, 1) := by decide +kernel
theorem dX1_init_75 : decode cX1_init 75 = .ok (.sipush 500, 3) := by decide +kernel
theorem dX1_init_78 : decode cX1_init 78 = .ok (.putfield 25, 3) := by decide +kernel
theorem dX1_init_81 : decode cX1_init 81 = .ok (.aload_n 0, 1) := by decide +kernel
theorem dX1_init_82 : decode cX1_init 82 = .ok (.bipush 50, 2) := by decide +kernel
theorem dX1_init_84 : decode cX1_init 84 = .ok (.putfield 29, 3) := by decide +kernel
theorem dX1_init_87 : decode cX1_init 87 = .ok (.aload_n 0, 1) := by decide +kernel
theorem dX1_init_88 : decode cX1_init 88 = .ok (.bipush 100, 2) := by decide +kernel
theorem dX1_init_90 : decode cX1_init 90 = .ok (.putfield 32, 3) := by decide +kernel
theorem dX1_init_93 : decode cX1_init 93 = .ok (.return_, 1) := by decide +kernel
theorem dX1_clock_0 : decode cX1_clock 0 = .ok (.aload_n 0, 1) := by decide +kernel
theorem dX1_clock_1 : decode cX1_clock 1 = .ok (.getfield 48, 3) := by decide +kernel
theorem dX1_clock_4 : decode cX1_clock 4 = .ok (.bipush 24, 2) := by decide +kernel
theorem dX1_clock_6 : decode cX1_clock 6 = .ok (.irem, 1) := by decide +kernel
theorem dX1_clock_7 : decode cX1_clock 7 = .ok (.ireturn, 1) := by decide +kernel
theorem dX1_openRuns_0 : decode cX1_openRuns 0 = .ok (.iconst 0, 1) := by decide +kernel
theorem dX1_openRuns_1 : decode cX1_openRuns 1 = .ok (.istore_n 1, 1) := by decide +kernel
theorem dX1_openRuns_2 : decode cX1_openRuns 2 = .ok (.iconst 0, 1) := by decide +kernel
theorem dX1_openRuns_3 : decode cX1_openRuns 3 = .ok (.istore_n 2, 1) := by decide +kernel
theorem dX1_openRuns_4 : decode cX1_openRuns 4 = .ok (.iload_n 2, 1) := by decide +kernel
theorem dX1_openRuns_5 : decode cX1_openRuns 5 = .ok (.aload_n 0, 1) := by decide +kernel
theorem dX1_openRuns_6 : decode cX1_openRuns 6 = .ok (.getfield 42, 3) := by decide +kernel
theorem dX1_openRuns_9 : decode cX1_openRuns 9 = .ok (.if_icmp .ge 24, 3) := by decide +kernel
theorem dX1_openRuns_12 : decode cX1_openRuns 12 = .ok (.iload_n 1, 1) := by decide +kernel
theorem dX1_openRuns_13 : decode cX1_openRuns 13 = .ok (.aload_n 0, 1) := by decide +kernel
theorem dX1_openRuns_14 : decode cX1_openRuns 14 = .ok (.getfield 20, 3) := by decide +kernel
theorem dX1_openRuns_17 : decode cX1_openRuns 17 = .ok (.iload_n 2, 1) := by decide +kernel
theorem dX1_openRuns_18 : decode cX1_openRuns 18 = .ok (.aaload, 1) := by decide +kernel
theorem dX1_openRuns_19 : decode cX1_openRuns 19 = .ok (.getfield 78, 3) := by decide +kernel
theorem dX1_openRuns_22 : decode cX1_openRuns 22 = .ok (.invokestatic 82, 3) := by decide +kernel
theorem dX1_openRuns_25 : decode cX1_openRuns 25 = .ok (.iadd, 1) := by decide +kernel
theorem dX1_openRuns_26 : decode cX1_openRuns 26 = .ok (.istore_n 1, 1) := by decide +kernel
theorem dX1_openRuns_27 : decode cX1_openRuns 27 = .ok (.iinc 2 1, 3) := by decide +kernel
theorem dX1_openRuns_30 : decode cX1_openRuns 30 = .ok (.goto (-26), 3) := by decide +kernel
theorem dX1_openRuns_33 : decode cX1_openRuns 33 = .ok (.iload_n 1, 1) := by decide +kernel
theorem dX1_openRuns_34 : decode cX1_openRuns 34 = .ok (.ireturn, 1) := by decide +kernel
theorem dX1_depthByArea_0 : decode cX1_depthByArea 0 = .ok (.iconst 0, 1) := by decide +kernel
theorem dX1_depthByArea_1 : decode cX1_depthByArea 1 = .ok (.istore_n 1, 1) := by decide +kernel
theorem dX1_depthByArea_2 : decode cX1_depthByArea 2 = .ok (.iconst 0, 1) := by decide +kernel
theorem dX1_depthByArea_3 : decode cX1_depthByArea 3 = .ok (.istore_n 2, 1) := by decide +kernel
theorem dX1_depthByArea_4 : decode cX1_depthByArea 4 = .ok (.iload_n 2, 1) := by decide +kernel
theorem dX1_depthByArea_5 : decode cX1_depthByArea 5 = .ok (.aload_n 0, 1) := by decide +kernel
theorem dX1_depthByArea_6 : decode cX1_depthByArea 6 = .ok (.getfield 42, 3) := by decide +kernel
theorem dX1_depthByArea_9 : decode cX1_depthByArea 9 = .ok (.if_icmp .ge 34, 3) := by decide +kernel
theorem dX1_depthByArea_12 : decode cX1_depthByArea 12 = .ok (.iload_n 1, 1) := by decide +kernel
theorem dX1_depthByArea_13 : decode cX1_depthByArea 13 = .ok (.aload_n 0, 1) := by decide +kernel
theorem dX1_depthByArea_14 : decode cX1_depthByArea 14 = .ok (.getfield 20, 3) := by decide +kernel
theorem dX1_depthByArea_17 : decode cX1_depthByArea 17 = .ok (.iload_n 2, 1) := by decide +kernel
theorem dX1_depthByArea_18 : decode cX1_depthByArea 18 = .ok (.aaload, 1) := by decide +kernel
theorem dX1_depthByArea_19 : decode cX1_depthByArea 19 = .ok (.getfield 89, 3) := by decide +kernel
theorem dX1_depthByArea_22 : decode cX1_depthByArea 22 = .ok (.invokevirtual 93, 3) := by decide +kernel
theorem dX1_depthByArea_25 : decode cX1_depthByArea 25 = .ok (.aload_n 0, 1) := by decide +kernel
theorem dX1_depthByArea_26 : decode cX1_depthByArea 26 = .ok (.getfield 20, 3) := by decide +kernel
theorem dX1_depthByArea_29 : decode cX1_depthByArea 29 = .ok (.iload_n 2, 1) := by decide +kernel
theorem dX1_depthByArea_30 : decode cX1_depthByArea 30 = .ok (.aaload, 1) := by decide +kernel
theorem dX1_depthByArea_31 : decode cX1_depthByArea 31 = .ok (.getfield 99, 3) := by decide +kernel
theorem dX1_depthByArea_34 : decode cX1_depthByArea 34 = .ok (.imul, 1) := by decide +kernel
theorem dX1_depthByArea_35 : decode cX1_depthByArea 35 = .ok (.iadd, 1) := by decide +kernel
theorem dX1_depthByArea_36 : decode cX1_depthByArea 36 = .ok (.istore_n 1, 1) := by decide +kernel
theorem dX1_depthByArea_37 : decode cX1_depthByArea 37 = .ok (.iinc 2 1, 3) := by decide +kernel
theorem dX1_depthByArea_40 : decode cX1_depthByArea 40 = .ok (.goto (-36), 3) := by decide +kernel
theorem dX1_depthByArea_43 : decode cX1_depthByArea 43 = .ok (.iload_n 1, 1) := by decide +kernel
theorem dX1_depthByArea_44 : decode cX1_depthByArea 44 = .ok (.ireturn, 1) := by decide +kernel
theorem dX1_wholeArea_0 : decode cX1_wholeArea 0 = .ok (.iconst 0, 1) := by decide +kernel
theorem dX1_wholeArea_1 : decode cX1_wholeArea 1 = .ok (.istore_n 1, 1) := by decide +kernel
theorem dX1_wholeArea_2 : decode cX1_wholeArea 2 = .ok (.iconst 0, 1) := by decide +kernel
theorem dX1_wholeArea_3 : decode cX1_wholeArea 3 = .ok (.istore_n 2, 1) := by decide +kernel
theorem dX1_wholeArea_4 : decode cX1_wholeArea 4 = .ok (.iload_n 2, 1) := by decide +kernel
theorem dX1_wholeArea_5 : decode cX1_wholeArea 5 = .ok (.aload_n 0, 1) := by decide +kernel
theorem dX1_wholeArea_6 : decode cX1_wholeArea 6 = .ok (.getfield 42, 3) := by decide +kernel
theorem dX1_wholeArea_9 : decode cX1_wholeArea 9 = .ok (.if_icmp .ge 21, 3) := by decide +kernel
theorem dX1_wholeArea_12 : decode cX1_wholeArea 12 = .ok (.iload_n 1, 1) := by decide +kernel
theorem dX1_wholeArea_13 : decode cX1_wholeArea 13 = .ok (.aload_n 0, 1) := by decide +kernel
theorem dX1_wholeArea_14 : decode cX1_wholeArea 14 = .ok (.getfield 20, 3) := by decide +kernel
theorem dX1_wholeArea_17 : decode cX1_wholeArea 17 = .ok (.iload_n 2, 1) := by decide +kernel
theorem dX1_wholeArea_18 : decode cX1_wholeArea 18 = .ok (.aaload, 1) := by decide +kernel
theorem dX1_wholeArea_19 : decode cX1_wholeArea 19 = .ok (.getfield 99, 3) := by decide +kernel
theorem dX1_wholeArea_22 : decode cX1_wholeArea 22 = .ok (.iadd, 1) := by decide +kernel
theorem dX1_wholeArea_23 : decode cX1_wholeArea 23 = .ok (.istore_n 1, 1) := by decide +kernel
theorem dX1_wholeArea_24 : decode cX1_wholeArea 24 = .ok (.iinc 2 1, 3) := by decide +kernel
theorem dX1_wholeArea_27 : decode cX1_wholeArea 27 = .ok (.goto (-23), 3) := by decide +kernel
theorem dX1_wholeArea_30 : decode cX1_wholeArea 30 = .ok (.iload_n 1, 1) := by decide +kernel
theorem dX1_wholeArea_31 : decode cX1_wholeArea 31 = .ok (.ireturn, 1) := by decide +kernel
theorem dX1_passHour_0 : decode cX1_passHour 0 = .ok (.aload_n 0, 1) := by decide +kernel
theorem dX1_passHour_1 : decode cX1_passHour 1 = .ok (.dup, 1) := by decide +kernel
theorem dX1_passHour_2 : decode cX1_passHour 2 = .ok (.getfield 48, 3) := by decide +kernel
theorem dX1_passHour_5 : decode cX1_passHour 5 = .ok (.iconst 1, 1) := by decide +kernel
theorem dX1_passHour_6 : decode cX1_passHour 6 = .ok (.iadd, 1) := by decide +kernel
theorem dX1_passHour_7 : decode cX1_passHour 7 = .ok (.putfield 48, 3) := by decide +kernel
theorem dX1_passHour_10 : decode cX1_passHour 10 = .ok (.aload_n 0, 1) := by decide +kernel
theorem dX1_passHour_11 : decode cX1_passHour 11 = .ok (.aload_n 1, 1) := by decide +kernel
theorem dX1_passHour_12 : decode cX1_passHour 12 = .ok (.getfield 150, 3) := by decide +kernel
theorem dX1_passHour_15 : decode cX1_passHour 15 = .ok (.putfield 51, 3) := by decide +kernel
theorem dX1_passHour_18 : decode cX1_passHour 18 = .ok (.iconst 0, 1) := by decide +kernel
theorem dX1_passHour_19 : decode cX1_passHour 19 = .ok (.istore_n 2, 1) := by decide +kernel
theorem dX1_passHour_20 : decode cX1_passHour 20 = .ok (.iload_n 2, 1) := by decide +kernel
theorem dX1_passHour_21 : decode cX1_passHour 21 = .ok (.aload_n 0, 1) := by decide +kernel
theorem dX1_passHour_22 : decode cX1_passHour 22 = .ok (.getfield 42, 3) := by decide +kernel
theorem dX1_passHour_25 : decode cX1_passHour 25 = .ok (.if_icmp .ge 102, 3) := by decide +kernel
theorem dX1_passHour_28 : decode cX1_passHour 28 = .ok (.aload_n 0, 1) := by decide +kernel
theorem dX1_passHour_29 : decode cX1_passHour 29 = .ok (.getfield 20, 3) := by decide +kernel
theorem dX1_passHour_32 : decode cX1_passHour 32 = .ok (.iload_n 2, 1) := by decide +kernel
theorem dX1_passHour_33 : decode cX1_passHour 33 = .ok (.aaload, 1) := by decide +kernel
theorem dX1_passHour_34 : decode cX1_passHour 34 = .ok (.astore_n 3, 1) := by decide +kernel
theorem dX1_passHour_35 : decode cX1_passHour 35 = .ok (.aload_n 1, 1) := by decide +kernel
theorem dX1_passHour_36 : decode cX1_passHour 36 = .ok (.getfield 155, 3) := by decide +kernel
theorem dX1_passHour_39 : decode cX1_passHour 39 = .ok (.aload_n 3, 1) := by decide +kernel
theorem dX1_passHour_40 : decode cX1_passHour 40 = .ok (.getfield 158, 3) := by decide +kernel
theorem dX1_passHour_43 : decode cX1_passHour 43 = .ok (.iconst 2, 1) := by decide +kernel
theorem dX1_passHour_44 : decode cX1_passHour 44 = .ok (.idiv, 1) := by decide +kernel
theorem dX1_passHour_45 : decode cX1_passHour 45 = .ok (.isub, 1) := by decide +kernel
theorem dX1_passHour_46 : decode cX1_passHour 46 = .ok (.istore 4, 2) := by decide +kernel
theorem dX1_passHour_48 : decode cX1_passHour 48 = .ok (.aload_n 3, 1) := by decide +kernel
theorem dX1_passHour_49 : decode cX1_passHour 49 = .ok (.aload_n 1, 1) := by decide +kernel
theorem dX1_passHour_50 : decode cX1_passHour 50 = .ok (.iload 4, 2) := by decide +kernel
theorem dX1_passHour_52 : decode cX1_passHour 52 = .ok (.aload_n 0, 1) := by decide +kernel
theorem dX1_passHour_53 : decode cX1_passHour 53 = .ok (.invokevirtual 161, 3) := by decide +kernel
theorem dX1_passHour_56 : decode cX1_passHour 56 = .ok (.invokevirtual 164, 3) := by decide +kernel
theorem dX1_passHour_59 : decode cX1_passHour 59 = .ok (.aload_n 0, 1) := by decide +kernel
theorem dX1_passHour_60 : decode cX1_passHour 60 = .ok (.aload_n 3, 1) := by decide +kernel
theorem dX1_passHour_61 : decode cX1_passHour 61 = .ok (.iload 4, 2) := by decide +kernel
theorem dX1_passHour_63 : decode cX1_passHour 63 = .ok (.bipush 100, 2) := by decide +kernel
theorem dX1_passHour_65 : decode cX1_passHour 65 = .ok (.aload_n 1, 1) := by decide +kernel
theorem dX1_passHour_66 : decode cX1_passHour 66 = .ok (.getfield 168, 3) := by decide +kernel
theorem dX1_passHour_69 : decode cX1_passHour 69 = .ok (.isub, 1) := by decide +kernel
theorem dX1_passHour_70 : decode cX1_passHour 70 = .ok (.bipush 10, 2) := by decide +kernel
theorem dX1_passHour_72 : decode cX1_passHour 72 = .ok (.idiv, 1) := by decide +kernel
theorem dX1_passHour_73 : decode cX1_passHour 73 = .ok (.isub, 1) := by decide +kernel
theorem dX1_passHour_74 : decode cX1_passHour 74 = .ok (.invokevirtual 171, 3) := by decide +kernel
theorem dX1_passHour_77 : decode cX1_passHour 77 = .ok (.aload_n 3, 1) := by decide +kernel
theorem dX1_passHour_78 : decode cX1_passHour 78 = .ok (.aload_n 3, 1) := by decide +kernel
theorem dX1_passHour_79 : decode cX1_passHour 79 = .ok (.invokevirtual 105, 3) := by decide +kernel
theorem dX1_passHour_82 : decode cX1_passHour 82 = .ok (.putfield 175, 3) := by decide +kernel
theorem dX1_passHour_85 : decode cX1_passHour 85 = .ok (.aload_n 3, 1) := by decide +kernel
theorem dX1_passHour_86 : decode cX1_passHour 86 = .ok (.getfield 175, 3) := by decide +kernel
theorem dX1_passHour_89 : decode cX1_passHour 89 = .ok (.bipush 100, 2) := by decide +kernel
theorem dX1_passHour_91 : decode cX1_passHour 91 = .ok (.if_icmp .lt 30, 3) := by decide +kernel
theorem dX1_passHour_94 : decode cX1_passHour 94 = .ok (.aload_n 0, 1) := by decide +kernel
theorem dX1_passHour_95 : decode cX1_passHour 95 = .ok (.dup, 1) := by decide +kernel
theorem dX1_passHour_96 : decode cX1_passHour 96 = .ok (.getfield 63, 3) := by decide +kernel
theorem dX1_passHour_99 : decode cX1_passHour 99 = .ok (.aload_n 3, 1) := by decide +kernel
theorem dX1_passHour_100 : decode cX1_passHour 100 = .ok (.getfield 78, 3) := by decide +kernel
theorem dX1_passHour_103 : decode cX1_passHour 103 = .ok (.invokestatic 82, 3) := by decide +kernel
theorem dX1_passHour_106 : decode cX1_passHour 106 = .ok (.iadd, 1) := by decide +kernel
theorem dX1_passHour_107 : decode cX1_passHour 107 = .ok (.putfield 63, 3) := by decide +kernel
theorem dX1_passHour_110 : decode cX1_passHour 110 = .ok (.aload_n 3, 1) := by decide +kernel
theorem dX1_passHour_111 : decode cX1_passHour 111 = .ok (.iconst 0, 1) := by decide +kernel
theorem dX1_passHour_112 : decode cX1_passHour 112 = .ok (.putfield 78, 3) := by decide +kernel
theorem dX1_passHour_115 : decode cX1_passHour 115 = .ok (.aload_n 0, 1) := by decide +kernel
theorem dX1_passHour_116 : decode cX1_passHour 116 = .ok (.aload_n 3, 1) := by decide +kernel
theorem dX1_passHour_117 : decode cX1_passHour 117 = .ok (.invokevirtual 178, 3) := by decide +kernel
theorem dX1_passHour_120 : decode cX1_passHour 120 = .ok (.pop, 1) := by decide +kernel
theorem dX1_passHour_121 : decode cX1_passHour 121 = .ok (.iinc 2 1, 3) := by decide +kernel
theorem dX1_passHour_124 : decode cX1_passHour 124 = .ok (.goto (-104), 3) := by decide +kernel
theorem dX1_passHour_127 : decode cX1_passHour 127 = .ok (.aload_n 0, 1) := by decide +kernel
theorem dX1_passHour_128 : decode cX1_passHour 128 = .ok (.aload_n 1, 1) := by decide +kernel
theorem dX1_passHour_129 : decode cX1_passHour 129 = .ok (.getfield 150, 3) := by decide +kernel
theorem dX1_passHour_132 : decode cX1_passHour 132 = .ok (.invokevirtual 182, 3) := by decide +kernel
theorem dX1_passHour_135 : decode cX1_passHour 135 = .ok (.aload_n 0, 1) := by decide +kernel
theorem dX1_passHour_136 : decode cX1_passHour 136 = .ok (.invokevirtual 161, 3) := by decide +kernel
theorem dX1_passHour_139 : decode cX1_passHour 139 = .ok (.bipush 9, 2) := by decide +kernel
theorem dX1_passHour_141 : decode cX1_passHour 141 = .ok (.if_icmp .lt 16, 3) := by decide +kernel
theorem dX1_passHour_144 : decode cX1_passHour 144 = .ok (.aload_n 0, 1) := by decide +kernel
theorem dX1_passHour_145 : decode cX1_passHour 145 = .ok (.invokevirtual 161, 3) := by decide +kernel
theorem dX1_passHour_148 : decode cX1_passHour 148 = .ok (.bipush 16, 2) := by decide +kernel
theorem dX1_passHour_150 : decode cX1_passHour 150 = .ok (.if_icmp .gt 7, 3) := by decide +kernel
theorem dX1_passHour_153 : decode cX1_passHour 153 = .ok (.aload_n 0, 1) := by decide +kernel
theorem dX1_passHour_154 : decode cX1_passHour 154 = .ok (.invokevirtual 185, 3) := by decide +kernel
theorem dX1_passHour_157 : decode cX1_passHour 157 = .ok (.return_, 1) := by decide +kernel
theorem dX1_holdLifts_0 : decode cX1_holdLifts 0 = .ok (.iconst 0, 1) := by decide +kernel
theorem dX1_holdLifts_1 : decode cX1_holdLifts 1 = .ok (.istore_n 2, 1) := by decide +kernel
theorem dX1_holdLifts_2 : decode cX1_holdLifts 2 = .ok (.iload_n 2, 1) := by decide +kernel
theorem dX1_holdLifts_3 : decode cX1_holdLifts 3 = .ok (.aload_n 0, 1) := by decide +kernel
theorem dX1_holdLifts_4 : decode cX1_holdLifts 4 = .ok (.getfield 35, 3) := by decide +kernel
theorem dX1_holdLifts_7 : decode cX1_holdLifts 7 = .ok (.if_icmp .ge 32, 3) := by decide +kernel
theorem dX1_holdLifts_10 : decode cX1_holdLifts 10 = .ok (.iload_n 1, 1) := by decide +kernel
theorem dX1_holdLifts_11 : decode cX1_holdLifts 11 = .ok (.aload_n 0, 1) := by decide +kernel
theorem dX1_holdLifts_12 : decode cX1_holdLifts 12 = .ok (.getfield 11, 3) := by decide +kernel
theorem dX1_holdLifts_15 : decode cX1_holdLifts 15 = .ok (.iload_n 2, 1) := by decide +kernel
theorem dX1_holdLifts_16 : decode cX1_holdLifts 16 = .ok (.aaload, 1) := by decide +kernel
theorem dX1_holdLifts_17 : decode cX1_holdLifts 17 = .ok (.getfield 188, 3) := by decide +kernel
theorem dX1_holdLifts_20 : decode cX1_holdLifts 20 = .ok (.if_icmp .le 13, 3) := by decide +kernel
theorem dX1_holdLifts_23 : decode cX1_holdLifts 23 = .ok (.aload_n 0, 1) := by decide +kernel
theorem dX1_holdLifts_24 : decode cX1_holdLifts 24 = .ok (.getfield 11, 3) := by decide +kernel
theorem dX1_holdLifts_27 : decode cX1_holdLifts 27 = .ok (.iload_n 2, 1) := by decide +kernel
theorem dX1_holdLifts_28 : decode cX1_holdLifts 28 = .ok (.aaload, 1) := by decide +kernel
theorem dX1_holdLifts_29 : decode cX1_holdLifts 29 = .ok (.iconst 1, 1) := by decide +kernel
theorem dX1_holdLifts_30 : decode cX1_holdLifts 30 = .ok (.putfield 191, 3) := by decide +kernel
theorem dX1_holdLifts_33 : decode cX1_holdLifts 33 = .ok (.iinc 2 1, 3) := by decide +kernel
theorem dX1_holdLifts_36 : decode cX1_holdLifts 36 = .ok (.goto (-34), 3) := by decide +kernel
theorem dX1_holdLifts_39 : decode cX1_holdLifts 39 = .ok (.return_, 1) := by decide +kernel
theorem dX1_carrySkiers_0 : decode cX1_carrySkiers 0 = .ok (.aload_n 0, 1) := by decide +kernel
theorem dX1_carrySkiers_1 : decode cX1_carrySkiers 1 = .ok (.getfield 54, 3) := by decide +kernel
theorem dX1_carrySkiers_4 : decode cX1_carrySkiers 4 = .ok (.istore_n 1, 1) := by decide +kernel
theorem dX1_carrySkiers_5 : decode cX1_carrySkiers 5 = .ok (.iconst 0, 1) := by decide +kernel
theorem dX1_carrySkiers_6 : decode cX1_carrySkiers 6 = .ok (.istore_n 2, 1) := by decide +kernel
theorem dX1_carrySkiers_7 : decode cX1_carrySkiers 7 = .ok (.iload_n 2, 1) := by decide +kernel
theorem dX1_carrySkiers_8 : decode cX1_carrySkiers 8 = .ok (.aload_n 0, 1) := by decide +kernel
theorem dX1_carrySkiers_9 : decode cX1_carrySkiers 9 = .ok (.getfield 35, 3) := by decide +kernel
theorem dX1_carrySkiers_12 : decode cX1_carrySkiers 12 = .ok (.if_icmp .ge 86, 3) := by decide +kernel
theorem dX1_carrySkiers_15 : decode cX1_carrySkiers 15 = .ok (.aload_n 0, 1) := by decide +kernel
theorem dX1_carrySkiers_16 : decode cX1_carrySkiers 16 = .ok (.iload_n 2, 1) := by decide +kernel
theorem dX1_carrySkiers_17 : decode cX1_carrySkiers 17 = .ok (.invokevirtual 211, 3) := by decide +kernel
theorem dX1_carrySkiers_20 : decode cX1_carrySkiers 20 = .ok (.istore_n 3, 1) := by decide +kernel
theorem dX1_carrySkiers_21 : decode cX1_carrySkiers 21 = .ok (.aload_n 0, 1) := by decide +kernel
theorem dX1_carrySkiers_22 : decode cX1_carrySkiers 22 = .ok (.getfield 11, 3) := by decide +kernel
theorem dX1_carrySkiers_25 : decode cX1_carrySkiers 25 = .ok (.iload_n 2, 1) := by decide +kernel
theorem dX1_carrySkiers_26 : decode cX1_carrySkiers 26 = .ok (.aaload, 1) := by decide +kernel
theorem dX1_carrySkiers_27 : decode cX1_carrySkiers 27 = .ok (.invokevirtual 128, 3) := by decide +kernel
theorem dX1_carrySkiers_30 : decode cX1_carrySkiers 30 = .ok (.ifCond .eq 62, 3) := by decide +kernel
theorem dX1_carrySkiers_33 : decode cX1_carrySkiers 33 = .ok (.iload_n 3, 1) := by decide +kernel
theorem dX1_carrySkiers_34 : decode cX1_carrySkiers 34 = .ok (.ifCond .le 58, 3) := by decide +kernel
theorem dX1_carrySkiers_37 : decode cX1_carrySkiers 37 = .ok (.aload_n 0, 1) := by decide +kernel
theorem dX1_carrySkiers_38 : decode cX1_carrySkiers 38 = .ok (.getfield 11, 3) := by decide +kernel
theorem dX1_carrySkiers_41 : decode cX1_carrySkiers 41 = .ok (.iload_n 2, 1) := by decide +kernel
theorem dX1_carrySkiers_42 : decode cX1_carrySkiers 42 = .ok (.aaload, 1) := by decide +kernel
theorem dX1_carrySkiers_43 : decode cX1_carrySkiers 43 = .ok (.getfield 214, 3) := by decide +kernel
theorem dX1_carrySkiers_46 : decode cX1_carrySkiers 46 = .ok (.iload_n 1, 1) := by decide +kernel
theorem dX1_carrySkiers_47 : decode cX1_carrySkiers 47 = .ok (.invokestatic 194, 3) := by decide +kernel
theorem dX1_carrySkiers_50 : decode cX1_carrySkiers 50 = .ok (.istore 4, 2) := by decide +kernel
theorem dX1_carrySkiers_52 : decode cX1_carrySkiers 52 = .ok (.iload_n 1, 1) := by decide +kernel
theorem dX1_carrySkiers_53 : decode cX1_carrySkiers 53 = .ok (.iload 4, 2) := by decide +kernel
theorem dX1_carrySkiers_55 : decode cX1_carrySkiers 55 = .ok (.isub, 1) := by decide +kernel
theorem dX1_carrySkiers_56 : decode cX1_carrySkiers 56 = .ok (.istore_n 1, 1) := by decide +kernel
theorem dX1_carrySkiers_57 : decode cX1_carrySkiers 57 = .ok (.aload_n 0, 1) := by decide +kernel
theorem dX1_carrySkiers_58 : decode cX1_carrySkiers 58 = .ok (.dup, 1) := by decide +kernel
theorem dX1_carrySkiers_59 : decode cX1_carrySkiers 59 = .ok (.getfield 69, 3) := by decide +kernel
theorem dX1_carrySkiers_62 : decode cX1_carrySkiers 62 = .ok (.iload 4, 2) := by decide +kernel
theorem dX1_carrySkiers_64 : decode cX1_carrySkiers 64 = .ok (.iadd, 1) := by decide +kernel
theorem dX1_carrySkiers_65 : decode cX1_carrySkiers 65 = .ok (.putfield 69, 3) := by decide +kernel
theorem dX1_carrySkiers_68 : decode cX1_carrySkiers 68 = .ok (.aload_n 0, 1) := by decide +kernel
theorem dX1_carrySkiers_69 : decode cX1_carrySkiers 69 = .ok (.getfield 11, 3) := by decide +kernel
theorem dX1_carrySkiers_72 : decode cX1_carrySkiers 72 = .ok (.iload_n 2, 1) := by decide +kernel
theorem dX1_carrySkiers_73 : decode cX1_carrySkiers 73 = .ok (.aaload, 1) := by decide +kernel
theorem dX1_carrySkiers_74 : decode cX1_carrySkiers 74 = .ok (.dup, 1) := by decide +kernel
theorem dX1_carrySkiers_75 : decode cX1_carrySkiers 75 = .ok (.getfield 217, 3) := by decide +kernel
theorem dX1_carrySkiers_78 : decode cX1_carrySkiers 78 = .ok (.iload 4, 2) := by decide +kernel
theorem dX1_carrySkiers_80 : decode cX1_carrySkiers 80 = .ok (.iadd, 1) := by decide +kernel
theorem dX1_carrySkiers_81 : decode cX1_carrySkiers 81 = .ok (.putfield 217, 3) := by decide +kernel
theorem dX1_carrySkiers_84 : decode cX1_carrySkiers 84 = .ok (.aload_n 0, 1) := by decide +kernel
theorem dX1_carrySkiers_85 : decode cX1_carrySkiers 85 = .ok (.iload_n 2, 1) := by decide +kernel
theorem dX1_carrySkiers_86 : decode cX1_carrySkiers 86 = .ok (.iload 4, 2) := by decide +kernel
theorem dX1_carrySkiers_88 : decode cX1_carrySkiers 88 = .ok (.iload_n 3, 1) := by decide +kernel
theorem dX1_carrySkiers_89 : decode cX1_carrySkiers 89 = .ok (.invokevirtual 218, 3) := by decide +kernel
theorem dX1_carrySkiers_92 : decode cX1_carrySkiers 92 = .ok (.iinc 2 1, 3) := by decide +kernel
theorem dX1_carrySkiers_95 : decode cX1_carrySkiers 95 = .ok (.goto (-88), 3) := by decide +kernel
theorem dX1_carrySkiers_98 : decode cX1_carrySkiers 98 = .ok (.aload_n 0, 1) := by decide +kernel
theorem dX1_carrySkiers_99 : decode cX1_carrySkiers 99 = .ok (.dup, 1) := by decide +kernel
theorem dX1_carrySkiers_100 : decode cX1_carrySkiers 100 = .ok (.getfield 72, 3) := by decide +kernel
theorem dX1_carrySkiers_103 : decode cX1_carrySkiers 103 = .ok (.iload_n 1, 1) := by decide +kernel
theorem dX1_carrySkiers_104 : decode cX1_carrySkiers 104 = .ok (.iadd, 1) := by decide +kernel
theorem dX1_carrySkiers_105 : decode cX1_carrySkiers 105 = .ok (.putfield 72, 3) := by decide +kernel
theorem dX1_carrySkiers_108 : decode cX1_carrySkiers 108 = .ok (.return_, 1) := by decide +kernel
theorem dX2_init_0 : decode cX2_init 0 = .ok (.aload_n 0, 1) := by decide +kernel
theorem dX2_init_1 : decode cX2_init 1 = .ok (.invokespecial 3, 3) := by decide +kernel
theorem dX2_init_4 : decode cX2_init 4 = .ok (.aload_n 0, 1) := by decide +kernel
theorem dX2_init_5 : decode cX2_init 5 = .ok (.new 9, 3) := by decide +kernel
theorem dX2_init_8 : decode cX2_init 8 = .ok (.dup, 1) := by decide +kernel
theorem dX2_init_9 : decode cX2_init 9 = .ok (.invokespecial 11, 3) := by decide +kernel
theorem dX2_init_12 : decode cX2_init 12 = .ok (.putfield 12, 3) := by decide +kernel
theorem dX2_init_15 : decode cX2_init 15 = .ok (.aload_n 0, 1) := by decide +kernel
theorem dX2_init_16 : decode cX2_init 16 = .ok (.iconst (-1), 1) := by decide +kernel
theorem dX2_init_17 : decode cX2_init 17 = .ok (.putfield 18, 3) := by decide +kernel
theorem dX2_init_20 : decode cX2_init 20 = .ok (.return_, 1) := by decide +kernel
theorem dX3_init_0 : decode cX3_init 0 = .ok (.aload_n 0, 1) := by decide +kernel
theorem dX3_init_1 : decode cX3_init 1 = .ok (.invokespecial 3, 3) := by decide +kernel
theorem dX3_init_4 : decode cX3_init 4 = .ok (.aload_n 0, 1) := by decide +kernel
theorem dX3_init_5 : decode cX3_init 5 = .ok (.bipush 8, 2) := by decide +kernel
theorem dX3_init_7 : decode cX3_init 7 = .ok (.newarray .int, 2) := by decide +kernel
theorem dX3_init_9 : decode cX3_init 9 = .ok (.putfield 9, 3) := by decide +kernel
theorem dX3_init_12 : decode cX3_init 12 = .ok (.aload_n 0, 1) := by decide +kernel
theorem dX3_init_13 : decode cX3_init 13 = .ok (.bipush 8, 2) := by decide +kernel
theorem dX3_init_15 : decode cX3_init 15 = .ok (.newarray .int, 2) := by decide +kernel
theorem dX3_init_17 : decode cX3_init 17 = .ok (.putfield 15, 3) := by decide +kernel
theorem dX3_init_20 : decode cX3_init 20 = .ok (.aload_n 0, 1) := by decide +kernel
theorem dX3_init_21 : decode cX3_init 21 = .ok (.bipush 8, 2) := by decide +kernel
theorem dX3_init_23 : decode cX3_init 23 = .ok (.newarray .int, 2) := by decide +kernel
theorem dX3_init_25 : decode cX3_init 25 = .ok (.putfield 18, 3) := by decide +kernel
theorem dX3_init_28 : decode cX3_init 28 = .ok (.return_, 1) := by decide +kernel
theorem dX4_init_0 : decode cX4_init 0 = .ok (.aload_n 0, 1) := by decide +kernel
theorem dX4_init_1 : decode cX4_init 1 = .ok (.invokespecial 1, 3) := by decide +kernel
theorem dX4_init_4 : decode cX4_init 4 = .ok (.return_, 1) := by decide +kernel
theorem dX4_tell_0 : decode cX4_tell 0 = .ok (.aload_n 0, 1) := by decide +kernel
theorem dX4_tell_1 : decode cX4_tell 1 = .ok (.iload_n 1, 1) := by decide +kernel
theorem dX4_tell_2 : decode cX4_tell 2 = .ok (.putfield 7, 3) := by decide +kernel
theorem dX4_tell_5 : decode cX4_tell 5 = .ok (.aload_n 0, 1) := by decide +kernel
theorem dX4_tell_6 : decode cX4_tell 6 = .ok (.iload_n 2, 1) := by decide +kernel
theorem dX4_tell_7 : decode cX4_tell 7 = .ok (.putfield 13, 3) := by decide +kernel
theorem dX4_tell_10 : decode cX4_tell 10 = .ok (.aload_n 0, 1) := by decide +kernel
theorem dX4_tell_11 : decode cX4_tell 11 = .ok (.iload_n 3, 1) := by decide +kernel
theorem dX4_tell_12 : decode cX4_tell 12 = .ok (.putfield 16, 3) := by decide +kernel
theorem dX4_tell_15 : decode cX4_tell 15 = .ok (.aload_n 0, 1) := by decide +kernel
theorem dX4_tell_16 : decode cX4_tell 16 = .ok (.iload 4, 2) := by decide +kernel
theorem dX4_tell_18 : decode cX4_tell 18 = .ok (.putfield 19, 3) := by decide +kernel
theorem dX4_tell_21 : decode cX4_tell 21 = .ok (.aload_n 0, 1) := by decide +kernel
theorem dX4_tell_22 : decode cX4_tell 22 = .ok (.iload 5, 2) := by decide +kernel
theorem dX4_tell_24 : decode cX4_tell 24 = .ok (.putfield 22, 3) := by decide +kernel
theorem dX4_tell_27 : decode cX4_tell 27 = .ok (.return_, 1) := by decide +kernel
theorem dX5_init_0 : decode cX5_init 0 = .ok (.aload_n 0, 1) := by decide +kernel
theorem dX5_init_1 : decode cX5_init 1 = .ok (.invokespecial 1, 3) := by decide +kernel
theorem dX5_init_4 : decode cX5_init 4 = .ok (.aload_n 0, 1) := by decide +kernel
theorem dX5_init_5 : decode cX5_init 5 = .ok (.new 7, 3) := by decide +kernel
theorem dX5_init_8 : decode cX5_init 8 = .ok (.dup, 1) := by decide +kernel
theorem dX5_init_9 : decode cX5_init 9 = .ok (.invokespecial 9, 3) := by decide +kernel
theorem dX5_init_12 : decode cX5_init 12 = .ok (.putfield 10, 3) := by decide +kernel
theorem dX5_init_15 : decode cX5_init 15 = .ok (.aload_n 0, 1) := by decide +kernel
theorem dX5_init_16 : decode cX5_init 16 = .ok (.new 7, 3) := by decide +kernel
theorem dX5_init_19 : decode cX5_init 19 = .ok (.dup, 1) := by decide +kernel
theorem dX5_init_20 : decode cX5_init 20 = .ok (.invokespecial 9, 3) := by decide +kernel
theorem dX5_init_23 : decode cX5_init 23 = .ok (.putfield 16, 3) := by decide +kernel
theorem dX5_init_26 : decode cX5_init 26 = .ok (.aload_n 0, 1) := by decide +kernel
theorem dX5_init_27 : decode cX5_init 27 = .ok (.new 7, 3) := by decide +kernel
theorem dX5_init_30 : decode cX5_init 30 = .ok (.dup, 1) := by decide +kernel
theorem dX5_init_31 : decode cX5_init 31 = .ok (.invokespecial 9, 3) := by decide +kernel
theorem dX5_init_34 : decode cX5_init 34 = .ok (.putfield 19, 3) := by decide +kernel
theorem dX5_init_37 : decode cX5_init 37 = .ok (.aload_n 0, 1) := by decide +kernel
theorem dX5_init_38 : decode cX5_init 38 = .ok (.new 22, 3) := by decide +kernel
theorem dX5_init_41 : decode cX5_init 41 = .ok (.dup, 1) := by decide +kernel
theorem dX5_init_42 : decode cX5_init 42 = .ok (.invokespecial 24, 3) := by decide +kernel
theorem dX5_init_45 : decode cX5_init 45 = .ok (.putfield 25, 3) := by decide +kernel
theorem dX5_init_48 : decode cX5_init 48 = .ok (.return_, 1) := by decide +kernel
theorem dX5_lift_0 : decode cX5_lift 0 = .ok (.iload_n 1, 1) := by decide +kernel
theorem dX5_lift_1 : decode cX5_lift 1 = .ok (.bipush 10, 2) := by decide +kernel
theorem dX5_lift_3 : decode cX5_lift 3 = .ok (.sipush 999, 3) := by decide +kernel
theorem dX5_lift_6 : decode cX5_lift 6 = .ok (.invokestatic 29, 3) := by decide +kernel
theorem dX5_lift_9 : decode cX5_lift 9 = .ok (.iload_n 2, 1) := by decide +kernel
theorem dX5_lift_10 : decode cX5_lift 10 = .ok (.iconst 3, 1) := by decide +kernel
theorem dX5_lift_11 : decode cX5_lift 11 = .ok (.bipush 9, 2) := by decide +kernel
theorem dX5_lift_13 : decode cX5_lift 13 = .ok (.invokestatic 29, 3) := by decide +kernel
theorem dX5_lift_16 : decode cX5_lift 16 = .ok (.aload_n 0, 1) := by decide +kernel
theorem dX5_lift_17 : decode cX5_lift 17 = .ok (.getfield 10, 3) := by decide +kernel
theorem dX5_lift_20 : decode cX5_lift 20 = .ok (.getfield 33, 3) := by decide +kernel
theorem dX5_lift_23 : decode cX5_lift 23 = .ok (.iconst 4, 1) := by decide +kernel
theorem dX5_lift_24 : decode cX5_lift 24 = .ok (.if_icmp .lt 13, 3) := by decide +kernel
theorem dX5_lift_27 : decode cX5_lift 27 = .ok (.new 37, 3) := by decide +kernel
theorem dX5_lift_30 : decode cX5_lift 30 = .ok (.dup, 1) := by decide +kernel
theorem dX5_lift_31 : decode cX5_lift 31 = .ok (.ldc 39, 2) := by decide +kernel
theorem dX5_lift_33 : decode cX5_lift 33 = .ok (.invokespecial 41, 3) := by decide +kernel
theorem dX5_lift_36 : decode cX5_lift 36 = .ok (.athrow, 1) := by decide +kernel
theorem dX5_lift_37 : decode cX5_lift 37 = .ok (.aload_n 0, 1) := by decide +kernel
theorem dX5_lift_38 : decode cX5_lift 38 = .ok (.getfield 10, 3) := by decide +kernel
theorem dX5_lift_41 : decode cX5_lift 41 = .ok (.getfield 33, 3) := by decide +kernel
theorem dX5_lift_44 : decode cX5_lift 44 = .ok (.istore_n 3, 1) := by decide +kernel
theorem dX5_lift_45 : decode cX5_lift 45 = .ok (.aload_n 0, 1) := by decide +kernel
theorem dX5_lift_46 : decode cX5_lift 46 = .ok (.getfield 10, 3) := by decide +kernel
theorem dX5_lift_49 : decode cX5_lift 49 = .ok (.getfield 44, 3) := by decide +kernel
theorem dX5_lift_52 : decode cX5_lift 52 = .ok (.iload_n 3, 1) := by decide +kernel
theorem dX5_lift_53 : decode cX5_lift 53 = .ok (.aaload, 1) := by decide +kernel
theorem dX5_lift_54 : decode cX5_lift 54 = .ok (.iload_n 1, 1) := by decide +kernel
theorem dX5_lift_55 : decode cX5_lift 55 = .ok (.putfield 48, 3) := by decide +kernel
theorem dX5_lift_58 : decode cX5_lift 58 = .ok (.aload_n 0, 1) := by decide +kernel
theorem dX5_lift_59 : decode cX5_lift 59 = .ok (.getfield 10, 3) := by decide +kernel
theorem dX5_lift_62 : decode cX5_lift 62 = .ok (.getfield 44, 3) := by decide +kernel
theorem dX5_lift_65 : decode cX5_lift 65 = .ok (.iload_n 3, 1) := by decide +kernel
theorem dX5_lift_66 : decode cX5_lift 66 = .ok (.aaload, 1) := by decide +kernel
theorem dX5_lift_67 : decode cX5_lift 67 = .ok (.iload_n 2, 1) := by decide +kernel
theorem dX5_lift_68 : decode cX5_lift 68 = .ok (.putfield 53, 3) := by decide +kernel
theorem dX5_lift_71 : decode cX5_lift 71 = .ok (.aload_n 0, 1) := by decide +kernel
theorem dX5_lift_72 : decode cX5_lift 72 = .ok (.getfield 10, 3) := by decide +kernel
theorem dX5_lift_75 : decode cX5_lift 75 = .ok (.dup, 1) := by decide +kernel
theorem dX5_lift_76 : decode cX5_lift 76 = .ok (.getfield 33, 3) := by decide +kernel
theorem dX5_lift_79 : decode cX5_lift 79 = .ok (.iconst 1, 1) := by decide +kernel
theorem dX5_lift_80 : decode cX5_lift 80 = .ok (.iadd, 1) := by decide +kernel
theorem dX5_lift_81 : decode cX5_lift 81 = .ok (.putfield 33, 3) := by decide +kernel
theorem dX5_lift_84 : decode cX5_lift 84 = .ok (.iload_n 3, 1) := by decide +kernel
theorem dX5_lift_85 : decode cX5_lift 85 = .ok (.ireturn, 1) := by decide +kernel
theorem dX5_run_0 : decode cX5_run 0 = .ok (.aload_n 0, 1) := by decide +kernel
theorem dX5_run_1 : decode cX5_run 1 = .ok (.iload_n 1, 1) := by decide +kernel
theorem dX5_run_2 : decode cX5_run 2 = .ok (.invokevirtual 56, 3) := by decide +kernel
theorem dX5_run_5 : decode cX5_run 5 = .ok (.iload_n 2, 1) := by decide +kernel
theorem dX5_run_6 : decode cX5_run 6 = .ok (.iconst 0, 1) := by decide +kernel
theorem dX5_run_7 : decode cX5_run 7 = .ok (.bipush 30, 2) := by decide +kernel
theorem dX5_run_9 : decode cX5_run 9 = .ok (.invokestatic 29, 3) := by decide +kernel
theorem dX5_run_12 : decode cX5_run 12 = .ok (.iload_n 3, 1) := by decide +kernel
theorem dX5_run_13 : decode cX5_run 13 = .ok (.iconst 5, 1) := by decide +kernel
theorem dX5_run_14 : decode cX5_run 14 = .ok (.bipush 45, 2) := by decide +kernel
theorem dX5_run_16 : decode cX5_run 16 = .ok (.invokestatic 29, 3) := by decide +kernel
theorem dX5_run_19 : decode cX5_run 19 = .ok (.iload 4, 2) := by decide +kernel
theorem dX5_run_21 : decode cX5_run 21 = .ok (.iconst 0, 1) := by decide +kernel
theorem dX5_run_22 : decode cX5_run 22 = .ok (.iconst 3, 1) := by decide +kernel
theorem dX5_run_23 : decode cX5_run 23 = .ok (.invokestatic 29, 3) := by decide +kernel
theorem dX5_run_26 : decode cX5_run 26 = .ok (.iload 5, 2) := by decide +kernel
theorem dX5_run_28 : decode cX5_run 28 = .ok (.iconst 1, 1) := by decide +kernel
theorem dX5_run_29 : decode cX5_run 29 = .ok (.bipush 9, 2) := by decide +kernel
theorem dX5_run_31 : decode cX5_run 31 = .ok (.invokestatic 29, 3) := by decide +kernel
theorem dX5_run_34 : decode cX5_run 34 = .ok (.aload_n 0, 1) := by decide +kernel
theorem dX5_run_35 : decode cX5_run 35 = .ok (.getfield 10, 3) := by decide +kernel
theorem dX5_run_38 : decode cX5_run 38 = .ok (.getfield 60, 3) := by decide +kernel
theorem dX5_run_41 : decode cX5_run 41 = .ok (.bipush 8, 2) := by decide +kernel
theorem dX5_run_43 : decode cX5_run 43 = .ok (.if_icmp .lt 13, 3) := by decide +kernel
theorem dX5_run_46 : decode cX5_run 46 = .ok (.new 37, 3) := by decide +kernel
theorem dX5_run_49 : decode cX5_run 49 = .ok (.dup, 1) := by decide +kernel
theorem dX5_run_50 : decode cX5_run 50 = .ok (.ldc 63, 2) := by decide +kernel
theorem dX5_run_52 : decode cX5_run 52 = .ok (.invokespecial 41, 3) := by decide +kernel
theorem dX5_run_55 : decode cX5_run 55 = .ok (.athrow, 1) := by decide +kernel
theorem dX5_run_56 : decode cX5_run 56 = .ok (.aload_n 0, 1) := by decide +kernel
theorem dX5_run_57 : decode cX5_run 57 = .ok (.getfield 10, 3) := by decide +kernel
theorem dX5_run_60 : decode cX5_run 60 = .ok (.getfield 60, 3) := by decide +kernel
theorem dX5_run_63 : decode cX5_run 63 = .ok (.istore 6, 2) := by decide +kernel
theorem dX5_run_65 : decode cX5_run 65 = .ok (.aload_n 0, 1) := by decide +kernel
theorem dX5_run_66 : decode cX5_run 66 = .ok (.getfield 10, 3) := by decide +kernel
theorem dX5_run_69 : decode cX5_run 69 = .ok (.getfield 65, 3) := by decide +kernel
theorem dX5_run_72 : decode cX5_run 72 = .ok (.iload 6, 2) := by decide +kernel
theorem dX5_run_74 : decode cX5_run 74 = .ok (.aaload, 1) := by decide +kernel
theorem dX5_run_75 : decode cX5_run 75 = .ok (.astore 7, 2) := by decide +kernel
theorem dX5_run_77 : decode cX5_run 77 = .ok (.aload 7, 2) := by decide +kernel
theorem dX5_run_79 : decode cX5_run 79 = .ok (.iload_n 1, 1) := by decide +kernel
theorem dX5_run_80 : decode cX5_run 80 = .ok (.putfield 69, 3) := by decide +kernel
theorem dX5_run_83 : decode cX5_run 83 = .ok (.aload 7, 2) := by decide +kernel
theorem dX5_run_85 : decode cX5_run 85 = .ok (.iload_n 2, 1) := by decide +kernel
theorem dX5_run_86 : decode cX5_run 86 = .ok (.putfield 74, 3) := by decide +kernel
theorem dX5_run_89 : decode cX5_run 89 = .ok (.aload 7, 2) := by decide +kernel
theorem dX5_run_91 : decode cX5_run 91 = .ok (.iload_n 3, 1) := by decide +kernel
theorem dX5_run_92 : decode cX5_run 92 = .ok (.putfield 77, 3) := by decide +kernel
theorem dX5_run_95 : decode cX5_run 95 = .ok (.aload 7, 2) := by decide +kernel
theorem dX5_run_97 : decode cX5_run 97 = .ok (.iload 4, 2) := by decide +kernel
theorem dX5_run_99 : decode cX5_run 99 = .ok (.putfield 80, 3) := by decide +kernel
theorem dX5_run_102 : decode cX5_run 102 = .ok (.aload 7, 2) := by decide +kernel
theorem dX5_run_104 : decode cX5_run 104 = .ok (.iload 5, 2) := by decide +kernel
theorem dX5_run_106 : decode cX5_run 106 = .ok (.putfield 83, 3) := by decide +kernel
theorem dX5_run_109 : decode cX5_run 109 = .ok (.aload_n 0, 1) := by decide +kernel
theorem dX5_run_110 : decode cX5_run 110 = .ok (.getfield 10, 3) := by decide +kernel
theorem dX5_run_113 : decode cX5_run 113 = .ok (.dup, 1) := by decide +kernel
theorem dX5_run_114 : decode cX5_run 114 = .ok (.getfield 60, 3) := by decide +kernel
theorem dX5_run_117 : decode cX5_run 117 = .ok (.iconst 1, 1) := by decide +kernel
theorem dX5_run_118 : decode cX5_run 118 = .ok (.iadd, 1) := by decide +kernel
theorem dX5_run_119 : decode cX5_run 119 = .ok (.putfield 60, 3) := by decide +kernel
theorem dX5_run_122 : decode cX5_run 122 = .ok (.iload 6, 2) := by decide +kernel
theorem dX5_run_124 : decode cX5_run 124 = .ok (.ireturn, 1) := by decide +kernel
theorem dX5_turn_0 : decode cX5_turn 0 = .ok (.aload_n 0, 1) := by decide +kernel
theorem dX5_turn_1 : decode cX5_turn 1 = .ok (.iload_n 1, 1) := by decide +kernel
theorem dX5_turn_2 : decode cX5_turn 2 = .ok (.invokevirtual 56, 3) := by decide +kernel
theorem dX5_turn_5 : decode cX5_turn 5 = .ok (.aload_n 0, 1) := by decide +kernel
theorem dX5_turn_6 : decode cX5_turn 6 = .ok (.getfield 10, 3) := by decide +kernel
theorem dX5_turn_9 : decode cX5_turn 9 = .ok (.getfield 44, 3) := by decide +kernel
theorem dX5_turn_12 : decode cX5_turn 12 = .ok (.iload_n 1, 1) := by decide +kernel
theorem dX5_turn_13 : decode cX5_turn 13 = .ok (.aaload, 1) := by decide +kernel
theorem dX5_turn_14 : decode cX5_turn 14 = .ok (.getfield 86, 3) := by decide +kernel
theorem dX5_turn_17 : decode cX5_turn 17 = .ok (.istore_n 3, 1) := by decide +kernel
theorem dX5_turn_18 : decode cX5_turn 18 = .ok (.aload_n 0, 1) := by decide +kernel
theorem dX5_turn_19 : decode cX5_turn 19 = .ok (.getfield 10, 3) := by decide +kernel
theorem dX5_turn_22 : decode cX5_turn 22 = .ok (.getfield 44, 3) := by decide +kernel
theorem dX5_turn_25 : decode cX5_turn 25 = .ok (.iload_n 1, 1) := by decide +kernel
theorem dX5_turn_26 : decode cX5_turn 26 = .ok (.aaload, 1) := by decide +kernel
theorem dX5_turn_27 : decode cX5_turn 27 = .ok (.iload_n 2, 1) := by decide +kernel
theorem dX5_turn_28 : decode cX5_turn 28 = .ok (.putfield 86, 3) := by decide +kernel
theorem dX5_turn_31 : decode cX5_turn 31 = .ok (.iload_n 3, 1) := by decide +kernel
theorem dX5_turn_32 : decode cX5_turn 32 = .ok (.ireturn, 1) := by decide +kernel
theorem dX5_release_0 : decode cX5_release 0 = .ok (.aload_n 0, 1) := by decide +kernel
theorem dX5_release_1 : decode cX5_release 1 = .ok (.iload_n 1, 1) := by decide +kernel
theorem dX5_release_2 : decode cX5_release 2 = .ok (.invokevirtual 56, 3) := by decide +kernel
theorem dX5_release_5 : decode cX5_release 5 = .ok (.aload_n 0, 1) := by decide +kernel
theorem dX5_release_6 : decode cX5_release 6 = .ok (.getfield 10, 3) := by decide +kernel
theorem dX5_release_9 : decode cX5_release 9 = .ok (.getfield 44, 3) := by decide +kernel
theorem dX5_release_12 : decode cX5_release 12 = .ok (.iload_n 1, 1) := by decide +kernel
theorem dX5_release_13 : decode cX5_release 13 = .ok (.aaload, 1) := by decide +kernel
theorem dX5_release_14 : decode cX5_release 14 = .ok (.astore_n 2, 1) := by decide +kernel
theorem dX5_release_15 : decode cX5_release 15 = .ok (.aload_n 0, 1) := by decide +kernel
theorem dX5_release_16 : decode cX5_release 16 = .ok (.getfield 10, 3) := by decide +kernel
theorem dX5_release_19 : decode cX5_release 19 = .ok (.getfield 90, 3) := by decide +kernel
theorem dX5_release_22 : decode cX5_release 22 = .ok (.aload_n 2, 1) := by decide +kernel
theorem dX5_release_23 : decode cX5_release 23 = .ok (.getfield 53, 3) := by decide +kernel
theorem dX5_release_26 : decode cX5_release 26 = .ok (.iconst 2, 1) := by decide +kernel
theorem dX5_release_27 : decode cX5_release 27 = .ok (.isub, 1) := by decide +kernel
theorem dX5_release_28 : decode cX5_release 28 = .ok (.if_icmp .le 13, 3) := by decide +kernel
theorem dX5_release_31 : decode cX5_release 31 = .ok (.new 37, 3) := by decide +kernel
theorem dX5_release_34 : decode cX5_release 34 = .ok (.dup, 1) := by decide +kernel
theorem dX5_release_35 : decode cX5_release 35 = .ok (.ldc 93, 2) := by decide +kernel
theorem dX5_release_37 : decode cX5_release 37 = .ok (.invokespecial 41, 3) := by decide +kernel
theorem dX5_release_40 : decode cX5_release 40 = .ok (.athrow, 1) := by decide +kernel
theorem dX5_release_41 : decode cX5_release 41 = .ok (.aload_n 2, 1) := by decide +kernel
theorem dX5_release_42 : decode cX5_release 42 = .ok (.getfield 95, 3) := by decide +kernel
theorem dX5_release_45 : decode cX5_release 45 = .ok (.istore_n 3, 1) := by decide +kernel
theorem dX5_release_46 : decode cX5_release 46 = .ok (.aload_n 2, 1) := by decide +kernel
theorem dX5_release_47 : decode cX5_release 47 = .ok (.iconst 0, 1) := by decide +kernel
theorem dX5_release_48 : decode cX5_release 48 = .ok (.putfield 95, 3) := by decide +kernel
theorem dX5_release_51 : decode cX5_release 51 = .ok (.iload_n 3, 1) := by decide +kernel
theorem dX5_release_52 : decode cX5_release 52 = .ok (.ireturn, 1) := by decide +kernel
theorem dX5_guns_0 : decode cX5_guns 0 = .ok (.aload_n 0, 1) := by decide +kernel
theorem dX5_guns_1 : decode cX5_guns 1 = .ok (.iload_n 1, 1) := by decide +kernel
theorem dX5_guns_2 : decode cX5_guns 2 = .ok (.invokevirtual 98, 3) := by decide +kernel
theorem dX5_guns_5 : decode cX5_guns 5 = .ok (.iload_n 2, 1) := by decide +kernel
theorem dX5_guns_6 : decode cX5_guns 6 = .ok (.iconst 0, 1) := by decide +kernel
theorem dX5_guns_7 : decode cX5_guns 7 = .ok (.bipush 9, 2) := by decide +kernel
theorem dX5_guns_9 : decode cX5_guns 9 = .ok (.invokestatic 29, 3) := by decide +kernel
theorem dX5_guns_12 : decode cX5_guns 12 = .ok (.aload_n 0, 1) := by decide +kernel
theorem dX5_guns_13 : decode cX5_guns 13 = .ok (.getfield 10, 3) := by decide +kernel
theorem dX5_guns_16 : decode cX5_guns 16 = .ok (.getfield 65, 3) := by decide +kernel
theorem dX5_guns_19 : decode cX5_guns 19 = .ok (.iload_n 1, 1) := by decide +kernel
theorem dX5_guns_20 : decode cX5_guns 20 = .ok (.aaload, 1) := by decide +kernel
theorem dX5_guns_21 : decode cX5_guns 21 = .ok (.getfield 101, 3) := by decide +kernel
theorem dX5_guns_24 : decode cX5_guns 24 = .ok (.istore_n 3, 1) := by decide +kernel
theorem dX5_guns_25 : decode cX5_guns 25 = .ok (.aload_n 0, 1) := by decide +kernel
theorem dX5_guns_26 : decode cX5_guns 26 = .ok (.getfield 10, 3) := by decide +kernel
theorem dX5_guns_29 : decode cX5_guns 29 = .ok (.getfield 65, 3) := by decide +kernel
theorem dX5_guns_32 : decode cX5_guns 32 = .ok (.iload_n 1, 1) := by decide +kernel
theorem dX5_guns_33 : decode cX5_guns 33 = .ok (.aaload, 1) := by decide +kernel
theorem dX5_guns_34 : decode cX5_guns 34 = .ok (.iload_n 2, 1) := by decide +kernel
theorem dX5_guns_35 : decode cX5_guns 35 = .ok (.putfield 101, 3) := by decide +kernel
theorem dX5_guns_38 : decode cX5_guns 38 = .ok (.iload_n 3, 1) := by decide +kernel
theorem dX5_guns_39 : decode cX5_guns 39 = .ok (.ireturn, 1) := by decide +kernel
theorem dX5_fill_0 : decode cX5_fill 0 = .ok (.iload_n 1, 1) := by decide +kernel
theorem dX5_fill_1 : decode cX5_fill 1 = .ok (.iconst 1, 1) := by decide +kernel
theorem dX5_fill_2 : decode cX5_fill 2 = .ok (.sipush 5000, 3) := by decide +kernel
theorem dX5_fill_5 : decode cX5_fill 5 = .ok (.invokestatic 29, 3) := by decide +kernel
theorem dX5_fill_8 : decode cX5_fill 8 = .ok (.aload_n 0, 1) := by decide +kernel
theorem dX5_fill_9 : decode cX5_fill 9 = .ok (.getfield 10, 3) := by decide +kernel
theorem dX5_fill_12 : decode cX5_fill 12 = .ok (.aload_n 0, 1) := by decide +kernel
theorem dX5_fill_13 : decode cX5_fill 13 = .ok (.getfield 10, 3) := by decide +kernel
theorem dX5_fill_16 : decode cX5_fill 16 = .ok (.getfield 104, 3) := by decide +kernel
theorem dX5_fill_19 : decode cX5_fill 19 = .ok (.iload_n 1, 1) := by decide +kernel
theorem dX5_fill_20 : decode cX5_fill 20 = .ok (.iadd, 1) := by decide +kernel
theorem dX5_fill_21 : decode cX5_fill 21 = .ok (.sipush 5000, 3) := by decide +kernel
theorem dX5_fill_24 : decode cX5_fill 24 = .ok (.invokestatic 107, 3) := by decide +kernel
theorem dX5_fill_27 : decode cX5_fill 27 = .ok (.putfield 104, 3) := by decide +kernel
theorem dX5_fill_30 : decode cX5_fill 30 = .ok (.aload_n 0, 1) := by decide +kernel
theorem dX5_fill_31 : decode cX5_fill 31 = .ok (.getfield 10, 3) := by decide +kernel
theorem dX5_fill_34 : decode cX5_fill 34 = .ok (.getfield 104, 3) := by decide +kernel
theorem dX5_fill_37 : decode cX5_fill 37 = .ok (.ireturn, 1) := by decide +kernel
theorem dX5_crowd_0 : decode cX5_crowd 0 = .ok (.iload_n 1, 1) := by decide +kernel
theorem dX5_crowd_1 : decode cX5_crowd 1 = .ok (.iconst 0, 1) := by decide +kernel
theorem dX5_crowd_2 : decode cX5_crowd 2 = .ok (.sipush 5000, 3) := by decide +kernel
theorem dX5_crowd_5 : decode cX5_crowd 5 = .ok (.invokestatic 29, 3) := by decide +kernel
theorem dX5_crowd_8 : decode cX5_crowd 8 = .ok (.aload_n 0, 1) := by decide +kernel
theorem dX5_crowd_9 : decode cX5_crowd 9 = .ok (.getfield 10, 3) := by decide +kernel
theorem dX5_crowd_12 : decode cX5_crowd 12 = .ok (.getfield 113, 3) := by decide +kernel
theorem dX5_crowd_15 : decode cX5_crowd 15 = .ok (.istore_n 2, 1) := by decide +kernel
theorem dX5_crowd_16 : decode cX5_crowd 16 = .ok (.aload_n 0, 1) := by decide +kernel
theorem dX5_crowd_17 : decode cX5_crowd 17 = .ok (.getfield 10, 3) := by decide +kernel
theorem dX5_crowd_20 : decode cX5_crowd 20 = .ok (.iload_n 1, 1) := by decide +kernel
theorem dX5_crowd_21 : decode cX5_crowd 21 = .ok (.putfield 113, 3) := by decide +kernel
theorem dX5_crowd_24 : decode cX5_crowd 24 = .ok (.iload_n 2, 1) := by decide +kernel
theorem dX5_crowd_25 : decode cX5_crowd 25 = .ok (.ireturn, 1) := by decide +kernel
theorem dX5_pass_0 : decode cX5_pass 0 = .ok (.iload_n 1, 1) := by decide +kernel
theorem dX5_pass_1 : decode cX5_pass 1 = .ok (.iconst 1, 1) := by decide +kernel
theorem dX5_pass_2 : decode cX5_pass 2 = .ok (.bipush 48, 2) := by decide +kernel
theorem dX5_pass_4 : decode cX5_pass 4 = .ok (.invokestatic 29, 3) := by decide +kernel
theorem dX5_pass_7 : decode cX5_pass 7 = .ok (.iload_n 2, 1) := by decide +kernel
theorem dX5_pass_8 : decode cX5_pass 8 = .ok (.bipush (-20), 2) := by decide +kernel
theorem dX5_pass_10 : decode cX5_pass 10 = .ok (.bipush 20, 2) := by decide +kernel
theorem dX5_pass_12 : decode cX5_pass 12 = .ok (.invokestatic 29, 3) := by decide +kernel
theorem dX5_pass_15 : decode cX5_pass 15 = .ok (.iload_n 3, 1) := by decide +kernel
theorem dX5_pass_16 : decode cX5_pass 16 = .ok (.iconst 0, 1) := by decide +kernel
theorem dX5_pass_17 : decode cX5_pass 17 = .ok (.bipush 9, 2) := by decide +kernel
theorem dX5_pass_19 : decode cX5_pass 19 = .ok (.invokestatic 29, 3) := by decide +kernel
theorem dX5_pass_22 : decode cX5_pass 22 = .ok (.iload 4, 2) := by decide +kernel
theorem dX5_pass_24 : decode cX5_pass 24 = .ok (.iconst 0, 1) := by decide +kernel
theorem dX5_pass_25 : decode cX5_pass 25 = .ok (.bipush 9, 2) := by decide +kernel
theorem dX5_pass_27 : decode cX5_pass 27 = .ok (.invokestatic 29, 3) := by decide +kernel
theorem dX5_pass_30 : decode cX5_pass 30 = .ok (.iload 5, 2) := by decide +kernel
theorem dX5_pass_32 : decode cX5_pass 32 = .ok (.iconst 0, 1) := by decide +kernel
theorem dX5_pass_33 : decode cX5_pass 33 = .ok (.iconst 3, 1) := by decide +kernel
theorem dX5_pass_34 : decode cX5_pass 34 = .ok (.invokestatic 29, 3) := by decide +kernel
theorem dX5_pass_37 : decode cX5_pass 37 = .ok (.iload 6, 2) := by decide +kernel
theorem dX5_pass_39 : decode cX5_pass 39 = .ok (.iconst 0, 1) := by decide +kernel
theorem dX5_pass_40 : decode cX5_pass 40 = .ok (.bipush 100, 2) := by decide +kernel
theorem dX5_pass_42 : decode cX5_pass 42 = .ok (.invokestatic 29, 3) := by decide +kernel
theorem dX5_pass_45 : decode cX5_pass 45 = .ok (.aload_n 0, 1) := by decide +kernel
theorem dX5_pass_46 : decode cX5_pass 46 = .ok (.getfield 10, 3) := by decide +kernel
theorem dX5_pass_49 : decode cX5_pass 49 = .ok (.getfield 116, 3) := by decide +kernel
theorem dX5_pass_52 : decode cX5_pass 52 = .ok (.iload_n 1, 1) := by decide +kernel
theorem dX5_pass_53 : decode cX5_pass 53 = .ok (.iadd, 1) := by decide +kernel
theorem dX5_pass_54 : decode cX5_pass 54 = .ok (.sipush 9999, 3) := by decide +kernel
theorem dX5_pass_57 : decode cX5_pass 57 = .ok (.if_icmp .le 13, 3) := by decide +kernel
theorem dX5_pass_60 : decode cX5_pass 60 = .ok (.new 37, 3) := by decide +kernel
theorem dX5_pass_63 : decode cX5_pass 63 = .ok (.dup, 1) := by decide +kernel
theorem dX5_pass_64 : decode cX5_pass 64 = .ok (.ldc 119, 2) := by decide +kernel
theorem dX5_pass_66 : decode cX5_pass 66 = .ok (.invokespecial 41, 3) := by decide +kernel
theorem dX5_pass_69 : decode cX5_pass 69 = .ok (.athrow, 1) := by decide +kernel
theorem dX5_pass_70 : decode cX5_pass 70 = .ok (.aload_n 0, 1) := by decide +kernel
theorem dX5_pass_71 : decode cX5_pass 71 = .ok (.getfield 10, 3) := by decide +kernel
theorem dX5_pass_74 : decode cX5_pass 74 = .ok (.getfield 121, 3) := by decide +kernel
theorem dX5_pass_77 : decode cX5_pass 77 = .ok (.istore 7, 2) := by decide +kernel
theorem dX5_pass_79 : decode cX5_pass 79 = .ok (.aload_n 0, 1) := by decide +kernel
theorem dX5_pass_80 : decode cX5_pass 80 = .ok (.getfield 25, 3) := by decide +kernel
theorem dX5_pass_83 : decode cX5_pass 83 = .ok (.iload_n 2, 1) := by decide +kernel
theorem dX5_pass_84 : decode cX5_pass 84 = .ok (.iload_n 3, 1) := by decide +kernel
theorem dX5_pass_85 : decode cX5_pass 85 = .ok (.iload 4, 2) := by decide +kernel
theorem dX5_pass_87 : decode cX5_pass 87 = .ok (.iload 5, 2) := by decide +kernel
theorem dX5_pass_89 : decode cX5_pass 89 = .ok (.iload 6, 2) := by decide +kernel
theorem dX5_pass_91 : decode cX5_pass 91 = .ok (.invokevirtual 124, 3) := by decide +kernel
theorem dX5_pass_94 : decode cX5_pass 94 = .ok (.iconst 0, 1) := by decide +kernel
theorem dX5_pass_95 : decode cX5_pass 95 = .ok (.istore 8, 2) := by decide +kernel
theorem dX5_pass_97 : decode cX5_pass 97 = .ok (.iload 8, 2) := by decide +kernel
theorem dX5_pass_99 : decode cX5_pass 99 = .ok (.iload_n 1, 1) := by decide +kernel
theorem dX5_pass_100 : decode cX5_pass 100 = .ok (.if_icmp .ge 20, 3) := by decide +kernel
theorem dX5_pass_103 : decode cX5_pass 103 = .ok (.aload_n 0, 1) := by decide +kernel
theorem dX5_pass_104 : decode cX5_pass 104 = .ok (.getfield 10, 3) := by decide +kernel
theorem dX5_pass_107 : decode cX5_pass 107 = .ok (.aload_n 0, 1) := by decide +kernel
theorem dX5_pass_108 : decode cX5_pass 108 = .ok (.getfield 25, 3) := by decide +kernel
theorem dX5_pass_111 : decode cX5_pass 111 = .ok (.invokevirtual 128, 3) := by decide +kernel
theorem dX5_pass_114 : decode cX5_pass 114 = .ok (.iinc 8 1, 3) := by decide +kernel
theorem dX5_pass_117 : decode cX5_pass 117 = .ok (.goto (-20), 3) := by decide +kernel
theorem dX5_pass_120 : decode cX5_pass 120 = .ok (.aload_n 0, 1) := by decide +kernel
theorem dX5_pass_121 : decode cX5_pass 121 = .ok (.getfield 10, 3) := by decide +kernel
theorem dX5_pass_124 : decode cX5_pass 124 = .ok (.getfield 121, 3) := by decide +kernel
theorem dX5_pass_127 : decode cX5_pass 127 = .ok (.iload 7, 2) := by decide +kernel
theorem dX5_pass_129 : decode cX5_pass 129 = .ok (.isub, 1) := by decide +kernel
theorem dX5_pass_130 : decode cX5_pass 130 = .ok (.ireturn, 1) := by decide +kernel
theorem dX5_blast_0 : decode cX5_blast 0 = .ok (.aload_n 0, 1) := by decide +kernel
theorem dX5_blast_1 : decode cX5_blast 1 = .ok (.iload_n 1, 1) := by decide +kernel
theorem dX5_blast_2 : decode cX5_blast 2 = .ok (.invokevirtual 132, 3) := by decide +kernel
theorem dX5_blast_5 : decode cX5_blast 5 = .ok (.aload_n 0, 1) := by decide +kernel
theorem dX5_blast_6 : decode cX5_blast 6 = .ok (.getfield 10, 3) := by decide +kernel
theorem dX5_blast_9 : decode cX5_blast 9 = .ok (.getfield 135, 3) := by decide +kernel
theorem dX5_blast_12 : decode cX5_blast 12 = .ok (.iconst 1, 1) := by decide +kernel
theorem dX5_blast_13 : decode cX5_blast 13 = .ok (.if_icmp .ge 13, 3) := by decide +kernel
theorem dX5_blast_16 : decode cX5_blast 16 = .ok (.new 37, 3) := by decide +kernel
theorem dX5_blast_19 : decode cX5_blast 19 = .ok (.dup, 1) := by decide +kernel
theorem dX5_blast_20 : decode cX5_blast 20 = .ok (.ldc 138, 2) := by decide +kernel
theorem dX5_blast_22 : decode cX5_blast 22 = .ok (.invokespecial 41, 3) := by decide +kernel
theorem dX5_blast_25 : decode cX5_blast 25 = .ok (.athrow, 1) := by decide +kernel
theorem dX5_blast_26 : decode cX5_blast 26 = .ok (.aload_n 0, 1) := by decide +kernel
theorem dX5_blast_27 : decode cX5_blast 27 = .ok (.getfield 10, 3) := by decide +kernel
theorem dX5_blast_30 : decode cX5_blast 30 = .ok (.getfield 65, 3) := by decide +kernel
theorem dX5_blast_33 : decode cX5_blast 33 = .ok (.iload_n 1, 1) := by decide +kernel
theorem dX5_blast_34 : decode cX5_blast 34 = .ok (.aaload, 1) := by decide +kernel
theorem dX5_blast_35 : decode cX5_blast 35 = .ok (.astore_n 2, 1) := by decide +kernel
theorem dX5_blast_36 : decode cX5_blast 36 = .ok (.aload_n 0, 1) := by decide +kernel
theorem dX5_blast_37 : decode cX5_blast 37 = .ok (.getfield 10, 3) := by decide +kernel
theorem dX5_blast_40 : decode cX5_blast 40 = .ok (.dup, 1) := by decide +kernel
theorem dX5_blast_41 : decode cX5_blast 41 = .ok (.getfield 135, 3) := by decide +kernel
theorem dX5_blast_44 : decode cX5_blast 44 = .ok (.iconst 1, 1) := by decide +kernel
theorem dX5_blast_45 : decode cX5_blast 45 = .ok (.isub, 1) := by decide +kernel
theorem dX5_blast_46 : decode cX5_blast 46 = .ok (.putfield 135, 3) := by decide +kernel
theorem dX5_blast_49 : decode cX5_blast 49 = .ok (.bipush 50, 2) := by decide +kernel
theorem dX5_blast_51 : decode cX5_blast 51 = .ok (.aload_n 0, 1) := by decide +kernel
theorem dX5_blast_52 : decode cX5_blast 52 = .ok (.getfield 10, 3) := by decide +kernel
theorem dX5_blast_55 : decode cX5_blast 55 = .ok (.getfield 135, 3) := by decide +kernel
theorem dX5_blast_58 : decode cX5_blast 58 = .ok (.isub, 1) := by decide +kernel
theorem dX5_blast_59 : decode cX5_blast 59 = .ok (.bipush 7, 2) := by decide +kernel
theorem dX5_blast_61 : decode cX5_blast 61 = .ok (.irem, 1) := by decide +kernel
theorem dX5_blast_62 : decode cX5_blast 62 = .ok (.ifCond .ne 16, 3) := by decide +kernel
theorem dX5_blast_65 : decode cX5_blast 65 = .ok (.aload_n 2, 1) := by decide +kernel
theorem dX5_blast_66 : decode cX5_blast 66 = .ok (.dup, 1) := by decide +kernel
theorem dX5_blast_67 : decode cX5_blast 67 = .ok (.getfield 140, 3) := by decide +kernel
theorem dX5_blast_70 : decode cX5_blast 70 = .ok (.iconst 1, 1) := by decide +kernel
theorem dX5_blast_71 : decode cX5_blast 71 = .ok (.iadd, 1) := by decide +kernel
theorem dX5_blast_72 : decode cX5_blast 72 = .ok (.putfield 140, 3) := by decide +kernel
theorem dX5_blast_75 : decode cX5_blast 75 = .ok (.bipush (-2), 2) := by decide +kernel
theorem dX5_blast_77 : decode cX5_blast 77 = .ok (.ireturn, 1) := by decide +kernel
theorem dX5_blast_78 : decode cX5_blast 78 = .ok (.aload_n 2, 1) := by decide +kernel
theorem dX5_blast_79 : decode cX5_blast 79 = .ok (.invokevirtual 143, 3) := by decide +kernel
theorem dX5_blast_82 : decode cX5_blast 82 = .ok (.bipush 40, 2) := by decide +kernel
theorem dX5_blast_84 : decode cX5_blast 84 = .ok (.if_icmp .lt 14, 3) := by decide +kernel
theorem dX5_blast_87 : decode cX5_blast 87 = .ok (.aload_n 0, 1) := by decide +kernel
theorem dX5_blast_88 : decode cX5_blast 88 = .ok (.getfield 10, 3) := by decide +kernel
theorem dX5_blast_91 : decode cX5_blast 91 = .ok (.aload_n 2, 1) := by decide +kernel
theorem dX5_blast_92 : decode cX5_blast 92 = .ok (.invokevirtual 147, 3) := by decide +kernel
theorem dX5_blast_95 : decode cX5_blast 95 = .ok (.goto 4, 3) := by decide +kernel
theorem dX5_blast_98 : decode cX5_blast 98 = .ok (.iconst 0, 1) := by decide +kernel
theorem dX5_blast_99 : decode cX5_blast 99 = .ok (.ireturn, 1) := by decide +kernel
theorem dX5_search_0 : decode cX5_search 0 = .ok (.aload_n 0, 1) := by decide +kernel
theorem dX5_search_1 : decode cX5_search 1 = .ok (.iload_n 1, 1) := by decide +kernel
theorem dX5_search_2 : decode cX5_search 2 = .ok (.invokevirtual 98, 3) := by decide +kernel
theorem dX5_search_5 : decode cX5_search 5 = .ok (.aload_n 0, 1) := by decide +kernel
theorem dX5_search_6 : decode cX5_search 6 = .ok (.getfield 10, 3) := by decide +kernel
theorem dX5_search_9 : decode cX5_search 9 = .ok (.getfield 65, 3) := by decide +kernel
theorem dX5_search_12 : decode cX5_search 12 = .ok (.iload_n 1, 1) := by decide +kernel

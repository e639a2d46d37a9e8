theorem dX0_init_0 : decode cX0_init 0 = .ok (.aload_n 0, 1) := by decide +kernel
theorem dX0_init_1 : decode cX0_init 1 = .ok (.invokespecial 1, 3) := by decide +kernel
theorem dX0_init_4 : decode cX0_init 4 = .ok (.return_, 1) := by decide +kernel
theorem dX0_become_0 : decode cX0_become 0 = .ok (.aload_n 0, 1) := by decide +kernel
theorem dX0_become_1 : decode cX0_become 1 = .ok (.aload_n 1, 1) := by decide +kernel
theorem dX0_become_2 : decode cX0_become 2 = .ok (.getfield 7, 3) := by decide +kernel
theorem dX0_become_5 : decode cX0_become 5 = .ok (.putfield 7, 3) := by decide +kernel
theorem dX0_become_8 : decode cX0_become 8 = .ok (.aload_n 0, 1) := by decide +kernel
theorem dX0_become_9 : decode cX0_become 9 = .ok (.aload_n 1, 1) := by decide +kernel
theorem dX0_become_10 : decode cX0_become 10 = .ok (.getfield 13, 3) := by decide +kernel
theorem dX0_become_13 : decode cX0_become 13 = .ok (.putfield 13, 3) := by decide +kernel
theorem dX0_become_16 : decode cX0_become 16 = .ok (.aload_n 0, 1) := by decide +kernel
theorem dX0_become_17 : decode cX0_become 17 = .ok (.aload_n 1, 1) := by decide +kernel
theorem dX0_become_18 : decode cX0_become 18 = .ok (.getfield 16, 3) := by decide +kernel
theorem dX0_become_21 : decode cX0_become 21 = .ok (.putfield 16, 3) := by decide +kernel
theorem dX0_become_24 : decode cX0_become 24 = .ok (.aload_n 0, 1) := by decide +kernel
theorem dX0_become_25 : decode cX0_become 25 = .ok (.aload_n 1, 1) := by decide +kernel
theorem dX0_become_26 : decode cX0_become 26 = .ok (.getfield 20, 3) := by decide +kernel
theorem dX0_become_29 : decode cX0_become 29 = .ok (.putfield 20, 3) := by decide +kernel
theorem dX0_become_32 : decode cX0_become 32 = .ok (.aload_n 0, 1) := by decide +kernel
theorem dX0_become_33 : decode cX0_become 33 = .ok (.aload_n 1, 1) := by decide +kernel
theorem dX0_become_34 : decode cX0_become 34 = .ok (.getfield 23, 3) := by decide +kernel
theorem dX0_become_37 : decode cX0_become 37 = .ok (.putfield 23, 3) := by decide +kernel
theorem dX0_become_40 : decode cX0_become 40 = .ok (.return_, 1) := by decide +kernel
theorem dX0_isMoving_0 : decode cX0_isMoving 0 = .ok (.aload_n 0, 1) := by decide +kernel
theorem dX0_isMoving_1 : decode cX0_isMoving 1 = .ok (.getfield 16, 3) := by decide +kernel
theorem dX0_isMoving_4 : decode cX0_isMoving 4 = .ok (.ifCond .eq 14, 3) := by decide +kernel
theorem dX0_isMoving_7 : decode cX0_isMoving 7 = .ok (.aload_n 0, 1) := by decide +kernel
theorem dX0_isMoving_8 : decode cX0_isMoving 8 = .ok (.getfield 20, 3) := by decide +kernel
theorem dX0_isMoving_11 : decode cX0_isMoving 11 = .ok (.ifCond .ne 7, 3) := by decide +kernel
theorem dX0_isMoving_14 : decode cX0_isMoving 14 = .ok (.iconst 1, 1) := by decide +kernel
theorem dX0_isMoving_15 : decode cX0_isMoving 15 = .ok (.goto 4, 3) := by decide +kernel
theorem dX0_isMoving_18 : decode cX0_isMoving 18 = .ok (.iconst 0, 1) := by decide +kernel
theorem dX0_isMoving_19 : decode cX0_isMoving 19 = .ok (.ireturn, 1) := by decide +kernel
theorem dX1_init_0 : decode cX1_init 0 = .ok (.aload_n 0, 1) := by decide +kernel
theorem dX1_init_1 : decode cX1_init 1 = .ok (.invokespecial 3, 3) := by decide +kernel
theorem dX1_init_4 : decode cX1_init 4 = .ok (.aload_n 0, 1) := by decide +kernel
theorem dX1_init_5 : decode cX1_init 5 = .ok (.iconst 4, 1) := by decide +kernel
theorem dX1_init_6 : decode cX1_init 6 = .ok (.anewarray 9, 3) := by decide +kernel
theorem dX1_init_9 : decode cX1_init 9 = .ok (.putfield 11, 3) := by decide +kernel
theorem dX1_init_12 : decode cX1_init 12 = .ok (.iconst 0, 1) := by decide +kernel
theorem dX1_init_13 : decode cX1_init 13 = .ok (.istore_n 1, 1) := by decide +kernel
theorem dX1_init_14 : decode cX1_init 14 = .ok (.iload_n 1, 1) := by decide +kernel
theorem dX1_init_15 : decode cX1_init 15 = .ok (.iconst 4, 1) := by decide +kernel
theorem dX1_init_16 : decode cX1_init 16 = .ok (.if_icmp .ge 22, 3) := by decide +kernel
theorem dX1_init_19 : decode cX1_init 19 = .ok (.aload_n 0, 1) := by decide +kernel
theorem dX1_init_20 : decode cX1_init 20 = .ok (.getfield 11, 3) := by decide +kernel
theorem dX1_init_23 : decode cX1_init 23 = .ok (.iload_n 1, 1) := by decide +kernel
theorem dX1_init_24 : decode cX1_init 24 = .ok (.new 9, 3) := by decide +kernel
theorem dX1_init_27 : decode cX1_init 27 = .ok (.dup, 1) := by decide +kernel
theorem dX1_init_28 : decode cX1_init 28 = .ok (.invokespecial 17, 3) := by decide +kernel
theorem dX1_init_31 : decode cX1_init 31 = .ok (.aastore, 1) := by decide +kernel
theorem dX1_init_32 : decode cX1_init 32 = .ok (.iinc 1 1, 3) := by decide +kernel
theorem dX1_init_35 : decode cX1_init 35 = .ok (.goto (-21), 3) := by decide +kernel
theorem dX1_init_38 : decode cX1_init 38 = .ok (.aload_n 0, 1) := by decide +kernel
theorem dX1_init_39 : decode cX1_init 39 = .ok (.bipush 8, 2) := by decide +kernel
theorem dX1_init_41 : decode cX1_init 41 = .ok (.anewarray 18, 3) := by decide +kernel
theorem dX1_init_44 : decode cX1_init 44 = .ok (.putfield 20, 3) := by decide +kernel
theorem dX1_init_47 : decode cX1_init 47 = .ok (.iconst 0, 1) := by decide +kernel
theorem dX1_init_48 : decode cX1_init 48 = .ok (.istore_n 1, 1) := by decide +kernel
theorem dX1_init_49 : decode cX1_init 49 = .ok (.iload_n 1, 1) := by decide +kernel
theorem dX1_init_50 : decode cX1_init 50 = .ok (.bipush 8, 2) := by decide +kernel
theorem dX1_init_52 : decode cX1_init 52 = .ok (.if_icmp .ge 22, 3) := by decide +kernel
theorem dX1_init_55 : decode cX1_init 55 = .ok (.aload_n 0, 1) := by decide +kernel
theorem dX1_init_56 : decode cX1_init 56 = .ok (.getfield 20, 3) := by decide +kernel
theorem dX1_init_59 : decode cX1_init 59 = .ok (.iload_n 1, 1) := by decide +kernel
theorem dX1_init_60 : decode cX1_init 60 = .ok (.new 18, 3) := by decide +kernel
theorem dX1_init_63 : decode cX1_init 63 = .ok (.dup, 1) := by decide +kernel
theorem dX1_init_64 : decode cX1_init 64 = .ok (.invokespecial 24, 3) := by decide +kernel
theorem dX1_init_67 : decode cX1_init 67 = .ok (.aastore, 1) := by decide +kernel
theorem dX1_init_68 : decode cX1_init 68 = .ok (.iinc 1 1, 3) := by decide +kernel
theorem dX1_init_71 : decode cX1_init 71 = .ok (.goto (-22), 3) := by decide +kernel
theorem dX1_init_74 : decode cX1_init 74 = .ok (.aload_n 0, 1) := by decide +kernel
theorem dX1_init_75 : decode cX1_init 75 = .ok (.sipush 500, 3) := by decide +kernel
theorem dX1_init_78 : decode cX1_init 78 = .ok (.putfield 25, 3) := by decide +kernel
theorem dX1_init_81 : decode cX1_init 81 = .ok (.aload_n 0, 1) := by decide +kernel
theorem dX1_init_82 : decode cX1_init 82 = .ok (.bipush 50, 2) := by decide +kernel
theorem dX1_init_84 : decode cX1_init 84 = .ok (.putfield 29, 3) := by decide +kernel
theorem dX1_init_87 : decode cX1_init 87 = .ok (.aload_n 0, 1) := by decide +kernel
theorem dX1_init_88 : decode cX1_init 88 = .ok (.bipush 100, 2) := by decide +kernel
theorem dX1_init_90 : decode cX1_init 90 = .ok (.putfield 32, 3) := by decide +kernel
theorem dX1_init_93 : decode cX1_init 93 = .ok (.return_, 1) := by decide +kernel
theorem dX1_become_0 : decode cX1_become 0 = .ok (.aload_n 0, 1) := by decide +kernel
theorem dX1_become_1 : decode cX1_become 1 = .ok (.aload_n 1, 1) := by decide +kernel
theorem dX1_become_2 : decode cX1_become 2 = .ok (.getfield 35, 3) := by decide +kernel
theorem dX1_become_5 : decode cX1_become 5 = .ok (.putfield 35, 3) := by decide +kernel
theorem dX1_become_8 : decode cX1_become 8 = .ok (.iconst 0, 1) := by decide +kernel
theorem dX1_become_9 : decode cX1_become 9 = .ok (.istore_n 2, 1) := by decide +kernel
theorem dX1_become_10 : decode cX1_become 10 = .ok (.iload_n 2, 1) := by decide +kernel
theorem dX1_become_11 : decode cX1_become 11 = .ok (.aload_n 0, 1) := by decide +kernel
theorem dX1_become_12 : decode cX1_become 12 = .ok (.getfield 35, 3) := by decide +kernel
theorem dX1_become_15 : decode cX1_become 15 = .ok (.if_icmp .ge 24, 3) := by decide +kernel
theorem dX1_become_18 : decode cX1_become 18 = .ok (.aload_n 0, 1) := by decide +kernel
theorem dX1_become_19 : decode cX1_become 19 = .ok (.getfield 11, 3) := by decide +kernel
theorem dX1_become_22 : decode cX1_become 22 = .ok (.iload_n 2, 1) := by decide +kernel
theorem dX1_become_23 : decode cX1_become 23 = .ok (.aaload, 1) := by decide +kernel
theorem dX1_become_24 : decode cX1_become 24 = .ok (.aload_n 1, 1) := by decide +kernel
theorem dX1_become_25 : decode cX1_become 25 = .ok (.getfield 11, 3) := by decide +kernel
theorem dX1_become_28 : decode cX1_become 28 = .ok (.iload_n 2, 1) := by decide +kernel
theorem dX1_become_29 : decode cX1_become 29 = .ok (.aaload, 1) := by decide +kernel
theorem dX1_become_30 : decode cX1_become 30 = .ok (.invokevirtual 38, 3) := by decide +kernel
theorem dX1_become_33 : decode cX1_become 33 = .ok (.iinc 2 1, 3) := by decide +kernel
theorem dX1_become_36 : decode cX1_become 36 = .ok (.goto (-26), 3) := by decide +kernel
theorem dX1_become_39 : decode cX1_become 39 = .ok (.aload_n 0, 1) := by decide +kernel
theorem dX1_become_40 : decode cX1_become 40 = .ok (.aload_n 1, 1) := by decide +kernel
theorem dX1_become_41 : decode cX1_become 41 = .ok (.getfield 42, 3) := by decide +kernel
theorem dX1_become_44 : decode cX1_become 44 = .ok (.putfield 42, 3) := by decide +kernel
theorem dX1_become_47 : decode cX1_become 47 = .ok (.iconst 0, 1) := by decide +kernel
theorem dX1_become_48 : decode cX1_become 48 = .ok (.istore_n 2, 1) := by decide +kernel
theorem dX1_become_49 : decode cX1_become 49 = .ok (.iload_n 2, 1) := by decide +kernel
theorem dX1_become_50 : decode cX1_become 50 = .ok (.aload_n 0, 1) := by decide +kernel
theorem dX1_become_51 : decode cX1_become 51 = .ok (.getfield 42, 3) := by decide +kernel
theorem dX1_become_54 : decode cX1_become 54 = .ok (.if_icmp .ge 24, 3) := by decide +kernel
theorem dX1_become_57 : decode cX1_become 57 = .ok (.aload_n 0, 1) := by decide +kernel
theorem dX1_become_58 : decode cX1_become 58 = .ok (.getfield 20, 3) := by decide +kernel
theorem dX1_become_61 : decode cX1_become 61 = .ok (.iload_n 2, 1) := by decide +kernel
theorem dX1_become_62 : decode cX1_become 62 = .ok (.aaload, 1) := by decide +kernel
theorem dX1_become_63 : decode cX1_become 63 = .ok (.aload_n 1, 1) := by decide +kernel
theorem dX1_become_64 : decode cX1_become 64 = .ok (.getfield 20, 3) := by decide +kernel
theorem dX1_become_67 : decode cX1_become 67 = .ok (.iload_n 2, 1) := by decide +kernel
theorem dX1_become_68 : decode cX1_become 68 = .ok (.aaload, 1) := by decide +kernel
theorem dX1_become_69 : decode cX1_become 69 = .ok (.invokevirtual 45, 3) := by decide +kernel
theorem dX1_become_72 : decode cX1_become 72 = .ok (.iinc 2 1, 3) := by decide +kernel
theorem dX1_become_75 : decode cX1_become 75 = .ok (.goto (-26), 3) := by decide +kernel
theorem dX1_become_78 : decode cX1_become 78 = .ok (.aload_n 0, 1) := by decide +kernel
theorem dX1_become_79 : decode cX1_become 79 = .ok (.aload_n 1, 1) := by decide +kernel
theorem dX1_become_80 : decode cX1_become 80 = .ok (.getfield 48, 3) := by decide +kernel
theorem dX1_become_83 : decode cX1_become 83 = .ok (.putfield 48, 3) := by decide +kernel
theorem dX1_become_86 : decode cX1_become 86 = .ok (.aload_n 0, 1) := by decide +kernel
theorem dX1_become_87 : decode cX1_become 87 = .ok (.aload_n 1, 1) := by decide +kernel
theorem dX1_become_88 : decode cX1_become 88 = .ok (.getfield 51, 3) := by decide +kernel
theorem dX1_become_91 : decode cX1_become 91 = .ok (.putfield 51, 3) := by decide +kernel
theorem dX1_become_94 : decode cX1_become 94 = .ok (.aload_n 0, 1) := by decide +kernel
theorem dX1_become_95 : decode cX1_become 95 = .ok (.aload_n 1, 1) := by decide +kernel
theorem dX1_become_96 : decode cX1_become 96 = .ok (.getfield 25, 3) := by decide +kernel
theorem dX1_become_99 : decode cX1_become 99 = .ok (.putfield 25, 3) := by decide +kernel
theorem dX1_become_102 : decode cX1_become 102 = .ok (.aload_n 0, 1) := by decide +kernel
theorem dX1_become_103 : decode cX1_become 103 = .ok (.aload_n 1, 1) := by decide +kernel
theorem dX1_become_104 : decode cX1_become 104 = .ok (.getfield 29, 3) := by decide +kernel
theorem dX1_become_107 : decode cX1_become 107 = .ok (.putfield 29, 3) := by decide +kernel
theorem dX1_become_110 : decode cX1_become 110 = .ok (.aload_n 0, 1) := by decide +kernel
theorem dX1_become_111 : decode cX1_become 111 = .ok (.aload_n 1, 1) := by decide +kernel
theorem dX1_become_112 : decode cX1_become 112 = .ok (.getfield 32, 3) := by decide +kernel
theorem dX1_become_115 : decode cX1_become 115 = .ok (.putfield 32, 3) := by decide +kernel
theorem dX1_become_118 : decode cX1_become 118 = .ok (.aload_n 0, 1) := by decide +kernel
theorem dX1_become_119 : decode cX1_become 119 = .ok (.aload_n 1, 1) := by decide +kernel
theorem dX1_become_120 : decode cX1_become 120 = .ok (.getfield 54, 3) := by decide +kernel
theorem dX1_become_123 : decode cX1_become 123 = .ok (.putfield 54, 3) := by decide +kernel
theorem dX1_become_126 : decode cX1_become 126 = .ok (.aload_n 0, 1) := by decide +kernel
theorem dX1_become_127 : decode cX1_become 127 = .ok (.aload_n 1, 1) := by decide +kernel
theorem dX1_become_128 : decode cX1_become 128 = .ok (.getfield 57, 3) := by decide +kernel
theorem dX1_become_131 : decode cX1_become 131 = .ok (.putfield 57, 3) := by decide +kernel
theorem dX1_become_134 : decode cX1_become 134 = .ok (.aload_n 0, 1) := by decide +kernel
theorem dX1_become_135 : decode cX1_become 135 = .ok (.aload_n 1, 1) := by decide +kernel
theorem dX1_become_136 : decode cX1_become 136 = .ok (.getfield 60, 3) := by decide +kernel
theorem dX1_become_139 : decode cX1_become 139 = .ok (.putfield 60, 3) := by decide +kernel
theorem dX1_become_142 : decode cX1_become 142 = .ok (.aload_n 0, 1) := by decide +kernel
theorem dX1_become_143 : decode cX1_become 143 = .ok (.aload_n 1, 1) := by decide +kernel
theorem dX1_become_144 : decode cX1_become 144 = .ok (.getfield 63, 3) := by decide +kernel
theorem dX1_become_147 : decode cX1_become 147 = .ok (.putfield 63, 3) := by decide +kernel
theorem dX1_become_150 : decode cX1_become 150 = .ok (.aload_n 0, 1) := by decide +kernel
theorem dX1_become_151 : decode cX1_become 151 = .ok (.aload_n 1, 1) := by decide +kernel
theorem dX1_become_152 : decode cX1_become 152 = .ok (.getfield 66, 3) := by decide +kernel
theorem dX1_become_155 : decode cX1_become 155 = .ok (.putfield 66, 3) := by decide +kernel
theorem dX1_become_158 : decode cX1_become 158 = .ok (.aload_n 0, 1) := by decide +kernel
theorem dX1_become_159 : decode cX1_become 159 = .ok (.aload_n 1, 1) := by decide +kernel
theorem dX1_become_160 : decode cX1_become 160 = .ok (.getfield 69, 3) := by decide +kernel
theorem dX1_become_163 : decode cX1_become 163 = .ok (.putfield 69, 3) := by decide +kernel
theorem dX1_become_166 : decode cX1_become 166 = .ok (.aload_n 0, 1) := by decide +kernel
theorem dX1_become_167 : decode cX1_become 167 = .ok (.aload_n 1, 1) := by decide +kernel
theorem dX1_become_168 : decode cX1_become 168 = .ok (.getfield 72, 3) := by decide +kernel
theorem dX1_become_171 : decode cX1_become 171 = .ok (.putfield 72, 3) := by decide +kernel
theorem dX1_become_174 : decode cX1_become 174 = .ok (.return_, 1) := by decide +kernel
theorem dX1_removeGuns_0 : decode cX1_removeGuns 0 = .ok (.iconst 0, 1) := by decide +kernel
theorem dX1_removeGuns_1 : decode cX1_removeGuns 1 = .ok (.istore_n 1, 1) := by decide +kernel
theorem dX1_removeGuns_2 : decode cX1_removeGuns 2 = .ok (.iload_n 1, 1) := by decide +kernel
theorem dX1_removeGuns_3 : decode cX1_removeGuns 3 = .ok (.aload_n 0, 1) := by decide +kernel
theorem dX1_removeGuns_4 : decode cX1_removeGuns 4 = .ok (.getfield 42, 3) := by decide +kernel
theorem dX1_removeGuns_7 : decode cX1_removeGuns 7 = .ok (.if_icmp .ge 19, 3) := by decide +kernel
theorem dX1_removeGuns_10 : decode cX1_removeGuns 10 = .ok (.aload_n 0, 1) := by decide +kernel
theorem dX1_removeGuns_11 : decode cX1_removeGuns 11 = .ok (.getfield 20, 3) := by decide +kernel
theorem dX1_removeGuns_14 : decode cX1_removeGuns 14 = .ok (.iload_n 1, 1) := by decide +kernel
theorem dX1_removeGuns_15 : decode cX1_removeGuns 15 = .ok (.aaload, 1) := by decide +kernel
theorem dX1_removeGuns_16 : decode cX1_removeGuns 16 = .ok (.iconst 0, 1) := by decide +kernel
theorem dX1_removeGuns_17 : decode cX1_removeGuns 17 = .ok (.putfield 75, 3) := by decide +kernel
theorem dX1_removeGuns_20 : decode cX1_removeGuns 20 = .ok (.iinc 1 1, 3) := by decide +kernel
theorem dX1_removeGuns_23 : decode cX1_removeGuns 23 = .ok (.goto (-21), 3) := by decide +kernel
theorem dX1_removeGuns_26 : decode cX1_removeGuns 26 = .ok (.return_, 1) := by decide +kernel
theorem dX1_clock_0 : decode cX1_clock 0 = .ok (.aload_n 0, 1) := by decide +kernel
theorem dX1_clock_1 : decode cX1_clock 1 = .ok (.getfield 48, 3) := by decide +kernel
theorem dX1_clock_4 : decode cX1_clock 4 = .ok (.bipush 24, 2) := by decide +kernel
theorem dX1_clock_6 : decode cX1_clock 6 = .ok (.irem, 1) := by decide +kernel
theorem dX1_clock_7 : decode cX1_clock 7 = .ok (.ireturn, 1) := by decide +kernel
theorem dX1_openRuns_0 : decode cX1_openRuns 0 = .ok (.iconst 0, 1) := by decide +kernel
theorem dX1_openRuns_1 : decode cX1_openRuns 1 = .ok (.istore_n 1, 1) := by decide +kernel
theorem dX1_openRuns_2 : decode cX1_openRuns 2 = .ok (.iconst 0, 1) := by decide +kernel
theorem dX1_openRuns_3 : decode cX1_openRuns 3 = .ok (.istore_n 2, 1) := by decide +kernel
theorem dX1_openRuns_4 : decode cX1_openRuns 4 = .ok (.iload_n 2, 1) := by decide +kernel
theorem dX1_openRuns_5 : decode cX1_openRuns 5 = .ok (.aload_n 0, 1) := by decide +kernel
theorem dX1_openRuns_6 : decode cX1_openRuns 6 = .ok (.getfield 42, 3) := by decide +kernel
theorem dX1_openRuns_9 : decode cX1_openRuns 9 = .ok (.if_icmp .ge 24, 3) := by decide +kernel
theorem dX1_openRuns_12 : decode cX1_openRuns 12 = .ok (.iload_n 1, 1) := by decide +kernel
theorem dX1_openRuns_13 : decode cX1_openRuns 13 = .ok (.aload_n 0, 1) := by decide +kernel
theorem dX1_openRuns_14 : decode cX1_openRuns 14 = .ok (.getfield 20, 3) := by decide +kernel
theorem dX1_openRuns_17 : decode cX1_openRuns 17 = .ok (.iload_n 2, 1) := by decide +kernel
theorem dX1_openRuns_18 : decode cX1_openRuns 18 = .ok (.aaload, 1) := by decide +kernel
theorem dX1_openRuns_19 : decode cX1_openRuns 19 = .ok (.getfield 78, 3) := by decide +kernel
theorem dX1_openRuns_22 : decode cX1_openRuns 22 = .ok (.invokestatic 82, 3) := by decide +kernel
theorem dX1_openRuns_25 : decode cX1_openRuns 25 = .ok (.iadd, 1) := by decide +kernel
theorem dX1_openRuns_26 : decode cX1_openRuns 26 = .ok (.istore_n 1, 1) := by decide +kernel
theorem dX1_openRuns_27 : decode cX1_openRuns 27 = .ok (.iinc 2 1, 3) := by decide +kernel
theorem dX1_openRuns_30 : decode cX1_openRuns 30 = .ok (.goto (-26), 3) := by decide +kernel
theorem dX1_openRuns_33 : decode cX1_openRuns 33 = .ok (.iload_n 1, 1) := by decide +kernel
theorem dX1_openRuns_34 : decode cX1_openRuns 34 = .ok (.ireturn, 1) := by decide +kernel
theorem dX1_openRunsOf_0 : decode cX1_openRunsOf 0 = .ok (.iconst 0, 1) := by decide +kernel
theorem dX1_openRunsOf_1 : decode cX1_openRunsOf 1 = .ok (.istore_n 2, 1) := by decide +kernel
theorem dX1_openRunsOf_2 : decode cX1_openRunsOf 2 = .ok (.iconst 0, 1) := by decide +kernel
theorem dX1_openRunsOf_3 : decode cX1_openRunsOf 3 = .ok (.istore_n 3, 1) := by decide +kernel
theorem dX1_openRunsOf_4 : decode cX1_openRunsOf 4 = .ok (.iload_n 3, 1) := by decide +kernel
theorem dX1_openRunsOf_5 : decode cX1_openRunsOf 5 = .ok (.aload_n 0, 1) := by decide +kernel
theorem dX1_openRunsOf_6 : decode cX1_openRunsOf 6 = .ok (.getfield 42, 3) := by decide +kernel
theorem dX1_openRunsOf_9 : decode cX1_openRunsOf 9 = .ok (.if_icmp .ge 45, 3) := by decide +kernel
theorem dX1_openRunsOf_12 : decode cX1_openRunsOf 12 = .ok (.iload_n 2, 1) := by decide +kernel
theorem dX1_openRunsOf_13 : decode cX1_openRunsOf 13 = .ok (.aload_n 0, 1) := by decide +kernel
theorem dX1_openRunsOf_14 : decode cX1_openRunsOf 14 = .ok (.getfield 20, 3) := by decide +kernel
theorem dX1_openRunsOf_17 : decode cX1_openRunsOf 17 = .ok (.iload_n 3, 1) := by decide +kernel
theorem dX1_openRunsOf_18 : decode cX1_openRunsOf 18 = .ok (.aaload, 1) := by decide +kernel
theorem dX1_openRunsOf_19 : decode cX1_openRunsOf 19 = .ok (.getfield 78, 3) := by decide +kernel
theorem dX1_openRunsOf_22 : decode cX1_openRunsOf 22 = .ok (.ifCond .eq 20, 3) := by decide +kernel
theorem dX1_openRunsOf_25 : decode cX1_openRunsOf 25 = .ok (.aload_n 0, 1) := by decide +kernel
theorem dX1_openRunsOf_26 : decode cX1_openRunsOf 26 = .ok (.getfield 20, 3) := by decide +kernel
theorem dX1_openRunsOf_29 : decode cX1_openRunsOf 29 = .ok (.iload_n 3, 1) := by decide +kernel
theorem dX1_openRunsOf_30 : decode cX1_openRunsOf 30 = .ok (.aaload, 1) := by decide +kernel
theorem dX1_openRunsOf_31 : decode cX1_openRunsOf 31 = .ok (.getfield 86, 3) := by decide +kernel
theorem dX1_openRunsOf_34 : decode cX1_openRunsOf 34 = .ok (.iload_n 1, 1) := by decide +kernel
theorem dX1_openRunsOf_35 : decode cX1_openRunsOf 35 = .ok (.if_icmp .ne 7, 3) := by decide +kernel
theorem dX1_openRunsOf_38 : decode cX1_openRunsOf 38 = .ok (.iconst 1, 1) := by decide +kernel
theorem dX1_openRunsOf_39 : decode cX1_openRunsOf 39 = .ok (.goto 4, 3) := by decide +kernel
theorem dX1_openRunsOf_42 : decode cX1_openRunsOf 42 = .ok (.iconst 0, 1) := by decide +kernel
theorem dX1_openRunsOf_43 : decode cX1_openRunsOf 43 = .ok (.invokestatic 82, 3) := by decide +kernel
theorem dX1_openRunsOf_46 : decode cX1_openRunsOf 46 = .ok (.iadd, 1) := by decide +kernel
theorem dX1_openRunsOf_47 : decode cX1_openRunsOf 47 = .ok (.istore_n 2, 1) := by decide +kernel
theorem dX1_openRunsOf_48 : decode cX1_openRunsOf 48 = .ok (.iinc 3 1, 3) := by decide +kernel
theorem dX1_openRunsOf_51 : decode cX1_openRunsOf 51 = .ok (.goto (-47), 3) := by decide +kernel
theorem dX1_openRunsOf_54 : decode cX1_openRunsOf 54 = .ok (.iload_n 2, 1) := by decide +kernel
theorem dX1_openRunsOf_55 : decode cX1_openRunsOf 55 = .ok (.ireturn, 1) := by decide +kernel
theorem dX1_depthByArea_0 : decode cX1_depthByArea 0 = .ok (.iconst 0, 1) := by decide +kernel
theorem dX1_depthByArea_1 : decode cX1_depthByArea 1 = .ok (.istore_n 1, 1) := by decide +kernel
theorem dX1_depthByArea_2 : decode cX1_depthByArea 2 = .ok (.iconst 0, 1) := by decide +kernel
theorem dX1_depthByArea_3 : decode cX1_depthByArea 3 = .ok (.istore_n 2, 1) := by decide +kernel
theorem dX1_depthByArea_4 : decode cX1_depthByArea 4 = .ok (.iload_n 2, 1) := by decide +kernel
theorem dX1_depthByArea_5 : decode cX1_depthByArea 5 = .ok (.aload_n 0, 1) := by decide +kernel
theorem dX1_depthByArea_6 : decode cX1_depthByArea 6 = .ok (.getfield 42, 3) := by decide +kernel
theorem dX1_depthByArea_9 : decode cX1_depthByArea 9 = .ok (.if_icmp .ge 34, 3) := by decide +kernel
theorem dX1_depthByArea_12 : decode cX1_depthByArea 12 = .ok (.iload_n 1, 1) := by decide +kernel
theorem dX1_depthByArea_13 : decode cX1_depthByArea 13 = .ok (.aload_n 0, 1) := by decide +kernel
theorem dX1_depthByArea_14 : decode cX1_depthByArea 14 = .ok (.getfield 20, 3) := by decide +kernel
theorem dX1_depthByArea_17 : decode cX1_depthByArea 17 = .ok (.iload_n 2, 1) := by decide +kernel
theorem dX1_depthByArea_18 : decode cX1_depthByArea 18 = .ok (.aaload, 1) := by decide +kernel
theorem dX1_depthByArea_19 : decode cX1_depthByArea 19 = .ok (.getfield 89, 3) := by decide +kernel
theorem dX1_depthByArea_22 : decode cX1_depthByArea 22 = .ok (.invokevirtual 93, 3) := by decide +kernel
theorem dX1_depthByArea_25 : decode cX1_depthByArea 25 = .ok (.aload_n 0, 1) := by decide +kernel
theorem dX1_depthByArea_26 : decode cX1_depthByArea 26 = .ok (.getfield 20, 3) := by decide +kernel
theorem dX1_depthByArea_29 : decode cX1_depthByArea 29 = .ok (.iload_n 2, 1) := by decide +kernel
theorem dX1_depthByArea_30 : decode cX1_depthByArea 30 = .ok (.aaload, 1) := by decide +kernel
theorem dX1_depthByArea_31 : decode cX1_depthByArea 31 = .ok (.getfield 99, 3) := by decide +kernel
theorem dX1_depthByArea_34 : decode cX1_depthByArea 34 = .ok (.imul, 1) := by decide +kernel
theorem dX1_depthByArea_35 : decode cX1_depthByArea 35 = .ok (.iadd, 1) := by decide +kernel
theorem dX1_depthByArea_36 : decode cX1_depthByArea 36 = .ok (.istore_n 1, 1) := by decide +kernel
theorem dX1_depthByArea_37 : decode cX1_depthByArea 37 = .ok (.iinc 2 1, 3) := by decide +kernel
theorem dX1_depthByArea_40 : decode cX1_depthByArea 40 = .ok (.goto (-36), 3) := by decide +kernel
theorem dX1_depthByArea_43 : decode cX1_depthByArea 43 = .ok (.iload_n 1, 1) := by decide +kernel
theorem dX1_depthByArea_44 : decode cX1_depthByArea 44 = .ok (.ireturn, 1) := by decide +kernel
theorem dX1_wholeArea_0 : decode cX1_wholeArea 0 = .ok (.iconst 0, 1) := by decide +kernel
theorem dX1_wholeArea_1 : decode cX1_wholeArea 1 = .ok (.istore_n 1, 1) := by decide +kernel
theorem dX1_wholeArea_2 : decode cX1_wholeArea 2 = .ok (.iconst 0, 1) := by decide +kernel
theorem dX1_wholeArea_3 : decode cX1_wholeArea 3 = .ok (.istore_n 2, 1) := by decide +kernel
theorem dX1_wholeArea_4 : decode cX1_wholeArea 4 = .ok (.iload_n 2, 1) := by decide +kernel
theorem dX1_wholeArea_5 : decode cX1_wholeArea 5 = .ok (.aload_n 0, 1) := by decide +kernel
theorem dX1_wholeArea_6 : decode cX1_wholeArea 6 = .ok (.getfield 42, 3) := by decide +kernel
theorem dX1_wholeArea_9 : decode cX1_wholeArea 9 = .ok (.if_icmp .ge 21, 3) := by decide +kernel
theorem dX1_wholeArea_12 : decode cX1_wholeArea 12 = .ok (.iload_n 1, 1) := by decide +kernel
theorem dX1_wholeArea_13 : decode cX1_wholeArea 13 = .ok (.aload_n 0, 1) := by decide +kernel
theorem dX1_wholeArea_14 : decode cX1_wholeArea 14 = .ok (.getfield 20, 3) := by decide +kernel
theorem dX1_wholeArea_17 : decode cX1_wholeArea 17 = .ok (.iload_n 2, 1) := by decide +kernel
theorem dX1_wholeArea_18 : decode cX1_wholeArea 18 = .ok (.aaload, 1) := by decide +kernel
theorem dX1_wholeArea_19 : decode cX1_wholeArea 19 = .ok (.getfield 99, 3) := by decide +kernel
theorem dX1_wholeArea_22 : decode cX1_wholeArea 22 = .ok (.iadd, 1) := by decide +kernel
theorem dX1_wholeArea_23 : decode cX1_wholeArea 23 = .ok (.istore_n 1, 1) := by decide +kernel
theorem dX1_wholeArea_24 : decode cX1_wholeArea 24 = .ok (.iinc 2 1, 3) := by decide +kernel
theorem dX1_wholeArea_27 : decode cX1_wholeArea 27 = .ok (.goto (-23), 3) := by decide +kernel
theorem dX1_wholeArea_30 : decode cX1_wholeArea 30 = .ok (.iload_n 1, 1) := by decide +kernel
theorem dX1_wholeArea_31 : decode cX1_wholeArea 31 = .ok (.ireturn, 1) := by decide +kernel
theorem dX1_isTested_0 : decode cX1_isTested 0 = .ok (.aload_n 0, 1) := by decide +kernel
theorem dX1_isTested_1 : decode cX1_isTested 1 = .ok (.getfield 48, 3) := by decide +kernel
theorem dX1_isTested_4 : decode cX1_isTested 4 = .ok (.aload_n 1, 1) := by decide +kernel
theorem dX1_isTested_5 : decode cX1_isTested 5 = .ok (.getfield 102, 3) := by decide +kernel
theorem dX1_isTested_8 : decode cX1_isTested 8 = .ok (.if_icmp .gt 7, 3) := by decide +kernel
theorem dX1_isTested_11 : decode cX1_isTested 11 = .ok (.iconst 1, 1) := by decide +kernel
theorem dX1_isTested_12 : decode cX1_isTested 12 = .ok (.goto 4, 3) := by decide +kernel
theorem dX1_isTested_15 : decode cX1_isTested 15 = .ok (.iconst 0, 1) := by decide +kernel
theorem dX1_isTested_16 : decode cX1_isTested 16 = .ok (.ireturn, 1) := by decide +kernel
theorem dX1_wouldTell_0 : decode cX1_wouldTell 0 = .ok (.iconst 5, 1) := by decide +kernel
theorem dX1_wouldTell_1 : decode cX1_wouldTell 1 = .ok (.aload_n 0, 1) := by decide +kernel
theorem dX1_wouldTell_2 : decode cX1_wouldTell 2 = .ok (.getfield 48, 3) := by decide +kernel
theorem dX1_wouldTell_5 : decode cX1_wouldTell 5 = .ok (.imul, 1) := by decide +kernel
theorem dX1_wouldTell_6 : decode cX1_wouldTell 6 = .ok (.iconst 3, 1) := by decide +kernel
theorem dX1_wouldTell_7 : decode cX1_wouldTell 7 = .ok (.iload_n 1, 1) := by decide +kernel
theorem dX1_wouldTell_8 : decode cX1_wouldTell 8 = .ok (.imul, 1) := by decide +kernel
theorem dX1_wouldTell_9 : decode cX1_wouldTell 9 = .ok (.iadd, 1) := by decide +kernel
theorem dX1_wouldTell_10 : decode cX1_wouldTell 10 = .ok (.bipush 9, 2) := by decide +kernel
theorem dX1_wouldTell_12 : decode cX1_wouldTell 12 = .ok (.irem, 1) := by decide +kernel
theorem dX1_wouldTell_13 : decode cX1_wouldTell 13 = .ok (.iconst 4, 1) := by decide +kernel
theorem dX1_wouldTell_14 : decode cX1_wouldTell 14 = .ok (.isub, 1) := by decide +kernel
theorem dX1_wouldTell_15 : decode cX1_wouldTell 15 = .ok (.istore_n 3, 1) := by decide +kernel
theorem dX1_wouldTell_16 : decode cX1_wouldTell 16 = .ok (.aload_n 2, 1) := by decide +kernel
theorem dX1_wouldTell_17 : decode cX1_wouldTell 17 = .ok (.invokevirtual 105, 3) := by decide +kernel
theorem dX1_wouldTell_20 : decode cX1_wouldTell 20 = .ok (.iload_n 3, 1) := by decide +kernel
theorem dX1_wouldTell_21 : decode cX1_wouldTell 21 = .ok (.iadd, 1) := by decide +kernel
theorem dX1_wouldTell_22 : decode cX1_wouldTell 22 = .ok (.iconst 0, 1) := by decide +kernel
theorem dX1_wouldTell_23 : decode cX1_wouldTell 23 = .ok (.invokestatic 108, 3) := by decide +kernel
theorem dX1_wouldTell_26 : decode cX1_wouldTell 26 = .ok (.ireturn, 1) := by decide +kernel
theorem dX1_barNow_0 : decode cX1_barNow 0 = .ok (.aload_n 0, 1) := by decide +kernel
theorem dX1_barNow_1 : decode cX1_barNow 1 = .ok (.aload_n 1, 1) := by decide +kernel
theorem dX1_barNow_2 : decode cX1_barNow 2 = .ok (.aload_n 0, 1) := by decide +kernel
theorem dX1_barNow_3 : decode cX1_barNow 3 = .ok (.aload_n 1, 1) := by decide +kernel
theorem dX1_barNow_4 : decode cX1_barNow 4 = .ok (.invokevirtual 114, 3) := by decide +kernel
theorem dX1_barNow_7 : decode cX1_barNow 7 = .ok (.aload_n 1, 1) := by decide +kernel
theorem dX1_barNow_8 : decode cX1_barNow 8 = .ok (.getfield 118, 3) := by decide +kernel
theorem dX1_barNow_11 : decode cX1_barNow 11 = .ok (.aload_n 1, 1) := by decide +kernel
theorem dX1_barNow_12 : decode cX1_barNow 12 = .ok (.getfield 121, 3) := by decide +kernel
theorem dX1_barNow_15 : decode cX1_barNow 15 = .ok (.invokevirtual 124, 3) := by decide +kernel
theorem dX1_barNow_18 : decode cX1_barNow 18 = .ok (.ireturn, 1) := by decide +kernel
theorem dX1_bar_0 : decode cX1_bar 0 = .ok (.aload_n 1, 1) := by decide +kernel
theorem dX1_bar_1 : decode cX1_bar 1 = .ok (.getfield 86, 3) := by decide +kernel
theorem dX1_bar_4 : decode cX1_bar 4 = .ok (.ifCond .lt 33, 3) := by decide +kernel
theorem dX1_bar_7 : decode cX1_bar 7 = .ok (.aload_n 1, 1) := by decide +kernel
theorem dX1_bar_8 : decode cX1_bar 8 = .ok (.getfield 86, 3) := by decide +kernel
theorem dX1_bar_11 : decode cX1_bar 11 = .ok (.aload_n 0, 1) := by decide +kernel
theorem dX1_bar_12 : decode cX1_bar 12 = .ok (.getfield 35, 3) := by decide +kernel
theorem dX1_bar_15 : decode cX1_bar 15 = .ok (.if_icmp .ge 22, 3) := by decide +kernel
theorem dX1_bar_18 : decode cX1_bar 18 = .ok (.aload_n 0, 1) := by decide +kernel
theorem dX1_bar_19 : decode cX1_bar 19 = .ok (.getfield 11, 3) := by decide +kernel
theorem dX1_bar_22 : decode cX1_bar 22 = .ok (.aload_n 1, 1) := by decide +kernel
theorem dX1_bar_23 : decode cX1_bar 23 = .ok (.getfield 86, 3) := by decide +kernel
theorem dX1_bar_26 : decode cX1_bar 26 = .ok (.aaload, 1) := by decide +kernel
theorem dX1_bar_27 : decode cX1_bar 27 = .ok (.invokevirtual 128, 3) := by decide +kernel
theorem dX1_bar_30 : decode cX1_bar 30 = .ok (.ifCond .eq 7, 3) := by decide +kernel
theorem dX1_bar_33 : decode cX1_bar 33 = .ok (.iconst 1, 1) := by decide +kernel
theorem dX1_bar_34 : decode cX1_bar 34 = .ok (.goto 4, 3) := by decide +kernel
theorem dX1_bar_37 : decode cX1_bar 37 = .ok (.iconst 0, 1) := by decide +kernel
theorem dX1_bar_38 : decode cX1_bar 38 = .ok (.istore 5, 2) := by decide +kernel
theorem dX1_bar_40 : decode cX1_bar 40 = .ok (.iload 5, 2) := by decide +kernel
theorem dX1_bar_42 : decode cX1_bar 42 = .ok (.ifCond .ne 5, 3) := by decide +kernel
theorem dX1_bar_45 : decode cX1_bar 45 = .ok (.iconst 1, 1) := by decide +kernel
theorem dX1_bar_46 : decode cX1_bar 46 = .ok (.ireturn, 1) := by decide +kernel
theorem dX1_bar_47 : decode cX1_bar 47 = .ok (.aload_n 1, 1) := by decide +kernel
theorem dX1_bar_48 : decode cX1_bar 48 = .ok (.getfield 132, 3) := by decide +kernel
theorem dX1_bar_51 : decode cX1_bar 51 = .ok (.ifCond .le 5, 3) := by decide +kernel
theorem dX1_bar_54 : decode cX1_bar 54 = .ok (.iconst 2, 1) := by decide +kernel
theorem dX1_bar_55 : decode cX1_bar 55 = .ok (.ireturn, 1) := by decide +kernel
theorem dX1_bar_56 : decode cX1_bar 56 = .ok (.aload_n 1, 1) := by decide +kernel
theorem dX1_bar_57 : decode cX1_bar 57 = .ok (.getfield 135, 3) := by decide +kernel
theorem dX1_bar_60 : decode cX1_bar 60 = .ok (.ifCond .eq 5, 3) := by decide +kernel
theorem dX1_bar_63 : decode cX1_bar 63 = .ok (.iconst 3, 1) := by decide +kernel
theorem dX1_bar_64 : decode cX1_bar 64 = .ok (.ireturn, 1) := by decide +kernel
theorem dX1_bar_65 : decode cX1_bar 65 = .ok (.iload_n 2, 1) := by decide +kernel
theorem dX1_bar_66 : decode cX1_bar 66 = .ok (.ifCond .ne 5, 3) := by decide +kernel
theorem dX1_bar_69 : decode cX1_bar 69 = .ok (.iconst 4, 1) := by decide +kernel
theorem dX1_bar_70 : decode cX1_bar 70 = .ok (.ireturn, 1) := by decide +kernel
theorem dX1_bar_71 : decode cX1_bar 71 = .ok (.iload_n 3, 1) := by decide +kernel
theorem dX1_bar_72 : decode cX1_bar 72 = .ok (.bipush 30, 2) := by decide +kernel
theorem dX1_bar_74 : decode cX1_bar 74 = .ok (.if_icmp .le 5, 3) := by decide +kernel
theorem dX1_bar_77 : decode cX1_bar 77 = .ok (.iconst 5, 1) := by decide +kernel
theorem dX1_bar_78 : decode cX1_bar 78 = .ok (.ireturn, 1) := by decide +kernel
theorem dX1_bar_79 : decode cX1_bar 79 = .ok (.aload_n 1, 1) := by decide +kernel
theorem dX1_bar_80 : decode cX1_bar 80 = .ok (.getfield 89, 3) := by decide +kernel
theorem dX1_bar_83 : decode cX1_bar 83 = .ok (.invokevirtual 93, 3) := by decide +kernel
theorem dX1_bar_86 : decode cX1_bar 86 = .ok (.bipush 30, 2) := by decide +kernel
theorem dX1_bar_88 : decode cX1_bar 88 = .ok (.if_icmp .ge 6, 3) := by decide +kernel
theorem dX1_bar_91 : decode cX1_bar 91 = .ok (.bipush 6, 2) := by decide +kernel
theorem dX1_bar_93 : decode cX1_bar 93 = .ok (.ireturn, 1) := by decide +kernel
theorem dX1_bar_94 : decode cX1_bar 94 = .ok (.iload 4, 2) := by decide +kernel
theorem dX1_bar_96 : decode cX1_bar 96 = .ok (.ifCond .eq 7, 3) := by decide +kernel
theorem dX1_bar_99 : decode cX1_bar 99 = .ok (.iconst 0, 1) := by decide +kernel
theorem dX1_bar_100 : decode cX1_bar 100 = .ok (.goto 5, 3) := by decide +kernel
theorem dX1_bar_103 : decode cX1_bar 103 = .ok (.bipush 7, 2) := by decide +kernel
theorem dX1_bar_105 : decode cX1_bar 105 = .ok (.ireturn, 1) := by decide +kernel
theorem dX1_slideOn_0 : decode cX1_slideOn 0 = .ok (.aload_n 1, 1) := by decide +kernel
theorem dX1_slideOn_1 : decode cX1_slideOn 1 = .ok (.invokevirtual 138, 3) := by decide +kernel
theorem dX1_slideOn_4 : decode cX1_slideOn 4 = .ok (.istore_n 2, 1) := by decide +kernel
theorem dX1_slideOn_5 : decode cX1_slideOn 5 = .ok (.aload_n 1, 1) := by decide +kernel
theorem dX1_slideOn_6 : decode cX1_slideOn 6 = .ok (.iload_n 2, 1) := by decide +kernel
theorem dX1_slideOn_7 : decode cX1_slideOn 7 = .ok (.invokevirtual 141, 3) := by decide +kernel
theorem dX1_slideOn_10 : decode cX1_slideOn 10 = .ok (.istore_n 3, 1) := by decide +kernel
theorem dX1_slideOn_11 : decode cX1_slideOn 11 = .ok (.aload_n 1, 1) := by decide +kernel
theorem dX1_slideOn_12 : decode cX1_slideOn 12 = .ok (.getfield 89, 3) := by decide +kernel
theorem dX1_slideOn_15 : decode cX1_slideOn 15 = .ok (.iload_n 2, 1) := by decide +kernel
theorem dX1_slideOn_16 : decode cX1_slideOn 16 = .ok (.invokevirtual 145, 3) := by decide +kernel
theorem dX1_slideOn_19 : decode cX1_slideOn 19 = .ok (.aload_n 1, 1) := by decide +kernel
theorem dX1_slideOn_20 : decode cX1_slideOn 20 = .ok (.iconst (-1), 1) := by decide +kernel
theorem dX1_slideOn_21 : decode cX1_slideOn 21 = .ok (.putfield 102, 3) := by decide +kernel
theorem dX1_slideOn_24 : decode cX1_slideOn 24 = .ok (.aload_n 1, 1) := by decide +kernel
theorem dX1_slideOn_25 : decode cX1_slideOn 25 = .ok (.iconst 0, 1) := by decide +kernel
theorem dX1_slideOn_26 : decode cX1_slideOn 26 = .ok (.putfield 121, 3) := by decide +kernel
theorem dX1_slideOn_29 : decode cX1_slideOn 29 = .ok (.aload_n 1, 1) := by decide +kernel
theorem dX1_slideOn_30 : decode cX1_slideOn 30 = .ok (.dup, 1) := by decide +kernel
theorem dX1_slideOn_31 : decode cX1_slideOn 31 = .ok (.getfield 149, 3) := by decide +kernel
theorem dX1_slideOn_34 : decode cX1_slideOn 34 = .ok (.iconst 1, 1) := by decide +kernel
theorem dX1_slideOn_35 : decode cX1_slideOn 35 = .ok (.iadd, 1) := by decide +kernel
theorem dX1_slideOn_36 : decode cX1_slideOn 36 = .ok (.putfield 149, 3) := by decide +kernel
theorem dX1_slideOn_39 : decode cX1_slideOn 39 = .ok (.aload_n 0, 1) := by decide +kernel
theorem dX1_slideOn_40 : decode cX1_slideOn 40 = .ok (.dup, 1) := by decide +kernel
theorem dX1_slideOn_41 : decode cX1_slideOn 41 = .ok (.getfield 57, 3) := by decide +kernel
theorem dX1_slideOn_44 : decode cX1_slideOn 44 = .ok (.iconst 1, 1) := by decide +kernel
theorem dX1_slideOn_45 : decode cX1_slideOn 45 = .ok (.iadd, 1) := by decide +kernel
theorem dX1_slideOn_46 : decode cX1_slideOn 46 = .ok (.putfield 57, 3) := by decide +kernel
theorem dX1_slideOn_49 : decode cX1_slideOn 49 = .ok (.iload_n 3, 1) := by decide +kernel
theorem dX1_slideOn_50 : decode cX1_slideOn 50 = .ok (.sipush 900, 3) := by decide +kernel
theorem dX1_slideOn_53 : decode cX1_slideOn 53 = .ok (.if_icmp .lt 13, 3) := by decide +kernel
theorem dX1_slideOn_56 : decode cX1_slideOn 56 = .ok (.aload_n 0, 1) := by decide +kernel
theorem dX1_slideOn_57 : decode cX1_slideOn 57 = .ok (.dup, 1) := by decide +kernel
theorem dX1_slideOn_58 : decode cX1_slideOn 58 = .ok (.getfield 60, 3) := by decide +kernel
theorem dX1_slideOn_61 : decode cX1_slideOn 61 = .ok (.iconst 1, 1) := by decide +kernel
theorem dX1_slideOn_62 : decode cX1_slideOn 62 = .ok (.iadd, 1) := by decide +kernel
theorem dX1_slideOn_63 : decode cX1_slideOn 63 = .ok (.putfield 60, 3) := by decide +kernel
theorem dX1_slideOn_66 : decode cX1_slideOn 66 = .ok (.iload_n 3, 1) := by decide +kernel
theorem dX1_slideOn_67 : decode cX1_slideOn 67 = .ok (.ireturn, 1) := by decide +kernel
theorem dX1_passHour_0 : decode cX1_passHour 0 = .ok (.aload_n 0, 1) := by decide +kernel
theorem dX1_passHour_1 : decode cX1_passHour 1 = .ok (.dup, 1) := by decide +kernel
theorem dX1_passHour_2 : decode cX1_passHour 2 = .ok (.getfield 48, 3) := by decide +kernel
theorem dX1_passHour_5 : decode cX1_passHour 5 = .ok (.iconst 1, 1) := by decide +kernel
theorem dX1_passHour_6 : decode cX1_passHour 6 = .ok (.iadd, 1) := by decide +kernel
theorem dX1_passHour_7 : decode cX1_passHour 7 = .ok (.putfield 48, 3) := by decide +kernel
theorem dX1_passHour_10 : decode cX1_passHour 10 = .ok (.aload_n 0, 1) := by decide +kernel
theorem dX1_passHour_11 : decode cX1_passHour 11 = .ok (.aload_n 1, 1) := by decide +kernel
theorem dX1_passHour_12 : decode cX1_passHour 12 = .ok (.getfield 150, 3) := by decide +kernel
theorem dX1_passHour_15 : decode cX1_passHour 15 = .ok (.putfield 51, 3) := by decide +kernel
theorem dX1_passHour_18 : decode cX1_passHour 18 = .ok (.iconst 0, 1) := by decide +kernel
theorem dX1_passHour_19 : decode cX1_passHour 19 = .ok (.istore_n 2, 1) := by decide +kernel
theorem dX1_passHour_20 : decode cX1_passHour 20 = .ok (.iload_n 2, 1) := by decide +kernel
theorem dX1_passHour_21 : decode cX1_passHour 21 = .ok (.aload_n 0, 1) := by decide +kernel
theorem dX1_passHour_22 : decode cX1_passHour 22 = .ok (.getfield 42, 3) := by decide +kernel
theorem dX1_passHour_25 : decode cX1_passHour 25 = .ok (.if_icmp .ge 102, 3) := by decide +kernel
theorem dX1_passHour_28 : decode cX1_passHour 28 = .ok (.aload_n 0, 1) := by decide +kernel
theorem dX1_passHour_29 : decode cX1_passHour 29 = .ok (.getfield 20, 3) := by decide +kernel
theorem dX1_passHour_32 : decode cX1_passHour 32 = .ok (.iload_n 2, 1) := by decide +kernel
theorem dX1_passHour_33 : decode cX1_passHour 33 = .ok (.aaload, 1) := by decide +kernel
theorem dX1_passHour_34 : decode cX1_passHour 34 = .ok (.astore_n 3, 1) := by decide +kernel
theorem dX1_passHour_35 : decode cX1_passHour 35 = .ok (.aload_n 1, 1) := by decide +kernel
theorem dX1_passHour_36 : decode cX1_passHour 36 = .ok (.getfield 155, 3) := by decide +kernel
theorem dX1_passHour_39 : decode cX1_passHour 39 = .ok (.aload_n 3, 1) := by decide +kernel
theorem dX1_passHour_40 : decode cX1_passHour 40 = .ok (.getfield 158, 3) := by decide +kernel
theorem dX1_passHour_43 : decode cX1_passHour 43 = .ok (.iconst 2, 1) := by decide +kernel
theorem dX1_passHour_44 : decode cX1_passHour 44 = .ok (.idiv, 1) := by decide +kernel
theorem dX1_passHour_45 : decode cX1_passHour 45 = .ok (.isub, 1) := by decide +kernel
theorem dX1_passHour_46 : decode cX1_passHour 46 = .ok (.istore 4, 2) := by decide +kernel
theorem dX1_passHour_48 : decode cX1_passHour 48 = .ok (.aload_n 3, 1) := by decide +kernel
theorem dX1_passHour_49 : decode cX1_passHour 49 = .ok (.aload_n 1, 1) := by decide +kernel
theorem dX1_passHour_50 : decode cX1_passHour 50 = .ok (.iload 4, 2) := by decide +kernel
theorem dX1_passHour_52 : decode cX1_passHour 52 = .ok (.aload_n 0, 1) := by decide +kernel
theorem dX1_passHour_53 : decode cX1_passHour 53 = .ok (.invokevirtual 161, 3) := by decide +kernel
theorem dX1_passHour_56 : decode cX1_passHour 56 = .ok (.invokevirtual 164, 3) := by decide +kernel
theorem dX1_passHour_59 : decode cX1_passHour 59 = .ok (.aload_n 0, 1) := by decide +kernel
theorem dX1_passHour_60 : decode cX1_passHour 60 = .ok (.aload_n 3, 1) := by decide +kernel
theorem dX1_passHour_61 : decode cX1_passHour 61 = .ok (.iload 4, 2) := by decide +kernel
theorem dX1_passHour_63 : decode cX1_passHour 63 = .ok (.bipush 100, 2) := by decide +kernel
theorem dX1_passHour_65 : decode cX1_passHour 65 = .ok (.aload_n 1, 1) := by decide +kernel
theorem dX1_passHour_66 : decode cX1_passHour 66 = .ok (.getfield 168, 3) := by decide +kernel
theorem dX1_passHour_69 : decode cX1_passHour 69 = .ok (.isub, 1) := by decide +kernel
theorem dX1_passHour_70 : decode cX1_passHour 70 = .ok (.bipush 10, 2) := by decide +kernel
theorem dX1_passHour_72 : decode cX1_passHour 72 = .ok (.idiv, 1) := by decide +kernel
theorem dX1_passHour_73 : decode cX1_passHour 73 = .ok (.isub, 1) := by decide +kernel
theorem dX1_passHour_74 : decode cX1_passHour 74 = .ok (.invokevirtual 171, 3) := by decide +kernel
theorem dX1_passHour_77 : decode cX1_passHour 77 = .ok (.aload_n 3, 1) := by decide +kernel
theorem dX1_passHour_78 : decode cX1_passHour 78 = .ok (.aload_n 3, 1) := by decide +kernel
theorem dX1_passHour_79 : decode cX1_passHour 79 = .ok (.invokevirtual 105, 3) := by decide +kernel
theorem dX1_passHour_82 : decode cX1_passHour 82 = .ok (.putfield 175, 3) := by decide +kernel
theorem dX1_passHour_85 : decode cX1_passHour 85 = .ok (.aload_n 3, 1) := by decide +kernel
theorem dX1_passHour_86 : decode cX1_passHour 86 = .ok (.getfield 175, 3) := by decide +kernel
theorem dX1_passHour_89 : decode cX1_passHour 89 = .ok (.bipush 100, 2) := by decide +kernel
theorem dX1_passHour_91 : decode cX1_passHour 91 = .ok (.if_icmp .lt 30, 3) := by decide +kernel
theorem dX1_passHour_94 : decode cX1_passHour 94 = .ok (.aload_n 0, 1) := by decide +kernel
theorem dX1_passHour_95 : decode cX1_passHour 95 = .ok (.dup, 1) := by decide +kernel
theorem dX1_passHour_96 : decode cX1_passHour 96 = .ok (.getfield 63, 3) := by decide +kernel
theorem dX1_passHour_99 : decode cX1_passHour 99 = .ok (.aload_n 3, 1) := by decide +kernel
theorem dX1_passHour_100 : decode cX1_passHour 100 = .ok (.getfield 78, 3) := by decide +kernel
theorem dX1_passHour_103 : decode cX1_passHour 103 = .ok (.invokestatic 82, 3) := by decide +kernel
theorem dX1_passHour_106 : decode cX1_passHour 106 = .ok (.iadd, 1) := by decide +kernel
theorem dX1_passHour_107 : decode cX1_passHour 107 = .ok (.putfield 63, 3) := by decide +kernel
theorem dX1_passHour_110 : decode cX1_passHour 110 = .ok (.aload_n 3, 1) := by decide +kernel
theorem dX1_passHour_111 : decode cX1_passHour 111 = .ok (.iconst 0, 1) := by decide +kernel
theorem dX1_passHour_112 : decode cX1_passHour 112 = .ok (.putfield 78, 3) := by decide +kernel
theorem dX1_passHour_115 : decode cX1_passHour 115 = .ok (.aload_n 0, 1) := by decide +kernel
theorem dX1_passHour_116 : decode cX1_passHour 116 = .ok (.aload_n 3, 1) := by decide +kernel
theorem dX1_passHour_117 : decode cX1_passHour 117 = .ok (.invokevirtual 178, 3) := by decide +kernel
theorem dX1_passHour_120 : decode cX1_passHour 120 = .ok (.pop, 1) := by decide +kernel
theorem dX1_passHour_121 : decode cX1_passHour 121 = .ok (.iinc 2 1, 3) := by decide +kernel
theorem dX1_passHour_124 : decode cX1_passHour 124 = .ok (.goto (-104), 3) := by decide +kernel
theorem dX1_passHour_127 : decode cX1_passHour 127 = .ok (.aload_n 0, 1) := by decide +kernel
theorem dX1_passHour_128 : decode cX1_passHour 128 = .ok (.aload_n 1, 1) := by decide +kernel
theorem dX1_passHour_129 : decode cX1_passHour 129 = .ok (.getfield 150, 3) := by decide +kernel
theorem dX1_passHour_132 : decode cX1_passHour 132 = .ok (.invokevirtual 182, 3) := by decide +kernel
theorem dX1_passHour_135 : decode cX1_passHour 135 = .ok (.aload_n 0, 1) := by decide +kernel
theorem dX1_passHour_136 : decode cX1_passHour 136 = .ok (.invokevirtual 161, 3) := by decide +kernel
theorem dX1_passHour_139 : decode cX1_passHour 139 = .ok (.bipush 9, 2) := by decide +kernel
theorem dX1_passHour_141 : decode cX1_passHour 141 = .ok (.if_icmp .lt 16, 3) := by decide +kernel
theorem dX1_passHour_144 : decode cX1_passHour 144 = .ok (.aload_n 0, 1) := by decide +kernel
theorem dX1_passHour_145 : decode cX1_passHour 145 = .ok (.invokevirtual 161, 3) := by decide +kernel
theorem dX1_passHour_148 : decode cX1_passHour 148 = .ok (.bipush 16, 2) := by decide +kernel
theorem dX1_passHour_150 : decode cX1_passHour 150 = .ok (.if_icmp .gt 7, 3) := by decide +kernel
theorem dX1_passHour_153 : decode cX1_passHour 153 = .ok (.aload_n 0, 1) := by decide +kernel
theorem dX1_passHour_154 : decode cX1_passHour 154 = .ok (.invokevirtual 185, 3) := by decide +kernel
theorem dX1_passHour_157 : decode cX1_passHour 157 = .ok (.return_, 1) := by decide +kernel
theorem dX1_holdLifts_0 : decode cX1_holdLifts 0 = .ok (.iconst 0, 1) := by decide +kernel
theorem dX1_holdLifts_1 : decode cX1_holdLifts 1 = .ok (.istore_n 2, 1) := by decide +kernel
theorem dX1_holdLifts_2 : decode cX1_holdLifts 2 = .ok (.iload_n 2, 1) := by decide +kernel
theorem dX1_holdLifts_3 : decode cX1_holdLifts 3 = .ok (.aload_n 0, 1) := by decide +kernel
theorem dX1_holdLifts_4 : decode cX1_holdLifts 4 = .ok (.getfield 35, 3) := by decide +kernel
theorem dX1_holdLifts_7 : decode cX1_holdLifts 7 = .ok (.if_icmp .ge 32, 3) := by decide +kernel
theorem dX1_holdLifts_10 : decode cX1_holdLifts 10 = .ok (.iload_n 1, 1) := by decide +kernel
theorem dX1_holdLifts_11 : decode cX1_holdLifts 11 = .ok (.aload_n 0, 1) := by decide +kernel
theorem dX1_holdLifts_12 : decode cX1_holdLifts 12 = .ok (.getfield 11, 3) := by decide +kernel
theorem dX1_holdLifts_15 : decode cX1_holdLifts 15 = .ok (.iload_n 2, 1) := by decide +kernel
theorem dX1_holdLifts_16 : decode cX1_holdLifts 16 = .ok (.aaload, 1) := by decide +kernel
theorem dX1_holdLifts_17 : decode cX1_holdLifts 17 = .ok (.getfield 188, 3) := by decide +kernel
theorem dX1_holdLifts_20 : decode cX1_holdLifts 20 = .ok (.if_icmp .le 13, 3) := by decide +kernel
theorem dX1_holdLifts_23 : decode cX1_holdLifts 23 = .ok (.aload_n 0, 1) := by decide +kernel
theorem dX1_holdLifts_24 : decode cX1_holdLifts 24 = .ok (.getfield 11, 3) := by decide +kernel
theorem dX1_holdLifts_27 : decode cX1_holdLifts 27 = .ok (.iload_n 2, 1) := by decide +kernel
theorem dX1_holdLifts_28 : decode cX1_holdLifts 28 = .ok (.aaload, 1) := by decide +kernel
theorem dX1_holdLifts_29 : decode cX1_holdLifts 29 = .ok (.iconst 1, 1) := by decide +kernel
theorem dX1_holdLifts_30 : decode cX1_holdLifts 30 = .ok (.putfield 191, 3) := by decide +kernel
theorem dX1_holdLifts_33 : decode cX1_holdLifts 33 = .ok (.iinc 2 1, 3) := by decide +kernel
theorem dX1_holdLifts_36 : decode cX1_holdLifts 36 = .ok (.goto (-34), 3) := by decide +kernel
theorem dX1_holdLifts_39 : decode cX1_holdLifts 39 = .ok (.return_, 1) := by decide +kernel
theorem dX1_makeSnow_0 : decode cX1_makeSnow 0 = .ok (.iload_n 2, 1) := by decide +kernel
theorem dX1_makeSnow_1 : decode cX1_makeSnow 1 = .ok (.bipush (-4), 2) := by decide +kernel
theorem dX1_makeSnow_3 : decode cX1_makeSnow 3 = .ok (.if_icmp .gt 60, 3) := by decide +kernel
theorem dX1_makeSnow_6 : decode cX1_makeSnow 6 = .ok (.bipush (-3), 2) := by decide +kernel
theorem dX1_makeSnow_8 : decode cX1_makeSnow 8 = .ok (.iload_n 2, 1) := by decide +kernel
theorem dX1_makeSnow_9 : decode cX1_makeSnow 9 = .ok (.isub, 1) := by decide +kernel
theorem dX1_makeSnow_10 : decode cX1_makeSnow 10 = .ok (.bipush 6, 2) := by decide +kernel
theorem dX1_makeSnow_12 : decode cX1_makeSnow 12 = .ok (.invokestatic 194, 3) := by decide +kernel
theorem dX1_makeSnow_15 : decode cX1_makeSnow 15 = .ok (.istore_n 3, 1) := by decide +kernel
theorem dX1_makeSnow_16 : decode cX1_makeSnow 16 = .ok (.iconst 0, 1) := by decide +kernel
theorem dX1_makeSnow_17 : decode cX1_makeSnow 17 = .ok (.istore 4, 2) := by decide +kernel
theorem dX1_makeSnow_19 : decode cX1_makeSnow 19 = .ok (.iload 4, 2) := by decide +kernel
theorem dX1_makeSnow_21 : decode cX1_makeSnow 21 = .ok (.aload_n 1, 1) := by decide +kernel
theorem dX1_makeSnow_22 : decode cX1_makeSnow 22 = .ok (.getfield 75, 3) := by decide +kernel
theorem dX1_makeSnow_25 : decode cX1_makeSnow 25 = .ok (.if_icmp .ge 38, 3) := by decide +kernel
theorem dX1_makeSnow_28 : decode cX1_makeSnow 28 = .ok (.aload_n 0, 1) := by decide +kernel
theorem dX1_makeSnow_29 : decode cX1_makeSnow 29 = .ok (.getfield 25, 3) := by decide +kernel
theorem dX1_makeSnow_32 : decode cX1_makeSnow 32 = .ok (.bipush 105, 2) := by decide +kernel
theorem dX1_makeSnow_34 : decode cX1_makeSnow 34 = .ok (.if_icmp .lt 29, 3) := by decide +kernel
theorem dX1_makeSnow_37 : decode cX1_makeSnow 37 = .ok (.aload_n 0, 1) := by decide +kernel
theorem dX1_makeSnow_38 : decode cX1_makeSnow 38 = .ok (.dup, 1) := by decide +kernel
theorem dX1_makeSnow_39 : decode cX1_makeSnow 39 = .ok (.getfield 25, 3) := by decide +kernel
theorem dX1_makeSnow_42 : decode cX1_makeSnow 42 = .ok (.iconst 5, 1) := by decide +kernel
theorem dX1_makeSnow_43 : decode cX1_makeSnow 43 = .ok (.isub, 1) := by decide +kernel
theorem dX1_makeSnow_44 : decode cX1_makeSnow 44 = .ok (.putfield 25, 3) := by decide +kernel
theorem dX1_makeSnow_47 : decode cX1_makeSnow 47 = .ok (.aload_n 1, 1) := by decide +kernel
theorem dX1_makeSnow_48 : decode cX1_makeSnow 48 = .ok (.dup, 1) := by decide +kernel
theorem dX1_makeSnow_49 : decode cX1_makeSnow 49 = .ok (.getfield 197, 3) := by decide +kernel
theorem dX1_makeSnow_52 : decode cX1_makeSnow 52 = .ok (.iload_n 3, 1) := by decide +kernel
theorem dX1_makeSnow_53 : decode cX1_makeSnow 53 = .ok (.iadd, 1) := by decide +kernel
theorem dX1_makeSnow_54 : decode cX1_makeSnow 54 = .ok (.putfield 197, 3) := by decide +kernel
theorem dX1_makeSnow_57 : decode cX1_makeSnow 57 = .ok (.iinc 4 1, 3) := by decide +kernel
theorem dX1_makeSnow_60 : decode cX1_makeSnow 60 = .ok (.goto (-41), 3) := by decide +kernel
theorem dX1_makeSnow_63 : decode cX1_makeSnow 63 = .ok (.aload_n 1, 1) := by decide +kernel
theorem dX1_makeSnow_64 : decode cX1_makeSnow 64 = .ok (.getfield 99, 3) := by decide +kernel
theorem dX1_makeSnow_67 : decode cX1_makeSnow 67 = .ok (.iconst 1, 1) := by decide +kernel
theorem dX1_makeSnow_68 : decode cX1_makeSnow 68 = .ok (.if_icmp .ge 7, 3) := by decide +kernel
theorem dX1_makeSnow_71 : decode cX1_makeSnow 71 = .ok (.iconst 0, 1) := by decide +kernel
theorem dX1_makeSnow_72 : decode cX1_makeSnow 72 = .ok (.goto 12, 3) := by decide +kernel
theorem dX1_makeSnow_75 : decode cX1_makeSnow 75 = .ok (.aload_n 1, 1) := by decide +kernel
theorem dX1_makeSnow_76 : decode cX1_makeSnow 76 = .ok (.getfield 197, 3) := by decide +kernel
theorem dX1_makeSnow_79 : decode cX1_makeSnow 79 = .ok (.aload_n 1, 1) := by decide +kernel
theorem dX1_makeSnow_80 : decode cX1_makeSnow 80 = .ok (.getfield 99, 3) := by decide +kernel
theorem dX1_makeSnow_83 : decode cX1_makeSnow 83 = .ok (.idiv, 1) := by decide +kernel
theorem dX1_makeSnow_84 : decode cX1_makeSnow 84 = .ok (.istore_n 3, 1) := by decide +kernel
theorem dX1_makeSnow_85 : decode cX1_makeSnow 85 = .ok (.aload_n 1, 1) := by decide +kernel
theorem dX1_makeSnow_86 : decode cX1_makeSnow 86 = .ok (.dup, 1) := by decide +kernel
theorem dX1_makeSnow_87 : decode cX1_makeSnow 87 = .ok (.getfield 197, 3) := by decide +kernel
theorem dX1_makeSnow_90 : decode cX1_makeSnow 90 = .ok (.iload_n 3, 1) := by decide +kernel
theorem dX1_makeSnow_91 : decode cX1_makeSnow 91 = .ok (.aload_n 1, 1) := by decide +kernel
theorem dX1_makeSnow_92 : decode cX1_makeSnow 92 = .ok (.getfield 99, 3) := by decide +kernel
theorem dX1_makeSnow_95 : decode cX1_makeSnow 95 = .ok (.imul, 1) := by decide +kernel
theorem dX1_makeSnow_96 : decode cX1_makeSnow 96 = .ok (.isub, 1) := by decide +kernel
theorem dX1_makeSnow_97 : decode cX1_makeSnow 97 = .ok (.putfield 197, 3) := by decide +kernel
theorem dX1_makeSnow_100 : decode cX1_makeSnow 100 = .ok (.iload_n 3, 1) := by decide +kernel
theorem dX1_makeSnow_101 : decode cX1_makeSnow 101 = .ok (.ifCond .le 25, 3) := by decide +kernel
theorem dX1_makeSnow_104 : decode cX1_makeSnow 104 = .ok (.aload_n 1, 1) := by decide +kernel
theorem dX1_makeSnow_105 : decode cX1_makeSnow 105 = .ok (.getfield 89, 3) := by decide +kernel
theorem dX1_makeSnow_108 : decode cX1_makeSnow 108 = .ok (.iconst 3, 1) := by decide +kernel
theorem dX1_makeSnow_109 : decode cX1_makeSnow 109 = .ok (.invokevirtual 200, 3) := by decide +kernel
theorem dX1_makeSnow_112 : decode cX1_makeSnow 112 = .ok (.ifCond .eq 14, 3) := by decide +kernel
theorem dX1_makeSnow_115 : decode cX1_makeSnow 115 = .ok (.aload_n 1, 1) := by decide +kernel
theorem dX1_makeSnow_116 : decode cX1_makeSnow 116 = .ok (.getfield 89, 3) := by decide +kernel
theorem dX1_makeSnow_119 : decode cX1_makeSnow 119 = .ok (.iload_n 3, 1) := by decide +kernel
theorem dX1_makeSnow_120 : decode cX1_makeSnow 120 = .ok (.invokevirtual 204, 3) := by decide +kernel
theorem dX1_makeSnow_123 : decode cX1_makeSnow 123 = .ok (.goto 18, 3) := by decide +kernel
theorem dX1_makeSnow_126 : decode cX1_makeSnow 126 = .ok (.iload_n 3, 1) := by decide +kernel
theorem dX1_makeSnow_127 : decode cX1_makeSnow 127 = .ok (.ifCond .le 14, 3) := by decide +kernel
theorem dX1_makeSnow_130 : decode cX1_makeSnow 130 = .ok (.aload_n 1, 1) := by decide +kernel
theorem dX1_makeSnow_131 : decode cX1_makeSnow 131 = .ok (.getfield 89, 3) := by decide +kernel
theorem dX1_makeSnow_134 : decode cX1_makeSnow 134 = .ok (.iconst 3, 1) := by decide +kernel
theorem dX1_makeSnow_135 : decode cX1_makeSnow 135 = .ok (.iload_n 3, 1) := by decide +kernel
theorem dX1_makeSnow_136 : decode cX1_makeSnow 136 = .ok (.bipush 40, 2) := by decide +kernel
theorem dX1_makeSnow_138 : decode cX1_makeSnow 138 = .ok (.invokevirtual 207, 3) := by decide +kernel
theorem dX1_makeSnow_141 : decode cX1_makeSnow 141 = .ok (.return_, 1) := by decide +kernel
theorem dX1_carrySkiers_0 : decode cX1_carrySkiers 0 = .ok (.aload_n 0, 1) := by decide +kernel
theorem dX1_carrySkiers_1 : decode cX1_carrySkiers 1 = .ok (.getfield 54, 3) := by decide +kernel
theorem dX1_carrySkiers_4 : decode cX1_carrySkiers 4 = .ok (.istore_n 1, 1) := by decide +kernel
theorem dX1_carrySkiers_5 : decode cX1_carrySkiers 5 = .ok (.iconst 0, 1) := by decide +kernel
theorem dX1_carrySkiers_6 : decode cX1_carrySkiers 6 = .ok (.istore_n 2, 1) := by decide +kernel
theorem dX1_carrySkiers_7 : decode cX1_carrySkiers 7 = .ok (.iload_n 2, 1) := by decide +kernel
theorem dX1_carrySkiers_8 : decode cX1_carrySkiers 8 = .ok (.aload_n 0, 1) := by decide +kernel
theorem dX1_carrySkiers_9 : decode cX1_carrySkiers 9 = .ok (.getfield 35, 3) := by decide +kernel
theorem dX1_carrySkiers_12 : decode cX1_carrySkiers 12 = .ok (.if_icmp .ge 86, 3) := by decide +kernel
theorem dX1_carrySkiers_15 : decode cX1_carrySkiers 15 = .ok (.aload_n 0, 1) := by decide +kernel
theorem dX1_carrySkiers_16 : decode cX1_carrySkiers 16 = .ok (.iload_n 2, 1) := by decide +kernel
theorem dX1_carrySkiers_17 : decode cX1_carrySkiers 17 = .ok (.invokevirtual 211, 3) := by decide +kernel
theorem dX1_carrySkiers_20 : decode cX1_carrySkiers 20 = .ok (.istore_n 3, 1) := by decide +kernel
theorem dX1_carrySkiers_21 : decode cX1_carrySkiers 21 = .ok (.aload_n 0, 1) := by decide +kernel
theorem dX1_carrySkiers_22 : decode cX1_carrySkiers 22 = .ok (.getfield 11, 3) := by decide +kernel
theorem dX1_carrySkiers_25 : decode cX1_carrySkiers 25 = .ok (.iload_n 2, 1) := by decide +kernel
theorem dX1_carrySkiers_26 : decode cX1_carrySkiers 26 = .ok (.aaload, 1) := by decide +kernel
theorem dX1_carrySkiers_27 : decode cX1_carrySkiers 27 = .ok (.invokevirtual 128, 3) := by decide +kernel
theorem dX1_carrySkiers_30 : decode cX1_carrySkiers 30 = .ok (.ifCond .eq 62, 3) := by decide +kernel
theorem dX1_carrySkiers_33 : decode cX1_carrySkiers 33 = .ok (.iload_n 3, 1) := by decide +kernel
theorem dX1_carrySkiers_34 : decode cX1_carrySkiers 34 = .ok (.ifCond .le 58, 3) := by decide +kernel
theorem dX1_carrySkiers_37 : decode cX1_carrySkiers 37 = .ok (.aload_n 0, 1) := by decide +kernel
theorem dX1_carrySkiers_38 : decode cX1_carrySkiers 38 = .ok (.getfield 11, 3) := by decide +kernel
theorem dX1_carrySkiers_41 : decode cX1_carrySkiers 41 = .ok (.iload_n 2, 1) := by decide +kernel
theorem dX1_carrySkiers_42 : decode cX1_carrySkiers 42 = .ok (.aaload, 1) := by decide +kernel
theorem dX1_carrySkiers_43 : decode cX1_carrySkiers 43 = .ok (.getfield 214, 3) := by decide +kernel
theorem dX1_carrySkiers_46 : decode cX1_carrySkiers 46 = .ok (.iload_n 1, 1) := by decide +kernel
theorem dX1_carrySkiers_47 : decode cX1_carrySkiers 47 = .ok (.invokestatic 194, 3) := by decide +kernel
theorem dX1_carrySkiers_50 : decode cX1_carrySkiers 50 = .ok (.istore 4, 2) := by decide +kernel
theorem dX1_carrySkiers_52 : decode cX1_carrySkiers 52 = .ok (.iload_n 1, 1) := by decide +kernel
theorem dX1_carrySkiers_53 : decode cX1_carrySkiers 53 = .ok (.iload 4, 2) := by decide +kernel
theorem dX1_carrySkiers_55 : decode cX1_carrySkiers 55 = .ok (.isub, 1) := by decide +kernel
theorem dX1_carrySkiers_56 : decode cX1_carrySkiers 56 = .ok (.istore_n 1, 1) := by decide +kernel
theorem dX1_carrySkiers_57 : decode cX1_carrySkiers 57 = .ok (.aload_n 0, 1) := by decide +kernel
theorem dX1_carrySkiers_58 : decode cX1_carrySkiers 58 = .ok (.dup, 1) := by decide +kernel
theorem dX1_carrySkiers_59 : decode cX1_carrySkiers 59 = .ok (.getfield 69, 3) := by decide +kernel
theorem dX1_carrySkiers_62 : decode cX1_carrySkiers 62 = .ok (.iload 4, 2) := by decide +kernel
theorem dX1_carrySkiers_64 : decode cX1_carrySkiers 64 = .ok (.iadd, 1) := by decide +kernel
theorem dX1_carrySkiers_65 : decode cX1_carrySkiers 65 = .ok (.putfield 69, 3) := by decide +kernel
theorem dX1_carrySkiers_68 : decode cX1_carrySkiers 68 = .ok (.aload_n 0, 1) := by decide +kernel
theorem dX1_carrySkiers_69 : decode cX1_carrySkiers 69 = .ok (.getfield 11, 3) := by decide +kernel
theorem dX1_carrySkiers_72 : decode cX1_carrySkiers 72 = .ok (.iload_n 2, 1) := by decide +kernel
theorem dX1_carrySkiers_73 : decode cX1_carrySkiers 73 = .ok (.aaload, 1) := by decide +kernel
theorem dX1_carrySkiers_74 : decode cX1_carrySkiers 74 = .ok (.dup, 1) := by decide +kernel
theorem dX1_carrySkiers_75 : decode cX1_carrySkiers 75 = .ok (.getfield 217, 3) := by decide +kernel
theorem dX1_carrySkiers_78 : decode cX1_carrySkiers 78 = .ok (.iload 4, 2) := by decide +kernel
theorem dX1_carrySkiers_80 : decode cX1_carrySkiers 80 = .ok (.iadd, 1) := by decide +kernel
theorem dX1_carrySkiers_81 : decode cX1_carrySkiers 81 = .ok (.putfield 217, 3) := by decide +kernel
theorem dX1_carrySkiers_84 : decode cX1_carrySkiers 84 = .ok (.aload_n 0, 1) := by decide +kernel
theorem dX1_carrySkiers_85 : decode cX1_carrySkiers 85 = .ok (.iload_n 2, 1) := by decide +kernel
theorem dX1_carrySkiers_86 : decode cX1_carrySkiers 86 = .ok (.iload 4, 2) := by decide +kernel
theorem dX1_carrySkiers_88 : decode cX1_carrySkiers 88 = .ok (.iload_n 3, 1) := by decide +kernel
theorem dX1_carrySkiers_89 : decode cX1_carrySkiers 89 = .ok (.invokevirtual 218, 3) := by decide +kernel
theorem dX1_carrySkiers_92 : decode cX1_carrySkiers 92 = .ok (.iinc 2 1, 3) := by decide +kernel
theorem dX1_carrySkiers_95 : decode cX1_carrySkiers 95 = .ok (.goto (-88), 3) := by decide +kernel
theorem dX1_carrySkiers_98 : decode cX1_carrySkiers 98 = .ok (.aload_n 0, 1) := by decide +kernel
theorem dX1_carrySkiers_99 : decode cX1_carrySkiers 99 = .ok (.dup, 1) := by decide +kernel
theorem dX1_carrySkiers_100 : decode cX1_carrySkiers 100 = .ok (.getfield 72, 3) := by decide +kernel
theorem dX1_carrySkiers_103 : decode cX1_carrySkiers 103 = .ok (.iload_n 1, 1) := by decide +kernel
theorem dX1_carrySkiers_104 : decode cX1_carrySkiers 104 = .ok (.iadd, 1) := by decide +kernel
theorem dX1_carrySkiers_105 : decode cX1_carrySkiers 105 = .ok (.putfield 72, 3) := by decide +kernel
theorem dX1_carrySkiers_108 : decode cX1_carrySkiers 108 = .ok (.return_, 1) := by decide +kernel
theorem dX1_shareOut_0 : decode cX1_shareOut 0 = .ok (.iload_n 3, 1) := by decide +kernel
theorem dX1_shareOut_1 : decode cX1_shareOut 1 = .ok (.iconst 1, 1) := by decide +kernel
theorem dX1_shareOut_2 : decode cX1_shareOut 2 = .ok (.if_icmp .ge 4, 3) := by decide +kernel
theorem dX1_shareOut_5 : decode cX1_shareOut 5 = .ok (.return_, 1) := by decide +kernel
theorem dX1_shareOut_6 : decode cX1_shareOut 6 = .ok (.iload_n 2, 1) := by decide +kernel
theorem dX1_shareOut_7 : decode cX1_shareOut 7 = .ok (.iload_n 3, 1) := by decide +kernel
theorem dX1_shareOut_8 : decode cX1_shareOut 8 = .ok (.irem, 1) := by decide +kernel
theorem dX1_shareOut_9 : decode cX1_shareOut 9 = .ok (.istore 4, 2) := by decide +kernel
theorem dX1_shareOut_11 : decode cX1_shareOut 11 = .ok (.iconst 0, 1) := by decide +kernel
theorem dX1_shareOut_12 : decode cX1_shareOut 12 = .ok (.istore 5, 2) := by decide +kernel
theorem dX1_shareOut_14 : decode cX1_shareOut 14 = .ok (.iload 5, 2) := by decide +kernel
theorem dX1_shareOut_16 : decode cX1_shareOut 16 = .ok (.aload_n 0, 1) := by decide +kernel
theorem dX1_shareOut_17 : decode cX1_shareOut 17 = .ok (.getfield 42, 3) := by decide +kernel
theorem dX1_shareOut_20 : decode cX1_shareOut 20 = .ok (.if_icmp .ge 56, 3) := by decide +kernel
theorem dX1_shareOut_23 : decode cX1_shareOut 23 = .ok (.aload_n 0, 1) := by decide +kernel
theorem dX1_shareOut_24 : decode cX1_shareOut 24 = .ok (.getfield 20, 3) := by decide +kernel
theorem dX1_shareOut_27 : decode cX1_shareOut 27 = .ok (.iload 5, 2) := by decide +kernel
theorem dX1_shareOut_29 : decode cX1_shareOut 29 = .ok (.aaload, 1) := by decide +kernel
theorem dX1_shareOut_30 : decode cX1_shareOut 30 = .ok (.getfield 78, 3) := by decide +kernel
theorem dX1_shareOut_33 : decode cX1_shareOut 33 = .ok (.ifCond .eq 37, 3) := by decide +kernel
theorem dX1_shareOut_36 : decode cX1_shareOut 36 = .ok (.aload_n 0, 1) := by decide +kernel
theorem dX1_shareOut_37 : decode cX1_shareOut 37 = .ok (.getfield 20, 3) := by decide +kernel
theorem dX1_shareOut_40 : decode cX1_shareOut 40 = .ok (.iload 5, 2) := by decide +kernel
theorem dX1_shareOut_42 : decode cX1_shareOut 42 = .ok (.aaload, 1) := by decide +kernel
theorem dX1_shareOut_43 : decode cX1_shareOut 43 = .ok (.getfield 86, 3) := by decide +kernel
theorem dX1_shareOut_46 : decode cX1_shareOut 46 = .ok (.iload_n 1, 1) := by decide +kernel
theorem dX1_shareOut_47 : decode cX1_shareOut 47 = .ok (.if_icmp .ne 23, 3) := by decide +kernel

theorem dX5_digest_44 : decode cX5_digest 44 = .ok (.iconst 0, 1) := by decide +kernel
theorem dX5_digest_45 : decode cX5_digest 45 = .ok (.istore 4, 2) := by decide +kernel
theorem dX5_digest_47 : decode cX5_digest 47 = .ok (.iload 4, 2) := by decide +kernel
theorem dX5_digest_49 : decode cX5_digest 49 = .ok (.bipush 13, 2) := by decide +kernel
theorem dX5_digest_51 : decode cX5_digest 51 = .ok (.if_icmp .gt 24, 3) := by decide +kernel
theorem dX5_digest_54 : decode cX5_digest 54 = .ok (.lload_n 1, 1) := by decide +kernel
theorem dX5_digest_55 : decode cX5_digest 55 = .ok (.ldc2_w 292, 3) := by decide +kernel
theorem dX5_digest_58 : decode cX5_digest 58 = .ok (.lmul, 1) := by decide +kernel
theorem dX5_digest_59 : decode cX5_digest 59 = .ok (.aload_n 0, 1) := by decide +kernel
theorem dX5_digest_60 : decode cX5_digest 60 = .ok (.iload_n 3, 1) := by decide +kernel
theorem dX5_digest_61 : decode cX5_digest 61 = .ok (.iload 4, 2) := by decide +kernel
theorem dX5_digest_63 : decode cX5_digest 63 = .ok (.invokevirtual 297, 3) := by decide +kernel
theorem dX5_digest_66 : decode cX5_digest 66 = .ok (.i2l, 1) := by decide +kernel
theorem dX5_digest_67 : decode cX5_digest 67 = .ok (.ladd, 1) := by decide +kernel
theorem dX5_digest_68 : decode cX5_digest 68 = .ok (.lstore_n 1, 1) := by decide +kernel
theorem dX5_digest_69 : decode cX5_digest 69 = .ok (.iinc 4 1, 3) := by decide +kernel
theorem dX5_digest_72 : decode cX5_digest 72 = .ok (.goto (-25), 3) := by decide +kernel
theorem dX5_digest_75 : decode cX5_digest 75 = .ok (.aload_n 0, 1) := by decide +kernel
theorem dX5_digest_76 : decode cX5_digest 76 = .ok (.lload_n 1, 1) := by decide +kernel
theorem dX5_digest_77 : decode cX5_digest 77 = .ok (.iload_n 3, 1) := by decide +kernel
theorem dX5_digest_78 : decode cX5_digest 78 = .ok (.invokevirtual 300, 3) := by decide +kernel
theorem dX5_digest_81 : decode cX5_digest 81 = .ok (.lstore_n 1, 1) := by decide +kernel
theorem dX5_digest_82 : decode cX5_digest 82 = .ok (.lload_n 1, 1) := by decide +kernel
theorem dX5_digest_83 : decode cX5_digest 83 = .ok (.ldc2_w 292, 3) := by decide +kernel
theorem dX5_digest_86 : decode cX5_digest 86 = .ok (.lmul, 1) := by decide +kernel
theorem dX5_digest_87 : decode cX5_digest 87 = .ok (.aload_n 0, 1) := by decide +kernel
theorem dX5_digest_88 : decode cX5_digest 88 = .ok (.iload_n 3, 1) := by decide +kernel
theorem dX5_digest_89 : decode cX5_digest 89 = .ok (.bipush 12, 2) := by decide +kernel
theorem dX5_digest_91 : decode cX5_digest 91 = .ok (.bipush (-6), 2) := by decide +kernel
theorem dX5_digest_93 : decode cX5_digest 93 = .ok (.iconst 3, 1) := by decide +kernel
theorem dX5_digest_94 : decode cX5_digest 94 = .ok (.invokevirtual 304, 3) := by decide +kernel
theorem dX5_digest_97 : decode cX5_digest 97 = .ok (.i2l, 1) := by decide +kernel
theorem dX5_digest_98 : decode cX5_digest 98 = .ok (.ladd, 1) := by decide +kernel
theorem dX5_digest_99 : decode cX5_digest 99 = .ok (.lstore_n 1, 1) := by decide +kernel
theorem dX5_digest_100 : decode cX5_digest 100 = .ok (.lload_n 1, 1) := by decide +kernel
theorem dX5_digest_101 : decode cX5_digest 101 = .ok (.ldc2_w 292, 3) := by decide +kernel
theorem dX5_digest_104 : decode cX5_digest 104 = .ok (.lmul, 1) := by decide +kernel
theorem dX5_digest_105 : decode cX5_digest 105 = .ok (.aload_n 0, 1) := by decide +kernel
theorem dX5_digest_106 : decode cX5_digest 106 = .ok (.iload_n 3, 1) := by decide +kernel
theorem dX5_digest_107 : decode cX5_digest 107 = .ok (.bipush 9, 2) := by decide +kernel
theorem dX5_digest_109 : decode cX5_digest 109 = .ok (.bipush (-9), 2) := by decide +kernel
theorem dX5_digest_111 : decode cX5_digest 111 = .ok (.bipush 60, 2) := by decide +kernel
theorem dX5_digest_113 : decode cX5_digest 113 = .ok (.invokevirtual 308, 3) := by decide +kernel
theorem dX5_digest_116 : decode cX5_digest 116 = .ok (.i2l, 1) := by decide +kernel
theorem dX5_digest_117 : decode cX5_digest 117 = .ok (.ladd, 1) := by decide +kernel
theorem dX5_digest_118 : decode cX5_digest 118 = .ok (.lstore_n 1, 1) := by decide +kernel
theorem dX5_digest_119 : decode cX5_digest 119 = .ok (.iinc 3 1, 3) := by decide +kernel
theorem dX5_digest_122 : decode cX5_digest 122 = .ok (.goto (-89), 3) := by decide +kernel
theorem dX5_digest_125 : decode cX5_digest 125 = .ok (.iconst 0, 1) := by decide +kernel
theorem dX5_digest_126 : decode cX5_digest 126 = .ok (.istore_n 3, 1) := by decide +kernel
theorem dX5_digest_127 : decode cX5_digest 127 = .ok (.iload_n 3, 1) := by decide +kernel
theorem dX5_digest_128 : decode cX5_digest 128 = .ok (.aload_n 0, 1) := by decide +kernel
theorem dX5_digest_129 : decode cX5_digest 129 = .ok (.getfield 10, 3) := by decide +kernel
theorem dX5_digest_132 : decode cX5_digest 132 = .ok (.getfield 33, 3) := by decide +kernel
theorem dX5_digest_135 : decode cX5_digest 135 = .ok (.if_icmp .ge 39, 3) := by decide +kernel
theorem dX5_digest_138 : decode cX5_digest 138 = .ok (.iconst 0, 1) := by decide +kernel
theorem dX5_digest_139 : decode cX5_digest 139 = .ok (.istore 4, 2) := by decide +kernel
theorem dX5_digest_141 : decode cX5_digest 141 = .ok (.iload 4, 2) := by decide +kernel
theorem dX5_digest_143 : decode cX5_digest 143 = .ok (.iconst 5, 1) := by decide +kernel
theorem dX5_digest_144 : decode cX5_digest 144 = .ok (.if_icmp .gt 24, 3) := by decide +kernel
theorem dX5_digest_147 : decode cX5_digest 147 = .ok (.lload_n 1, 1) := by decide +kernel
theorem dX5_digest_148 : decode cX5_digest 148 = .ok (.ldc2_w 292, 3) := by decide +kernel
theorem dX5_digest_151 : decode cX5_digest 151 = .ok (.lmul, 1) := by decide +kernel
theorem dX5_digest_152 : decode cX5_digest 152 = .ok (.aload_n 0, 1) := by decide +kernel
theorem dX5_digest_153 : decode cX5_digest 153 = .ok (.iload_n 3, 1) := by decide +kernel
theorem dX5_digest_154 : decode cX5_digest 154 = .ok (.iload 4, 2) := by decide +kernel
theorem dX5_digest_156 : decode cX5_digest 156 = .ok (.invokevirtual 311, 3) := by decide +kernel
theorem dX5_digest_159 : decode cX5_digest 159 = .ok (.i2l, 1) := by decide +kernel
theorem dX5_digest_160 : decode cX5_digest 160 = .ok (.ladd, 1) := by decide +kernel
theorem dX5_digest_161 : decode cX5_digest 161 = .ok (.lstore_n 1, 1) := by decide +kernel
theorem dX5_digest_162 : decode cX5_digest 162 = .ok (.iinc 4 1, 3) := by decide +kernel
theorem dX5_digest_165 : decode cX5_digest 165 = .ok (.goto (-24), 3) := by decide +kernel
theorem dX5_digest_168 : decode cX5_digest 168 = .ok (.iinc 3 1, 3) := by decide +kernel
theorem dX5_digest_171 : decode cX5_digest 171 = .ok (.goto (-44), 3) := by decide +kernel
theorem dX5_digest_174 : decode cX5_digest 174 = .ok (.lload_n 1, 1) := by decide +kernel
theorem dX5_digest_175 : decode cX5_digest 175 = .ok (.ldc2_w 292, 3) := by decide +kernel
theorem dX5_digest_178 : decode cX5_digest 178 = .ok (.lmul, 1) := by decide +kernel
theorem dX5_digest_179 : decode cX5_digest 179 = .ok (.aload_n 0, 1) := by decide +kernel
theorem dX5_digest_180 : decode cX5_digest 180 = .ok (.invokevirtual 314, 3) := by decide +kernel
theorem dX5_digest_183 : decode cX5_digest 183 = .ok (.i2l, 1) := by decide +kernel
theorem dX5_digest_184 : decode cX5_digest 184 = .ok (.ladd, 1) := by decide +kernel
theorem dX5_digest_185 : decode cX5_digest 185 = .ok (.lstore_n 1, 1) := by decide +kernel
theorem dX5_digest_186 : decode cX5_digest 186 = .ok (.lload_n 1, 1) := by decide +kernel
theorem dX5_digest_187 : decode cX5_digest 187 = .ok (.ldc2_w 292, 3) := by decide +kernel
theorem dX5_digest_190 : decode cX5_digest 190 = .ok (.lmul, 1) := by decide +kernel
theorem dX5_digest_191 : decode cX5_digest 191 = .ok (.aload_n 0, 1) := by decide +kernel
theorem dX5_digest_192 : decode cX5_digest 192 = .ok (.invokevirtual 317, 3) := by decide +kernel
theorem dX5_digest_195 : decode cX5_digest 195 = .ok (.i2l, 1) := by decide +kernel
theorem dX5_digest_196 : decode cX5_digest 196 = .ok (.ladd, 1) := by decide +kernel
theorem dX5_digest_197 : decode cX5_digest 197 = .ok (.lreturn, 1) := by decide +kernel
theorem dX5_requireWithin_0 : decode cX5_requireWithin 0 = .ok (.iload_n 0, 1) := by decide +kernel
theorem dX5_requireWithin_1 : decode cX5_requireWithin 1 = .ok (.iload_n 1, 1) := by decide +kernel
theorem dX5_requireWithin_2 : decode cX5_requireWithin 2 = .ok (.if_icmp .lt 8, 3) := by decide +kernel
theorem dX5_requireWithin_5 : decode cX5_requireWithin 5 = .ok (.iload_n 0, 1) := by decide +kernel
theorem dX5_requireWithin_6 : decode cX5_requireWithin 6 = .ok (.iload_n 2, 1) := by decide +kernel
theorem dX5_requireWithin_7 : decode cX5_requireWithin 7 = .ok (.if_icmp .le 14, 3) := by decide +kernel
theorem dX5_requireWithin_10 : decode cX5_requireWithin 10 = .ok (.new 324, 3) := by decide +kernel
theorem dX5_requireWithin_13 : decode cX5_requireWithin 13 = .ok (.dup, 1) := by decide +kernel
theorem dX5_requireWithin_14 : decode cX5_requireWithin 14 = .ok (.ldc_w 326, 3) := by decide +kernel
theorem dX5_requireWithin_17 : decode cX5_requireWithin 17 = .ok (.invokespecial 328, 3) := by decide +kernel
theorem dX5_requireWithin_20 : decode cX5_requireWithin 20 = .ok (.athrow, 1) := by decide +kernel
theorem dX5_requireWithin_21 : decode cX5_requireWithin 21 = .ok (.return_, 1) := by decide +kernel
theorem dX5_requireLift_0 : decode cX5_requireLift 0 = .ok (.iload_n 1, 1) := by decide +kernel
theorem dX5_requireLift_1 : decode cX5_requireLift 1 = .ok (.ifCond .lt 14, 3) := by decide +kernel
theorem dX5_requireLift_4 : decode cX5_requireLift 4 = .ok (.iload_n 1, 1) := by decide +kernel
theorem dX5_requireLift_5 : decode cX5_requireLift 5 = .ok (.aload_n 0, 1) := by decide +kernel
theorem dX5_requireLift_6 : decode cX5_requireLift 6 = .ok (.getfield 10, 3) := by decide +kernel
theorem dX5_requireLift_9 : decode cX5_requireLift 9 = .ok (.getfield 33, 3) := by decide +kernel
theorem dX5_requireLift_12 : decode cX5_requireLift 12 = .ok (.if_icmp .lt 14, 3) := by decide +kernel
theorem dX5_requireLift_15 : decode cX5_requireLift 15 = .ok (.new 226, 3) := by decide +kernel
theorem dX5_requireLift_18 : decode cX5_requireLift 18 = .ok (.dup, 1) := by decide +kernel
theorem dX5_requireLift_19 : decode cX5_requireLift 19 = .ok (.ldc_w 329, 3) := by decide +kernel
theorem dX5_requireLift_22 : decode cX5_requireLift 22 = .ok (.invokespecial 230, 3) := by decide +kernel
theorem dX5_requireLift_25 : decode cX5_requireLift 25 = .ok (.athrow, 1) := by decide +kernel
theorem dX5_requireLift_26 : decode cX5_requireLift 26 = .ok (.return_, 1) := by decide +kernel
theorem dX5_requireRun_0 : decode cX5_requireRun 0 = .ok (.iload_n 1, 1) := by decide +kernel
theorem dX5_requireRun_1 : decode cX5_requireRun 1 = .ok (.ifCond .lt 14, 3) := by decide +kernel
theorem dX5_requireRun_4 : decode cX5_requireRun 4 = .ok (.iload_n 1, 1) := by decide +kernel
theorem dX5_requireRun_5 : decode cX5_requireRun 5 = .ok (.aload_n 0, 1) := by decide +kernel
theorem dX5_requireRun_6 : decode cX5_requireRun 6 = .ok (.getfield 10, 3) := by decide +kernel
theorem dX5_requireRun_9 : decode cX5_requireRun 9 = .ok (.getfield 60, 3) := by decide +kernel
theorem dX5_requireRun_12 : decode cX5_requireRun 12 = .ok (.if_icmp .lt 14, 3) := by decide +kernel
theorem dX5_requireRun_15 : decode cX5_requireRun 15 = .ok (.new 226, 3) := by decide +kernel
theorem dX5_requireRun_18 : decode cX5_requireRun 18 = .ok (.dup, 1) := by decide +kernel
theorem dX5_requireRun_19 : decode cX5_requireRun 19 = .ok (.ldc_w 331, 3) := by decide +kernel
theorem dX5_requireRun_22 : decode cX5_requireRun 22 = .ok (.invokespecial 230, 3) := by decide +kernel
theorem dX5_requireRun_25 : decode cX5_requireRun 25 = .ok (.athrow, 1) := by decide +kernel
theorem dX5_requireRun_26 : decode cX5_requireRun 26 = .ok (.return_, 1) := by decide +kernel
theorem dX5_requireClosed_0 : decode cX5_requireClosed 0 = .ok (.aload_n 0, 1) := by decide +kernel
theorem dX5_requireClosed_1 : decode cX5_requireClosed 1 = .ok (.iload_n 1, 1) := by decide +kernel
theorem dX5_requireClosed_2 : decode cX5_requireClosed 2 = .ok (.invokevirtual 98, 3) := by decide +kernel
theorem dX5_requireClosed_5 : decode cX5_requireClosed 5 = .ok (.aload_n 0, 1) := by decide +kernel
theorem dX5_requireClosed_6 : decode cX5_requireClosed 6 = .ok (.getfield 10, 3) := by decide +kernel
theorem dX5_requireClosed_9 : decode cX5_requireClosed 9 = .ok (.getfield 65, 3) := by decide +kernel
theorem dX5_requireClosed_12 : decode cX5_requireClosed 12 = .ok (.iload_n 1, 1) := by decide +kernel
theorem dX5_requireClosed_13 : decode cX5_requireClosed 13 = .ok (.aaload, 1) := by decide +kernel
theorem dX5_requireClosed_14 : decode cX5_requireClosed 14 = .ok (.getfield 194, 3) := by decide +kernel
theorem dX5_requireClosed_17 : decode cX5_requireClosed 17 = .ok (.ifCond .eq 14, 3) := by decide +kernel
theorem dX5_requireClosed_20 : decode cX5_requireClosed 20 = .ok (.new 37, 3) := by decide +kernel
theorem dX5_requireClosed_23 : decode cX5_requireClosed 23 = .ok (.dup, 1) := by decide +kernel
theorem dX5_requireClosed_24 : decode cX5_requireClosed 24 = .ok (.ldc_w 333, 3) := by decide +kernel
theorem dX5_requireClosed_27 : decode cX5_requireClosed 27 = .ok (.invokespecial 41, 3) := by decide +kernel
theorem dX5_requireClosed_30 : decode cX5_requireClosed 30 = .ok (.athrow, 1) := by decide +kernel
theorem dX5_requireClosed_31 : decode cX5_requireClosed 31 = .ok (.return_, 1) := by decide +kernel
theorem dX6_init_0 : decode cX6_init 0 = .ok (.aload_n 0, 1) := by decide +kernel
theorem dX6_init_1 : decode cX6_init 1 = .ok (.invokespecial 3, 3) := by decide +kernel
theorem dX6_init_4 : decode cX6_init 4 = .ok (.aload_n 0, 1) := by decide +kernel
theorem dX6_init_5 : decode cX6_init 5 = .ok (.new 9, 3) := by decide +kernel
theorem dX6_init_8 : decode cX6_init 8 = .ok (.dup, 1) := by decide +kernel
theorem dX6_init_9 : decode cX6_init 9 = .ok (.invokespecial 11, 3) := by decide +kernel
theorem dX6_init_12 : decode cX6_init 12 = .ok (.putfield 12, 3) := by decide +kernel
theorem dX6_init_15 : decode cX6_init 15 = .ok (.aload_n 0, 1) := by decide +kernel
theorem dX6_init_16 : decode cX6_init 16 = .ok (.new 9, 3) := by decide +kernel
theorem dX6_init_19 : decode cX6_init 19 = .ok (.dup, 1) := by decide +kernel
theorem dX6_init_20 : decode cX6_init 20 = .ok (.invokespecial 11, 3) := by decide +kernel
theorem dX6_init_23 : decode cX6_init 23 = .ok (.putfield 18, 3) := by decide +kernel
theorem dX6_init_26 : decode cX6_init 26 = .ok (.aload_n 0, 1) := by decide +kernel
theorem dX6_init_27 : decode cX6_init 27 = .ok (.sipush 500, 3) := by decide +kernel
theorem dX6_init_30 : decode cX6_init 30 = .ok (.putfield 21, 3) := by decide +kernel
theorem dX6_init_33 : decode cX6_init 33 = .ok (.aload_n 0, 1) := by decide +kernel
theorem dX6_init_34 : decode cX6_init 34 = .ok (.iconst (-1), 1) := by decide +kernel
theorem dX6_init_35 : decode cX6_init 35 = .ok (.putfield 25, 3) := by decide +kernel
theorem dX6_init_38 : decode cX6_init 38 = .ok (.return_, 1) := by decide +kernel
theorem dX6_pass_0 : decode cX6_pass 0 = .ok (.aload_n 0, 1) := by decide +kernel
theorem dX6_pass_1 : decode cX6_pass 1 = .ok (.getfield 69, 3) := by decide +kernel
theorem dX6_pass_4 : decode cX6_pass 4 = .ok (.istore 6, 2) := by decide +kernel
theorem dX6_pass_6 : decode cX6_pass 6 = .ok (.aload_n 0, 1) := by decide +kernel
theorem dX6_pass_7 : decode cX6_pass 7 = .ok (.dup, 1) := by decide +kernel
theorem dX6_pass_8 : decode cX6_pass 8 = .ok (.getfield 52, 3) := by decide +kernel
theorem dX6_pass_11 : decode cX6_pass 11 = .ok (.iconst 1, 1) := by decide +kernel
theorem dX6_pass_12 : decode cX6_pass 12 = .ok (.iadd, 1) := by decide +kernel
theorem dX6_pass_13 : decode cX6_pass 13 = .ok (.putfield 52, 3) := by decide +kernel
theorem dX6_pass_16 : decode cX6_pass 16 = .ok (.iconst 0, 1) := by decide +kernel
theorem dX6_pass_17 : decode cX6_pass 17 = .ok (.istore 7, 2) := by decide +kernel
theorem dX6_pass_19 : decode cX6_pass 19 = .ok (.iload 7, 2) := by decide +kernel
theorem dX6_pass_21 : decode cX6_pass 21 = .ok (.aload_n 0, 1) := by decide +kernel
theorem dX6_pass_22 : decode cX6_pass 22 = .ok (.getfield 18, 3) := by decide +kernel
theorem dX6_pass_25 : decode cX6_pass 25 = .ok (.invokevirtual 75, 3) := by decide +kernel
theorem dX6_pass_28 : decode cX6_pass 28 = .ok (.if_icmp .ge 22, 3) := by decide +kernel
theorem dX6_pass_31 : decode cX6_pass 31 = .ok (.aload_n 0, 1) := by decide +kernel
theorem dX6_pass_32 : decode cX6_pass 32 = .ok (.iload 7, 2) := by decide +kernel
theorem dX6_pass_34 : decode cX6_pass 34 = .ok (.iload_n 1, 1) := by decide +kernel
theorem dX6_pass_35 : decode cX6_pass 35 = .ok (.iload_n 2, 1) := by decide +kernel
theorem dX6_pass_36 : decode cX6_pass 36 = .ok (.iload_n 3, 1) := by decide +kernel
theorem dX6_pass_37 : decode cX6_pass 37 = .ok (.iload 4, 2) := by decide +kernel
theorem dX6_pass_39 : decode cX6_pass 39 = .ok (.iload 5, 2) := by decide +kernel
theorem dX6_pass_41 : decode cX6_pass 41 = .ok (.invokevirtual 78, 3) := by decide +kernel
theorem dX6_pass_44 : decode cX6_pass 44 = .ok (.iinc 7 1, 3) := by decide +kernel
theorem dX6_pass_47 : decode cX6_pass 47 = .ok (.goto (-28), 3) := by decide +kernel
theorem dX6_pass_50 : decode cX6_pass 50 = .ok (.aload_n 0, 1) := by decide +kernel
theorem dX6_pass_51 : decode cX6_pass 51 = .ok (.getfield 12, 3) := by decide +kernel
theorem dX6_pass_54 : decode cX6_pass 54 = .ok (.invokevirtual 29, 3) := by decide +kernel
theorem dX6_pass_57 : decode cX6_pass 57 = .ok (.astore 7, 2) := by decide +kernel
theorem dX6_pass_59 : decode cX6_pass 59 = .ok (.aload 7, 2) := by decide +kernel
theorem dX6_pass_61 : decode cX6_pass 61 = .ok (.invokeinterface 33 1, 5) := by decide +kernel
theorem dX6_pass_66 : decode cX6_pass 66 = .ok (.ifCond .eq 31, 3) := by decide +kernel
theorem dX6_pass_69 : decode cX6_pass 69 = .ok (.aload 7, 2) := by decide +kernel
theorem dX6_pass_71 : decode cX6_pass 71 = .ok (.invokeinterface 39 1, 5) := by decide +kernel
theorem dX6_pass_76 : decode cX6_pass 76 = .ok (.checkcast 43, 3) := by decide +kernel
theorem dX6_pass_79 : decode cX6_pass 79 = .ok (.astore 8, 2) := by decide +kernel
theorem dX6_pass_81 : decode cX6_pass 81 = .ok (.iload_n 3, 1) := by decide +kernel
theorem dX6_pass_82 : decode cX6_pass 82 = .ok (.aload 8, 2) := by decide +kernel
theorem dX6_pass_84 : decode cX6_pass 84 = .ok (.iconst 1, 1) := by decide +kernel
theorem dX6_pass_85 : decode cX6_pass 85 = .ok (.iaload, 1) := by decide +kernel
theorem dX6_pass_86 : decode cX6_pass 86 = .ok (.if_icmp .le 8, 3) := by decide +kernel
theorem dX6_pass_89 : decode cX6_pass 89 = .ok (.aload 8, 2) := by decide +kernel
theorem dX6_pass_91 : decode cX6_pass 91 = .ok (.iconst 3, 1) := by decide +kernel
theorem dX6_pass_92 : decode cX6_pass 92 = .ok (.iconst 1, 1) := by decide +kernel
theorem dX6_pass_93 : decode cX6_pass 93 = .ok (.iastore, 1) := by decide +kernel
theorem dX6_pass_94 : decode cX6_pass 94 = .ok (.goto (-35), 3) := by decide +kernel
theorem dX6_pass_97 : decode cX6_pass 97 = .ok (.aload_n 0, 1) := by decide +kernel
theorem dX6_pass_98 : decode cX6_pass 98 = .ok (.getfield 52, 3) := by decide +kernel
theorem dX6_pass_101 : decode cX6_pass 101 = .ok (.bipush 24, 2) := by decide +kernel
theorem dX6_pass_103 : decode cX6_pass 103 = .ok (.irem, 1) := by decide +kernel
theorem dX6_pass_104 : decode cX6_pass 104 = .ok (.bipush 9, 2) := by decide +kernel
theorem dX6_pass_106 : decode cX6_pass 106 = .ok (.bipush 16, 2) := by decide +kernel
theorem dX6_pass_108 : decode cX6_pass 108 = .ok (.invokestatic 82, 3) := by decide +kernel
theorem dX6_pass_111 : decode cX6_pass 111 = .ok (.ifCond .eq 7, 3) := by decide +kernel
theorem dX6_pass_114 : decode cX6_pass 114 = .ok (.aload_n 0, 1) := by decide +kernel
theorem dX6_pass_115 : decode cX6_pass 115 = .ok (.invokevirtual 86, 3) := by decide +kernel
theorem dX6_pass_118 : decode cX6_pass 118 = .ok (.aload_n 0, 1) := by decide +kernel
theorem dX6_pass_119 : decode cX6_pass 119 = .ok (.getfield 69, 3) := by decide +kernel
theorem dX6_pass_122 : decode cX6_pass 122 = .ok (.iload 6, 2) := by decide +kernel
theorem dX6_pass_124 : decode cX6_pass 124 = .ok (.isub, 1) := by decide +kernel
theorem dX6_pass_125 : decode cX6_pass 125 = .ok (.ireturn, 1) := by decide +kernel
theorem dX6_ride_0 : decode cX6_ride 0 = .ok (.aload_n 0, 1) := by decide +kernel
theorem dX6_ride_1 : decode cX6_ride 1 = .ok (.getfield 55, 3) := by decide +kernel
theorem dX6_ride_4 : decode cX6_ride 4 = .ok (.istore_n 1, 1) := by decide +kernel
theorem dX6_ride_5 : decode cX6_ride 5 = .ok (.iconst 0, 1) := by decide +kernel
theorem dX6_ride_6 : decode cX6_ride 6 = .ok (.istore_n 2, 1) := by decide +kernel
theorem dX6_ride_7 : decode cX6_ride 7 = .ok (.iload_n 2, 1) := by decide +kernel
theorem dX6_ride_8 : decode cX6_ride 8 = .ok (.aload_n 0, 1) := by decide +kernel
theorem dX6_ride_9 : decode cX6_ride 9 = .ok (.getfield 12, 3) := by decide +kernel
theorem dX6_ride_12 : decode cX6_ride 12 = .ok (.invokevirtual 75, 3) := by decide +kernel
theorem dX6_ride_15 : decode cX6_ride 15 = .ok (.if_icmp .ge 147, 3) := by decide +kernel
theorem dX6_ride_18 : decode cX6_ride 18 = .ok (.aload_n 0, 1) := by decide +kernel
theorem dX6_ride_19 : decode cX6_ride 19 = .ok (.getfield 12, 3) := by decide +kernel
theorem dX6_ride_22 : decode cX6_ride 22 = .ok (.iload_n 2, 1) := by decide +kernel
theorem dX6_ride_23 : decode cX6_ride 23 = .ok (.invokevirtual 89, 3) := by decide +kernel
theorem dX6_ride_26 : decode cX6_ride 26 = .ok (.checkcast 43, 3) := by decide +kernel
theorem dX6_ride_29 : decode cX6_ride 29 = .ok (.astore_n 3, 1) := by decide +kernel
theorem dX6_ride_30 : decode cX6_ride 30 = .ok (.aload_n 0, 1) := by decide +kernel
theorem dX6_ride_31 : decode cX6_ride 31 = .ok (.iload_n 2, 1) := by decide +kernel
theorem dX6_ride_32 : decode cX6_ride 32 = .ok (.invokevirtual 155, 3) := by decide +kernel
theorem dX6_ride_35 : decode cX6_ride 35 = .ok (.istore 4, 2) := by decide +kernel
theorem dX6_ride_37 : decode cX6_ride 37 = .ok (.aload_n 3, 1) := by decide +kernel
theorem dX6_ride_38 : decode cX6_ride 38 = .ok (.iconst 2, 1) := by decide +kernel
theorem dX6_ride_39 : decode cX6_ride 39 = .ok (.iaload, 1) := by decide +kernel
theorem dX6_ride_40 : decode cX6_ride 40 = .ok (.ifCond .eq 116, 3) := by decide +kernel
theorem dX6_ride_43 : decode cX6_ride 43 = .ok (.aload_n 3, 1) := by decide +kernel
theorem dX6_ride_44 : decode cX6_ride 44 = .ok (.iconst 3, 1) := by decide +kernel
theorem dX6_ride_45 : decode cX6_ride 45 = .ok (.iaload, 1) := by decide +kernel
theorem dX6_ride_46 : decode cX6_ride 46 = .ok (.iconst 1, 1) := by decide +kernel
theorem dX6_ride_47 : decode cX6_ride 47 = .ok (.if_icmp .eq 109, 3) := by decide +kernel
theorem dX6_ride_50 : decode cX6_ride 50 = .ok (.iload 4, 2) := by decide +kernel
theorem dX6_ride_52 : decode cX6_ride 52 = .ok (.ifCond .ne 6, 3) := by decide +kernel
theorem dX6_ride_55 : decode cX6_ride 55 = .ok (.goto 101, 3) := by decide +kernel
theorem dX6_ride_58 : decode cX6_ride 58 = .ok (.aload_n 3, 1) := by decide +kernel
theorem dX6_ride_59 : decode cX6_ride 59 = .ok (.iconst 0, 1) := by decide +kernel
theorem dX6_ride_60 : decode cX6_ride 60 = .ok (.iaload, 1) := by decide +kernel
theorem dX6_ride_61 : decode cX6_ride 61 = .ok (.iload_n 1, 1) := by decide +kernel
theorem dX6_ride_62 : decode cX6_ride 62 = .ok (.invokestatic 124, 3) := by decide +kernel
theorem dX6_ride_65 : decode cX6_ride 65 = .ok (.istore 5, 2) := by decide +kernel
theorem dX6_ride_67 : decode cX6_ride 67 = .ok (.iload_n 1, 1) := by decide +kernel
theorem dX6_ride_68 : decode cX6_ride 68 = .ok (.iload 5, 2) := by decide +kernel
theorem dX6_ride_70 : decode cX6_ride 70 = .ok (.isub, 1) := by decide +kernel
theorem dX6_ride_71 : decode cX6_ride 71 = .ok (.istore_n 1, 1) := by decide +kernel
theorem dX6_ride_72 : decode cX6_ride 72 = .ok (.aload_n 3, 1) := by decide +kernel
theorem dX6_ride_73 : decode cX6_ride 73 = .ok (.iconst 4, 1) := by decide +kernel
theorem dX6_ride_74 : decode cX6_ride 74 = .ok (.dup2, 1) := by decide +kernel
theorem dX6_ride_75 : decode cX6_ride 75 = .ok (.iaload, 1) := by decide +kernel
theorem dX6_ride_76 : decode cX6_ride 76 = .ok (.iload 5, 2) := by decide +kernel
theorem dX6_ride_78 : decode cX6_ride 78 = .ok (.iadd, 1) := by decide +kernel
theorem dX6_ride_79 : decode cX6_ride 79 = .ok (.iastore, 1) := by decide +kernel
theorem dX6_ride_80 : decode cX6_ride 80 = .ok (.iload 5, 2) := by decide +kernel
theorem dX6_ride_82 : decode cX6_ride 82 = .ok (.iload 4, 2) := by decide +kernel
theorem dX6_ride_84 : decode cX6_ride 84 = .ok (.irem, 1) := by decide +kernel
theorem dX6_ride_85 : decode cX6_ride 85 = .ok (.istore 6, 2) := by decide +kernel
theorem dX6_ride_87 : decode cX6_ride 87 = .ok (.aload_n 0, 1) := by decide +kernel
theorem dX6_ride_88 : decode cX6_ride 88 = .ok (.getfield 18, 3) := by decide +kernel
theorem dX6_ride_91 : decode cX6_ride 91 = .ok (.invokevirtual 29, 3) := by decide +kernel
theorem dX6_ride_94 : decode cX6_ride 94 = .ok (.astore 7, 2) := by decide +kernel
theorem dX6_ride_96 : decode cX6_ride 96 = .ok (.aload 7, 2) := by decide +kernel
theorem dX6_ride_98 : decode cX6_ride 98 = .ok (.invokeinterface 33 1, 5) := by decide +kernel
theorem dX6_ride_103 : decode cX6_ride 103 = .ok (.ifCond .eq 53, 3) := by decide +kernel
theorem dX6_ride_106 : decode cX6_ride 106 = .ok (.aload 7, 2) := by decide +kernel
theorem dX6_ride_108 : decode cX6_ride 108 = .ok (.invokeinterface 39 1, 5) := by decide +kernel
theorem dX6_ride_113 : decode cX6_ride 113 = .ok (.checkcast 43, 3) := by decide +kernel
theorem dX6_ride_116 : decode cX6_ride 116 = .ok (.astore 8, 2) := by decide +kernel
theorem dX6_ride_118 : decode cX6_ride 118 = .ok (.aload 8, 2) := by decide +kernel
theorem dX6_ride_120 : decode cX6_ride 120 = .ok (.iconst 0, 1) := by decide +kernel
theorem dX6_ride_121 : decode cX6_ride 121 = .ok (.iaload, 1) := by decide +kernel
theorem dX6_ride_122 : decode cX6_ride 122 = .ok (.iload_n 2, 1) := by decide +kernel
theorem dX6_ride_123 : decode cX6_ride 123 = .ok (.if_icmp .ne (-27), 3) := by decide +kernel
theorem dX6_ride_126 : decode cX6_ride 126 = .ok (.aload 8, 2) := by decide +kernel
theorem dX6_ride_128 : decode cX6_ride 128 = .ok (.iconst 5, 1) := by decide +kernel
theorem dX6_ride_129 : decode cX6_ride 129 = .ok (.iaload, 1) := by decide +kernel
theorem dX6_ride_130 : decode cX6_ride 130 = .ok (.ifCond .ne 6, 3) := by decide +kernel
theorem dX6_ride_133 : decode cX6_ride 133 = .ok (.goto (-37), 3) := by decide +kernel
theorem dX6_ride_136 : decode cX6_ride 136 = .ok (.aload_n 0, 1) := by decide +kernel
theorem dX6_ride_137 : decode cX6_ride 137 = .ok (.aload 8, 2) := by decide +kernel
theorem dX6_ride_139 : decode cX6_ride 139 = .ok (.iload 5, 2) := by decide +kernel
theorem dX6_ride_141 : decode cX6_ride 141 = .ok (.iload 4, 2) := by decide +kernel
theorem dX6_ride_143 : decode cX6_ride 143 = .ok (.idiv, 1) := by decide +kernel
theorem dX6_ride_144 : decode cX6_ride 144 = .ok (.iload 6, 2) := by decide +kernel
theorem dX6_ride_146 : decode cX6_ride 146 = .ok (.iadd, 1) := by decide +kernel
theorem dX6_ride_147 : decode cX6_ride 147 = .ok (.invokevirtual 159, 3) := by decide +kernel
theorem dX6_ride_150 : decode cX6_ride 150 = .ok (.iconst 0, 1) := by decide +kernel
theorem dX6_ride_151 : decode cX6_ride 151 = .ok (.istore 6, 2) := by decide +kernel
theorem dX6_ride_153 : decode cX6_ride 153 = .ok (.goto (-57), 3) := by decide +kernel
theorem dX6_ride_156 : decode cX6_ride 156 = .ok (.iinc 2 1, 3) := by decide +kernel
theorem dX6_ride_159 : decode cX6_ride 159 = .ok (.goto (-152), 3) := by decide +kernel
theorem dX6_ride_162 : decode cX6_ride 162 = .ok (.aload_n 0, 1) := by decide +kernel
theorem dX6_ride_163 : decode cX6_ride 163 = .ok (.dup, 1) := by decide +kernel
theorem dX6_ride_164 : decode cX6_ride 164 = .ok (.getfield 162, 3) := by decide +kernel
theorem dX6_ride_167 : decode cX6_ride 167 = .ok (.iload_n 1, 1) := by decide +kernel
theorem dX6_ride_168 : decode cX6_ride 168 = .ok (.iadd, 1) := by decide +kernel
theorem dX6_ride_169 : decode cX6_ride 169 = .ok (.putfield 162, 3) := by decide +kernel
theorem dX6_ride_172 : decode cX6_ride 172 = .ok (.return_, 1) := by decide +kernel
theorem dX7_init_0 : decode cX7_init 0 = .ok (.aload_n 0, 1) := by decide +kernel
theorem dX7_init_1 : decode cX7_init 1 = .ok (.invokespecial 3, 3) := by decide +kernel
theorem dX7_init_4 : decode cX7_init 4 = .ok (.aload_n 0, 1) := by decide +kernel
theorem dX7_init_5 : decode cX7_init 5 = .ok (.new 9, 3) := by decide +kernel
theorem dX7_init_8 : decode cX7_init 8 = .ok (.dup, 1) := by decide +kernel
theorem dX7_init_9 : decode cX7_init 9 = .ok (.invokespecial 11, 3) := by decide +kernel
theorem dX7_init_12 : decode cX7_init 12 = .ok (.putfield 12, 3) := by decide +kernel
theorem dX7_init_15 : decode cX7_init 15 = .ok (.aload_n 0, 1) := by decide +kernel
theorem dX7_init_16 : decode cX7_init 16 = .ok (.bipush 50, 2) := by decide +kernel
theorem dX7_init_18 : decode cX7_init 18 = .ok (.putfield 16, 3) := by decide +kernel
theorem dX7_init_21 : decode cX7_init 21 = .ok (.aload_n 0, 1) := by decide +kernel
theorem dX7_init_22 : decode cX7_init 22 = .ok (.bipush 100, 2) := by decide +kernel
theorem dX7_init_24 : decode cX7_init 24 = .ok (.putfield 20, 3) := by decide +kernel
theorem dX7_init_27 : decode cX7_init 27 = .ok (.return_, 1) := by decide +kernel
theorem dX7_thrown_0 : decode cX7_thrown 0 = .ok (.aload_n 0, 1) := by decide +kernel
theorem dX7_thrown_1 : decode cX7_thrown 1 = .ok (.getfield 23, 3) := by decide +kernel
theorem dX7_thrown_4 : decode cX7_thrown 4 = .ok (.ireturn, 1) := by decide +kernel
theorem dX7_refuse_0 : decode cX7_refuse 0 = .ok (.aload_n 0, 1) := by decide +kernel
theorem dX7_refuse_1 : decode cX7_refuse 1 = .ok (.iload_n 1, 1) := by decide +kernel
theorem dX7_refuse_2 : decode cX7_refuse 2 = .ok (.putfield 23, 3) := by decide +kernel
theorem dX7_refuse_5 : decode cX7_refuse 5 = .ok (.iconst 0, 1) := by decide +kernel
theorem dX7_refuse_6 : decode cX7_refuse 6 = .ok (.ireturn, 1) := by decide +kernel
theorem dX7_is_0 : decode cX7_is 0 = .ok (.iload_n 0, 1) := by decide +kernel
theorem dX7_is_1 : decode cX7_is 1 = .ok (.iload_n 1, 1) := by decide +kernel
theorem dX7_is_2 : decode cX7_is 2 = .ok (.if_icmp .lt 12, 3) := by decide +kernel
theorem dX7_is_5 : decode cX7_is 5 = .ok (.iload_n 0, 1) := by decide +kernel
theorem dX7_is_6 : decode cX7_is 6 = .ok (.iload_n 2, 1) := by decide +kernel
theorem dX7_is_7 : decode cX7_is 7 = .ok (.if_icmp .gt 7, 3) := by decide +kernel
theorem dX7_is_10 : decode cX7_is 10 = .ok (.iconst 1, 1) := by decide +kernel
theorem dX7_is_11 : decode cX7_is 11 = .ok (.goto 4, 3) := by decide +kernel
theorem dX7_is_14 : decode cX7_is 14 = .ok (.iconst 0, 1) := by decide +kernel
theorem dX7_is_15 : decode cX7_is 15 = .ok (.ireturn, 1) := by decide +kernel
theorem dX7_isLift_0 : decode cX7_isLift 0 = .ok (.iload_n 1, 1) := by decide +kernel
theorem dX7_isLift_1 : decode cX7_isLift 1 = .ok (.iconst 0, 1) := by decide +kernel
theorem dX7_isLift_2 : decode cX7_isLift 2 = .ok (.aload_n 0, 1) := by decide +kernel
theorem dX7_isLift_3 : decode cX7_isLift 3 = .ok (.getfield 12, 3) := by decide +kernel
theorem dX7_isLift_6 : decode cX7_isLift 6 = .ok (.getfield 68, 3) := by decide +kernel
theorem dX7_isLift_9 : decode cX7_isLift 9 = .ok (.invokevirtual 72, 3) := by decide +kernel
theorem dX7_isLift_12 : decode cX7_isLift 12 = .ok (.iconst 1, 1) := by decide +kernel
theorem dX7_isLift_13 : decode cX7_isLift 13 = .ok (.isub, 1) := by decide +kernel
theorem dX7_isLift_14 : decode cX7_isLift 14 = .ok (.invokestatic 78, 3) := by decide +kernel
theorem dX7_isLift_17 : decode cX7_isLift 17 = .ok (.ireturn, 1) := by decide +kernel
theorem dX7_isRun_0 : decode cX7_isRun 0 = .ok (.iload_n 1, 1) := by decide +kernel
theorem dX7_isRun_1 : decode cX7_isRun 1 = .ok (.iconst 0, 1) := by decide +kernel
theorem dX7_isRun_2 : decode cX7_isRun 2 = .ok (.aload_n 0, 1) := by decide +kernel
theorem dX7_isRun_3 : decode cX7_isRun 3 = .ok (.getfield 12, 3) := by decide +kernel
theorem dX7_isRun_6 : decode cX7_isRun 6 = .ok (.getfield 82, 3) := by decide +kernel
theorem dX7_isRun_9 : decode cX7_isRun 9 = .ok (.invokevirtual 72, 3) := by decide +kernel
theorem dX7_isRun_12 : decode cX7_isRun 12 = .ok (.iconst 1, 1) := by decide +kernel
theorem dX7_isRun_13 : decode cX7_isRun 13 = .ok (.isub, 1) := by decide +kernel
theorem dX7_isRun_14 : decode cX7_isRun 14 = .ok (.invokestatic 78, 3) := by decide +kernel
theorem dX7_isRun_17 : decode cX7_isRun 17 = .ok (.ireturn, 1) := by decide +kernel
theorem dX7_lift_0 : decode cX7_lift 0 = .ok (.aload_n 0, 1) := by decide +kernel
theorem dX7_lift_1 : decode cX7_lift 1 = .ok (.iconst 0, 1) := by decide +kernel
theorem dX7_lift_2 : decode cX7_lift 2 = .ok (.putfield 23, 3) := by decide +kernel
theorem dX7_lift_5 : decode cX7_lift 5 = .ok (.iload_n 1, 1) := by decide +kernel
theorem dX7_lift_6 : decode cX7_lift 6 = .ok (.bipush 10, 2) := by decide +kernel
theorem dX7_lift_8 : decode cX7_lift 8 = .ok (.sipush 999, 3) := by decide +kernel
theorem dX7_lift_11 : decode cX7_lift 11 = .ok (.invokestatic 78, 3) := by decide +kernel
theorem dX7_lift_14 : decode cX7_lift 14 = .ok (.ifCond .eq 13, 3) := by decide +kernel
theorem dX7_lift_17 : decode cX7_lift 17 = .ok (.iload_n 2, 1) := by decide +kernel
theorem dX7_lift_18 : decode cX7_lift 18 = .ok (.iconst 3, 1) := by decide +kernel
theorem dX7_lift_19 : decode cX7_lift 19 = .ok (.bipush 9, 2) := by decide +kernel
theorem dX7_lift_21 : decode cX7_lift 21 = .ok (.invokestatic 78, 3) := by decide +kernel
theorem dX7_lift_24 : decode cX7_lift 24 = .ok (.ifCond .ne 9, 3) := by decide +kernel
theorem dX7_lift_27 : decode cX7_lift 27 = .ok (.aload_n 0, 1) := by decide +kernel
theorem dX7_lift_28 : decode cX7_lift 28 = .ok (.iconst 1, 1) := by decide +kernel
theorem dX7_lift_29 : decode cX7_lift 29 = .ok (.invokevirtual 95, 3) := by decide +kernel
theorem dX7_lift_32 : decode cX7_lift 32 = .ok (.ireturn, 1) := by decide +kernel
theorem dX7_lift_33 : decode cX7_lift 33 = .ok (.aload_n 0, 1) := by decide +kernel
theorem dX7_lift_34 : decode cX7_lift 34 = .ok (.getfield 12, 3) := by decide +kernel
theorem dX7_lift_37 : decode cX7_lift 37 = .ok (.getfield 68, 3) := by decide +kernel
theorem dX7_lift_40 : decode cX7_lift 40 = .ok (.invokevirtual 72, 3) := by decide +kernel
theorem dX7_lift_43 : decode cX7_lift 43 = .ok (.iconst 4, 1) := by decide +kernel
theorem dX7_lift_44 : decode cX7_lift 44 = .ok (.if_icmp .ne 9, 3) := by decide +kernel
theorem dX7_lift_47 : decode cX7_lift 47 = .ok (.aload_n 0, 1) := by decide +kernel
theorem dX7_lift_48 : decode cX7_lift 48 = .ok (.iconst 2, 1) := by decide +kernel
theorem dX7_lift_49 : decode cX7_lift 49 = .ok (.invokevirtual 95, 3) := by decide +kernel
theorem dX7_lift_52 : decode cX7_lift 52 = .ok (.ireturn, 1) := by decide +kernel
theorem dX7_lift_53 : decode cX7_lift 53 = .ok (.iconst 5, 1) := by decide +kernel
theorem dX7_lift_54 : decode cX7_lift 54 = .ok (.newarray .int, 2) := by decide +kernel
theorem dX7_lift_56 : decode cX7_lift 56 = .ok (.astore_n 3, 1) := by decide +kernel
theorem dX7_lift_57 : decode cX7_lift 57 = .ok (.aload_n 3, 1) := by decide +kernel
theorem dX7_lift_58 : decode cX7_lift 58 = .ok (.iconst 0, 1) := by decide +kernel
theorem dX7_lift_59 : decode cX7_lift 59 = .ok (.iload_n 1, 1) := by decide +kernel
theorem dX7_lift_60 : decode cX7_lift 60 = .ok (.iastore, 1) := by decide +kernel
theorem dX7_lift_61 : decode cX7_lift 61 = .ok (.aload_n 3, 1) := by decide +kernel
theorem dX7_lift_62 : decode cX7_lift 62 = .ok (.iconst 1, 1) := by decide +kernel
theorem dX7_lift_63 : decode cX7_lift 63 = .ok (.iload_n 2, 1) := by decide +kernel
theorem dX7_lift_64 : decode cX7_lift 64 = .ok (.iastore, 1) := by decide +kernel
theorem dX7_lift_65 : decode cX7_lift 65 = .ok (.aload_n 0, 1) := by decide +kernel
theorem dX7_lift_66 : decode cX7_lift 66 = .ok (.getfield 12, 3) := by decide +kernel
theorem dX7_lift_69 : decode cX7_lift 69 = .ok (.getfield 68, 3) := by decide +kernel
theorem dX7_lift_72 : decode cX7_lift 72 = .ok (.aload_n 3, 1) := by decide +kernel
theorem dX7_lift_73 : decode cX7_lift 73 = .ok (.invokevirtual 99, 3) := by decide +kernel
theorem dX7_lift_76 : decode cX7_lift 76 = .ok (.pop, 1) := by decide +kernel
theorem dX7_lift_77 : decode cX7_lift 77 = .ok (.aload_n 0, 1) := by decide +kernel
theorem dX7_lift_78 : decode cX7_lift 78 = .ok (.getfield 12, 3) := by decide +kernel
theorem dX7_lift_81 : decode cX7_lift 81 = .ok (.getfield 68, 3) := by decide +kernel
theorem dX7_lift_84 : decode cX7_lift 84 = .ok (.invokevirtual 72, 3) := by decide +kernel
theorem dX7_lift_87 : decode cX7_lift 87 = .ok (.iconst 1, 1) := by decide +kernel
theorem dX7_lift_88 : decode cX7_lift 88 = .ok (.isub, 1) := by decide +kernel
theorem dX7_lift_89 : decode cX7_lift 89 = .ok (.ireturn, 1) := by decide +kernel
theorem dX7_run_0 : decode cX7_run 0 = .ok (.aload_n 0, 1) := by decide +kernel
theorem dX7_run_1 : decode cX7_run 1 = .ok (.iconst 0, 1) := by decide +kernel
theorem dX7_run_2 : decode cX7_run 2 = .ok (.putfield 23, 3) := by decide +kernel
theorem dX7_run_5 : decode cX7_run 5 = .ok (.aload_n 0, 1) := by decide +kernel
theorem dX7_run_6 : decode cX7_run 6 = .ok (.iload_n 1, 1) := by decide +kernel
theorem dX7_run_7 : decode cX7_run 7 = .ok (.invokevirtual 103, 3) := by decide +kernel
theorem dX7_run_10 : decode cX7_run 10 = .ok (.ifCond .ne 9, 3) := by decide +kernel
theorem dX7_run_13 : decode cX7_run 13 = .ok (.aload_n 0, 1) := by decide +kernel
theorem dX7_run_14 : decode cX7_run 14 = .ok (.iconst 1, 1) := by decide +kernel
theorem dX7_run_15 : decode cX7_run 15 = .ok (.invokevirtual 95, 3) := by decide +kernel
theorem dX7_run_18 : decode cX7_run 18 = .ok (.ireturn, 1) := by decide +kernel
theorem dX7_run_19 : decode cX7_run 19 = .ok (.iload_n 2, 1) := by decide +kernel
theorem dX7_run_20 : decode cX7_run 20 = .ok (.iconst 0, 1) := by decide +kernel
theorem dX7_run_21 : decode cX7_run 21 = .ok (.bipush 30, 2) := by decide +kernel
theorem dX7_run_23 : decode cX7_run 23 = .ok (.invokestatic 78, 3) := by decide +kernel
theorem dX7_run_26 : decode cX7_run 26 = .ok (.ifCond .eq 34, 3) := by decide +kernel
theorem dX7_run_29 : decode cX7_run 29 = .ok (.iload_n 3, 1) := by decide +kernel
theorem dX7_run_30 : decode cX7_run 30 = .ok (.iconst 5, 1) := by decide +kernel
theorem dX7_run_31 : decode cX7_run 31 = .ok (.bipush 45, 2) := by decide +kernel
theorem dX7_run_33 : decode cX7_run 33 = .ok (.invokestatic 78, 3) := by decide +kernel
theorem dX7_run_36 : decode cX7_run 36 = .ok (.ifCond .eq 24, 3) := by decide +kernel
theorem dX7_run_39 : decode cX7_run 39 = .ok (.iload 4, 2) := by decide +kernel
theorem dX7_run_41 : decode cX7_run 41 = .ok (.iconst 0, 1) := by decide +kernel
theorem dX7_run_42 : decode cX7_run 42 = .ok (.iconst 3, 1) := by decide +kernel
theorem dX7_run_43 : decode cX7_run 43 = .ok (.invokestatic 78, 3) := by decide +kernel
theorem dX7_run_46 : decode cX7_run 46 = .ok (.ifCond .eq 14, 3) := by decide +kernel
theorem dX7_run_49 : decode cX7_run 49 = .ok (.iload 5, 2) := by decide +kernel
theorem dX7_run_51 : decode cX7_run 51 = .ok (.iconst 1, 1) := by decide +kernel
theorem dX7_run_52 : decode cX7_run 52 = .ok (.bipush 9, 2) := by decide +kernel
theorem dX7_run_54 : decode cX7_run 54 = .ok (.invokestatic 78, 3) := by decide +kernel
theorem dX7_run_57 : decode cX7_run 57 = .ok (.ifCond .ne 9, 3) := by decide +kernel
theorem dX7_run_60 : decode cX7_run 60 = .ok (.aload_n 0, 1) := by decide +kernel
theorem dX7_run_61 : decode cX7_run 61 = .ok (.iconst 2, 1) := by decide +kernel
theorem dX7_run_62 : decode cX7_run 62 = .ok (.invokevirtual 95, 3) := by decide +kernel
theorem dX7_run_65 : decode cX7_run 65 = .ok (.ireturn, 1) := by decide +kernel
theorem dX7_run_66 : decode cX7_run 66 = .ok (.aload_n 0, 1) := by decide +kernel
theorem dX7_run_67 : decode cX7_run 67 = .ok (.getfield 12, 3) := by decide +kernel
theorem dX7_run_70 : decode cX7_run 70 = .ok (.getfield 82, 3) := by decide +kernel
theorem dX7_run_73 : decode cX7_run 73 = .ok (.invokevirtual 72, 3) := by decide +kernel
theorem dX7_run_76 : decode cX7_run 76 = .ok (.bipush 8, 2) := by decide +kernel
theorem dX7_run_78 : decode cX7_run 78 = .ok (.if_icmp .ne 9, 3) := by decide +kernel
theorem dX7_run_81 : decode cX7_run 81 = .ok (.aload_n 0, 1) := by decide +kernel
theorem dX7_run_82 : decode cX7_run 82 = .ok (.iconst 3, 1) := by decide +kernel
theorem dX7_run_83 : decode cX7_run 83 = .ok (.invokevirtual 95, 3) := by decide +kernel
theorem dX7_run_86 : decode cX7_run 86 = .ok (.ireturn, 1) := by decide +kernel
theorem dX7_run_87 : decode cX7_run 87 = .ok (.bipush 43, 2) := by decide +kernel
theorem dX7_run_89 : decode cX7_run 89 = .ok (.newarray .int, 2) := by decide +kernel
theorem dX7_run_91 : decode cX7_run 91 = .ok (.astore 6, 2) := by decide +kernel
theorem dX7_run_93 : decode cX7_run 93 = .ok (.aload 6, 2) := by decide +kernel
theorem dX7_run_95 : decode cX7_run 95 = .ok (.iconst 0, 1) := by decide +kernel
theorem dX7_run_96 : decode cX7_run 96 = .ok (.iload_n 1, 1) := by decide +kernel
theorem dX7_run_97 : decode cX7_run 97 = .ok (.iastore, 1) := by decide +kernel
theorem dX7_run_98 : decode cX7_run 98 = .ok (.aload 6, 2) := by decide +kernel
theorem dX7_run_100 : decode cX7_run 100 = .ok (.iconst 1, 1) := by decide +kernel
theorem dX7_run_101 : decode cX7_run 101 = .ok (.iload_n 2, 1) := by decide +kernel
theorem dX7_run_102 : decode cX7_run 102 = .ok (.iastore, 1) := by decide +kernel
theorem dX7_run_103 : decode cX7_run 103 = .ok (.aload 6, 2) := by decide +kernel
theorem dX7_run_105 : decode cX7_run 105 = .ok (.iconst 2, 1) := by decide +kernel
theorem dX7_run_106 : decode cX7_run 106 = .ok (.iload_n 3, 1) := by decide +kernel
theorem dX7_run_107 : decode cX7_run 107 = .ok (.iastore, 1) := by decide +kernel
theorem dX7_run_108 : decode cX7_run 108 = .ok (.aload 6, 2) := by decide +kernel
theorem dX7_run_110 : decode cX7_run 110 = .ok (.iconst 3, 1) := by decide +kernel
theorem dX7_run_111 : decode cX7_run 111 = .ok (.iload 4, 2) := by decide +kernel
theorem dX7_run_113 : decode cX7_run 113 = .ok (.iastore, 1) := by decide +kernel
theorem dX7_run_114 : decode cX7_run 114 = .ok (.aload 6, 2) := by decide +kernel
theorem dX7_run_116 : decode cX7_run 116 = .ok (.iconst 4, 1) := by decide +kernel
theorem dX7_run_117 : decode cX7_run 117 = .ok (.iload 5, 2) := by decide +kernel
theorem dX7_run_119 : decode cX7_run 119 = .ok (.iastore, 1) := by decide +kernel
theorem dX7_run_120 : decode cX7_run 120 = .ok (.aload 6, 2) := by decide +kernel
theorem dX7_run_122 : decode cX7_run 122 = .ok (.bipush 14, 2) := by decide +kernel
theorem dX7_run_124 : decode cX7_run 124 = .ok (.iconst (-1), 1) := by decide +kernel
theorem dX7_run_125 : decode cX7_run 125 = .ok (.iastore, 1) := by decide +kernel
theorem dX7_run_126 : decode cX7_run 126 = .ok (.aload_n 0, 1) := by decide +kernel
theorem dX7_run_127 : decode cX7_run 127 = .ok (.getfield 12, 3) := by decide +kernel
theorem dX7_run_130 : decode cX7_run 130 = .ok (.getfield 82, 3) := by decide +kernel
theorem dX7_run_133 : decode cX7_run 133 = .ok (.aload 6, 2) := by decide +kernel
theorem dX7_run_135 : decode cX7_run 135 = .ok (.invokevirtual 99, 3) := by decide +kernel
theorem dX7_run_138 : decode cX7_run 138 = .ok (.pop, 1) := by decide +kernel
theorem dX7_run_139 : decode cX7_run 139 = .ok (.aload_n 0, 1) := by decide +kernel
theorem dX7_run_140 : decode cX7_run 140 = .ok (.getfield 12, 3) := by decide +kernel
theorem dX7_run_143 : decode cX7_run 143 = .ok (.getfield 82, 3) := by decide +kernel
theorem dX7_run_146 : decode cX7_run 146 = .ok (.invokevirtual 72, 3) := by decide +kernel
theorem dX7_run_149 : decode cX7_run 149 = .ok (.iconst 1, 1) := by decide +kernel
theorem dX7_run_150 : decode cX7_run 150 = .ok (.isub, 1) := by decide +kernel
theorem dX7_run_151 : decode cX7_run 151 = .ok (.ireturn, 1) := by decide +kernel
theorem dX7_turn_0 : decode cX7_turn 0 = .ok (.aload_n 0, 1) := by decide +kernel
theorem dX7_turn_1 : decode cX7_turn 1 = .ok (.aload_n 0, 1) := by decide +kernel
theorem dX7_turn_2 : decode cX7_turn 2 = .ok (.iload_n 1, 1) := by decide +kernel
theorem dX7_turn_3 : decode cX7_turn 3 = .ok (.invokevirtual 103, 3) := by decide +kernel
theorem dX7_turn_6 : decode cX7_turn 6 = .ok (.ifCond .eq 7, 3) := by decide +kernel
theorem dX7_turn_9 : decode cX7_turn 9 = .ok (.iconst 0, 1) := by decide +kernel
theorem dX7_turn_10 : decode cX7_turn 10 = .ok (.goto 4, 3) := by decide +kernel
theorem dX7_turn_13 : decode cX7_turn 13 = .ok (.iconst 1, 1) := by decide +kernel
theorem dX7_turn_14 : decode cX7_turn 14 = .ok (.putfield 23, 3) := by decide +kernel
theorem dX7_turn_17 : decode cX7_turn 17 = .ok (.aload_n 0, 1) := by decide +kernel
theorem dX7_turn_18 : decode cX7_turn 18 = .ok (.getfield 23, 3) := by decide +kernel
theorem dX7_turn_21 : decode cX7_turn 21 = .ok (.ifCond .le 5, 3) := by decide +kernel
theorem dX7_turn_24 : decode cX7_turn 24 = .ok (.iconst 0, 1) := by decide +kernel
theorem dX7_turn_25 : decode cX7_turn 25 = .ok (.ireturn, 1) := by decide +kernel
theorem dX7_turn_26 : decode cX7_turn 26 = .ok (.aload_n 0, 1) := by decide +kernel
theorem dX7_turn_27 : decode cX7_turn 27 = .ok (.getfield 12, 3) := by decide +kernel
theorem dX7_turn_30 : decode cX7_turn 30 = .ok (.getfield 68, 3) := by decide +kernel
theorem dX7_turn_33 : decode cX7_turn 33 = .ok (.iload_n 1, 1) := by decide +kernel
theorem dX7_turn_34 : decode cX7_turn 34 = .ok (.invokevirtual 85, 3) := by decide +kernel
theorem dX7_turn_37 : decode cX7_turn 37 = .ok (.checkcast 89, 3) := by decide +kernel
theorem dX7_turn_40 : decode cX7_turn 40 = .ok (.iconst 2, 1) := by decide +kernel
theorem dX7_turn_41 : decode cX7_turn 41 = .ok (.iaload, 1) := by decide +kernel
theorem dX7_turn_42 : decode cX7_turn 42 = .ok (.iconst 1, 1) := by decide +kernel
theorem dX7_turn_43 : decode cX7_turn 43 = .ok (.if_icmp .ne 7, 3) := by decide +kernel
theorem dX7_turn_46 : decode cX7_turn 46 = .ok (.iconst 1, 1) := by decide +kernel
theorem dX7_turn_47 : decode cX7_turn 47 = .ok (.goto 4, 3) := by decide +kernel
theorem dX7_turn_50 : decode cX7_turn 50 = .ok (.iconst 0, 1) := by decide +kernel
theorem dX7_turn_51 : decode cX7_turn 51 = .ok (.istore_n 3, 1) := by decide +kernel
theorem dX7_turn_52 : decode cX7_turn 52 = .ok (.aload_n 0, 1) := by decide +kernel
theorem dX7_turn_53 : decode cX7_turn 53 = .ok (.getfield 12, 3) := by decide +kernel
theorem dX7_turn_56 : decode cX7_turn 56 = .ok (.getfield 68, 3) := by decide +kernel
theorem dX7_turn_59 : decode cX7_turn 59 = .ok (.iload_n 1, 1) := by decide +kernel
theorem dX7_turn_60 : decode cX7_turn 60 = .ok (.invokevirtual 85, 3) := by decide +kernel
theorem dX7_turn_63 : decode cX7_turn 63 = .ok (.checkcast 89, 3) := by decide +kernel
theorem dX7_turn_66 : decode cX7_turn 66 = .ok (.iconst 2, 1) := by decide +kernel
theorem dX7_turn_67 : decode cX7_turn 67 = .ok (.iload_n 2, 1) := by decide +kernel
theorem dX7_turn_68 : decode cX7_turn 68 = .ok (.ifCond .eq 7, 3) := by decide +kernel
theorem dX7_turn_71 : decode cX7_turn 71 = .ok (.iconst 1, 1) := by decide +kernel
theorem dX7_turn_72 : decode cX7_turn 72 = .ok (.goto 4, 3) := by decide +kernel
theorem dX7_turn_75 : decode cX7_turn 75 = .ok (.iconst 0, 1) := by decide +kernel
theorem dX7_turn_76 : decode cX7_turn 76 = .ok (.iastore, 1) := by decide +kernel
theorem dX7_turn_77 : decode cX7_turn 77 = .ok (.iload_n 3, 1) := by decide +kernel
theorem dX7_turn_78 : decode cX7_turn 78 = .ok (.ireturn, 1) := by decide +kernel
theorem dX7_release_0 : decode cX7_release 0 = .ok (.aload_n 0, 1) := by decide +kernel
theorem dX7_release_1 : decode cX7_release 1 = .ok (.aload_n 0, 1) := by decide +kernel
theorem dX7_release_2 : decode cX7_release 2 = .ok (.iload_n 1, 1) := by decide +kernel
theorem dX7_release_3 : decode cX7_release 3 = .ok (.invokevirtual 103, 3) := by decide +kernel
theorem dX7_release_6 : decode cX7_release 6 = .ok (.ifCond .ne 7, 3) := by decide +kernel
theorem dX7_release_9 : decode cX7_release 9 = .ok (.iconst 1, 1) := by decide +kernel
theorem dX7_release_10 : decode cX7_release 10 = .ok (.goto 33, 3) := by decide +kernel
theorem dX7_release_13 : decode cX7_release 13 = .ok (.aload_n 0, 1) := by decide +kernel
theorem dX7_release_14 : decode cX7_release 14 = .ok (.getfield 107, 3) := by decide +kernel
theorem dX7_release_17 : decode cX7_release 17 = .ok (.aload_n 0, 1) := by decide +kernel
theorem dX7_release_18 : decode cX7_release 18 = .ok (.getfield 12, 3) := by decide +kernel
theorem dX7_release_21 : decode cX7_release 21 = .ok (.getfield 68, 3) := by decide +kernel
theorem dX7_release_24 : decode cX7_release 24 = .ok (.iload_n 1, 1) := by decide +kernel
theorem dX7_release_25 : decode cX7_release 25 = .ok (.invokevirtual 85, 3) := by decide +kernel
theorem dX7_release_28 : decode cX7_release 28 = .ok (.checkcast 89, 3) := by decide +kernel
theorem dX7_release_31 : decode cX7_release 31 = .ok (.iconst 1, 1) := by decide +kernel
theorem dX7_release_32 : decode cX7_release 32 = .ok (.iaload, 1) := by decide +kernel
theorem dX7_release_33 : decode cX7_release 33 = .ok (.iconst 2, 1) := by decide +kernel
theorem dX7_release_34 : decode cX7_release 34 = .ok (.isub, 1) := by decide +kernel
theorem dX7_release_35 : decode cX7_release 35 = .ok (.if_icmp .le 7, 3) := by decide +kernel
theorem dX7_release_38 : decode cX7_release 38 = .ok (.iconst 2, 1) := by decide +kernel
theorem dX7_release_39 : decode cX7_release 39 = .ok (.goto 4, 3) := by decide +kernel
theorem dX7_release_42 : decode cX7_release 42 = .ok (.iconst 0, 1) := by decide +kernel
theorem dX7_release_43 : decode cX7_release 43 = .ok (.putfield 23, 3) := by decide +kernel
theorem dX7_release_46 : decode cX7_release 46 = .ok (.aload_n 0, 1) := by decide +kernel
theorem dX7_release_47 : decode cX7_release 47 = .ok (.getfield 23, 3) := by decide +kernel
theorem dX7_release_50 : decode cX7_release 50 = .ok (.ifCond .le 5, 3) := by decide +kernel
theorem dX7_release_53 : decode cX7_release 53 = .ok (.iconst 0, 1) := by decide +kernel
theorem dX7_release_54 : decode cX7_release 54 = .ok (.ireturn, 1) := by decide +kernel
theorem dX7_release_55 : decode cX7_release 55 = .ok (.aload_n 0, 1) := by decide +kernel
theorem dX7_release_56 : decode cX7_release 56 = .ok (.getfield 12, 3) := by decide +kernel
theorem dX7_release_59 : decode cX7_release 59 = .ok (.getfield 68, 3) := by decide +kernel
theorem dX7_release_62 : decode cX7_release 62 = .ok (.iload_n 1, 1) := by decide +kernel
theorem dX7_release_63 : decode cX7_release 63 = .ok (.invokevirtual 85, 3) := by decide +kernel
theorem dX7_release_66 : decode cX7_release 66 = .ok (.checkcast 89, 3) := by decide +kernel
theorem dX7_release_69 : decode cX7_release 69 = .ok (.iconst 3, 1) := by decide +kernel
theorem dX7_release_70 : decode cX7_release 70 = .ok (.iaload, 1) := by decide +kernel
theorem dX7_release_71 : decode cX7_release 71 = .ok (.iconst 1, 1) := by decide +kernel
theorem dX7_release_72 : decode cX7_release 72 = .ok (.if_icmp .ne 7, 3) := by decide +kernel
theorem dX7_release_75 : decode cX7_release 75 = .ok (.iconst 1, 1) := by decide +kernel
theorem dX7_release_76 : decode cX7_release 76 = .ok (.goto 4, 3) := by decide +kernel
theorem dX7_release_79 : decode cX7_release 79 = .ok (.iconst 0, 1) := by decide +kernel
theorem dX7_release_80 : decode cX7_release 80 = .ok (.istore_n 2, 1) := by decide +kernel
theorem dX7_release_81 : decode cX7_release 81 = .ok (.aload_n 0, 1) := by decide +kernel
theorem dX7_release_82 : decode cX7_release 82 = .ok (.getfield 12, 3) := by decide +kernel
theorem dX7_release_85 : decode cX7_release 85 = .ok (.getfield 68, 3) := by decide +kernel
theorem dX7_release_88 : decode cX7_release 88 = .ok (.iload_n 1, 1) := by decide +kernel
theorem dX7_release_89 : decode cX7_release 89 = .ok (.invokevirtual 85, 3) := by decide +kernel
theorem dX7_release_92 : decode cX7_release 92 = .ok (.checkcast 89, 3) := by decide +kernel
theorem dX7_release_95 : decode cX7_release 95 = .ok (.iconst 3, 1) := by decide +kernel
theorem dX7_release_96 : decode cX7_release 96 = .ok (.iconst 0, 1) := by decide +kernel
theorem dX7_release_97 : decode cX7_release 97 = .ok (.iastore, 1) := by decide +kernel
theorem dX7_release_98 : decode cX7_release 98 = .ok (.iload_n 2, 1) := by decide +kernel
theorem dX7_release_99 : decode cX7_release 99 = .ok (.ireturn, 1) := by decide +kernel
theorem dX7_guns_0 : decode cX7_guns 0 = .ok (.aload_n 0, 1) := by decide +kernel
theorem dX7_guns_1 : decode cX7_guns 1 = .ok (.iconst 0, 1) := by decide +kernel
theorem dX7_guns_2 : decode cX7_guns 2 = .ok (.putfield 23, 3) := by decide +kernel
theorem dX7_guns_5 : decode cX7_guns 5 = .ok (.aload_n 0, 1) := by decide +kernel
theorem dX7_guns_6 : decode cX7_guns 6 = .ok (.iload_n 1, 1) := by decide +kernel
theorem dX7_guns_7 : decode cX7_guns 7 = .ok (.invokevirtual 110, 3) := by decide +kernel
theorem dX7_guns_10 : decode cX7_guns 10 = .ok (.ifCond .ne 9, 3) := by decide +kernel
theorem dX7_guns_13 : decode cX7_guns 13 = .ok (.aload_n 0, 1) := by decide +kernel
theorem dX7_guns_14 : decode cX7_guns 14 = .ok (.iconst 1, 1) := by decide +kernel
theorem dX7_guns_15 : decode cX7_guns 15 = .ok (.invokevirtual 95, 3) := by decide +kernel
theorem dX7_guns_18 : decode cX7_guns 18 = .ok (.ireturn, 1) := by decide +kernel
theorem dX7_guns_19 : decode cX7_guns 19 = .ok (.iload_n 2, 1) := by decide +kernel
theorem dX7_guns_20 : decode cX7_guns 20 = .ok (.iconst 0, 1) := by decide +kernel
theorem dX7_guns_21 : decode cX7_guns 21 = .ok (.bipush 9, 2) := by decide +kernel
theorem dX7_guns_23 : decode cX7_guns 23 = .ok (.invokestatic 78, 3) := by decide +kernel
theorem dX7_guns_26 : decode cX7_guns 26 = .ok (.ifCond .ne 9, 3) := by decide +kernel
theorem dX7_guns_29 : decode cX7_guns 29 = .ok (.aload_n 0, 1) := by decide +kernel
theorem dX7_guns_30 : decode cX7_guns 30 = .ok (.iconst 2, 1) := by decide +kernel
theorem dX7_guns_31 : decode cX7_guns 31 = .ok (.invokevirtual 95, 3) := by decide +kernel
theorem dX7_guns_34 : decode cX7_guns 34 = .ok (.ireturn, 1) := by decide +kernel
theorem dX7_guns_35 : decode cX7_guns 35 = .ok (.aload_n 0, 1) := by decide +kernel
theorem dX7_guns_36 : decode cX7_guns 36 = .ok (.iload_n 1, 1) := by decide +kernel
theorem dX7_guns_37 : decode cX7_guns 37 = .ok (.invokevirtual 91, 3) := by decide +kernel
theorem dX7_guns_40 : decode cX7_guns 40 = .ok (.bipush 8, 2) := by decide +kernel
theorem dX7_guns_42 : decode cX7_guns 42 = .ok (.iaload, 1) := by decide +kernel
theorem dX7_guns_43 : decode cX7_guns 43 = .ok (.istore_n 3, 1) := by decide +kernel
theorem dX7_guns_44 : decode cX7_guns 44 = .ok (.aload_n 0, 1) := by decide +kernel
theorem dX7_guns_45 : decode cX7_guns 45 = .ok (.iload_n 1, 1) := by decide +kernel
theorem dX7_guns_46 : decode cX7_guns 46 = .ok (.invokevirtual 91, 3) := by decide +kernel
theorem dX7_guns_49 : decode cX7_guns 49 = .ok (.bipush 8, 2) := by decide +kernel
theorem dX7_guns_51 : decode cX7_guns 51 = .ok (.iload_n 2, 1) := by decide +kernel
theorem dX7_guns_52 : decode cX7_guns 52 = .ok (.iastore, 1) := by decide +kernel
theorem dX7_guns_53 : decode cX7_guns 53 = .ok (.iload_n 3, 1) := by decide +kernel
theorem dX7_guns_54 : decode cX7_guns 54 = .ok (.ireturn, 1) := by decide +kernel
theorem dX7_fill_0 : decode cX7_fill 0 = .ok (.aload_n 0, 1) := by decide +kernel
theorem dX7_fill_1 : decode cX7_fill 1 = .ok (.iconst 0, 1) := by decide +kernel
theorem dX7_fill_2 : decode cX7_fill 2 = .ok (.putfield 23, 3) := by decide +kernel
theorem dX7_fill_5 : decode cX7_fill 5 = .ok (.iload_n 1, 1) := by decide +kernel
theorem dX7_fill_6 : decode cX7_fill 6 = .ok (.iconst 1, 1) := by decide +kernel
theorem dX7_fill_7 : decode cX7_fill 7 = .ok (.sipush 5000, 3) := by decide +kernel
theorem dX7_fill_10 : decode cX7_fill 10 = .ok (.invokestatic 78, 3) := by decide +kernel
theorem dX7_fill_13 : decode cX7_fill 13 = .ok (.ifCond .ne 9, 3) := by decide +kernel
theorem dX7_fill_16 : decode cX7_fill 16 = .ok (.aload_n 0, 1) := by decide +kernel
theorem dX7_fill_17 : decode cX7_fill 17 = .ok (.iconst 1, 1) := by decide +kernel
theorem dX7_fill_18 : decode cX7_fill 18 = .ok (.invokevirtual 95, 3) := by decide +kernel
theorem dX7_fill_21 : decode cX7_fill 21 = .ok (.ireturn, 1) := by decide +kernel
theorem dX7_fill_22 : decode cX7_fill 22 = .ok (.aload_n 0, 1) := by decide +kernel
theorem dX7_fill_23 : decode cX7_fill 23 = .ok (.getfield 12, 3) := by decide +kernel
theorem dX7_fill_26 : decode cX7_fill 26 = .ok (.sipush 5000, 3) := by decide +kernel
theorem dX7_fill_29 : decode cX7_fill 29 = .ok (.aload_n 0, 1) := by decide +kernel
theorem dX7_fill_30 : decode cX7_fill 30 = .ok (.getfield 12, 3) := by decide +kernel
theorem dX7_fill_33 : decode cX7_fill 33 = .ok (.getfield 113, 3) := by decide +kernel
theorem dX7_fill_36 : decode cX7_fill 36 = .ok (.iload_n 1, 1) := by decide +kernel
theorem dX7_fill_37 : decode cX7_fill 37 = .ok (.iadd, 1) := by decide +kernel
theorem dX7_fill_38 : decode cX7_fill 38 = .ok (.invokestatic 38, 3) := by decide +kernel
theorem dX7_fill_41 : decode cX7_fill 41 = .ok (.putfield 113, 3) := by decide +kernel
theorem dX7_fill_44 : decode cX7_fill 44 = .ok (.aload_n 0, 1) := by decide +kernel
theorem dX7_fill_45 : decode cX7_fill 45 = .ok (.getfield 12, 3) := by decide +kernel
theorem dX7_fill_48 : decode cX7_fill 48 = .ok (.getfield 113, 3) := by decide +kernel
theorem dX7_fill_51 : decode cX7_fill 51 = .ok (.ireturn, 1) := by decide +kernel
theorem dX7_crowd_0 : decode cX7_crowd 0 = .ok (.aload_n 0, 1) := by decide +kernel
theorem dX7_crowd_1 : decode cX7_crowd 1 = .ok (.iconst 0, 1) := by decide +kernel
theorem dX7_crowd_2 : decode cX7_crowd 2 = .ok (.putfield 23, 3) := by decide +kernel
theorem dX7_crowd_5 : decode cX7_crowd 5 = .ok (.iload_n 1, 1) := by decide +kernel
theorem dX7_crowd_6 : decode cX7_crowd 6 = .ok (.iconst 0, 1) := by decide +kernel
theorem dX7_crowd_7 : decode cX7_crowd 7 = .ok (.sipush 5000, 3) := by decide +kernel
theorem dX7_crowd_10 : decode cX7_crowd 10 = .ok (.invokestatic 78, 3) := by decide +kernel
theorem dX7_crowd_13 : decode cX7_crowd 13 = .ok (.ifCond .ne 9, 3) := by decide +kernel
theorem dX7_crowd_16 : decode cX7_crowd 16 = .ok (.aload_n 0, 1) := by decide +kernel
theorem dX7_crowd_17 : decode cX7_crowd 17 = .ok (.iconst 1, 1) := by decide +kernel
theorem dX7_crowd_18 : decode cX7_crowd 18 = .ok (.invokevirtual 95, 3) := by decide +kernel
theorem dX7_crowd_21 : decode cX7_crowd 21 = .ok (.ireturn, 1) := by decide +kernel
theorem dX7_crowd_22 : decode cX7_crowd 22 = .ok (.aload_n 0, 1) := by decide +kernel
theorem dX7_crowd_23 : decode cX7_crowd 23 = .ok (.getfield 12, 3) := by decide +kernel
theorem dX7_crowd_26 : decode cX7_crowd 26 = .ok (.getfield 116, 3) := by decide +kernel
theorem dX7_crowd_29 : decode cX7_crowd 29 = .ok (.istore_n 2, 1) := by decide +kernel
theorem dX7_crowd_30 : decode cX7_crowd 30 = .ok (.aload_n 0, 1) := by decide +kernel
theorem dX7_crowd_31 : decode cX7_crowd 31 = .ok (.getfield 12, 3) := by decide +kernel
theorem dX7_crowd_34 : decode cX7_crowd 34 = .ok (.iload_n 1, 1) := by decide +kernel
theorem dX7_crowd_35 : decode cX7_crowd 35 = .ok (.putfield 116, 3) := by decide +kernel
theorem dX7_crowd_38 : decode cX7_crowd 38 = .ok (.iload_n 2, 1) := by decide +kernel
theorem dX7_crowd_39 : decode cX7_crowd 39 = .ok (.ireturn, 1) := by decide +kernel
theorem dX7_areHours_0 : decode cX7_areHours 0 = .ok (.iload_n 0, 1) := by decide +kernel
theorem dX7_areHours_1 : decode cX7_areHours 1 = .ok (.iconst 1, 1) := by decide +kernel
theorem dX7_areHours_2 : decode cX7_areHours 2 = .ok (.bipush 48, 2) := by decide +kernel
theorem dX7_areHours_4 : decode cX7_areHours 4 = .ok (.invokestatic 78, 3) := by decide +kernel
theorem dX7_areHours_7 : decode cX7_areHours 7 = .ok (.ireturn, 1) := by decide +kernel
theorem dX7_isWarmth_0 : decode cX7_isWarmth 0 = .ok (.iload_n 0, 1) := by decide +kernel
theorem dX7_isWarmth_1 : decode cX7_isWarmth 1 = .ok (.bipush (-20), 2) := by decide +kernel
theorem dX7_isWarmth_3 : decode cX7_isWarmth 3 = .ok (.bipush 20, 2) := by decide +kernel
theorem dX7_isWarmth_5 : decode cX7_isWarmth 5 = .ok (.invokestatic 78, 3) := by decide +kernel
theorem dX7_isWarmth_8 : decode cX7_isWarmth 8 = .ok (.ireturn, 1) := by decide +kernel
theorem dX7_pass_0 : decode cX7_pass 0 = .ok (.aload_n 0, 1) := by decide +kernel
theorem dX7_pass_1 : decode cX7_pass 1 = .ok (.iconst 0, 1) := by decide +kernel
theorem dX7_pass_2 : decode cX7_pass 2 = .ok (.putfield 23, 3) := by decide +kernel
theorem dX7_pass_5 : decode cX7_pass 5 = .ok (.iload_n 1, 1) := by decide +kernel

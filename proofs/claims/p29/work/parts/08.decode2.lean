theorem dX1_shareOut_50 : decode cX1_shareOut 50 = .ok (.aload_n 0, 1) := by decide +kernel
theorem dX1_shareOut_51 : decode cX1_shareOut 51 = .ok (.aload_n 0, 1) := by decide +kernel
theorem dX1_shareOut_52 : decode cX1_shareOut 52 = .ok (.getfield 20, 3) := by decide +kernel
theorem dX1_shareOut_55 : decode cX1_shareOut 55 = .ok (.iload 5, 2) := by decide +kernel
theorem dX1_shareOut_57 : decode cX1_shareOut 57 = .ok (.aaload, 1) := by decide +kernel
theorem dX1_shareOut_58 : decode cX1_shareOut 58 = .ok (.iload_n 2, 1) := by decide +kernel
theorem dX1_shareOut_59 : decode cX1_shareOut 59 = .ok (.iload_n 3, 1) := by decide +kernel
theorem dX1_shareOut_60 : decode cX1_shareOut 60 = .ok (.idiv, 1) := by decide +kernel
theorem dX1_shareOut_61 : decode cX1_shareOut 61 = .ok (.iload 4, 2) := by decide +kernel
theorem dX1_shareOut_63 : decode cX1_shareOut 63 = .ok (.iadd, 1) := by decide +kernel
theorem dX1_shareOut_64 : decode cX1_shareOut 64 = .ok (.invokevirtual 221, 3) := by decide +kernel
theorem dX1_shareOut_67 : decode cX1_shareOut 67 = .ok (.iconst 0, 1) := by decide +kernel
theorem dX1_shareOut_68 : decode cX1_shareOut 68 = .ok (.istore 4, 2) := by decide +kernel
theorem dX1_shareOut_70 : decode cX1_shareOut 70 = .ok (.iinc 5 1, 3) := by decide +kernel
theorem dX1_shareOut_73 : decode cX1_shareOut 73 = .ok (.goto (-59), 3) := by decide +kernel
theorem dX1_shareOut_76 : decode cX1_shareOut 76 = .ok (.return_, 1) := by decide +kernel
theorem dX1_skiOn_0 : decode cX1_skiOn 0 = .ok (.aload_n 1, 1) := by decide +kernel
theorem dX1_skiOn_1 : decode cX1_skiOn 1 = .ok (.getfield 89, 3) := by decide +kernel
theorem dX1_skiOn_4 : decode cX1_skiOn 4 = .ok (.iconst 2, 1) := by decide +kernel
theorem dX1_skiOn_5 : decode cX1_skiOn 5 = .ok (.invokevirtual 200, 3) := by decide +kernel
theorem dX1_skiOn_8 : decode cX1_skiOn 8 = .ok (.istore_n 3, 1) := by decide +kernel
theorem dX1_skiOn_9 : decode cX1_skiOn 9 = .ok (.aload_n 1, 1) := by decide +kernel
theorem dX1_skiOn_10 : decode cX1_skiOn 10 = .ok (.getfield 224, 3) := by decide +kernel
theorem dX1_skiOn_13 : decode cX1_skiOn 13 = .ok (.iload_n 2, 1) := by decide +kernel
theorem dX1_skiOn_14 : decode cX1_skiOn 14 = .ok (.iadd, 1) := by decide +kernel
theorem dX1_skiOn_15 : decode cX1_skiOn 15 = .ok (.sipush 200, 3) := by decide +kernel
theorem dX1_skiOn_18 : decode cX1_skiOn 18 = .ok (.idiv, 1) := by decide +kernel
theorem dX1_skiOn_19 : decode cX1_skiOn 19 = .ok (.aload_n 1, 1) := by decide +kernel
theorem dX1_skiOn_20 : decode cX1_skiOn 20 = .ok (.getfield 224, 3) := by decide +kernel
theorem dX1_skiOn_23 : decode cX1_skiOn 23 = .ok (.sipush 200, 3) := by decide +kernel
theorem dX1_skiOn_26 : decode cX1_skiOn 26 = .ok (.idiv, 1) := by decide +kernel
theorem dX1_skiOn_27 : decode cX1_skiOn 27 = .ok (.isub, 1) := by decide +kernel
theorem dX1_skiOn_28 : decode cX1_skiOn 28 = .ok (.istore 4, 2) := by decide +kernel
theorem dX1_skiOn_30 : decode cX1_skiOn 30 = .ok (.aload_n 1, 1) := by decide +kernel
theorem dX1_skiOn_31 : decode cX1_skiOn 31 = .ok (.dup, 1) := by decide +kernel
theorem dX1_skiOn_32 : decode cX1_skiOn 32 = .ok (.getfield 224, 3) := by decide +kernel
theorem dX1_skiOn_35 : decode cX1_skiOn 35 = .ok (.iload_n 2, 1) := by decide +kernel
theorem dX1_skiOn_36 : decode cX1_skiOn 36 = .ok (.iadd, 1) := by decide +kernel
theorem dX1_skiOn_37 : decode cX1_skiOn 37 = .ok (.putfield 224, 3) := by decide +kernel
theorem dX1_skiOn_40 : decode cX1_skiOn 40 = .ok (.iconst 0, 1) := by decide +kernel
theorem dX1_skiOn_41 : decode cX1_skiOn 41 = .ok (.istore 5, 2) := by decide +kernel
theorem dX1_skiOn_43 : decode cX1_skiOn 43 = .ok (.iload 5, 2) := by decide +kernel
theorem dX1_skiOn_45 : decode cX1_skiOn 45 = .ok (.iload 4, 2) := by decide +kernel
theorem dX1_skiOn_47 : decode cX1_skiOn 47 = .ok (.if_icmp .ge 17, 3) := by decide +kernel
theorem dX1_skiOn_50 : decode cX1_skiOn 50 = .ok (.aload_n 1, 1) := by decide +kernel
theorem dX1_skiOn_51 : decode cX1_skiOn 51 = .ok (.getfield 89, 3) := by decide +kernel
theorem dX1_skiOn_54 : decode cX1_skiOn 54 = .ok (.iconst 1, 1) := by decide +kernel
theorem dX1_skiOn_55 : decode cX1_skiOn 55 = .ok (.invokevirtual 227, 3) := by decide +kernel
theorem dX1_skiOn_58 : decode cX1_skiOn 58 = .ok (.iinc 5 1, 3) := by decide +kernel
theorem dX1_skiOn_61 : decode cX1_skiOn 61 = .ok (.goto (-18), 3) := by decide +kernel
theorem dX1_skiOn_64 : decode cX1_skiOn 64 = .ok (.aload_n 0, 1) := by decide +kernel
theorem dX1_skiOn_65 : decode cX1_skiOn 65 = .ok (.dup, 1) := by decide +kernel
theorem dX1_skiOn_66 : decode cX1_skiOn 66 = .ok (.getfield 66, 3) := by decide +kernel
theorem dX1_skiOn_69 : decode cX1_skiOn 69 = .ok (.iload_n 2, 1) := by decide +kernel
theorem dX1_skiOn_70 : decode cX1_skiOn 70 = .ok (.bipush 40, 2) := by decide +kernel
theorem dX1_skiOn_72 : decode cX1_skiOn 72 = .ok (.aload_n 1, 1) := by decide +kernel
theorem dX1_skiOn_73 : decode cX1_skiOn 73 = .ok (.getfield 99, 3) := by decide +kernel
theorem dX1_skiOn_76 : decode cX1_skiOn 76 = .ok (.imul, 1) := by decide +kernel
theorem dX1_skiOn_77 : decode cX1_skiOn 77 = .ok (.if_icmp .le 7, 3) := by decide +kernel
theorem dX1_skiOn_80 : decode cX1_skiOn 80 = .ok (.iconst 1, 1) := by decide +kernel
theorem dX1_skiOn_81 : decode cX1_skiOn 81 = .ok (.goto 4, 3) := by decide +kernel
theorem dX1_skiOn_84 : decode cX1_skiOn 84 = .ok (.iconst 0, 1) := by decide +kernel
theorem dX1_skiOn_85 : decode cX1_skiOn 85 = .ok (.invokestatic 82, 3) := by decide +kernel
theorem dX1_skiOn_88 : decode cX1_skiOn 88 = .ok (.iadd, 1) := by decide +kernel
theorem dX1_skiOn_89 : decode cX1_skiOn 89 = .ok (.putfield 66, 3) := by decide +kernel
theorem dX1_skiOn_92 : decode cX1_skiOn 92 = .ok (.aload_n 0, 1) := by decide +kernel
theorem dX1_skiOn_93 : decode cX1_skiOn 93 = .ok (.dup, 1) := by decide +kernel
theorem dX1_skiOn_94 : decode cX1_skiOn 94 = .ok (.getfield 66, 3) := by decide +kernel
theorem dX1_skiOn_97 : decode cX1_skiOn 97 = .ok (.iload_n 3, 1) := by decide +kernel
theorem dX1_skiOn_98 : decode cX1_skiOn 98 = .ok (.ifCond .eq 10, 3) := by decide +kernel
theorem dX1_skiOn_101 : decode cX1_skiOn 101 = .ok (.iload_n 2, 1) := by decide +kernel
theorem dX1_skiOn_102 : decode cX1_skiOn 102 = .ok (.bipush 50, 2) := by decide +kernel
theorem dX1_skiOn_104 : decode cX1_skiOn 104 = .ok (.idiv, 1) := by decide +kernel
theorem dX1_skiOn_105 : decode cX1_skiOn 105 = .ok (.goto 4, 3) := by decide +kernel
theorem dX1_skiOn_108 : decode cX1_skiOn 108 = .ok (.iconst 0, 1) := by decide +kernel
theorem dX1_skiOn_109 : decode cX1_skiOn 109 = .ok (.iadd, 1) := by decide +kernel
theorem dX1_skiOn_110 : decode cX1_skiOn 110 = .ok (.putfield 66, 3) := by decide +kernel
theorem dX1_skiOn_113 : decode cX1_skiOn 113 = .ok (.return_, 1) := by decide +kernel
theorem dX2_init_0 : decode cX2_init 0 = .ok (.aload_n 0, 1) := by decide +kernel
theorem dX2_init_1 : decode cX2_init 1 = .ok (.invokespecial 3, 3) := by decide +kernel
theorem dX2_init_4 : decode cX2_init 4 = .ok (.aload_n 0, 1) := by decide +kernel
theorem dX2_init_5 : decode cX2_init 5 = .ok (.new 9, 3) := by decide +kernel
theorem dX2_init_8 : decode cX2_init 8 = .ok (.dup, 1) := by decide +kernel
theorem dX2_init_9 : decode cX2_init 9 = .ok (.invokespecial 11, 3) := by decide +kernel
theorem dX2_init_12 : decode cX2_init 12 = .ok (.putfield 12, 3) := by decide +kernel
theorem dX2_init_15 : decode cX2_init 15 = .ok (.aload_n 0, 1) := by decide +kernel
theorem dX2_init_16 : decode cX2_init 16 = .ok (.iconst (-1), 1) := by decide +kernel
theorem dX2_init_17 : decode cX2_init 17 = .ok (.putfield 18, 3) := by decide +kernel
theorem dX2_init_20 : decode cX2_init 20 = .ok (.return_, 1) := by decide +kernel
theorem dX2_become_0 : decode cX2_become 0 = .ok (.aload_n 0, 1) := by decide +kernel
theorem dX2_become_1 : decode cX2_become 1 = .ok (.getfield 12, 3) := by decide +kernel
theorem dX2_become_4 : decode cX2_become 4 = .ok (.aload_n 1, 1) := by decide +kernel
theorem dX2_become_5 : decode cX2_become 5 = .ok (.getfield 12, 3) := by decide +kernel
theorem dX2_become_8 : decode cX2_become 8 = .ok (.invokevirtual 22, 3) := by decide +kernel
theorem dX2_become_11 : decode cX2_become 11 = .ok (.aload_n 0, 1) := by decide +kernel
theorem dX2_become_12 : decode cX2_become 12 = .ok (.aload_n 1, 1) := by decide +kernel
theorem dX2_become_13 : decode cX2_become 13 = .ok (.getfield 26, 3) := by decide +kernel
theorem dX2_become_16 : decode cX2_become 16 = .ok (.putfield 26, 3) := by decide +kernel
theorem dX2_become_19 : decode cX2_become 19 = .ok (.aload_n 0, 1) := by decide +kernel
theorem dX2_become_20 : decode cX2_become 20 = .ok (.aload_n 1, 1) := by decide +kernel
theorem dX2_become_21 : decode cX2_become 21 = .ok (.getfield 29, 3) := by decide +kernel
theorem dX2_become_24 : decode cX2_become 24 = .ok (.putfield 29, 3) := by decide +kernel
theorem dX2_become_27 : decode cX2_become 27 = .ok (.aload_n 0, 1) := by decide +kernel
theorem dX2_become_28 : decode cX2_become 28 = .ok (.aload_n 1, 1) := by decide +kernel
theorem dX2_become_29 : decode cX2_become 29 = .ok (.getfield 32, 3) := by decide +kernel
theorem dX2_become_32 : decode cX2_become 32 = .ok (.putfield 32, 3) := by decide +kernel
theorem dX2_become_35 : decode cX2_become 35 = .ok (.aload_n 0, 1) := by decide +kernel
theorem dX2_become_36 : decode cX2_become 36 = .ok (.aload_n 1, 1) := by decide +kernel
theorem dX2_become_37 : decode cX2_become 37 = .ok (.getfield 35, 3) := by decide +kernel
theorem dX2_become_40 : decode cX2_become 40 = .ok (.putfield 35, 3) := by decide +kernel
theorem dX2_become_43 : decode cX2_become 43 = .ok (.aload_n 0, 1) := by decide +kernel
theorem dX2_become_44 : decode cX2_become 44 = .ok (.aload_n 1, 1) := by decide +kernel
theorem dX2_become_45 : decode cX2_become 45 = .ok (.getfield 38, 3) := by decide +kernel
theorem dX2_become_48 : decode cX2_become 48 = .ok (.putfield 38, 3) := by decide +kernel
theorem dX2_become_51 : decode cX2_become 51 = .ok (.aload_n 0, 1) := by decide +kernel
theorem dX2_become_52 : decode cX2_become 52 = .ok (.aload_n 1, 1) := by decide +kernel
theorem dX2_become_53 : decode cX2_become 53 = .ok (.getfield 41, 3) := by decide +kernel
theorem dX2_become_56 : decode cX2_become 56 = .ok (.putfield 41, 3) := by decide +kernel
theorem dX2_become_59 : decode cX2_become 59 = .ok (.aload_n 0, 1) := by decide +kernel
theorem dX2_become_60 : decode cX2_become 60 = .ok (.aload_n 1, 1) := by decide +kernel
theorem dX2_become_61 : decode cX2_become 61 = .ok (.getfield 44, 3) := by decide +kernel
theorem dX2_become_64 : decode cX2_become 64 = .ok (.putfield 44, 3) := by decide +kernel
theorem dX2_become_67 : decode cX2_become 67 = .ok (.aload_n 0, 1) := by decide +kernel
theorem dX2_become_68 : decode cX2_become 68 = .ok (.aload_n 1, 1) := by decide +kernel
theorem dX2_become_69 : decode cX2_become 69 = .ok (.getfield 47, 3) := by decide +kernel
theorem dX2_become_72 : decode cX2_become 72 = .ok (.putfield 47, 3) := by decide +kernel
theorem dX2_become_75 : decode cX2_become 75 = .ok (.aload_n 0, 1) := by decide +kernel
theorem dX2_become_76 : decode cX2_become 76 = .ok (.aload_n 1, 1) := by decide +kernel
theorem dX2_become_77 : decode cX2_become 77 = .ok (.getfield 50, 3) := by decide +kernel
theorem dX2_become_80 : decode cX2_become 80 = .ok (.putfield 50, 3) := by decide +kernel
theorem dX2_become_83 : decode cX2_become 83 = .ok (.aload_n 0, 1) := by decide +kernel
theorem dX2_become_84 : decode cX2_become 84 = .ok (.aload_n 1, 1) := by decide +kernel
theorem dX2_become_85 : decode cX2_become 85 = .ok (.getfield 53, 3) := by decide +kernel
theorem dX2_become_88 : decode cX2_become 88 = .ok (.putfield 53, 3) := by decide +kernel
theorem dX2_become_91 : decode cX2_become 91 = .ok (.aload_n 0, 1) := by decide +kernel
theorem dX2_become_92 : decode cX2_become 92 = .ok (.aload_n 1, 1) := by decide +kernel
theorem dX2_become_93 : decode cX2_become 93 = .ok (.getfield 56, 3) := by decide +kernel
theorem dX2_become_96 : decode cX2_become 96 = .ok (.putfield 56, 3) := by decide +kernel
theorem dX2_become_99 : decode cX2_become 99 = .ok (.aload_n 0, 1) := by decide +kernel
theorem dX2_become_100 : decode cX2_become 100 = .ok (.aload_n 1, 1) := by decide +kernel
theorem dX2_become_101 : decode cX2_become 101 = .ok (.getfield 18, 3) := by decide +kernel
theorem dX2_become_104 : decode cX2_become 104 = .ok (.putfield 18, 3) := by decide +kernel
theorem dX2_become_107 : decode cX2_become 107 = .ok (.aload_n 0, 1) := by decide +kernel
theorem dX2_become_108 : decode cX2_become 108 = .ok (.aload_n 1, 1) := by decide +kernel
theorem dX2_become_109 : decode cX2_become 109 = .ok (.getfield 59, 3) := by decide +kernel
theorem dX2_become_112 : decode cX2_become 112 = .ok (.putfield 59, 3) := by decide +kernel
theorem dX2_become_115 : decode cX2_become 115 = .ok (.aload_n 0, 1) := by decide +kernel
theorem dX2_become_116 : decode cX2_become 116 = .ok (.aload_n 1, 1) := by decide +kernel
theorem dX2_become_117 : decode cX2_become 117 = .ok (.getfield 62, 3) := by decide +kernel
theorem dX2_become_120 : decode cX2_become 120 = .ok (.putfield 62, 3) := by decide +kernel
theorem dX2_become_123 : decode cX2_become 123 = .ok (.aload_n 0, 1) := by decide +kernel
theorem dX2_become_124 : decode cX2_become 124 = .ok (.aload_n 1, 1) := by decide +kernel
theorem dX2_become_125 : decode cX2_become 125 = .ok (.getfield 65, 3) := by decide +kernel
theorem dX2_become_128 : decode cX2_become 128 = .ok (.putfield 65, 3) := by decide +kernel
theorem dX2_become_131 : decode cX2_become 131 = .ok (.aload_n 0, 1) := by decide +kernel
theorem dX2_become_132 : decode cX2_become 132 = .ok (.aload_n 1, 1) := by decide +kernel
theorem dX2_become_133 : decode cX2_become 133 = .ok (.getfield 69, 3) := by decide +kernel
theorem dX2_become_136 : decode cX2_become 136 = .ok (.putfield 69, 3) := by decide +kernel
theorem dX2_become_139 : decode cX2_become 139 = .ok (.aload_n 0, 1) := by decide +kernel
theorem dX2_become_140 : decode cX2_become 140 = .ok (.aload_n 1, 1) := by decide +kernel
theorem dX2_become_141 : decode cX2_become 141 = .ok (.getfield 72, 3) := by decide +kernel
theorem dX2_become_144 : decode cX2_become 144 = .ok (.putfield 72, 3) := by decide +kernel
theorem dX2_become_147 : decode cX2_become 147 = .ok (.return_, 1) := by decide +kernel
theorem dX2_risk_0 : decode cX2_risk 0 = .ok (.aload_n 0, 1) := by decide +kernel
theorem dX2_risk_1 : decode cX2_risk 1 = .ok (.getfield 12, 3) := by decide +kernel
theorem dX2_risk_4 : decode cX2_risk 4 = .ok (.aload_n 0, 1) := by decide +kernel
theorem dX2_risk_5 : decode cX2_risk 5 = .ok (.getfield 32, 3) := by decide +kernel
theorem dX2_risk_8 : decode cX2_risk 8 = .ok (.invokevirtual 75, 3) := by decide +kernel
theorem dX2_risk_11 : decode cX2_risk 11 = .ok (.ireturn, 1) := by decide +kernel
theorem dX2_shear_0 : decode cX2_shear 0 = .ok (.aload_n 0, 1) := by decide +kernel
theorem dX2_shear_1 : decode cX2_shear 1 = .ok (.getfield 12, 3) := by decide +kernel
theorem dX2_shear_4 : decode cX2_shear 4 = .ok (.aload_n 0, 1) := by decide +kernel
theorem dX2_shear_5 : decode cX2_shear 5 = .ok (.getfield 32, 3) := by decide +kernel
theorem dX2_shear_8 : decode cX2_shear 8 = .ok (.invokevirtual 79, 3) := by decide +kernel
theorem dX2_shear_11 : decode cX2_shear 11 = .ok (.ireturn, 1) := by decide +kernel
theorem dX2_sizeFrom_0 : decode cX2_sizeFrom 0 = .ok (.iload_n 1, 1) := by decide +kernel
theorem dX2_sizeFrom_1 : decode cX2_sizeFrom 1 = .ok (.iconst (-1), 1) := by decide +kernel
theorem dX2_sizeFrom_2 : decode cX2_sizeFrom 2 = .ok (.if_icmp .ne 7, 3) := by decide +kernel
theorem dX2_sizeFrom_5 : decode cX2_sizeFrom 5 = .ok (.iconst 0, 1) := by decide +kernel
theorem dX2_sizeFrom_6 : decode cX2_sizeFrom 6 = .ok (.goto 16, 3) := by decide +kernel
theorem dX2_sizeFrom_9 : decode cX2_sizeFrom 9 = .ok (.aload_n 0, 1) := by decide +kernel
theorem dX2_sizeFrom_10 : decode cX2_sizeFrom 10 = .ok (.getfield 12, 3) := by decide +kernel
theorem dX2_sizeFrom_13 : decode cX2_sizeFrom 13 = .ok (.iload_n 1, 1) := by decide +kernel
theorem dX2_sizeFrom_14 : decode cX2_sizeFrom 14 = .ok (.invokevirtual 82, 3) := by decide +kernel
theorem dX2_sizeFrom_17 : decode cX2_sizeFrom 17 = .ok (.aload_n 0, 1) := by decide +kernel
theorem dX2_sizeFrom_18 : decode cX2_sizeFrom 18 = .ok (.getfield 38, 3) := by decide +kernel
theorem dX2_sizeFrom_21 : decode cX2_sizeFrom 21 = .ok (.imul, 1) := by decide +kernel
theorem dX2_sizeFrom_22 : decode cX2_sizeFrom 22 = .ok (.ireturn, 1) := by decide +kernel
theorem dX2_weatherSnow_0 : decode cX2_weatherSnow 0 = .ok (.aload_n 1, 1) := by decide +kernel
theorem dX2_weatherSnow_1 : decode cX2_weatherSnow 1 = .ok (.getfield 85, 3) := by decide +kernel
theorem dX2_weatherSnow_4 : decode cX2_weatherSnow 4 = .ok (.ifCond .ne 7, 3) := by decide +kernel
theorem dX2_weatherSnow_7 : decode cX2_weatherSnow 7 = .ok (.iconst 1, 1) := by decide +kernel
theorem dX2_weatherSnow_8 : decode cX2_weatherSnow 8 = .ok (.goto 4, 3) := by decide +kernel
theorem dX2_weatherSnow_11 : decode cX2_weatherSnow 11 = .ok (.iconst 0, 1) := by decide +kernel
theorem dX2_weatherSnow_12 : decode cX2_weatherSnow 12 = .ok (.istore 4, 2) := by decide +kernel
theorem dX2_weatherSnow_14 : decode cX2_weatherSnow 14 = .ok (.aload_n 0, 1) := by decide +kernel
theorem dX2_weatherSnow_15 : decode cX2_weatherSnow 15 = .ok (.getfield 12, 3) := by decide +kernel
theorem dX2_weatherSnow_18 : decode cX2_weatherSnow 18 = .ok (.aload_n 1, 1) := by decide +kernel
theorem dX2_weatherSnow_19 : decode cX2_weatherSnow 19 = .ok (.getfield 85, 3) := by decide +kernel
theorem dX2_weatherSnow_22 : decode cX2_weatherSnow 22 = .ok (.iload_n 2, 1) := by decide +kernel
theorem dX2_weatherSnow_23 : decode cX2_weatherSnow 23 = .ok (.invokevirtual 90, 3) := by decide +kernel
theorem dX2_weatherSnow_26 : decode cX2_weatherSnow 26 = .ok (.aload_n 1, 1) := by decide +kernel
theorem dX2_weatherSnow_27 : decode cX2_weatherSnow 27 = .ok (.getfield 94, 3) := by decide +kernel
theorem dX2_weatherSnow_30 : decode cX2_weatherSnow 30 = .ok (.iconst 4, 1) := by decide +kernel
theorem dX2_weatherSnow_31 : decode cX2_weatherSnow 31 = .ok (.if_icmp .le 61, 3) := by decide +kernel
theorem dX2_weatherSnow_34 : decode cX2_weatherSnow 34 = .ok (.iload 4, 2) := by decide +kernel
theorem dX2_weatherSnow_36 : decode cX2_weatherSnow 36 = .ok (.ifCond .ne 7, 3) := by decide +kernel
theorem dX2_weatherSnow_39 : decode cX2_weatherSnow 39 = .ok (.iload_n 2, 1) := by decide +kernel
theorem dX2_weatherSnow_40 : decode cX2_weatherSnow 40 = .ok (.ifCond .gt 52, 3) := by decide +kernel
theorem dX2_weatherSnow_43 : decode cX2_weatherSnow 43 = .ok (.aload_n 0, 1) := by decide +kernel
theorem dX2_weatherSnow_44 : decode cX2_weatherSnow 44 = .ok (.getfield 12, 3) := by decide +kernel
theorem dX2_weatherSnow_47 : decode cX2_weatherSnow 47 = .ok (.aload_n 1, 1) := by decide +kernel
theorem dX2_weatherSnow_48 : decode cX2_weatherSnow 48 = .ok (.getfield 94, 3) := by decide +kernel
theorem dX2_weatherSnow_51 : decode cX2_weatherSnow 51 = .ok (.iconst 4, 1) := by decide +kernel
theorem dX2_weatherSnow_52 : decode cX2_weatherSnow 52 = .ok (.isub, 1) := by decide +kernel
theorem dX2_weatherSnow_53 : decode cX2_weatherSnow 53 = .ok (.aload_n 0, 1) := by decide +kernel
theorem dX2_weatherSnow_54 : decode cX2_weatherSnow 54 = .ok (.getfield 35, 3) := by decide +kernel
theorem dX2_weatherSnow_57 : decode cX2_weatherSnow 57 = .ok (.aload_n 1, 1) := by decide +kernel
theorem dX2_weatherSnow_58 : decode cX2_weatherSnow 58 = .ok (.getfield 97, 3) := by decide +kernel
theorem dX2_weatherSnow_61 : decode cX2_weatherSnow 61 = .ok (.iconst 2, 1) := by decide +kernel
theorem dX2_weatherSnow_62 : decode cX2_weatherSnow 62 = .ok (.iadd, 1) := by decide +kernel
theorem dX2_weatherSnow_63 : decode cX2_weatherSnow 63 = .ok (.iconst 4, 1) := by decide +kernel
theorem dX2_weatherSnow_64 : decode cX2_weatherSnow 64 = .ok (.irem, 1) := by decide +kernel
theorem dX2_weatherSnow_65 : decode cX2_weatherSnow 65 = .ok (.if_icmp .ne 7, 3) := by decide +kernel
theorem dX2_weatherSnow_68 : decode cX2_weatherSnow 68 = .ok (.iconst 1, 1) := by decide +kernel
theorem dX2_weatherSnow_69 : decode cX2_weatherSnow 69 = .ok (.goto 4, 3) := by decide +kernel
theorem dX2_weatherSnow_72 : decode cX2_weatherSnow 72 = .ok (.iconst 0, 1) := by decide +kernel
theorem dX2_weatherSnow_73 : decode cX2_weatherSnow 73 = .ok (.aload_n 0, 1) := by decide +kernel
theorem dX2_weatherSnow_74 : decode cX2_weatherSnow 74 = .ok (.getfield 35, 3) := by decide +kernel
theorem dX2_weatherSnow_77 : decode cX2_weatherSnow 77 = .ok (.aload_n 1, 1) := by decide +kernel
theorem dX2_weatherSnow_78 : decode cX2_weatherSnow 78 = .ok (.getfield 97, 3) := by decide +kernel
theorem dX2_weatherSnow_81 : decode cX2_weatherSnow 81 = .ok (.if_icmp .ne 7, 3) := by decide +kernel
theorem dX2_weatherSnow_84 : decode cX2_weatherSnow 84 = .ok (.iconst 1, 1) := by decide +kernel
theorem dX2_weatherSnow_85 : decode cX2_weatherSnow 85 = .ok (.goto 4, 3) := by decide +kernel
theorem dX2_weatherSnow_88 : decode cX2_weatherSnow 88 = .ok (.iconst 0, 1) := by decide +kernel
theorem dX2_weatherSnow_89 : decode cX2_weatherSnow 89 = .ok (.invokevirtual 100, 3) := by decide +kernel
theorem dX2_weatherSnow_92 : decode cX2_weatherSnow 92 = .ok (.iload 4, 2) := by decide +kernel
theorem dX2_weatherSnow_94 : decode cX2_weatherSnow 94 = .ok (.ifCond .eq 36, 3) := by decide +kernel
theorem dX2_weatherSnow_97 : decode cX2_weatherSnow 97 = .ok (.iload_n 3, 1) := by decide +kernel
theorem dX2_weatherSnow_98 : decode cX2_weatherSnow 98 = .ok (.bipush 10, 2) := by decide +kernel
theorem dX2_weatherSnow_100 : decode cX2_weatherSnow 100 = .ok (.if_icmp .lt 30, 3) := by decide +kernel
theorem dX2_weatherSnow_103 : decode cX2_weatherSnow 103 = .ok (.iload_n 3, 1) := by decide +kernel
theorem dX2_weatherSnow_104 : decode cX2_weatherSnow 104 = .ok (.bipush 15, 2) := by decide +kernel
theorem dX2_weatherSnow_106 : decode cX2_weatherSnow 106 = .ok (.if_icmp .gt 24, 3) := by decide +kernel
theorem dX2_weatherSnow_109 : decode cX2_weatherSnow 109 = .ok (.aload_n 0, 1) := by decide +kernel
theorem dX2_weatherSnow_110 : decode cX2_weatherSnow 110 = .ok (.getfield 35, 3) := by decide +kernel
theorem dX2_weatherSnow_113 : decode cX2_weatherSnow 113 = .ok (.iconst 2, 1) := by decide +kernel
theorem dX2_weatherSnow_114 : decode cX2_weatherSnow 114 = .ok (.if_icmp .eq 8, 3) := by decide +kernel
theorem dX2_weatherSnow_117 : decode cX2_weatherSnow 117 = .ok (.iload_n 2, 1) := by decide +kernel
theorem dX2_weatherSnow_118 : decode cX2_weatherSnow 118 = .ok (.iconst 2, 1) := by decide +kernel
theorem dX2_weatherSnow_119 : decode cX2_weatherSnow 119 = .ok (.if_icmp .le 11, 3) := by decide +kernel
theorem dX2_weatherSnow_122 : decode cX2_weatherSnow 122 = .ok (.aload_n 0, 1) := by decide +kernel
theorem dX2_weatherSnow_123 : decode cX2_weatherSnow 123 = .ok (.getfield 12, 3) := by decide +kernel
theorem dX2_weatherSnow_126 : decode cX2_weatherSnow 126 = .ok (.iconst 1, 1) := by decide +kernel
theorem dX2_weatherSnow_127 : decode cX2_weatherSnow 127 = .ok (.invokevirtual 104, 3) := by decide +kernel
theorem dX2_weatherSnow_130 : decode cX2_weatherSnow 130 = .ok (.iload_n 2, 1) := by decide +kernel
theorem dX2_weatherSnow_131 : decode cX2_weatherSnow 131 = .ok (.bipush (-3), 2) := by decide +kernel
theorem dX2_weatherSnow_133 : decode cX2_weatherSnow 133 = .ok (.if_icmp .gt 10, 3) := by decide +kernel
theorem dX2_weatherSnow_136 : decode cX2_weatherSnow 136 = .ok (.aload_n 0, 1) := by decide +kernel
theorem dX2_weatherSnow_137 : decode cX2_weatherSnow 137 = .ok (.getfield 12, 3) := by decide +kernel
theorem dX2_weatherSnow_140 : decode cX2_weatherSnow 140 = .ok (.invokevirtual 108, 3) := by decide +kernel
theorem dX2_weatherSnow_143 : decode cX2_weatherSnow 143 = .ok (.iload 4, 2) := by decide +kernel
theorem dX2_weatherSnow_145 : decode cX2_weatherSnow 145 = .ok (.ifCond .eq 21, 3) := by decide +kernel
theorem dX2_weatherSnow_148 : decode cX2_weatherSnow 148 = .ok (.iload_n 3, 1) := by decide +kernel
theorem dX2_weatherSnow_149 : decode cX2_weatherSnow 149 = .ok (.iconst 5, 1) := by decide +kernel
theorem dX2_weatherSnow_150 : decode cX2_weatherSnow 150 = .ok (.if_icmp .gt 16, 3) := by decide +kernel
theorem dX2_weatherSnow_153 : decode cX2_weatherSnow 153 = .ok (.iload_n 2, 1) := by decide +kernel
theorem dX2_weatherSnow_154 : decode cX2_weatherSnow 154 = .ok (.bipush (-12), 2) := by decide +kernel
theorem dX2_weatherSnow_156 : decode cX2_weatherSnow 156 = .ok (.if_icmp .gt 10, 3) := by decide +kernel
theorem dX2_weatherSnow_159 : decode cX2_weatherSnow 159 = .ok (.aload_n 0, 1) := by decide +kernel
theorem dX2_weatherSnow_160 : decode cX2_weatherSnow 160 = .ok (.getfield 12, 3) := by decide +kernel
theorem dX2_weatherSnow_163 : decode cX2_weatherSnow 163 = .ok (.invokevirtual 111, 3) := by decide +kernel
theorem dX2_weatherSnow_166 : decode cX2_weatherSnow 166 = .ok (.aload_n 0, 1) := by decide +kernel
theorem dX2_weatherSnow_167 : decode cX2_weatherSnow 167 = .ok (.getfield 12, 3) := by decide +kernel
theorem dX2_weatherSnow_170 : decode cX2_weatherSnow 170 = .ok (.iload_n 3, 1) := by decide +kernel
theorem dX2_weatherSnow_171 : decode cX2_weatherSnow 171 = .ok (.bipush 12, 2) := by decide +kernel
theorem dX2_weatherSnow_173 : decode cX2_weatherSnow 173 = .ok (.if_icmp .ne 7, 3) := by decide +kernel
theorem dX2_weatherSnow_176 : decode cX2_weatherSnow 176 = .ok (.iconst 1, 1) := by decide +kernel
theorem dX2_weatherSnow_177 : decode cX2_weatherSnow 177 = .ok (.goto 4, 3) := by decide +kernel
theorem dX2_weatherSnow_180 : decode cX2_weatherSnow 180 = .ok (.iconst 0, 1) := by decide +kernel
theorem dX2_weatherSnow_181 : decode cX2_weatherSnow 181 = .ok (.invokevirtual 114, 3) := by decide +kernel
theorem dX2_weatherSnow_184 : decode cX2_weatherSnow 184 = .ok (.return_, 1) := by decide +kernel
theorem dX3_init_0 : decode cX3_init 0 = .ok (.aload_n 0, 1) := by decide +kernel
theorem dX3_init_1 : decode cX3_init 1 = .ok (.invokespecial 3, 3) := by decide +kernel
theorem dX3_init_4 : decode cX3_init 4 = .ok (.aload_n 0, 1) := by decide +kernel
theorem dX3_init_5 : decode cX3_init 5 = .ok (.bipush 8, 2) := by decide +kernel
theorem dX3_init_7 : decode cX3_init 7 = .ok (.newarray .int, 2) := by decide +kernel
theorem dX3_init_9 : decode cX3_init 9 = .ok (.putfield 9, 3) := by decide +kernel
theorem dX3_init_12 : decode cX3_init 12 = .ok (.aload_n 0, 1) := by decide +kernel
theorem dX3_init_13 : decode cX3_init 13 = .ok (.bipush 8, 2) := by decide +kernel
theorem dX3_init_15 : decode cX3_init 15 = .ok (.newarray .int, 2) := by decide +kernel
theorem dX3_init_17 : decode cX3_init 17 = .ok (.putfield 15, 3) := by decide +kernel
theorem dX3_init_20 : decode cX3_init 20 = .ok (.aload_n 0, 1) := by decide +kernel
theorem dX3_init_21 : decode cX3_init 21 = .ok (.bipush 8, 2) := by decide +kernel
theorem dX3_init_23 : decode cX3_init 23 = .ok (.newarray .int, 2) := by decide +kernel
theorem dX3_init_25 : decode cX3_init 25 = .ok (.putfield 18, 3) := by decide +kernel
theorem dX3_init_28 : decode cX3_init 28 = .ok (.return_, 1) := by decide +kernel
theorem dX3_become_0 : decode cX3_become 0 = .ok (.aload_n 1, 1) := by decide +kernel
theorem dX3_become_1 : decode cX3_become 1 = .ok (.getfield 9, 3) := by decide +kernel
theorem dX3_become_4 : decode cX3_become 4 = .ok (.iconst 0, 1) := by decide +kernel
theorem dX3_become_5 : decode cX3_become 5 = .ok (.aload_n 0, 1) := by decide +kernel
theorem dX3_become_6 : decode cX3_become 6 = .ok (.getfield 9, 3) := by decide +kernel
theorem dX3_become_9 : decode cX3_become 9 = .ok (.iconst 0, 1) := by decide +kernel
theorem dX3_become_10 : decode cX3_become 10 = .ok (.bipush 8, 2) := by decide +kernel
theorem dX3_become_12 : decode cX3_become 12 = .ok (.invokestatic 21, 3) := by decide +kernel
theorem dX3_become_15 : decode cX3_become 15 = .ok (.aload_n 1, 1) := by decide +kernel
theorem dX3_become_16 : decode cX3_become 16 = .ok (.getfield 15, 3) := by decide +kernel
theorem dX3_become_19 : decode cX3_become 19 = .ok (.iconst 0, 1) := by decide +kernel
theorem dX3_become_20 : decode cX3_become 20 = .ok (.aload_n 0, 1) := by decide +kernel
theorem dX3_become_21 : decode cX3_become 21 = .ok (.getfield 15, 3) := by decide +kernel
theorem dX3_become_24 : decode cX3_become 24 = .ok (.iconst 0, 1) := by decide +kernel
theorem dX3_become_25 : decode cX3_become 25 = .ok (.bipush 8, 2) := by decide +kernel
theorem dX3_become_27 : decode cX3_become 27 = .ok (.invokestatic 21, 3) := by decide +kernel
theorem dX3_become_30 : decode cX3_become 30 = .ok (.aload_n 1, 1) := by decide +kernel
theorem dX3_become_31 : decode cX3_become 31 = .ok (.getfield 18, 3) := by decide +kernel
theorem dX3_become_34 : decode cX3_become 34 = .ok (.iconst 0, 1) := by decide +kernel
theorem dX3_become_35 : decode cX3_become 35 = .ok (.aload_n 0, 1) := by decide +kernel
theorem dX3_become_36 : decode cX3_become 36 = .ok (.getfield 18, 3) := by decide +kernel
theorem dX3_become_39 : decode cX3_become 39 = .ok (.iconst 0, 1) := by decide +kernel
theorem dX3_become_40 : decode cX3_become 40 = .ok (.bipush 8, 2) := by decide +kernel
theorem dX3_become_42 : decode cX3_become 42 = .ok (.invokestatic 21, 3) := by decide +kernel
theorem dX3_become_45 : decode cX3_become 45 = .ok (.aload_n 0, 1) := by decide +kernel
theorem dX3_become_46 : decode cX3_become 46 = .ok (.aload_n 1, 1) := by decide +kernel
theorem dX3_become_47 : decode cX3_become 47 = .ok (.getfield 27, 3) := by decide +kernel
theorem dX3_become_50 : decode cX3_become 50 = .ok (.putfield 27, 3) := by decide +kernel
theorem dX3_become_53 : decode cX3_become 53 = .ok (.aload_n 0, 1) := by decide +kernel
theorem dX3_become_54 : decode cX3_become 54 = .ok (.aload_n 1, 1) := by decide +kernel
theorem dX3_become_55 : decode cX3_become 55 = .ok (.getfield 31, 3) := by decide +kernel
theorem dX3_become_58 : decode cX3_become 58 = .ok (.putfield 31, 3) := by decide +kernel
theorem dX3_become_61 : decode cX3_become 61 = .ok (.aload_n 0, 1) := by decide +kernel
theorem dX3_become_62 : decode cX3_become 62 = .ok (.aload_n 1, 1) := by decide +kernel
theorem dX3_become_63 : decode cX3_become 63 = .ok (.getfield 35, 3) := by decide +kernel
theorem dX3_become_66 : decode cX3_become 66 = .ok (.putfield 35, 3) := by decide +kernel
theorem dX3_become_69 : decode cX3_become 69 = .ok (.return_, 1) := by decide +kernel
theorem dX3_topIs_0 : decode cX3_topIs 0 = .ok (.aload_n 0, 1) := by decide +kernel
theorem dX3_topIs_1 : decode cX3_topIs 1 = .ok (.getfield 27, 3) := by decide +kernel
theorem dX3_topIs_4 : decode cX3_topIs 4 = .ok (.ifCond .le 22, 3) := by decide +kernel
theorem dX3_topIs_7 : decode cX3_topIs 7 = .ok (.aload_n 0, 1) := by decide +kernel
theorem dX3_topIs_8 : decode cX3_topIs 8 = .ok (.getfield 18, 3) := by decide +kernel
theorem dX3_topIs_11 : decode cX3_topIs 11 = .ok (.aload_n 0, 1) := by decide +kernel
theorem dX3_topIs_12 : decode cX3_topIs 12 = .ok (.getfield 27, 3) := by decide +kernel
theorem dX3_topIs_15 : decode cX3_topIs 15 = .ok (.iconst 1, 1) := by decide +kernel
theorem dX3_topIs_16 : decode cX3_topIs 16 = .ok (.isub, 1) := by decide +kernel
theorem dX3_topIs_17 : decode cX3_topIs 17 = .ok (.iaload, 1) := by decide +kernel
theorem dX3_topIs_18 : decode cX3_topIs 18 = .ok (.iload_n 1, 1) := by decide +kernel
theorem dX3_topIs_19 : decode cX3_topIs 19 = .ok (.if_icmp .ne 7, 3) := by decide +kernel
theorem dX3_topIs_22 : decode cX3_topIs 22 = .ok (.iconst 1, 1) := by decide +kernel
theorem dX3_topIs_23 : decode cX3_topIs 23 = .ok (.goto 4, 3) := by decide +kernel
theorem dX3_topIs_26 : decode cX3_topIs 26 = .ok (.iconst 0, 1) := by decide +kernel
theorem dX3_topIs_27 : decode cX3_topIs 27 = .ok (.ireturn, 1) := by decide +kernel
theorem dX3_wholeDepth_0 : decode cX3_wholeDepth 0 = .ok (.aload_n 0, 1) := by decide +kernel
theorem dX3_wholeDepth_1 : decode cX3_wholeDepth 1 = .ok (.iconst 0, 1) := by decide +kernel
theorem dX3_wholeDepth_2 : decode cX3_wholeDepth 2 = .ok (.invokevirtual 38, 3) := by decide +kernel
theorem dX3_wholeDepth_5 : decode cX3_wholeDepth 5 = .ok (.ireturn, 1) := by decide +kernel
theorem dX3_depthFrom_0 : decode cX3_depthFrom 0 = .ok (.iconst 0, 1) := by decide +kernel
theorem dX3_depthFrom_1 : decode cX3_depthFrom 1 = .ok (.istore_n 2, 1) := by decide +kernel
theorem dX3_depthFrom_2 : decode cX3_depthFrom 2 = .ok (.iload_n 1, 1) := by decide +kernel
theorem dX3_depthFrom_3 : decode cX3_depthFrom 3 = .ok (.iconst 0, 1) := by decide +kernel
theorem dX3_depthFrom_4 : decode cX3_depthFrom 4 = .ok (.invokestatic 42, 3) := by decide +kernel
theorem dX3_depthFrom_7 : decode cX3_depthFrom 7 = .ok (.istore_n 3, 1) := by decide +kernel
theorem dX3_depthFrom_8 : decode cX3_depthFrom 8 = .ok (.iload_n 3, 1) := by decide +kernel
theorem dX3_depthFrom_9 : decode cX3_depthFrom 9 = .ok (.aload_n 0, 1) := by decide +kernel
theorem dX3_depthFrom_10 : decode cX3_depthFrom 10 = .ok (.getfield 27, 3) := by decide +kernel
theorem dX3_depthFrom_13 : decode cX3_depthFrom 13 = .ok (.if_icmp .ge 18, 3) := by decide +kernel
theorem dX3_depthFrom_16 : decode cX3_depthFrom 16 = .ok (.iload_n 2, 1) := by decide +kernel
theorem dX3_depthFrom_17 : decode cX3_depthFrom 17 = .ok (.aload_n 0, 1) := by decide +kernel
theorem dX3_depthFrom_18 : decode cX3_depthFrom 18 = .ok (.getfield 9, 3) := by decide +kernel
theorem dX3_depthFrom_21 : decode cX3_depthFrom 21 = .ok (.iload_n 3, 1) := by decide +kernel
theorem dX3_depthFrom_22 : decode cX3_depthFrom 22 = .ok (.iaload, 1) := by decide +kernel
theorem dX3_depthFrom_23 : decode cX3_depthFrom 23 = .ok (.iadd, 1) := by decide +kernel
theorem dX3_depthFrom_24 : decode cX3_depthFrom 24 = .ok (.istore_n 2, 1) := by decide +kernel
theorem dX3_depthFrom_25 : decode cX3_depthFrom 25 = .ok (.iinc 3 1, 3) := by decide +kernel
theorem dX3_depthFrom_28 : decode cX3_depthFrom 28 = .ok (.goto (-20), 3) := by decide +kernel
theorem dX3_depthFrom_31 : decode cX3_depthFrom 31 = .ok (.iload_n 2, 1) := by decide +kernel
theorem dX3_depthFrom_32 : decode cX3_depthFrom 32 = .ok (.ireturn, 1) := by decide +kernel
theorem dX3_thicken_0 : decode cX3_thicken 0 = .ok (.aload_n 0, 1) := by decide +kernel
theorem dX3_thicken_1 : decode cX3_thicken 1 = .ok (.getfield 27, 3) := by decide +kernel
theorem dX3_thicken_4 : decode cX3_thicken 4 = .ok (.ifCond .le 33, 3) := by decide +kernel
theorem dX3_thicken_7 : decode cX3_thicken 7 = .ok (.aload_n 0, 1) := by decide +kernel
theorem dX3_thicken_8 : decode cX3_thicken 8 = .ok (.getfield 9, 3) := by decide +kernel
theorem dX3_thicken_11 : decode cX3_thicken 11 = .ok (.aload_n 0, 1) := by decide +kernel
theorem dX3_thicken_12 : decode cX3_thicken 12 = .ok (.getfield 27, 3) := by decide +kernel
theorem dX3_thicken_15 : decode cX3_thicken 15 = .ok (.iconst 1, 1) := by decide +kernel
theorem dX3_thicken_16 : decode cX3_thicken 16 = .ok (.isub, 1) := by decide +kernel
theorem dX3_thicken_17 : decode cX3_thicken 17 = .ok (.aload_n 0, 1) := by decide +kernel
theorem dX3_thicken_18 : decode cX3_thicken 18 = .ok (.getfield 9, 3) := by decide +kernel
theorem dX3_thicken_21 : decode cX3_thicken 21 = .ok (.aload_n 0, 1) := by decide +kernel
theorem dX3_thicken_22 : decode cX3_thicken 22 = .ok (.getfield 27, 3) := by decide +kernel
theorem dX3_thicken_25 : decode cX3_thicken 25 = .ok (.iconst 1, 1) := by decide +kernel
theorem dX3_thicken_26 : decode cX3_thicken 26 = .ok (.isub, 1) := by decide +kernel
theorem dX3_thicken_27 : decode cX3_thicken 27 = .ok (.iaload, 1) := by decide +kernel
theorem dX3_thicken_28 : decode cX3_thicken 28 = .ok (.iload_n 1, 1) := by decide +kernel
theorem dX3_thicken_29 : decode cX3_thicken 29 = .ok (.iadd, 1) := by decide +kernel
theorem dX3_thicken_30 : decode cX3_thicken 30 = .ok (.sipush 300, 3) := by decide +kernel
theorem dX3_thicken_33 : decode cX3_thicken 33 = .ok (.invokestatic 48, 3) := by decide +kernel
theorem dX3_thicken_36 : decode cX3_thicken 36 = .ok (.iastore, 1) := by decide +kernel
theorem dX3_thicken_37 : decode cX3_thicken 37 = .ok (.return_, 1) := by decide +kernel
theorem dX3_thin_0 : decode cX3_thin 0 = .ok (.aload_n 0, 1) := by decide +kernel
theorem dX3_thin_1 : decode cX3_thin 1 = .ok (.getfield 27, 3) := by decide +kernel
theorem dX3_thin_4 : decode cX3_thin 4 = .ok (.iconst 1, 1) := by decide +kernel
theorem dX3_thin_5 : decode cX3_thin 5 = .ok (.if_icmp .ge 4, 3) := by decide +kernel
theorem dX3_thin_8 : decode cX3_thin 8 = .ok (.return_, 1) := by decide +kernel
theorem dX3_thin_9 : decode cX3_thin 9 = .ok (.aload_n 0, 1) := by decide +kernel
theorem dX3_thin_10 : decode cX3_thin 10 = .ok (.getfield 9, 3) := by decide +kernel
theorem dX3_thin_13 : decode cX3_thin 13 = .ok (.aload_n 0, 1) := by decide +kernel
theorem dX3_thin_14 : decode cX3_thin 14 = .ok (.getfield 27, 3) := by decide +kernel
theorem dX3_thin_17 : decode cX3_thin 17 = .ok (.iconst 1, 1) := by decide +kernel
theorem dX3_thin_18 : decode cX3_thin 18 = .ok (.isub, 1) := by decide +kernel
theorem dX3_thin_19 : decode cX3_thin 19 = .ok (.dup2, 1) := by decide +kernel
theorem dX3_thin_20 : decode cX3_thin 20 = .ok (.iaload, 1) := by decide +kernel
theorem dX3_thin_21 : decode cX3_thin 21 = .ok (.iload_n 1, 1) := by decide +kernel
theorem dX3_thin_22 : decode cX3_thin 22 = .ok (.isub, 1) := by decide +kernel
theorem dX3_thin_23 : decode cX3_thin 23 = .ok (.iastore, 1) := by decide +kernel
theorem dX3_thin_24 : decode cX3_thin 24 = .ok (.aload_n 0, 1) := by decide +kernel
theorem dX3_thin_25 : decode cX3_thin 25 = .ok (.getfield 9, 3) := by decide +kernel
theorem dX3_thin_28 : decode cX3_thin 28 = .ok (.aload_n 0, 1) := by decide +kernel
theorem dX3_thin_29 : decode cX3_thin 29 = .ok (.getfield 27, 3) := by decide +kernel
theorem dX3_thin_32 : decode cX3_thin 32 = .ok (.iconst 1, 1) := by decide +kernel
theorem dX3_thin_33 : decode cX3_thin 33 = .ok (.isub, 1) := by decide +kernel
theorem dX3_thin_34 : decode cX3_thin 34 = .ok (.iaload, 1) := by decide +kernel
theorem dX3_thin_35 : decode cX3_thin 35 = .ok (.iconst 1, 1) := by decide +kernel
theorem dX3_thin_36 : decode cX3_thin 36 = .ok (.if_icmp .ge 18, 3) := by decide +kernel
theorem dX3_thin_39 : decode cX3_thin 39 = .ok (.aload_n 0, 1) := by decide +kernel
theorem dX3_thin_40 : decode cX3_thin 40 = .ok (.dup, 1) := by decide +kernel
theorem dX3_thin_41 : decode cX3_thin 41 = .ok (.getfield 27, 3) := by decide +kernel
theorem dX3_thin_44 : decode cX3_thin 44 = .ok (.iconst 1, 1) := by decide +kernel
theorem dX3_thin_45 : decode cX3_thin 45 = .ok (.isub, 1) := by decide +kernel
theorem dX3_thin_46 : decode cX3_thin 46 = .ok (.putfield 27, 3) := by decide +kernel
theorem dX3_thin_49 : decode cX3_thin 49 = .ok (.aload_n 0, 1) := by decide +kernel
theorem dX3_thin_50 : decode cX3_thin 50 = .ok (.iconst 0, 1) := by decide +kernel
theorem dX3_thin_51 : decode cX3_thin 51 = .ok (.putfield 31, 3) := by decide +kernel
theorem dX3_thin_54 : decode cX3_thin 54 = .ok (.return_, 1) := by decide +kernel
theorem dX3_melt_0 : decode cX3_melt 0 = .ok (.aload_n 0, 1) := by decide +kernel
theorem dX3_melt_1 : decode cX3_melt 1 = .ok (.iload_n 1, 1) := by decide +kernel
theorem dX3_melt_2 : decode cX3_melt 2 = .ok (.invokevirtual 51, 3) := by decide +kernel
theorem dX3_melt_5 : decode cX3_melt 5 = .ok (.aload_n 0, 1) := by decide +kernel
theorem dX3_melt_6 : decode cX3_melt 6 = .ok (.aload_n 0, 1) := by decide +kernel
theorem dX3_melt_7 : decode cX3_melt 7 = .ok (.getfield 27, 3) := by decide +kernel
theorem dX3_melt_10 : decode cX3_melt 10 = .ok (.ifCond .le 7, 3) := by decide +kernel
theorem dX3_melt_13 : decode cX3_melt 13 = .ok (.iconst 1, 1) := by decide +kernel
theorem dX3_melt_14 : decode cX3_melt 14 = .ok (.goto 4, 3) := by decide +kernel
theorem dX3_melt_17 : decode cX3_melt 17 = .ok (.iconst 0, 1) := by decide +kernel
theorem dX3_melt_18 : decode cX3_melt 18 = .ok (.putfield 31, 3) := by decide +kernel
theorem dX3_melt_21 : decode cX3_melt 21 = .ok (.return_, 1) := by decide +kernel
theorem dX3_lay_0 : decode cX3_lay 0 = .ok (.aload_n 0, 1) := by decide +kernel
theorem dX3_lay_1 : decode cX3_lay 1 = .ok (.getfield 27, 3) := by decide +kernel
theorem dX3_lay_4 : decode cX3_lay 4 = .ok (.bipush 8, 2) := by decide +kernel
theorem dX3_lay_6 : decode cX3_lay 6 = .ok (.if_icmp .lt 7, 3) := by decide +kernel
theorem dX3_lay_9 : decode cX3_lay 9 = .ok (.aload_n 0, 1) := by decide +kernel
theorem dX3_lay_10 : decode cX3_lay 10 = .ok (.invokevirtual 55, 3) := by decide +kernel
theorem dX3_lay_13 : decode cX3_lay 13 = .ok (.aload_n 0, 1) := by decide +kernel
theorem dX3_lay_14 : decode cX3_lay 14 = .ok (.getfield 18, 3) := by decide +kernel
theorem dX3_lay_17 : decode cX3_lay 17 = .ok (.aload_n 0, 1) := by decide +kernel
theorem dX3_lay_18 : decode cX3_lay 18 = .ok (.getfield 27, 3) := by decide +kernel
theorem dX3_lay_21 : decode cX3_lay 21 = .ok (.iload_n 1, 1) := by decide +kernel
theorem dX3_lay_22 : decode cX3_lay 22 = .ok (.iastore, 1) := by decide +kernel
theorem dX3_lay_23 : decode cX3_lay 23 = .ok (.aload_n 0, 1) := by decide +kernel
theorem dX3_lay_24 : decode cX3_lay 24 = .ok (.getfield 9, 3) := by decide +kernel
theorem dX3_lay_27 : decode cX3_lay 27 = .ok (.aload_n 0, 1) := by decide +kernel
theorem dX3_lay_28 : decode cX3_lay 28 = .ok (.getfield 27, 3) := by decide +kernel
theorem dX3_lay_31 : decode cX3_lay 31 = .ok (.iload_n 2, 1) := by decide +kernel
theorem dX3_lay_32 : decode cX3_lay 32 = .ok (.iastore, 1) := by decide +kernel
theorem dX3_lay_33 : decode cX3_lay 33 = .ok (.aload_n 0, 1) := by decide +kernel
theorem dX3_lay_34 : decode cX3_lay 34 = .ok (.getfield 15, 3) := by decide +kernel
theorem dX3_lay_37 : decode cX3_lay 37 = .ok (.aload_n 0, 1) := by decide +kernel
theorem dX3_lay_38 : decode cX3_lay 38 = .ok (.getfield 27, 3) := by decide +kernel
theorem dX3_lay_41 : decode cX3_lay 41 = .ok (.iload_n 3, 1) := by decide +kernel
theorem dX3_lay_42 : decode cX3_lay 42 = .ok (.iastore, 1) := by decide +kernel
theorem dX3_lay_43 : decode cX3_lay 43 = .ok (.aload_n 0, 1) := by decide +kernel
theorem dX3_lay_44 : decode cX3_lay 44 = .ok (.dup, 1) := by decide +kernel
theorem dX3_lay_45 : decode cX3_lay 45 = .ok (.getfield 27, 3) := by decide +kernel
theorem dX3_lay_48 : decode cX3_lay 48 = .ok (.iconst 1, 1) := by decide +kernel
theorem dX3_lay_49 : decode cX3_lay 49 = .ok (.iadd, 1) := by decide +kernel
theorem dX3_lay_50 : decode cX3_lay 50 = .ok (.putfield 27, 3) := by decide +kernel
theorem dX3_lay_53 : decode cX3_lay 53 = .ok (.aload_n 0, 1) := by decide +kernel
theorem dX3_lay_54 : decode cX3_lay 54 = .ok (.iconst 0, 1) := by decide +kernel
theorem dX3_lay_55 : decode cX3_lay 55 = .ok (.putfield 31, 3) := by decide +kernel
theorem dX3_lay_58 : decode cX3_lay 58 = .ok (.return_, 1) := by decide +kernel
theorem dX3_joinLowest_0 : decode cX3_joinLowest 0 = .ok (.aload_n 0, 1) := by decide +kernel
theorem dX3_joinLowest_1 : decode cX3_joinLowest 1 = .ok (.getfield 9, 3) := by decide +kernel
theorem dX3_joinLowest_4 : decode cX3_joinLowest 4 = .ok (.iconst 0, 1) := by decide +kernel
theorem dX3_joinLowest_5 : decode cX3_joinLowest 5 = .ok (.aload_n 0, 1) := by decide +kernel
theorem dX3_joinLowest_6 : decode cX3_joinLowest 6 = .ok (.getfield 9, 3) := by decide +kernel
theorem dX3_joinLowest_9 : decode cX3_joinLowest 9 = .ok (.iconst 0, 1) := by decide +kernel
theorem dX3_joinLowest_10 : decode cX3_joinLowest 10 = .ok (.iaload, 1) := by decide +kernel
theorem dX3_joinLowest_11 : decode cX3_joinLowest 11 = .ok (.aload_n 0, 1) := by decide +kernel
theorem dX3_joinLowest_12 : decode cX3_joinLowest 12 = .ok (.getfield 9, 3) := by decide +kernel
theorem dX3_joinLowest_15 : decode cX3_joinLowest 15 = .ok (.iconst 1, 1) := by decide +kernel
theorem dX3_joinLowest_16 : decode cX3_joinLowest 16 = .ok (.iaload, 1) := by decide +kernel
theorem dX3_joinLowest_17 : decode cX3_joinLowest 17 = .ok (.iadd, 1) := by decide +kernel
theorem dX3_joinLowest_18 : decode cX3_joinLowest 18 = .ok (.sipush 300, 3) := by decide +kernel
theorem dX3_joinLowest_21 : decode cX3_joinLowest 21 = .ok (.invokestatic 48, 3) := by decide +kernel
theorem dX3_joinLowest_24 : decode cX3_joinLowest 24 = .ok (.iastore, 1) := by decide +kernel
theorem dX3_joinLowest_25 : decode cX3_joinLowest 25 = .ok (.aload_n 0, 1) := by decide +kernel
theorem dX3_joinLowest_26 : decode cX3_joinLowest 26 = .ok (.getfield 15, 3) := by decide +kernel
theorem dX3_joinLowest_29 : decode cX3_joinLowest 29 = .ok (.iconst 0, 1) := by decide +kernel
theorem dX3_joinLowest_30 : decode cX3_joinLowest 30 = .ok (.aload_n 0, 1) := by decide +kernel
theorem dX3_joinLowest_31 : decode cX3_joinLowest 31 = .ok (.getfield 15, 3) := by decide +kernel
theorem dX3_joinLowest_34 : decode cX3_joinLowest 34 = .ok (.iconst 0, 1) := by decide +kernel
theorem dX3_joinLowest_35 : decode cX3_joinLowest 35 = .ok (.iaload, 1) := by decide +kernel
theorem dX3_joinLowest_36 : decode cX3_joinLowest 36 = .ok (.aload_n 0, 1) := by decide +kernel
theorem dX3_joinLowest_37 : decode cX3_joinLowest 37 = .ok (.getfield 15, 3) := by decide +kernel
theorem dX3_joinLowest_40 : decode cX3_joinLowest 40 = .ok (.iconst 1, 1) := by decide +kernel
theorem dX3_joinLowest_41 : decode cX3_joinLowest 41 = .ok (.iaload, 1) := by decide +kernel
theorem dX3_joinLowest_42 : decode cX3_joinLowest 42 = .ok (.invokestatic 48, 3) := by decide +kernel
theorem dX3_joinLowest_45 : decode cX3_joinLowest 45 = .ok (.iastore, 1) := by decide +kernel
theorem dX3_joinLowest_46 : decode cX3_joinLowest 46 = .ok (.iconst 1, 1) := by decide +kernel
theorem dX3_joinLowest_47 : decode cX3_joinLowest 47 = .ok (.istore_n 1, 1) := by decide +kernel
theorem dX3_joinLowest_48 : decode cX3_joinLowest 48 = .ok (.iload_n 1, 1) := by decide +kernel
theorem dX3_joinLowest_49 : decode cX3_joinLowest 49 = .ok (.iconst 1, 1) := by decide +kernel
theorem dX3_joinLowest_50 : decode cX3_joinLowest 50 = .ok (.iadd, 1) := by decide +kernel
theorem dX3_joinLowest_51 : decode cX3_joinLowest 51 = .ok (.bipush 8, 2) := by decide +kernel
theorem dX3_joinLowest_53 : decode cX3_joinLowest 53 = .ok (.if_icmp .ge 51, 3) := by decide +kernel
theorem dX3_joinLowest_56 : decode cX3_joinLowest 56 = .ok (.aload_n 0, 1) := by decide +kernel
theorem dX3_joinLowest_57 : decode cX3_joinLowest 57 = .ok (.getfield 9, 3) := by decide +kernel
theorem dX3_joinLowest_60 : decode cX3_joinLowest 60 = .ok (.iload_n 1, 1) := by decide +kernel
theorem dX3_joinLowest_61 : decode cX3_joinLowest 61 = .ok (.aload_n 0, 1) := by decide +kernel
theorem dX3_joinLowest_62 : decode cX3_joinLowest 62 = .ok (.getfield 9, 3) := by decide +kernel
theorem dX3_joinLowest_65 : decode cX3_joinLowest 65 = .ok (.iload_n 1, 1) := by decide +kernel
theorem dX3_joinLowest_66 : decode cX3_joinLowest 66 = .ok (.iconst 1, 1) := by decide +kernel
theorem dX3_joinLowest_67 : decode cX3_joinLowest 67 = .ok (.iadd, 1) := by decide +kernel
theorem dX3_joinLowest_68 : decode cX3_joinLowest 68 = .ok (.iaload, 1) := by decide +kernel
theorem dX3_joinLowest_69 : decode cX3_joinLowest 69 = .ok (.iastore, 1) := by decide +kernel
theorem dX3_joinLowest_70 : decode cX3_joinLowest 70 = .ok (.aload_n 0, 1) := by decide +kernel
theorem dX3_joinLowest_71 : decode cX3_joinLowest 71 = .ok (.getfield 15, 3) := by decide +kernel
theorem dX3_joinLowest_74 : decode cX3_joinLowest 74 = .ok (.iload_n 1, 1) := by decide +kernel
theorem dX3_joinLowest_75 : decode cX3_joinLowest 75 = .ok (.aload_n 0, 1) := by decide +kernel
theorem dX3_joinLowest_76 : decode cX3_joinLowest 76 = .ok (.getfield 15, 3) := by decide +kernel
theorem dX3_joinLowest_79 : decode cX3_joinLowest 79 = .ok (.iload_n 1, 1) := by decide +kernel
theorem dX3_joinLowest_80 : decode cX3_joinLowest 80 = .ok (.iconst 1, 1) := by decide +kernel
theorem dX3_joinLowest_81 : decode cX3_joinLowest 81 = .ok (.iadd, 1) := by decide +kernel
theorem dX3_joinLowest_82 : decode cX3_joinLowest 82 = .ok (.iaload, 1) := by decide +kernel
theorem dX3_joinLowest_83 : decode cX3_joinLowest 83 = .ok (.iastore, 1) := by decide +kernel
theorem dX3_joinLowest_84 : decode cX3_joinLowest 84 = .ok (.aload_n 0, 1) := by decide +kernel
theorem dX3_joinLowest_85 : decode cX3_joinLowest 85 = .ok (.getfield 18, 3) := by decide +kernel
theorem dX3_joinLowest_88 : decode cX3_joinLowest 88 = .ok (.iload_n 1, 1) := by decide +kernel
theorem dX3_joinLowest_89 : decode cX3_joinLowest 89 = .ok (.aload_n 0, 1) := by decide +kernel
theorem dX3_joinLowest_90 : decode cX3_joinLowest 90 = .ok (.getfield 18, 3) := by decide +kernel
theorem dX3_joinLowest_93 : decode cX3_joinLowest 93 = .ok (.iload_n 1, 1) := by decide +kernel
theorem dX3_joinLowest_94 : decode cX3_joinLowest 94 = .ok (.iconst 1, 1) := by decide +kernel
theorem dX3_joinLowest_95 : decode cX3_joinLowest 95 = .ok (.iadd, 1) := by decide +kernel
theorem dX3_joinLowest_96 : decode cX3_joinLowest 96 = .ok (.iaload, 1) := by decide +kernel
theorem dX3_joinLowest_97 : decode cX3_joinLowest 97 = .ok (.iastore, 1) := by decide +kernel
theorem dX3_joinLowest_98 : decode cX3_joinLowest 98 = .ok (.iinc 1 1, 3) := by decide +kernel
theorem dX3_joinLowest_101 : decode cX3_joinLowest 101 = .ok (.goto (-53), 3) := by decide +kernel
theorem dX3_joinLowest_104 : decode cX3_joinLowest 104 = .ok (.aload_n 0, 1) := by decide +kernel
theorem dX3_joinLowest_105 : decode cX3_joinLowest 105 = .ok (.dup, 1) := by decide +kernel
theorem dX3_joinLowest_106 : decode cX3_joinLowest 106 = .ok (.getfield 27, 3) := by decide +kernel
theorem dX3_joinLowest_109 : decode cX3_joinLowest 109 = .ok (.iconst 1, 1) := by decide +kernel
theorem dX3_joinLowest_110 : decode cX3_joinLowest 110 = .ok (.isub, 1) := by decide +kernel
theorem dX3_joinLowest_111 : decode cX3_joinLowest 111 = .ok (.putfield 27, 3) := by decide +kernel
theorem dX3_joinLowest_114 : decode cX3_joinLowest 114 = .ok (.return_, 1) := by decide +kernel
theorem dX3_changeTop_0 : decode cX3_changeTop 0 = .ok (.aload_n 0, 1) := by decide +kernel
theorem dX3_changeTop_1 : decode cX3_changeTop 1 = .ok (.getfield 27, 3) := by decide +kernel
theorem dX3_changeTop_4 : decode cX3_changeTop 4 = .ok (.ifCond .le 27, 3) := by decide +kernel
theorem dX3_changeTop_7 : decode cX3_changeTop 7 = .ok (.aload_n 0, 1) := by decide +kernel
theorem dX3_changeTop_8 : decode cX3_changeTop 8 = .ok (.getfield 18, 3) := by decide +kernel
theorem dX3_changeTop_11 : decode cX3_changeTop 11 = .ok (.aload_n 0, 1) := by decide +kernel
theorem dX3_changeTop_12 : decode cX3_changeTop 12 = .ok (.getfield 27, 3) := by decide +kernel
theorem dX3_changeTop_15 : decode cX3_changeTop 15 = .ok (.iconst 1, 1) := by decide +kernel
theorem dX3_changeTop_16 : decode cX3_changeTop 16 = .ok (.isub, 1) := by decide +kernel
theorem dX3_changeTop_17 : decode cX3_changeTop 17 = .ok (.iload_n 1, 1) := by decide +kernel
theorem dX3_changeTop_18 : decode cX3_changeTop 18 = .ok (.iastore, 1) := by decide +kernel
theorem dX3_changeTop_19 : decode cX3_changeTop 19 = .ok (.aload_n 0, 1) := by decide +kernel
theorem dX3_changeTop_20 : decode cX3_changeTop 20 = .ok (.getfield 15, 3) := by decide +kernel
theorem dX3_changeTop_23 : decode cX3_changeTop 23 = .ok (.aload_n 0, 1) := by decide +kernel
theorem dX3_changeTop_24 : decode cX3_changeTop 24 = .ok (.getfield 27, 3) := by decide +kernel
theorem dX3_changeTop_27 : decode cX3_changeTop 27 = .ok (.iconst 1, 1) := by decide +kernel
theorem dX3_changeTop_28 : decode cX3_changeTop 28 = .ok (.isub, 1) := by decide +kernel
theorem dX3_changeTop_29 : decode cX3_changeTop 29 = .ok (.iload_n 2, 1) := by decide +kernel
theorem dX3_changeTop_30 : decode cX3_changeTop 30 = .ok (.iastore, 1) := by decide +kernel
theorem dX3_changeTop_31 : decode cX3_changeTop 31 = .ok (.return_, 1) := by decide +kernel
theorem dX3_pressTop_0 : decode cX3_pressTop 0 = .ok (.aload_n 0, 1) := by decide +kernel
theorem dX3_pressTop_1 : decode cX3_pressTop 1 = .ok (.getfield 27, 3) := by decide +kernel
theorem dX3_pressTop_4 : decode cX3_pressTop 4 = .ok (.iconst 2, 1) := by decide +kernel
theorem dX3_pressTop_5 : decode cX3_pressTop 5 = .ok (.if_icmp .ge 5, 3) := by decide +kernel
theorem dX3_pressTop_8 : decode cX3_pressTop 8 = .ok (.iconst 0, 1) := by decide +kernel
theorem dX3_pressTop_9 : decode cX3_pressTop 9 = .ok (.ireturn, 1) := by decide +kernel
theorem dX3_pressTop_10 : decode cX3_pressTop 10 = .ok (.aload_n 0, 1) := by decide +kernel
theorem dX3_pressTop_11 : decode cX3_pressTop 11 = .ok (.getfield 27, 3) := by decide +kernel
theorem dX3_pressTop_14 : decode cX3_pressTop 14 = .ok (.iconst 1, 1) := by decide +kernel
theorem dX3_pressTop_15 : decode cX3_pressTop 15 = .ok (.isub, 1) := by decide +kernel
theorem dX3_pressTop_16 : decode cX3_pressTop 16 = .ok (.istore_n 1, 1) := by decide +kernel
theorem dX3_pressTop_17 : decode cX3_pressTop 17 = .ok (.aload_n 0, 1) := by decide +kernel
theorem dX3_pressTop_18 : decode cX3_pressTop 18 = .ok (.getfield 27, 3) := by decide +kernel
theorem dX3_pressTop_21 : decode cX3_pressTop 21 = .ok (.iconst 2, 1) := by decide +kernel
theorem dX3_pressTop_22 : decode cX3_pressTop 22 = .ok (.isub, 1) := by decide +kernel
theorem dX3_pressTop_23 : decode cX3_pressTop 23 = .ok (.istore_n 2, 1) := by decide +kernel
theorem dX3_pressTop_24 : decode cX3_pressTop 24 = .ok (.aload_n 0, 1) := by decide +kernel
theorem dX3_pressTop_25 : decode cX3_pressTop 25 = .ok (.getfield 9, 3) := by decide +kernel
theorem dX3_pressTop_28 : decode cX3_pressTop 28 = .ok (.iload_n 2, 1) := by decide +kernel
theorem dX3_pressTop_29 : decode cX3_pressTop 29 = .ok (.aload_n 0, 1) := by decide +kernel
theorem dX3_pressTop_30 : decode cX3_pressTop 30 = .ok (.getfield 9, 3) := by decide +kernel
theorem dX3_pressTop_33 : decode cX3_pressTop 33 = .ok (.iload_n 2, 1) := by decide +kernel
theorem dX3_pressTop_34 : decode cX3_pressTop 34 = .ok (.iaload, 1) := by decide +kernel
theorem dX3_pressTop_35 : decode cX3_pressTop 35 = .ok (.aload_n 0, 1) := by decide +kernel
theorem dX3_pressTop_36 : decode cX3_pressTop 36 = .ok (.getfield 9, 3) := by decide +kernel
theorem dX3_pressTop_39 : decode cX3_pressTop 39 = .ok (.iload_n 1, 1) := by decide +kernel
theorem dX3_pressTop_40 : decode cX3_pressTop 40 = .ok (.iaload, 1) := by decide +kernel
theorem dX3_pressTop_41 : decode cX3_pressTop 41 = .ok (.iadd, 1) := by decide +kernel
theorem dX3_pressTop_42 : decode cX3_pressTop 42 = .ok (.bipush 9, 2) := by decide +kernel
theorem dX3_pressTop_44 : decode cX3_pressTop 44 = .ok (.imul, 1) := by decide +kernel
theorem dX3_pressTop_45 : decode cX3_pressTop 45 = .ok (.bipush 10, 2) := by decide +kernel
theorem dX3_pressTop_47 : decode cX3_pressTop 47 = .ok (.idiv, 1) := by decide +kernel
theorem dX3_pressTop_48 : decode cX3_pressTop 48 = .ok (.sipush 300, 3) := by decide +kernel
theorem dX3_pressTop_51 : decode cX3_pressTop 51 = .ok (.invokestatic 48, 3) := by decide +kernel
theorem dX3_pressTop_54 : decode cX3_pressTop 54 = .ok (.iastore, 1) := by decide +kernel
theorem dX3_pressTop_55 : decode cX3_pressTop 55 = .ok (.aload_n 0, 1) := by decide +kernel
theorem dX3_pressTop_56 : decode cX3_pressTop 56 = .ok (.getfield 15, 3) := by decide +kernel
theorem dX3_pressTop_59 : decode cX3_pressTop 59 = .ok (.iload_n 2, 1) := by decide +kernel
theorem dX3_pressTop_60 : decode cX3_pressTop 60 = .ok (.aload_n 0, 1) := by decide +kernel
theorem dX3_pressTop_61 : decode cX3_pressTop 61 = .ok (.getfield 15, 3) := by decide +kernel
theorem dX3_pressTop_64 : decode cX3_pressTop 64 = .ok (.iload_n 2, 1) := by decide +kernel
theorem dX3_pressTop_65 : decode cX3_pressTop 65 = .ok (.iaload, 1) := by decide +kernel
theorem dX3_pressTop_66 : decode cX3_pressTop 66 = .ok (.aload_n 0, 1) := by decide +kernel
theorem dX3_pressTop_67 : decode cX3_pressTop 67 = .ok (.getfield 15, 3) := by decide +kernel
theorem dX3_pressTop_70 : decode cX3_pressTop 70 = .ok (.iload_n 1, 1) := by decide +kernel
theorem dX3_pressTop_71 : decode cX3_pressTop 71 = .ok (.iaload, 1) := by decide +kernel
theorem dX3_pressTop_72 : decode cX3_pressTop 72 = .ok (.invokestatic 42, 3) := by decide +kernel
theorem dX3_pressTop_75 : decode cX3_pressTop 75 = .ok (.bipush 10, 2) := by decide +kernel
theorem dX3_pressTop_77 : decode cX3_pressTop 77 = .ok (.iadd, 1) := by decide +kernel
theorem dX3_pressTop_78 : decode cX3_pressTop 78 = .ok (.bipush 100, 2) := by decide +kernel
theorem dX3_pressTop_80 : decode cX3_pressTop 80 = .ok (.invokestatic 48, 3) := by decide +kernel
theorem dX3_pressTop_83 : decode cX3_pressTop 83 = .ok (.iastore, 1) := by decide +kernel
theorem dX3_pressTop_84 : decode cX3_pressTop 84 = .ok (.aload_n 0, 1) := by decide +kernel
theorem dX3_pressTop_85 : decode cX3_pressTop 85 = .ok (.getfield 18, 3) := by decide +kernel
theorem dX3_pressTop_88 : decode cX3_pressTop 88 = .ok (.iload_n 2, 1) := by decide +kernel
theorem dX3_pressTop_89 : decode cX3_pressTop 89 = .ok (.iconst 3, 1) := by decide +kernel
theorem dX3_pressTop_90 : decode cX3_pressTop 90 = .ok (.iastore, 1) := by decide +kernel
theorem dX3_pressTop_91 : decode cX3_pressTop 91 = .ok (.aload_n 0, 1) := by decide +kernel
theorem dX3_pressTop_92 : decode cX3_pressTop 92 = .ok (.iload_n 1, 1) := by decide +kernel
theorem dX3_pressTop_93 : decode cX3_pressTop 93 = .ok (.putfield 27, 3) := by decide +kernel
theorem dX3_pressTop_96 : decode cX3_pressTop 96 = .ok (.aload_n 0, 1) := by decide +kernel
theorem dX3_pressTop_97 : decode cX3_pressTop 97 = .ok (.iconst 0, 1) := by decide +kernel
theorem dX3_pressTop_98 : decode cX3_pressTop 98 = .ok (.putfield 31, 3) := by decide +kernel
theorem dX3_pressTop_101 : decode cX3_pressTop 101 = .ok (.aload_n 0, 1) := by decide +kernel
theorem dX3_pressTop_102 : decode cX3_pressTop 102 = .ok (.getfield 9, 3) := by decide +kernel
theorem dX3_pressTop_105 : decode cX3_pressTop 105 = .ok (.iload_n 2, 1) := by decide +kernel
theorem dX3_pressTop_106 : decode cX3_pressTop 106 = .ok (.iaload, 1) := by decide +kernel
theorem dX3_pressTop_107 : decode cX3_pressTop 107 = .ok (.ireturn, 1) := by decide +kernel
theorem dX3_stress_0 : decode cX3_stress 0 = .ok (.aload_n 0, 1) := by decide +kernel
theorem dX3_stress_1 : decode cX3_stress 1 = .ok (.getfield 15, 3) := by decide +kernel
theorem dX3_stress_4 : decode cX3_stress 4 = .ok (.iload_n 1, 1) := by decide +kernel
theorem dX3_stress_5 : decode cX3_stress 5 = .ok (.iaload, 1) := by decide +kernel
theorem dX3_stress_6 : decode cX3_stress 6 = .ok (.iconst 1, 1) := by decide +kernel
theorem dX3_stress_7 : decode cX3_stress 7 = .ok (.iadd, 1) := by decide +kernel
theorem dX3_stress_8 : decode cX3_stress 8 = .ok (.istore 4, 2) := by decide +kernel
theorem dX3_stress_10 : decode cX3_stress 10 = .ok (.iload 4, 2) := by decide +kernel
theorem dX3_stress_12 : decode cX3_stress 12 = .ok (.iconst 1, 1) := by decide +kernel
theorem dX3_stress_13 : decode cX3_stress 13 = .ok (.if_icmp .ge 5, 3) := by decide +kernel
theorem dX3_stress_16 : decode cX3_stress 16 = .ok (.iconst 0, 1) := by decide +kernel
theorem dX3_stress_17 : decode cX3_stress 17 = .ok (.ireturn, 1) := by decide +kernel
theorem dX3_stress_18 : decode cX3_stress 18 = .ok (.iload_n 2, 1) := by decide +kernel
theorem dX3_stress_19 : decode cX3_stress 19 = .ok (.iload_n 3, 1) := by decide +kernel
theorem dX3_stress_20 : decode cX3_stress 20 = .ok (.bipush 20, 2) := by decide +kernel
theorem dX3_stress_22 : decode cX3_stress 22 = .ok (.isub, 1) := by decide +kernel
theorem dX3_stress_23 : decode cX3_stress 23 = .ok (.imul, 1) := by decide +kernel
theorem dX3_stress_24 : decode cX3_stress 24 = .ok (.iload 4, 2) := by decide +kernel
theorem dX3_stress_26 : decode cX3_stress 26 = .ok (.idiv, 1) := by decide +kernel
theorem dX3_stress_27 : decode cX3_stress 27 = .ok (.istore 5, 2) := by decide +kernel
theorem dX3_stress_29 : decode cX3_stress 29 = .ok (.aload_n 0, 1) := by decide +kernel
theorem dX3_stress_30 : decode cX3_stress 30 = .ok (.getfield 18, 3) := by decide +kernel
theorem dX3_stress_33 : decode cX3_stress 33 = .ok (.iload_n 1, 1) := by decide +kernel
theorem dX3_stress_34 : decode cX3_stress 34 = .ok (.iaload, 1) := by decide +kernel
theorem dX3_stress_35 : decode cX3_stress 35 = .ok (.iconst 1, 1) := by decide +kernel
theorem dX3_stress_36 : decode cX3_stress 36 = .ok (.if_icmp .ne 10, 3) := by decide +kernel
theorem dX3_stress_39 : decode cX3_stress 39 = .ok (.iconst 2, 1) := by decide +kernel
theorem dX3_stress_40 : decode cX3_stress 40 = .ok (.iload 5, 2) := by decide +kernel
theorem dX3_stress_42 : decode cX3_stress 42 = .ok (.imul, 1) := by decide +kernel
theorem dX3_stress_43 : decode cX3_stress 43 = .ok (.goto 5, 3) := by decide +kernel
theorem dX3_stress_46 : decode cX3_stress 46 = .ok (.iload 5, 2) := by decide +kernel
theorem dX3_stress_48 : decode cX3_stress 48 = .ok (.ireturn, 1) := by decide +kernel
theorem dX3_shear_0 : decode cX3_shear 0 = .ok (.iload_n 1, 1) := by decide +kernel
theorem dX3_shear_1 : decode cX3_shear 1 = .ok (.bipush 25, 2) := by decide +kernel
theorem dX3_shear_3 : decode cX3_shear 3 = .ok (.if_icmp .ge 5, 3) := by decide +kernel
theorem dX3_shear_6 : decode cX3_shear 6 = .ok (.iconst (-1), 1) := by decide +kernel
theorem dX3_shear_7 : decode cX3_shear 7 = .ok (.ireturn, 1) := by decide +kernel
theorem dX3_shear_8 : decode cX3_shear 8 = .ok (.iconst (-1), 1) := by decide +kernel
theorem dX3_shear_9 : decode cX3_shear 9 = .ok (.istore_n 2, 1) := by decide +kernel
theorem dX3_shear_10 : decode cX3_shear 10 = .ok (.iconst 0, 1) := by decide +kernel
theorem dX3_shear_11 : decode cX3_shear 11 = .ok (.istore_n 3, 1) := by decide +kernel
theorem dX3_shear_12 : decode cX3_shear 12 = .ok (.iconst 0, 1) := by decide +kernel
theorem dX3_shear_13 : decode cX3_shear 13 = .ok (.istore 4, 2) := by decide +kernel
theorem dX3_shear_15 : decode cX3_shear 15 = .ok (.aload_n 0, 1) := by decide +kernel
theorem dX3_shear_16 : decode cX3_shear 16 = .ok (.getfield 27, 3) := by decide +kernel
theorem dX3_shear_19 : decode cX3_shear 19 = .ok (.iconst 1, 1) := by decide +kernel
theorem dX3_shear_20 : decode cX3_shear 20 = .ok (.isub, 1) := by decide +kernel
theorem dX3_shear_21 : decode cX3_shear 21 = .ok (.istore 5, 2) := by decide +kernel
theorem dX3_shear_23 : decode cX3_shear 23 = .ok (.iload 5, 2) := by decide +kernel
theorem dX3_shear_25 : decode cX3_shear 25 = .ok (.ifCond .lt 49, 3) := by decide +kernel
theorem dX3_shear_28 : decode cX3_shear 28 = .ok (.aload_n 0, 1) := by decide +kernel
theorem dX3_shear_29 : decode cX3_shear 29 = .ok (.iload 5, 2) := by decide +kernel
theorem dX3_shear_31 : decode cX3_shear 31 = .ok (.iload 4, 2) := by decide +kernel
theorem dX3_shear_33 : decode cX3_shear 33 = .ok (.iload_n 1, 1) := by decide +kernel
theorem dX3_shear_34 : decode cX3_shear 34 = .ok (.invokevirtual 58, 3) := by decide +kernel
theorem dX3_shear_37 : decode cX3_shear 37 = .ok (.istore 6, 2) := by decide +kernel
theorem dX3_shear_39 : decode cX3_shear 39 = .ok (.iload 6, 2) := by decide +kernel
theorem dX3_shear_41 : decode cX3_shear 41 = .ok (.ifCond .le 15, 3) := by decide +kernel
theorem dX3_shear_44 : decode cX3_shear 44 = .ok (.iload 6, 2) := by decide +kernel
theorem dX3_shear_46 : decode cX3_shear 46 = .ok (.iload_n 3, 1) := by decide +kernel

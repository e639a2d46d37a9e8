theorem dX7_pass_6 : decode cX7_pass 6 = .ok (.invokestatic 119, 3) := by decide +kernel
theorem dX7_pass_9 : decode cX7_pass 9 = .ok (.ifCond .eq 52, 3) := by decide +kernel
theorem dX7_pass_12 : decode cX7_pass 12 = .ok (.iload_n 2, 1) := by decide +kernel
theorem dX7_pass_13 : decode cX7_pass 13 = .ok (.invokestatic 122, 3) := by decide +kernel
theorem dX7_pass_16 : decode cX7_pass 16 = .ok (.ifCond .eq 45, 3) := by decide +kernel
theorem dX7_pass_19 : decode cX7_pass 19 = .ok (.iload_n 3, 1) := by decide +kernel
theorem dX7_pass_20 : decode cX7_pass 20 = .ok (.iconst 0, 1) := by decide +kernel
theorem dX7_pass_21 : decode cX7_pass 21 = .ok (.bipush 9, 2) := by decide +kernel
theorem dX7_pass_23 : decode cX7_pass 23 = .ok (.invokestatic 78, 3) := by decide +kernel
theorem dX7_pass_26 : decode cX7_pass 26 = .ok (.ifCond .eq 35, 3) := by decide +kernel
theorem dX7_pass_29 : decode cX7_pass 29 = .ok (.iload 4, 2) := by decide +kernel
theorem dX7_pass_31 : decode cX7_pass 31 = .ok (.iconst 0, 1) := by decide +kernel
theorem dX7_pass_32 : decode cX7_pass 32 = .ok (.bipush 9, 2) := by decide +kernel
theorem dX7_pass_34 : decode cX7_pass 34 = .ok (.invokestatic 78, 3) := by decide +kernel
theorem dX7_pass_37 : decode cX7_pass 37 = .ok (.ifCond .eq 24, 3) := by decide +kernel
theorem dX7_pass_40 : decode cX7_pass 40 = .ok (.iload 5, 2) := by decide +kernel
theorem dX7_pass_42 : decode cX7_pass 42 = .ok (.iconst 0, 1) := by decide +kernel
theorem dX7_pass_43 : decode cX7_pass 43 = .ok (.iconst 3, 1) := by decide +kernel
theorem dX7_pass_44 : decode cX7_pass 44 = .ok (.invokestatic 78, 3) := by decide +kernel
theorem dX7_pass_47 : decode cX7_pass 47 = .ok (.ifCond .eq 14, 3) := by decide +kernel
theorem dX7_pass_50 : decode cX7_pass 50 = .ok (.iload 6, 2) := by decide +kernel
theorem dX7_pass_52 : decode cX7_pass 52 = .ok (.iconst 0, 1) := by decide +kernel
theorem dX7_pass_53 : decode cX7_pass 53 = .ok (.bipush 100, 2) := by decide +kernel
theorem dX7_pass_55 : decode cX7_pass 55 = .ok (.invokestatic 78, 3) := by decide +kernel
theorem dX7_pass_58 : decode cX7_pass 58 = .ok (.ifCond .ne 9, 3) := by decide +kernel
theorem dX7_pass_61 : decode cX7_pass 61 = .ok (.aload_n 0, 1) := by decide +kernel
theorem dX7_pass_62 : decode cX7_pass 62 = .ok (.iconst 1, 1) := by decide +kernel
theorem dX7_pass_63 : decode cX7_pass 63 = .ok (.invokevirtual 95, 3) := by decide +kernel
theorem dX7_pass_66 : decode cX7_pass 66 = .ok (.ireturn, 1) := by decide +kernel
theorem dX7_pass_67 : decode cX7_pass 67 = .ok (.aload_n 0, 1) := by decide +kernel
theorem dX7_pass_68 : decode cX7_pass 68 = .ok (.getfield 12, 3) := by decide +kernel
theorem dX7_pass_71 : decode cX7_pass 71 = .ok (.getfield 125, 3) := by decide +kernel
theorem dX7_pass_74 : decode cX7_pass 74 = .ok (.iload_n 1, 1) := by decide +kernel
theorem dX7_pass_75 : decode cX7_pass 75 = .ok (.iadd, 1) := by decide +kernel
theorem dX7_pass_76 : decode cX7_pass 76 = .ok (.sipush 9999, 3) := by decide +kernel
theorem dX7_pass_79 : decode cX7_pass 79 = .ok (.if_icmp .le 9, 3) := by decide +kernel
theorem dX7_pass_82 : decode cX7_pass 82 = .ok (.aload_n 0, 1) := by decide +kernel
theorem dX7_pass_83 : decode cX7_pass 83 = .ok (.iconst 2, 1) := by decide +kernel
theorem dX7_pass_84 : decode cX7_pass 84 = .ok (.invokevirtual 95, 3) := by decide +kernel
theorem dX7_pass_87 : decode cX7_pass 87 = .ok (.ireturn, 1) := by decide +kernel
theorem dX7_pass_88 : decode cX7_pass 88 = .ok (.iconst 0, 1) := by decide +kernel
theorem dX7_pass_89 : decode cX7_pass 89 = .ok (.istore 7, 2) := by decide +kernel
theorem dX7_pass_91 : decode cX7_pass 91 = .ok (.iconst 0, 1) := by decide +kernel
theorem dX7_pass_92 : decode cX7_pass 92 = .ok (.istore 8, 2) := by decide +kernel
theorem dX7_pass_94 : decode cX7_pass 94 = .ok (.iload 8, 2) := by decide +kernel
theorem dX7_pass_96 : decode cX7_pass 96 = .ok (.iload_n 1, 1) := by decide +kernel
theorem dX7_pass_97 : decode cX7_pass 97 = .ok (.if_icmp .ge 29, 3) := by decide +kernel
theorem dX7_pass_100 : decode cX7_pass 100 = .ok (.iload 7, 2) := by decide +kernel
theorem dX7_pass_102 : decode cX7_pass 102 = .ok (.aload_n 0, 1) := by decide +kernel
theorem dX7_pass_103 : decode cX7_pass 103 = .ok (.getfield 12, 3) := by decide +kernel
theorem dX7_pass_106 : decode cX7_pass 106 = .ok (.iload_n 2, 1) := by decide +kernel
theorem dX7_pass_107 : decode cX7_pass 107 = .ok (.iload_n 3, 1) := by decide +kernel
theorem dX7_pass_108 : decode cX7_pass 108 = .ok (.iload 4, 2) := by decide +kernel
theorem dX7_pass_110 : decode cX7_pass 110 = .ok (.iload 5, 2) := by decide +kernel
theorem dX7_pass_112 : decode cX7_pass 112 = .ok (.iload 6, 2) := by decide +kernel
theorem dX7_pass_114 : decode cX7_pass 114 = .ok (.invokevirtual 128, 3) := by decide +kernel
theorem dX7_pass_117 : decode cX7_pass 117 = .ok (.iadd, 1) := by decide +kernel
theorem dX7_pass_118 : decode cX7_pass 118 = .ok (.istore 7, 2) := by decide +kernel
theorem dX7_pass_120 : decode cX7_pass 120 = .ok (.iinc 8 1, 3) := by decide +kernel
theorem dX7_pass_123 : decode cX7_pass 123 = .ok (.goto (-29), 3) := by decide +kernel
theorem dX7_pass_126 : decode cX7_pass 126 = .ok (.aload_n 0, 1) := by decide +kernel
theorem dX7_pass_127 : decode cX7_pass 127 = .ok (.iload 4, 2) := by decide +kernel
theorem dX7_pass_129 : decode cX7_pass 129 = .ok (.putfield 107, 3) := by decide +kernel
theorem dX7_pass_132 : decode cX7_pass 132 = .ok (.iload 7, 2) := by decide +kernel
theorem dX7_pass_134 : decode cX7_pass 134 = .ok (.ireturn, 1) := by decide +kernel
theorem dX7_blast_0 : decode cX7_blast 0 = .ok (.aload_n 0, 1) := by decide +kernel
theorem dX7_blast_1 : decode cX7_blast 1 = .ok (.iconst 0, 1) := by decide +kernel
theorem dX7_blast_2 : decode cX7_blast 2 = .ok (.putfield 23, 3) := by decide +kernel
theorem dX7_blast_5 : decode cX7_blast 5 = .ok (.aload_n 0, 1) := by decide +kernel
theorem dX7_blast_6 : decode cX7_blast 6 = .ok (.iload_n 1, 1) := by decide +kernel
theorem dX7_blast_7 : decode cX7_blast 7 = .ok (.invokevirtual 110, 3) := by decide +kernel
theorem dX7_blast_10 : decode cX7_blast 10 = .ok (.ifCond .ne 9, 3) := by decide +kernel
theorem dX7_blast_13 : decode cX7_blast 13 = .ok (.aload_n 0, 1) := by decide +kernel
theorem dX7_blast_14 : decode cX7_blast 14 = .ok (.iconst 1, 1) := by decide +kernel
theorem dX7_blast_15 : decode cX7_blast 15 = .ok (.invokevirtual 95, 3) := by decide +kernel
theorem dX7_blast_18 : decode cX7_blast 18 = .ok (.ireturn, 1) := by decide +kernel
theorem dX7_blast_19 : decode cX7_blast 19 = .ok (.aload_n 0, 1) := by decide +kernel
theorem dX7_blast_20 : decode cX7_blast 20 = .ok (.iload_n 1, 1) := by decide +kernel
theorem dX7_blast_21 : decode cX7_blast 21 = .ok (.invokevirtual 132, 3) := by decide +kernel
theorem dX7_blast_24 : decode cX7_blast 24 = .ok (.ifCond .ne 10, 3) := by decide +kernel
theorem dX7_blast_27 : decode cX7_blast 27 = .ok (.aload_n 0, 1) := by decide +kernel
theorem dX7_blast_28 : decode cX7_blast 28 = .ok (.getfield 16, 3) := by decide +kernel
theorem dX7_blast_31 : decode cX7_blast 31 = .ok (.ifCond .ne 9, 3) := by decide +kernel
theorem dX7_blast_34 : decode cX7_blast 34 = .ok (.aload_n 0, 1) := by decide +kernel
theorem dX7_blast_35 : decode cX7_blast 35 = .ok (.iconst 2, 1) := by decide +kernel
theorem dX7_blast_36 : decode cX7_blast 36 = .ok (.invokevirtual 95, 3) := by decide +kernel
theorem dX7_blast_39 : decode cX7_blast 39 = .ok (.ireturn, 1) := by decide +kernel
theorem dX7_blast_40 : decode cX7_blast 40 = .ok (.aload_n 0, 1) := by decide +kernel
theorem dX7_blast_41 : decode cX7_blast 41 = .ok (.dup, 1) := by decide +kernel
theorem dX7_blast_42 : decode cX7_blast 42 = .ok (.getfield 16, 3) := by decide +kernel
theorem dX7_blast_45 : decode cX7_blast 45 = .ok (.iconst 1, 1) := by decide +kernel
theorem dX7_blast_46 : decode cX7_blast 46 = .ok (.isub, 1) := by decide +kernel
theorem dX7_blast_47 : decode cX7_blast 47 = .ok (.putfield 16, 3) := by decide +kernel
theorem dX7_blast_50 : decode cX7_blast 50 = .ok (.aload_n 0, 1) := by decide +kernel
theorem dX7_blast_51 : decode cX7_blast 51 = .ok (.dup, 1) := by decide +kernel
theorem dX7_blast_52 : decode cX7_blast 52 = .ok (.getfield 135, 3) := by decide +kernel
theorem dX7_blast_55 : decode cX7_blast 55 = .ok (.iconst 1, 1) := by decide +kernel
theorem dX7_blast_56 : decode cX7_blast 56 = .ok (.iadd, 1) := by decide +kernel
theorem dX7_blast_57 : decode cX7_blast 57 = .ok (.putfield 135, 3) := by decide +kernel
theorem dX7_blast_60 : decode cX7_blast 60 = .ok (.aload_n 0, 1) := by decide +kernel
theorem dX7_blast_61 : decode cX7_blast 61 = .ok (.getfield 135, 3) := by decide +kernel
theorem dX7_blast_64 : decode cX7_blast 64 = .ok (.bipush 7, 2) := by decide +kernel
theorem dX7_blast_66 : decode cX7_blast 66 = .ok (.irem, 1) := by decide +kernel
theorem dX7_blast_67 : decode cX7_blast 67 = .ok (.ifCond .ne 18, 3) := by decide +kernel
theorem dX7_blast_70 : decode cX7_blast 70 = .ok (.aload_n 0, 1) := by decide +kernel
theorem dX7_blast_71 : decode cX7_blast 71 = .ok (.iload_n 1, 1) := by decide +kernel
theorem dX7_blast_72 : decode cX7_blast 72 = .ok (.invokevirtual 91, 3) := by decide +kernel
theorem dX7_blast_75 : decode cX7_blast 75 = .ok (.bipush 7, 2) := by decide +kernel
theorem dX7_blast_77 : decode cX7_blast 77 = .ok (.dup2, 1) := by decide +kernel
theorem dX7_blast_78 : decode cX7_blast 78 = .ok (.iaload, 1) := by decide +kernel
theorem dX7_blast_79 : decode cX7_blast 79 = .ok (.iconst 1, 1) := by decide +kernel
theorem dX7_blast_80 : decode cX7_blast 80 = .ok (.iadd, 1) := by decide +kernel
theorem dX7_blast_81 : decode cX7_blast 81 = .ok (.iastore, 1) := by decide +kernel
theorem dX7_blast_82 : decode cX7_blast 82 = .ok (.bipush (-2), 2) := by decide +kernel
theorem dX7_blast_84 : decode cX7_blast 84 = .ok (.ireturn, 1) := by decide +kernel
theorem dX7_blast_85 : decode cX7_blast 85 = .ok (.aload_n 0, 1) := by decide +kernel
theorem dX7_blast_86 : decode cX7_blast 86 = .ok (.iload_n 1, 1) := by decide +kernel
theorem dX7_blast_87 : decode cX7_blast 87 = .ok (.invokevirtual 91, 3) := by decide +kernel
theorem dX7_blast_90 : decode cX7_blast 90 = .ok (.invokestatic 138, 3) := by decide +kernel
theorem dX7_blast_93 : decode cX7_blast 93 = .ok (.bipush 40, 2) := by decide +kernel
theorem dX7_blast_95 : decode cX7_blast 95 = .ok (.if_icmp .lt 18, 3) := by decide +kernel
theorem dX7_blast_98 : decode cX7_blast 98 = .ok (.aload_n 0, 1) := by decide +kernel
theorem dX7_blast_99 : decode cX7_blast 99 = .ok (.getfield 12, 3) := by decide +kernel
theorem dX7_blast_102 : decode cX7_blast 102 = .ok (.aload_n 0, 1) := by decide +kernel
theorem dX7_blast_103 : decode cX7_blast 103 = .ok (.iload_n 1, 1) := by decide +kernel
theorem dX7_blast_104 : decode cX7_blast 104 = .ok (.invokevirtual 91, 3) := by decide +kernel
theorem dX7_blast_107 : decode cX7_blast 107 = .ok (.invokevirtual 141, 3) := by decide +kernel
theorem dX7_blast_110 : decode cX7_blast 110 = .ok (.goto 4, 3) := by decide +kernel
theorem dX7_blast_113 : decode cX7_blast 113 = .ok (.iconst 0, 1) := by decide +kernel
theorem dX7_blast_114 : decode cX7_blast 114 = .ok (.ireturn, 1) := by decide +kernel
theorem dX7_search_0 : decode cX7_search 0 = .ok (.aload_n 0, 1) := by decide +kernel
theorem dX7_search_1 : decode cX7_search 1 = .ok (.iconst 0, 1) := by decide +kernel
theorem dX7_search_2 : decode cX7_search 2 = .ok (.putfield 23, 3) := by decide +kernel
theorem dX7_search_5 : decode cX7_search 5 = .ok (.aload_n 0, 1) := by decide +kernel
theorem dX7_search_6 : decode cX7_search 6 = .ok (.iload_n 1, 1) := by decide +kernel
theorem dX7_search_7 : decode cX7_search 7 = .ok (.invokevirtual 110, 3) := by decide +kernel
theorem dX7_search_10 : decode cX7_search 10 = .ok (.ifCond .ne 9, 3) := by decide +kernel
theorem dX7_search_13 : decode cX7_search 13 = .ok (.aload_n 0, 1) := by decide +kernel
theorem dX7_search_14 : decode cX7_search 14 = .ok (.iconst 1, 1) := by decide +kernel
theorem dX7_search_15 : decode cX7_search 15 = .ok (.invokevirtual 95, 3) := by decide +kernel
theorem dX7_search_18 : decode cX7_search 18 = .ok (.ireturn, 1) := by decide +kernel
theorem dX7_search_19 : decode cX7_search 19 = .ok (.aload_n 0, 1) := by decide +kernel
theorem dX7_search_20 : decode cX7_search 20 = .ok (.iload_n 1, 1) := by decide +kernel
theorem dX7_search_21 : decode cX7_search 21 = .ok (.invokevirtual 91, 3) := by decide +kernel
theorem dX7_search_24 : decode cX7_search 24 = .ok (.bipush 7, 2) := by decide +kernel
theorem dX7_search_26 : decode cX7_search 26 = .ok (.iaload, 1) := by decide +kernel
theorem dX7_search_27 : decode cX7_search 27 = .ok (.ifCond .ne 9, 3) := by decide +kernel
theorem dX7_search_30 : decode cX7_search 30 = .ok (.aload_n 0, 1) := by decide +kernel
theorem dX7_search_31 : decode cX7_search 31 = .ok (.iconst 2, 1) := by decide +kernel
theorem dX7_search_32 : decode cX7_search 32 = .ok (.invokevirtual 95, 3) := by decide +kernel
theorem dX7_search_35 : decode cX7_search 35 = .ok (.ireturn, 1) := by decide +kernel
theorem dX7_search_36 : decode cX7_search 36 = .ok (.aload_n 0, 1) := by decide +kernel
theorem dX7_search_37 : decode cX7_search 37 = .ok (.iload_n 1, 1) := by decide +kernel
theorem dX7_search_38 : decode cX7_search 38 = .ok (.invokevirtual 91, 3) := by decide +kernel
theorem dX7_search_41 : decode cX7_search 41 = .ok (.bipush 7, 2) := by decide +kernel
theorem dX7_search_43 : decode cX7_search 43 = .ok (.dup2, 1) := by decide +kernel
theorem dX7_search_44 : decode cX7_search 44 = .ok (.iaload, 1) := by decide +kernel
theorem dX7_search_45 : decode cX7_search 45 = .ok (.iconst 1, 1) := by decide +kernel
theorem dX7_search_46 : decode cX7_search 46 = .ok (.isub, 1) := by decide +kernel
theorem dX7_search_47 : decode cX7_search 47 = .ok (.iastore, 1) := by decide +kernel
theorem dX7_search_48 : decode cX7_search 48 = .ok (.aload_n 0, 1) := by decide +kernel
theorem dX7_search_49 : decode cX7_search 49 = .ok (.iload_n 1, 1) := by decide +kernel
theorem dX7_search_50 : decode cX7_search 50 = .ok (.invokevirtual 91, 3) := by decide +kernel
theorem dX7_search_53 : decode cX7_search 53 = .ok (.bipush 7, 2) := by decide +kernel
theorem dX7_search_55 : decode cX7_search 55 = .ok (.iaload, 1) := by decide +kernel
theorem dX7_search_56 : decode cX7_search 56 = .ok (.ireturn, 1) := by decide +kernel
theorem dX7_test_0 : decode cX7_test 0 = .ok (.aload_n 0, 1) := by decide +kernel
theorem dX7_test_1 : decode cX7_test 1 = .ok (.iconst 0, 1) := by decide +kernel
theorem dX7_test_2 : decode cX7_test 2 = .ok (.putfield 23, 3) := by decide +kernel
theorem dX7_test_5 : decode cX7_test 5 = .ok (.aload_n 0, 1) := by decide +kernel
theorem dX7_test_6 : decode cX7_test 6 = .ok (.iload_n 1, 1) := by decide +kernel
theorem dX7_test_7 : decode cX7_test 7 = .ok (.invokevirtual 110, 3) := by decide +kernel
theorem dX7_test_10 : decode cX7_test 10 = .ok (.ifCond .ne 9, 3) := by decide +kernel
theorem dX7_test_13 : decode cX7_test 13 = .ok (.aload_n 0, 1) := by decide +kernel
theorem dX7_test_14 : decode cX7_test 14 = .ok (.iconst 1, 1) := by decide +kernel
theorem dX7_test_15 : decode cX7_test 15 = .ok (.invokevirtual 95, 3) := by decide +kernel
theorem dX7_test_18 : decode cX7_test 18 = .ok (.ireturn, 1) := by decide +kernel
theorem dX7_test_19 : decode cX7_test 19 = .ok (.aload_n 0, 1) := by decide +kernel
theorem dX7_test_20 : decode cX7_test 20 = .ok (.iload_n 1, 1) := by decide +kernel
theorem dX7_test_21 : decode cX7_test 21 = .ok (.invokevirtual 91, 3) := by decide +kernel
theorem dX7_test_24 : decode cX7_test 24 = .ok (.bipush 13, 2) := by decide +kernel
theorem dX7_test_26 : decode cX7_test 26 = .ok (.aload_n 0, 1) := by decide +kernel
theorem dX7_test_27 : decode cX7_test 27 = .ok (.iload_n 1, 1) := by decide +kernel
theorem dX7_test_28 : decode cX7_test 28 = .ok (.invokevirtual 147, 3) := by decide +kernel
theorem dX7_test_31 : decode cX7_test 31 = .ok (.iastore, 1) := by decide +kernel
theorem dX7_test_32 : decode cX7_test 32 = .ok (.aload_n 0, 1) := by decide +kernel
theorem dX7_test_33 : decode cX7_test 33 = .ok (.iload_n 1, 1) := by decide +kernel
theorem dX7_test_34 : decode cX7_test 34 = .ok (.invokevirtual 91, 3) := by decide +kernel
theorem dX7_test_37 : decode cX7_test 37 = .ok (.bipush 14, 2) := by decide +kernel
theorem dX7_test_39 : decode cX7_test 39 = .ok (.aload_n 0, 1) := by decide +kernel
theorem dX7_test_40 : decode cX7_test 40 = .ok (.getfield 12, 3) := by decide +kernel
theorem dX7_test_43 : decode cX7_test 43 = .ok (.getfield 125, 3) := by decide +kernel
theorem dX7_test_46 : decode cX7_test 46 = .ok (.bipush 12, 2) := by decide +kernel
theorem dX7_test_48 : decode cX7_test 48 = .ok (.iadd, 1) := by decide +kernel
theorem dX7_test_49 : decode cX7_test 49 = .ok (.iastore, 1) := by decide +kernel
theorem dX7_test_50 : decode cX7_test 50 = .ok (.aload_n 0, 1) := by decide +kernel
theorem dX7_test_51 : decode cX7_test 51 = .ok (.iload_n 1, 1) := by decide +kernel
theorem dX7_test_52 : decode cX7_test 52 = .ok (.invokevirtual 91, 3) := by decide +kernel
theorem dX7_test_55 : decode cX7_test 55 = .ok (.bipush 13, 2) := by decide +kernel
theorem dX7_test_57 : decode cX7_test 57 = .ok (.iaload, 1) := by decide +kernel
theorem dX7_test_58 : decode cX7_test 58 = .ok (.ireturn, 1) := by decide +kernel
theorem dX7_sweep_0 : decode cX7_sweep 0 = .ok (.aload_n 0, 1) := by decide +kernel
theorem dX7_sweep_1 : decode cX7_sweep 1 = .ok (.aload_n 0, 1) := by decide +kernel
theorem dX7_sweep_2 : decode cX7_sweep 2 = .ok (.iload_n 1, 1) := by decide +kernel
theorem dX7_sweep_3 : decode cX7_sweep 3 = .ok (.invokevirtual 110, 3) := by decide +kernel
theorem dX7_sweep_6 : decode cX7_sweep 6 = .ok (.ifCond .ne 7, 3) := by decide +kernel
theorem dX7_sweep_9 : decode cX7_sweep 9 = .ok (.iconst 1, 1) := by decide +kernel
theorem dX7_sweep_10 : decode cX7_sweep 10 = .ok (.goto 16, 3) := by decide +kernel
theorem dX7_sweep_13 : decode cX7_sweep 13 = .ok (.aload_n 0, 1) := by decide +kernel
theorem dX7_sweep_14 : decode cX7_sweep 14 = .ok (.iload_n 1, 1) := by decide +kernel
theorem dX7_sweep_15 : decode cX7_sweep 15 = .ok (.invokevirtual 132, 3) := by decide +kernel
theorem dX7_sweep_18 : decode cX7_sweep 18 = .ok (.ifCond .eq 7, 3) := by decide +kernel
theorem dX7_sweep_21 : decode cX7_sweep 21 = .ok (.iconst 2, 1) := by decide +kernel
theorem dX7_sweep_22 : decode cX7_sweep 22 = .ok (.goto 4, 3) := by decide +kernel
theorem dX7_sweep_25 : decode cX7_sweep 25 = .ok (.iconst 0, 1) := by decide +kernel
theorem dX7_sweep_26 : decode cX7_sweep 26 = .ok (.putfield 23, 3) := by decide +kernel
theorem dX7_sweep_29 : decode cX7_sweep 29 = .ok (.aload_n 0, 1) := by decide +kernel
theorem dX7_sweep_30 : decode cX7_sweep 30 = .ok (.getfield 23, 3) := by decide +kernel
theorem dX7_sweep_33 : decode cX7_sweep 33 = .ok (.ifCond .le 5, 3) := by decide +kernel
theorem dX7_sweep_36 : decode cX7_sweep 36 = .ok (.iconst 0, 1) := by decide +kernel
theorem dX7_sweep_37 : decode cX7_sweep 37 = .ok (.ireturn, 1) := by decide +kernel
theorem dX7_sweep_38 : decode cX7_sweep 38 = .ok (.aload_n 0, 1) := by decide +kernel
theorem dX7_sweep_39 : decode cX7_sweep 39 = .ok (.iload_n 1, 1) := by decide +kernel
theorem dX7_sweep_40 : decode cX7_sweep 40 = .ok (.invokevirtual 91, 3) := by decide +kernel
theorem dX7_sweep_43 : decode cX7_sweep 43 = .ok (.bipush 12, 2) := by decide +kernel
theorem dX7_sweep_45 : decode cX7_sweep 45 = .ok (.iaload, 1) := by decide +kernel
theorem dX7_sweep_46 : decode cX7_sweep 46 = .ok (.iconst 1, 1) := by decide +kernel
theorem dX7_sweep_47 : decode cX7_sweep 47 = .ok (.if_icmp .ne 7, 3) := by decide +kernel
theorem dX7_sweep_50 : decode cX7_sweep 50 = .ok (.iconst 1, 1) := by decide +kernel
theorem dX7_sweep_51 : decode cX7_sweep 51 = .ok (.goto 4, 3) := by decide +kernel
theorem dX7_sweep_54 : decode cX7_sweep 54 = .ok (.iconst 0, 1) := by decide +kernel
theorem dX7_sweep_55 : decode cX7_sweep 55 = .ok (.istore_n 2, 1) := by decide +kernel
theorem dX7_sweep_56 : decode cX7_sweep 56 = .ok (.aload_n 0, 1) := by decide +kernel
theorem dX7_sweep_57 : decode cX7_sweep 57 = .ok (.iload_n 1, 1) := by decide +kernel
theorem dX7_sweep_58 : decode cX7_sweep 58 = .ok (.invokevirtual 91, 3) := by decide +kernel
theorem dX7_sweep_61 : decode cX7_sweep 61 = .ok (.bipush 12, 2) := by decide +kernel
theorem dX7_sweep_63 : decode cX7_sweep 63 = .ok (.iconst 1, 1) := by decide +kernel
theorem dX7_sweep_64 : decode cX7_sweep 64 = .ok (.iastore, 1) := by decide +kernel
theorem dX7_sweep_65 : decode cX7_sweep 65 = .ok (.iload_n 2, 1) := by decide +kernel
theorem dX7_sweep_66 : decode cX7_sweep 66 = .ok (.ifCond .ne 7, 3) := by decide +kernel
theorem dX7_sweep_69 : decode cX7_sweep 69 = .ok (.iconst 1, 1) := by decide +kernel
theorem dX7_sweep_70 : decode cX7_sweep 70 = .ok (.goto 4, 3) := by decide +kernel
theorem dX7_sweep_73 : decode cX7_sweep 73 = .ok (.iconst 0, 1) := by decide +kernel
theorem dX7_sweep_74 : decode cX7_sweep 74 = .ok (.ireturn, 1) := by decide +kernel
theorem dX7_winch_0 : decode cX7_winch 0 = .ok (.aload_n 0, 1) := by decide +kernel
theorem dX7_winch_1 : decode cX7_winch 1 = .ok (.aload_n 0, 1) := by decide +kernel
theorem dX7_winch_2 : decode cX7_winch 2 = .ok (.iload_n 1, 1) := by decide +kernel
theorem dX7_winch_3 : decode cX7_winch 3 = .ok (.invokevirtual 110, 3) := by decide +kernel
theorem dX7_winch_6 : decode cX7_winch 6 = .ok (.ifCond .ne 7, 3) := by decide +kernel
theorem dX7_winch_9 : decode cX7_winch 9 = .ok (.iconst 1, 1) := by decide +kernel
theorem dX7_winch_10 : decode cX7_winch 10 = .ok (.goto 16, 3) := by decide +kernel
theorem dX7_winch_13 : decode cX7_winch 13 = .ok (.aload_n 0, 1) := by decide +kernel
theorem dX7_winch_14 : decode cX7_winch 14 = .ok (.iload_n 1, 1) := by decide +kernel
theorem dX7_winch_15 : decode cX7_winch 15 = .ok (.invokevirtual 132, 3) := by decide +kernel
theorem dX7_winch_18 : decode cX7_winch 18 = .ok (.ifCond .eq 7, 3) := by decide +kernel
theorem dX7_winch_21 : decode cX7_winch 21 = .ok (.iconst 2, 1) := by decide +kernel
theorem dX7_winch_22 : decode cX7_winch 22 = .ok (.goto 4, 3) := by decide +kernel
theorem dX7_winch_25 : decode cX7_winch 25 = .ok (.iconst 0, 1) := by decide +kernel
theorem dX7_winch_26 : decode cX7_winch 26 = .ok (.putfield 23, 3) := by decide +kernel
theorem dX7_winch_29 : decode cX7_winch 29 = .ok (.aload_n 0, 1) := by decide +kernel
theorem dX7_winch_30 : decode cX7_winch 30 = .ok (.getfield 23, 3) := by decide +kernel
theorem dX7_winch_33 : decode cX7_winch 33 = .ok (.ifCond .le 5, 3) := by decide +kernel
theorem dX7_winch_36 : decode cX7_winch 36 = .ok (.iconst 0, 1) := by decide +kernel
theorem dX7_winch_37 : decode cX7_winch 37 = .ok (.ireturn, 1) := by decide +kernel
theorem dX7_winch_38 : decode cX7_winch 38 = .ok (.aload_n 0, 1) := by decide +kernel
theorem dX7_winch_39 : decode cX7_winch 39 = .ok (.iload_n 1, 1) := by decide +kernel
theorem dX7_winch_40 : decode cX7_winch 40 = .ok (.invokevirtual 91, 3) := by decide +kernel
theorem dX7_winch_43 : decode cX7_winch 43 = .ok (.bipush 6, 2) := by decide +kernel
theorem dX7_winch_45 : decode cX7_winch 45 = .ok (.iaload, 1) := by decide +kernel
theorem dX7_winch_46 : decode cX7_winch 46 = .ok (.iconst 1, 1) := by decide +kernel
theorem dX7_winch_47 : decode cX7_winch 47 = .ok (.if_icmp .ne 7, 3) := by decide +kernel
theorem dX7_winch_50 : decode cX7_winch 50 = .ok (.iconst 1, 1) := by decide +kernel
theorem dX7_winch_51 : decode cX7_winch 51 = .ok (.goto 4, 3) := by decide +kernel
theorem dX7_winch_54 : decode cX7_winch 54 = .ok (.iconst 0, 1) := by decide +kernel
theorem dX7_winch_55 : decode cX7_winch 55 = .ok (.istore_n 3, 1) := by decide +kernel
theorem dX7_winch_56 : decode cX7_winch 56 = .ok (.aload_n 0, 1) := by decide +kernel
theorem dX7_winch_57 : decode cX7_winch 57 = .ok (.iload_n 1, 1) := by decide +kernel
theorem dX7_winch_58 : decode cX7_winch 58 = .ok (.invokevirtual 91, 3) := by decide +kernel
theorem dX7_winch_61 : decode cX7_winch 61 = .ok (.bipush 6, 2) := by decide +kernel
theorem dX7_winch_63 : decode cX7_winch 63 = .ok (.iload_n 2, 1) := by decide +kernel
theorem dX7_winch_64 : decode cX7_winch 64 = .ok (.ifCond .eq 7, 3) := by decide +kernel
theorem dX7_winch_67 : decode cX7_winch 67 = .ok (.iconst 1, 1) := by decide +kernel
theorem dX7_winch_68 : decode cX7_winch 68 = .ok (.goto 4, 3) := by decide +kernel
theorem dX7_winch_71 : decode cX7_winch 71 = .ok (.iconst 0, 1) := by decide +kernel
theorem dX7_winch_72 : decode cX7_winch 72 = .ok (.iastore, 1) := by decide +kernel
theorem dX7_winch_73 : decode cX7_winch 73 = .ok (.iload_n 3, 1) := by decide +kernel
theorem dX7_winch_74 : decode cX7_winch 74 = .ok (.ireturn, 1) := by decide +kernel
theorem dX7_groom_0 : decode cX7_groom 0 = .ok (.aload_n 0, 1) := by decide +kernel
theorem dX7_groom_1 : decode cX7_groom 1 = .ok (.iconst 0, 1) := by decide +kernel
theorem dX7_groom_2 : decode cX7_groom 2 = .ok (.putfield 23, 3) := by decide +kernel
theorem dX7_groom_5 : decode cX7_groom 5 = .ok (.aload_n 0, 1) := by decide +kernel
theorem dX7_groom_6 : decode cX7_groom 6 = .ok (.iload_n 1, 1) := by decide +kernel
theorem dX7_groom_7 : decode cX7_groom 7 = .ok (.invokevirtual 110, 3) := by decide +kernel
theorem dX7_groom_10 : decode cX7_groom 10 = .ok (.ifCond .ne 9, 3) := by decide +kernel
theorem dX7_groom_13 : decode cX7_groom 13 = .ok (.aload_n 0, 1) := by decide +kernel
theorem dX7_groom_14 : decode cX7_groom 14 = .ok (.iconst 1, 1) := by decide +kernel
theorem dX7_groom_15 : decode cX7_groom 15 = .ok (.invokevirtual 95, 3) := by decide +kernel
theorem dX7_groom_18 : decode cX7_groom 18 = .ok (.ireturn, 1) := by decide +kernel
theorem dX7_groom_19 : decode cX7_groom 19 = .ok (.aload_n 0, 1) := by decide +kernel
theorem dX7_groom_20 : decode cX7_groom 20 = .ok (.iload_n 1, 1) := by decide +kernel
theorem dX7_groom_21 : decode cX7_groom 21 = .ok (.invokevirtual 91, 3) := by decide +kernel
theorem dX7_groom_24 : decode cX7_groom 24 = .ok (.astore_n 2, 1) := by decide +kernel
theorem dX7_groom_25 : decode cX7_groom 25 = .ok (.aload_n 0, 1) := by decide +kernel
theorem dX7_groom_26 : decode cX7_groom 26 = .ok (.getfield 12, 3) := by decide +kernel
theorem dX7_groom_29 : decode cX7_groom 29 = .ok (.getfield 125, 3) := by decide +kernel
theorem dX7_groom_32 : decode cX7_groom 32 = .ok (.bipush 24, 2) := by decide +kernel
theorem dX7_groom_34 : decode cX7_groom 34 = .ok (.irem, 1) := by decide +kernel
theorem dX7_groom_35 : decode cX7_groom 35 = .ok (.bipush 7, 2) := by decide +kernel
theorem dX7_groom_37 : decode cX7_groom 37 = .ok (.bipush 17, 2) := by decide +kernel
theorem dX7_groom_39 : decode cX7_groom 39 = .ok (.invokestatic 78, 3) := by decide +kernel
theorem dX7_groom_42 : decode cX7_groom 42 = .ok (.ifCond .ne 7, 3) := by decide +kernel
theorem dX7_groom_45 : decode cX7_groom 45 = .ok (.iconst 1, 1) := by decide +kernel
theorem dX7_groom_46 : decode cX7_groom 46 = .ok (.goto 4, 3) := by decide +kernel
theorem dX7_groom_49 : decode cX7_groom 49 = .ok (.iconst 0, 1) := by decide +kernel
theorem dX7_groom_50 : decode cX7_groom 50 = .ok (.istore_n 3, 1) := by decide +kernel
theorem dX7_groom_51 : decode cX7_groom 51 = .ok (.aload_n 0, 1) := by decide +kernel
theorem dX7_groom_52 : decode cX7_groom 52 = .ok (.iload_n 1, 1) := by decide +kernel
theorem dX7_groom_53 : decode cX7_groom 53 = .ok (.invokevirtual 132, 3) := by decide +kernel
theorem dX7_groom_56 : decode cX7_groom 56 = .ok (.ifCond .ne 23, 3) := by decide +kernel
theorem dX7_groom_59 : decode cX7_groom 59 = .ok (.aload_n 2, 1) := by decide +kernel
theorem dX7_groom_60 : decode cX7_groom 60 = .ok (.bipush 18, 2) := by decide +kernel
theorem dX7_groom_62 : decode cX7_groom 62 = .ok (.iaload, 1) := by decide +kernel
theorem dX7_groom_63 : decode cX7_groom 63 = .ok (.iconst 2, 1) := by decide +kernel
theorem dX7_groom_64 : decode cX7_groom 64 = .ok (.if_icmp .lt 15, 3) := by decide +kernel
theorem dX7_groom_67 : decode cX7_groom 67 = .ok (.iload_n 3, 1) := by decide +kernel
theorem dX7_groom_68 : decode cX7_groom 68 = .ok (.ifCond .eq 11, 3) := by decide +kernel
theorem dX7_groom_71 : decode cX7_groom 71 = .ok (.aload_n 0, 1) := by decide +kernel
theorem dX7_groom_72 : decode cX7_groom 72 = .ok (.getfield 20, 3) := by decide +kernel
theorem dX7_groom_75 : decode cX7_groom 75 = .ok (.iconst 5, 1) := by decide +kernel
theorem dX7_groom_76 : decode cX7_groom 76 = .ok (.if_icmp .ge 9, 3) := by decide +kernel
theorem dX7_groom_79 : decode cX7_groom 79 = .ok (.aload_n 0, 1) := by decide +kernel
theorem dX7_groom_80 : decode cX7_groom 80 = .ok (.iconst 2, 1) := by decide +kernel
theorem dX7_groom_81 : decode cX7_groom 81 = .ok (.invokevirtual 95, 3) := by decide +kernel
theorem dX7_groom_84 : decode cX7_groom 84 = .ok (.ireturn, 1) := by decide +kernel
theorem dX7_groom_85 : decode cX7_groom 85 = .ok (.aload_n 0, 1) := by decide +kernel
theorem dX7_groom_86 : decode cX7_groom 86 = .ok (.dup, 1) := by decide +kernel
theorem dX7_groom_87 : decode cX7_groom 87 = .ok (.getfield 20, 3) := by decide +kernel
theorem dX7_groom_90 : decode cX7_groom 90 = .ok (.iconst 5, 1) := by decide +kernel
theorem dX7_groom_91 : decode cX7_groom 91 = .ok (.isub, 1) := by decide +kernel
theorem dX7_groom_92 : decode cX7_groom 92 = .ok (.putfield 20, 3) := by decide +kernel
theorem dX7_groom_95 : decode cX7_groom 95 = .ok (.aload_n 2, 1) := by decide +kernel
theorem dX7_groom_96 : decode cX7_groom 96 = .ok (.invokestatic 26, 3) := by decide +kernel
theorem dX7_groom_99 : decode cX7_groom 99 = .ok (.istore 4, 2) := by decide +kernel
theorem dX7_groom_101 : decode cX7_groom 101 = .ok (.sipush 300, 3) := by decide +kernel
theorem dX7_groom_104 : decode cX7_groom 104 = .ok (.bipush 9, 2) := by decide +kernel
theorem dX7_groom_106 : decode cX7_groom 106 = .ok (.aload_n 2, 1) := by decide +kernel
theorem dX7_groom_107 : decode cX7_groom 107 = .ok (.iload 4, 2) := by decide +kernel
theorem dX7_groom_109 : decode cX7_groom 109 = .ok (.iconst 1, 1) := by decide +kernel
theorem dX7_groom_110 : decode cX7_groom 110 = .ok (.isub, 1) := by decide +kernel
theorem dX7_groom_111 : decode cX7_groom 111 = .ok (.invokestatic 58, 3) := by decide +kernel
theorem dX7_groom_114 : decode cX7_groom 114 = .ok (.imul, 1) := by decide +kernel
theorem dX7_groom_115 : decode cX7_groom 115 = .ok (.bipush 10, 2) := by decide +kernel
theorem dX7_groom_117 : decode cX7_groom 117 = .ok (.idiv, 1) := by decide +kernel
theorem dX7_groom_118 : decode cX7_groom 118 = .ok (.invokestatic 38, 3) := by decide +kernel
theorem dX7_groom_121 : decode cX7_groom 121 = .ok (.istore 5, 2) := by decide +kernel
theorem dX7_groom_123 : decode cX7_groom 123 = .ok (.bipush 100, 2) := by decide +kernel
theorem dX7_groom_125 : decode cX7_groom 125 = .ok (.aload_n 2, 1) := by decide +kernel
theorem dX7_groom_126 : decode cX7_groom 126 = .ok (.iload 4, 2) := by decide +kernel
theorem dX7_groom_128 : decode cX7_groom 128 = .ok (.iconst 1, 1) := by decide +kernel
theorem dX7_groom_129 : decode cX7_groom 129 = .ok (.invokestatic 30, 3) := by decide +kernel
theorem dX7_groom_132 : decode cX7_groom 132 = .ok (.aload_n 2, 1) := by decide +kernel
theorem dX7_groom_133 : decode cX7_groom 133 = .ok (.iload 4, 2) := by decide +kernel
theorem dX7_groom_135 : decode cX7_groom 135 = .ok (.iconst 1, 1) := by decide +kernel
theorem dX7_groom_136 : decode cX7_groom 136 = .ok (.isub, 1) := by decide +kernel
theorem dX7_groom_137 : decode cX7_groom 137 = .ok (.iconst 1, 1) := by decide +kernel
theorem dX7_groom_138 : decode cX7_groom 138 = .ok (.invokestatic 30, 3) := by decide +kernel
theorem dX7_groom_141 : decode cX7_groom 141 = .ok (.invokestatic 144, 3) := by decide +kernel
theorem dX7_groom_144 : decode cX7_groom 144 = .ok (.bipush 10, 2) := by decide +kernel
theorem dX7_groom_146 : decode cX7_groom 146 = .ok (.iadd, 1) := by decide +kernel
theorem dX7_groom_147 : decode cX7_groom 147 = .ok (.invokestatic 38, 3) := by decide +kernel
theorem dX7_groom_150 : decode cX7_groom 150 = .ok (.istore 6, 2) := by decide +kernel
theorem dX7_groom_152 : decode cX7_groom 152 = .ok (.aload_n 2, 1) := by decide +kernel
theorem dX7_groom_153 : decode cX7_groom 153 = .ok (.iload 4, 2) := by decide +kernel
theorem dX7_groom_155 : decode cX7_groom 155 = .ok (.iconst 1, 1) := by decide +kernel
theorem dX7_groom_156 : decode cX7_groom 156 = .ok (.isub, 1) := by decide +kernel
theorem dX7_groom_157 : decode cX7_groom 157 = .ok (.invokestatic 54, 3) := by decide +kernel
theorem dX7_groom_160 : decode cX7_groom 160 = .ok (.aload_n 2, 1) := by decide +kernel
theorem dX7_groom_161 : decode cX7_groom 161 = .ok (.iload 5, 2) := by decide +kernel
theorem dX7_groom_163 : decode cX7_groom 163 = .ok (.iload 6, 2) := by decide +kernel
theorem dX7_groom_165 : decode cX7_groom 165 = .ok (.iconst 3, 1) := by decide +kernel
theorem dX7_groom_166 : decode cX7_groom 166 = .ok (.invokestatic 150, 3) := by decide +kernel
theorem dX7_groom_169 : decode cX7_groom 169 = .ok (.iload 5, 2) := by decide +kernel
theorem dX7_groom_171 : decode cX7_groom 171 = .ok (.ireturn, 1) := by decide +kernel
theorem dX7_open_0 : decode cX7_open 0 = .ok (.aload_n 0, 1) := by decide +kernel
theorem dX7_open_1 : decode cX7_open 1 = .ok (.iconst 0, 1) := by decide +kernel
theorem dX7_open_2 : decode cX7_open 2 = .ok (.putfield 23, 3) := by decide +kernel
theorem dX7_open_5 : decode cX7_open 5 = .ok (.aload_n 0, 1) := by decide +kernel
theorem dX7_open_6 : decode cX7_open 6 = .ok (.iload_n 1, 1) := by decide +kernel
theorem dX7_open_7 : decode cX7_open 7 = .ok (.invokevirtual 110, 3) := by decide +kernel
theorem dX7_open_10 : decode cX7_open 10 = .ok (.ifCond .ne 9, 3) := by decide +kernel
theorem dX7_open_13 : decode cX7_open 13 = .ok (.aload_n 0, 1) := by decide +kernel
theorem dX7_open_14 : decode cX7_open 14 = .ok (.iconst 1, 1) := by decide +kernel
theorem dX7_open_15 : decode cX7_open 15 = .ok (.invokevirtual 95, 3) := by decide +kernel
theorem dX7_open_18 : decode cX7_open 18 = .ok (.ireturn, 1) := by decide +kernel
theorem dX7_open_19 : decode cX7_open 19 = .ok (.aload_n 0, 1) := by decide +kernel
theorem dX7_open_20 : decode cX7_open 20 = .ok (.iload_n 1, 1) := by decide +kernel
theorem dX7_open_21 : decode cX7_open 21 = .ok (.invokevirtual 132, 3) := by decide +kernel
theorem dX7_open_24 : decode cX7_open 24 = .ok (.ifCond .eq 9, 3) := by decide +kernel
theorem dX7_open_27 : decode cX7_open 27 = .ok (.aload_n 0, 1) := by decide +kernel
theorem dX7_open_28 : decode cX7_open 28 = .ok (.iconst 2, 1) := by decide +kernel
theorem dX7_open_29 : decode cX7_open 29 = .ok (.invokevirtual 95, 3) := by decide +kernel
theorem dX7_open_32 : decode cX7_open 32 = .ok (.ireturn, 1) := by decide +kernel
theorem dX7_open_33 : decode cX7_open 33 = .ok (.aload_n 0, 1) := by decide +kernel
theorem dX7_open_34 : decode cX7_open 34 = .ok (.iload_n 1, 1) := by decide +kernel
theorem dX7_open_35 : decode cX7_open 35 = .ok (.invokevirtual 159, 3) := by decide +kernel
theorem dX7_open_38 : decode cX7_open 38 = .ok (.istore_n 2, 1) := by decide +kernel
theorem dX7_open_39 : decode cX7_open 39 = .ok (.iload_n 2, 1) := by decide +kernel
theorem dX7_open_40 : decode cX7_open 40 = .ok (.ifCond .le 5, 3) := by decide +kernel
theorem dX7_open_43 : decode cX7_open 43 = .ok (.iload_n 2, 1) := by decide +kernel
theorem dX7_open_44 : decode cX7_open 44 = .ok (.ireturn, 1) := by decide +kernel
theorem dX7_open_45 : decode cX7_open 45 = .ok (.aload_n 0, 1) := by decide +kernel
theorem dX7_open_46 : decode cX7_open 46 = .ok (.iload_n 1, 1) := by decide +kernel
theorem dX7_open_47 : decode cX7_open 47 = .ok (.invokevirtual 91, 3) := by decide +kernel
theorem dX7_open_50 : decode cX7_open 50 = .ok (.iconst 5, 1) := by decide +kernel
theorem dX7_open_51 : decode cX7_open 51 = .ok (.iconst 1, 1) := by decide +kernel
theorem dX7_open_52 : decode cX7_open 52 = .ok (.iastore, 1) := by decide +kernel
theorem dX7_open_53 : decode cX7_open 53 = .ok (.aload_n 0, 1) := by decide +kernel
theorem dX7_open_54 : decode cX7_open 54 = .ok (.iload_n 1, 1) := by decide +kernel
theorem dX7_open_55 : decode cX7_open 55 = .ok (.invokevirtual 91, 3) := by decide +kernel
theorem dX7_open_58 : decode cX7_open 58 = .ok (.bipush 15, 2) := by decide +kernel
theorem dX7_open_60 : decode cX7_open 60 = .ok (.aload_n 0, 1) := by decide +kernel
theorem dX7_open_61 : decode cX7_open 61 = .ok (.getfield 12, 3) := by decide +kernel
theorem dX7_open_64 : decode cX7_open 64 = .ok (.getfield 125, 3) := by decide +kernel
theorem dX7_open_67 : decode cX7_open 67 = .ok (.iastore, 1) := by decide +kernel
theorem dX7_open_68 : decode cX7_open 68 = .ok (.iconst 0, 1) := by decide +kernel
theorem dX7_open_69 : decode cX7_open 69 = .ok (.ireturn, 1) := by decide +kernel
theorem dX7_close_0 : decode cX7_close 0 = .ok (.aload_n 0, 1) := by decide +kernel
theorem dX7_close_1 : decode cX7_close 1 = .ok (.iconst 0, 1) := by decide +kernel
theorem dX7_close_2 : decode cX7_close 2 = .ok (.putfield 23, 3) := by decide +kernel
theorem dX7_close_5 : decode cX7_close 5 = .ok (.aload_n 0, 1) := by decide +kernel
theorem dX7_close_6 : decode cX7_close 6 = .ok (.iload_n 1, 1) := by decide +kernel
theorem dX7_close_7 : decode cX7_close 7 = .ok (.invokevirtual 110, 3) := by decide +kernel
theorem dX7_close_10 : decode cX7_close 10 = .ok (.ifCond .ne 9, 3) := by decide +kernel
theorem dX7_close_13 : decode cX7_close 13 = .ok (.aload_n 0, 1) := by decide +kernel
theorem dX7_close_14 : decode cX7_close 14 = .ok (.iconst 1, 1) := by decide +kernel
theorem dX7_close_15 : decode cX7_close 15 = .ok (.invokevirtual 95, 3) := by decide +kernel
theorem dX7_close_18 : decode cX7_close 18 = .ok (.ireturn, 1) := by decide +kernel
theorem dX7_close_19 : decode cX7_close 19 = .ok (.aload_n 0, 1) := by decide +kernel
theorem dX7_close_20 : decode cX7_close 20 = .ok (.iload_n 1, 1) := by decide +kernel
theorem dX7_close_21 : decode cX7_close 21 = .ok (.invokevirtual 132, 3) := by decide +kernel
theorem dX7_close_24 : decode cX7_close 24 = .ok (.ifCond .ne 9, 3) := by decide +kernel
theorem dX7_close_27 : decode cX7_close 27 = .ok (.aload_n 0, 1) := by decide +kernel
theorem dX7_close_28 : decode cX7_close 28 = .ok (.iconst 2, 1) := by decide +kernel
theorem dX7_close_29 : decode cX7_close 29 = .ok (.invokevirtual 95, 3) := by decide +kernel
theorem dX7_close_32 : decode cX7_close 32 = .ok (.ireturn, 1) := by decide +kernel
theorem dX7_close_33 : decode cX7_close 33 = .ok (.aload_n 0, 1) := by decide +kernel
theorem dX7_close_34 : decode cX7_close 34 = .ok (.getfield 12, 3) := by decide +kernel
theorem dX7_close_37 : decode cX7_close 37 = .ok (.aload_n 0, 1) := by decide +kernel
theorem dX7_close_38 : decode cX7_close 38 = .ok (.iload_n 1, 1) := by decide +kernel
theorem dX7_close_39 : decode cX7_close 39 = .ok (.invokevirtual 91, 3) := by decide +kernel
theorem dX7_close_42 : decode cX7_close 42 = .ok (.invokevirtual 162, 3) := by decide +kernel
theorem dX7_close_45 : decode cX7_close 45 = .ok (.aload_n 0, 1) := by decide +kernel
theorem dX7_close_46 : decode cX7_close 46 = .ok (.getfield 12, 3) := by decide +kernel
theorem dX7_close_49 : decode cX7_close 49 = .ok (.getfield 125, 3) := by decide +kernel
theorem dX7_close_52 : decode cX7_close 52 = .ok (.aload_n 0, 1) := by decide +kernel
theorem dX7_close_53 : decode cX7_close 53 = .ok (.iload_n 1, 1) := by decide +kernel
theorem dX7_close_54 : decode cX7_close 54 = .ok (.invokevirtual 91, 3) := by decide +kernel
theorem dX7_close_57 : decode cX7_close 57 = .ok (.bipush 15, 2) := by decide +kernel
theorem dX7_close_59 : decode cX7_close 59 = .ok (.iaload, 1) := by decide +kernel
theorem dX7_close_60 : decode cX7_close 60 = .ok (.isub, 1) := by decide +kernel
theorem dX7_close_61 : decode cX7_close 61 = .ok (.ireturn, 1) := by decide +kernel
theorem dX7_ofRun_0 : decode cX7_ofRun 0 = .ok (.aload_n 0, 1) := by decide +kernel
theorem dX7_ofRun_1 : decode cX7_ofRun 1 = .ok (.iconst 0, 1) := by decide +kernel
theorem dX7_ofRun_2 : decode cX7_ofRun 2 = .ok (.putfield 23, 3) := by decide +kernel
theorem dX7_ofRun_5 : decode cX7_ofRun 5 = .ok (.aload_n 0, 1) := by decide +kernel
theorem dX7_ofRun_6 : decode cX7_ofRun 6 = .ok (.iload_n 1, 1) := by decide +kernel
theorem dX7_ofRun_7 : decode cX7_ofRun 7 = .ok (.invokevirtual 110, 3) := by decide +kernel
theorem dX7_ofRun_10 : decode cX7_ofRun 10 = .ok (.ifCond .ne 9, 3) := by decide +kernel
theorem dX7_ofRun_13 : decode cX7_ofRun 13 = .ok (.aload_n 0, 1) := by decide +kernel
theorem dX7_ofRun_14 : decode cX7_ofRun 14 = .ok (.iconst 1, 1) := by decide +kernel
theorem dX7_ofRun_15 : decode cX7_ofRun 15 = .ok (.invokevirtual 95, 3) := by decide +kernel
theorem dX7_ofRun_18 : decode cX7_ofRun 18 = .ok (.ireturn, 1) := by decide +kernel
theorem dX7_ofRun_19 : decode cX7_ofRun 19 = .ok (.iload_n 2, 1) := by decide +kernel
theorem dX7_ofRun_20 : decode cX7_ofRun 20 = .ok (.iconst 0, 1) := by decide +kernel
theorem dX7_ofRun_21 : decode cX7_ofRun 21 = .ok (.bipush 13, 2) := by decide +kernel
theorem dX7_ofRun_23 : decode cX7_ofRun 23 = .ok (.invokestatic 78, 3) := by decide +kernel
theorem dX7_ofRun_26 : decode cX7_ofRun 26 = .ok (.ifCond .eq 12, 3) := by decide +kernel
theorem dX7_ofRun_29 : decode cX7_ofRun 29 = .ok (.aload_n 0, 1) := by decide +kernel
theorem dX7_ofRun_30 : decode cX7_ofRun 30 = .ok (.iload_n 1, 1) := by decide +kernel
theorem dX7_ofRun_31 : decode cX7_ofRun 31 = .ok (.iload_n 2, 1) := by decide +kernel
theorem dX7_ofRun_32 : decode cX7_ofRun 32 = .ok (.invokevirtual 166, 3) := by decide +kernel
theorem dX7_ofRun_35 : decode cX7_ofRun 35 = .ok (.goto 8, 3) := by decide +kernel
theorem dX7_ofRun_38 : decode cX7_ofRun 38 = .ok (.aload_n 0, 1) := by decide +kernel
theorem dX7_ofRun_39 : decode cX7_ofRun 39 = .ok (.iconst 2, 1) := by decide +kernel
theorem dX7_ofRun_40 : decode cX7_ofRun 40 = .ok (.invokevirtual 95, 3) := by decide +kernel
theorem dX7_ofRun_43 : decode cX7_ofRun 43 = .ok (.ireturn, 1) := by decide +kernel
theorem dX7_ofLayer_0 : decode cX7_ofLayer 0 = .ok (.aload_n 0, 1) := by decide +kernel
theorem dX7_ofLayer_1 : decode cX7_ofLayer 1 = .ok (.iconst 0, 1) := by decide +kernel
theorem dX7_ofLayer_2 : decode cX7_ofLayer 2 = .ok (.putfield 23, 3) := by decide +kernel
theorem dX7_ofLayer_5 : decode cX7_ofLayer 5 = .ok (.aload_n 0, 1) := by decide +kernel
theorem dX7_ofLayer_6 : decode cX7_ofLayer 6 = .ok (.iload_n 1, 1) := by decide +kernel
theorem dX7_ofLayer_7 : decode cX7_ofLayer 7 = .ok (.invokevirtual 110, 3) := by decide +kernel
theorem dX7_ofLayer_10 : decode cX7_ofLayer 10 = .ok (.ifCond .eq 19, 3) := by decide +kernel
theorem dX7_ofLayer_13 : decode cX7_ofLayer 13 = .ok (.iload_n 2, 1) := by decide +kernel
theorem dX7_ofLayer_14 : decode cX7_ofLayer 14 = .ok (.iconst 0, 1) := by decide +kernel
theorem dX7_ofLayer_15 : decode cX7_ofLayer 15 = .ok (.aload_n 0, 1) := by decide +kernel
theorem dX7_ofLayer_16 : decode cX7_ofLayer 16 = .ok (.iload_n 1, 1) := by decide +kernel
theorem dX7_ofLayer_17 : decode cX7_ofLayer 17 = .ok (.invokevirtual 91, 3) := by decide +kernel
theorem dX7_ofLayer_20 : decode cX7_ofLayer 20 = .ok (.invokestatic 26, 3) := by decide +kernel
theorem dX7_ofLayer_23 : decode cX7_ofLayer 23 = .ok (.invokestatic 78, 3) := by decide +kernel
theorem dX7_ofLayer_26 : decode cX7_ofLayer 26 = .ok (.ifCond .ne 9, 3) := by decide +kernel
theorem dX7_ofLayer_29 : decode cX7_ofLayer 29 = .ok (.aload_n 0, 1) := by decide +kernel
theorem dX7_ofLayer_30 : decode cX7_ofLayer 30 = .ok (.iconst 1, 1) := by decide +kernel
theorem dX7_ofLayer_31 : decode cX7_ofLayer 31 = .ok (.invokevirtual 95, 3) := by decide +kernel
theorem dX7_ofLayer_34 : decode cX7_ofLayer 34 = .ok (.ireturn, 1) := by decide +kernel
theorem dX7_ofLayer_35 : decode cX7_ofLayer 35 = .ok (.iload_n 3, 1) := by decide +kernel
theorem dX7_ofLayer_36 : decode cX7_ofLayer 36 = .ok (.iconst 0, 1) := by decide +kernel
theorem dX7_ofLayer_37 : decode cX7_ofLayer 37 = .ok (.iconst 2, 1) := by decide +kernel
theorem dX7_ofLayer_38 : decode cX7_ofLayer 38 = .ok (.invokestatic 78, 3) := by decide +kernel
theorem dX7_ofLayer_41 : decode cX7_ofLayer 41 = .ok (.ifCond .eq 16, 3) := by decide +kernel
theorem dX7_ofLayer_44 : decode cX7_ofLayer 44 = .ok (.aload_n 0, 1) := by decide +kernel
theorem dX7_ofLayer_45 : decode cX7_ofLayer 45 = .ok (.iload_n 1, 1) := by decide +kernel
theorem dX7_ofLayer_46 : decode cX7_ofLayer 46 = .ok (.invokevirtual 91, 3) := by decide +kernel
theorem dX7_ofLayer_49 : decode cX7_ofLayer 49 = .ok (.iload_n 2, 1) := by decide +kernel
theorem dX7_ofLayer_50 : decode cX7_ofLayer 50 = .ok (.iload_n 3, 1) := by decide +kernel
theorem dX7_ofLayer_51 : decode cX7_ofLayer 51 = .ok (.invokestatic 30, 3) := by decide +kernel
theorem dX7_ofLayer_54 : decode cX7_ofLayer 54 = .ok (.goto 8, 3) := by decide +kernel
theorem dX7_ofLayer_57 : decode cX7_ofLayer 57 = .ok (.aload_n 0, 1) := by decide +kernel
theorem dX7_ofLayer_58 : decode cX7_ofLayer 58 = .ok (.iconst 2, 1) := by decide +kernel
theorem dX7_ofLayer_59 : decode cX7_ofLayer 59 = .ok (.invokevirtual 95, 3) := by decide +kernel
theorem dX7_ofLayer_62 : decode cX7_ofLayer 62 = .ok (.ireturn, 1) := by decide +kernel
theorem dX7_ofLift_0 : decode cX7_ofLift 0 = .ok (.aload_n 0, 1) := by decide +kernel
theorem dX7_ofLift_1 : decode cX7_ofLift 1 = .ok (.iconst 0, 1) := by decide +kernel
theorem dX7_ofLift_2 : decode cX7_ofLift 2 = .ok (.putfield 23, 3) := by decide +kernel
theorem dX7_ofLift_5 : decode cX7_ofLift 5 = .ok (.aload_n 0, 1) := by decide +kernel
theorem dX7_ofLift_6 : decode cX7_ofLift 6 = .ok (.iload_n 1, 1) := by decide +kernel
theorem dX7_ofLift_7 : decode cX7_ofLift 7 = .ok (.invokevirtual 103, 3) := by decide +kernel
theorem dX7_ofLift_10 : decode cX7_ofLift 10 = .ok (.ifCond .ne 9, 3) := by decide +kernel
theorem dX7_ofLift_13 : decode cX7_ofLift 13 = .ok (.aload_n 0, 1) := by decide +kernel
theorem dX7_ofLift_14 : decode cX7_ofLift 14 = .ok (.iconst 1, 1) := by decide +kernel
theorem dX7_ofLift_15 : decode cX7_ofLift 15 = .ok (.invokevirtual 95, 3) := by decide +kernel
theorem dX7_ofLift_18 : decode cX7_ofLift 18 = .ok (.ireturn, 1) := by decide +kernel
theorem dX7_ofLift_19 : decode cX7_ofLift 19 = .ok (.iload_n 2, 1) := by decide +kernel
theorem dX7_ofLift_20 : decode cX7_ofLift 20 = .ok (.iconst 0, 1) := by decide +kernel
theorem dX7_ofLift_21 : decode cX7_ofLift 21 = .ok (.iconst 5, 1) := by decide +kernel
theorem dX7_ofLift_22 : decode cX7_ofLift 22 = .ok (.invokestatic 78, 3) := by decide +kernel
theorem dX7_ofLift_25 : decode cX7_ofLift 25 = .ok (.ifCond .eq 12, 3) := by decide +kernel
theorem dX7_ofLift_28 : decode cX7_ofLift 28 = .ok (.aload_n 0, 1) := by decide +kernel
theorem dX7_ofLift_29 : decode cX7_ofLift 29 = .ok (.iload_n 1, 1) := by decide +kernel
theorem dX7_ofLift_30 : decode cX7_ofLift 30 = .ok (.iload_n 2, 1) := by decide +kernel
theorem dX7_ofLift_31 : decode cX7_ofLift 31 = .ok (.invokevirtual 172, 3) := by decide +kernel
theorem dX7_ofLift_34 : decode cX7_ofLift 34 = .ok (.goto 8, 3) := by decide +kernel
theorem dX7_ofLift_37 : decode cX7_ofLift 37 = .ok (.aload_n 0, 1) := by decide +kernel
theorem dX7_ofLift_38 : decode cX7_ofLift 38 = .ok (.iconst 2, 1) := by decide +kernel
theorem dX7_ofLift_39 : decode cX7_ofLift 39 = .ok (.invokevirtual 95, 3) := by decide +kernel
theorem dX7_ofLift_42 : decode cX7_ofLift 42 = .ok (.ireturn, 1) := by decide +kernel
theorem dX7_manyNow_0 : decode cX7_manyNow 0 = .ok (.iconst 0, 1) := by decide +kernel
theorem dX7_manyNow_1 : decode cX7_manyNow 1 = .ok (.istore_n 2, 1) := by decide +kernel
theorem dX7_manyNow_2 : decode cX7_manyNow 2 = .ok (.iconst 0, 1) := by decide +kernel
theorem dX7_manyNow_3 : decode cX7_manyNow 3 = .ok (.istore_n 3, 1) := by decide +kernel
theorem dX7_manyNow_4 : decode cX7_manyNow 4 = .ok (.iconst 0, 1) := by decide +kernel
theorem dX7_manyNow_5 : decode cX7_manyNow 5 = .ok (.istore 4, 2) := by decide +kernel
theorem dX7_manyNow_7 : decode cX7_manyNow 7 = .ok (.aload_n 0, 1) := by decide +kernel
theorem dX7_manyNow_8 : decode cX7_manyNow 8 = .ok (.getfield 12, 3) := by decide +kernel
theorem dX7_manyNow_11 : decode cX7_manyNow 11 = .ok (.getfield 68, 3) := by decide +kernel
theorem dX7_manyNow_14 : decode cX7_manyNow 14 = .ok (.invokevirtual 175, 3) := by decide +kernel
theorem dX7_manyNow_17 : decode cX7_manyNow 17 = .ok (.astore 5, 2) := by decide +kernel
theorem dX7_manyNow_19 : decode cX7_manyNow 19 = .ok (.aload 5, 2) := by decide +kernel
theorem dX7_manyNow_21 : decode cX7_manyNow 21 = .ok (.invokeinterface 179 1, 5) := by decide +kernel
theorem dX7_manyNow_26 : decode cX7_manyNow 26 = .ok (.ifCond .eq 25, 3) := by decide +kernel
theorem dX7_manyNow_29 : decode cX7_manyNow 29 = .ok (.aload 5, 2) := by decide +kernel
theorem dX7_manyNow_31 : decode cX7_manyNow 31 = .ok (.invokeinterface 185 1, 5) := by decide +kernel
theorem dX7_manyNow_36 : decode cX7_manyNow 36 = .ok (.checkcast 89, 3) := by decide +kernel
theorem dX7_manyNow_39 : decode cX7_manyNow 39 = .ok (.astore 6, 2) := by decide +kernel
theorem dX7_manyNow_41 : decode cX7_manyNow 41 = .ok (.iload_n 3, 1) := by decide +kernel
theorem dX7_manyNow_42 : decode cX7_manyNow 42 = .ok (.aload 6, 2) := by decide +kernel
theorem dX7_manyNow_44 : decode cX7_manyNow 44 = .ok (.iconst 4, 1) := by decide +kernel
theorem dX7_manyNow_45 : decode cX7_manyNow 45 = .ok (.iaload, 1) := by decide +kernel
theorem dX7_manyNow_46 : decode cX7_manyNow 46 = .ok (.iadd, 1) := by decide +kernel
theorem dX7_manyNow_47 : decode cX7_manyNow 47 = .ok (.istore_n 3, 1) := by decide +kernel
theorem dX7_manyNow_48 : decode cX7_manyNow 48 = .ok (.goto (-29), 3) := by decide +kernel
theorem dX7_manyNow_51 : decode cX7_manyNow 51 = .ok (.aload_n 0, 1) := by decide +kernel
theorem dX7_manyNow_52 : decode cX7_manyNow 52 = .ok (.getfield 12, 3) := by decide +kernel
theorem dX7_manyNow_55 : decode cX7_manyNow 55 = .ok (.getfield 82, 3) := by decide +kernel
theorem dX7_manyNow_58 : decode cX7_manyNow 58 = .ok (.invokevirtual 175, 3) := by decide +kernel
theorem dX7_manyNow_61 : decode cX7_manyNow 61 = .ok (.astore 5, 2) := by decide +kernel
theorem dX7_manyNow_63 : decode cX7_manyNow 63 = .ok (.aload 5, 2) := by decide +kernel
theorem dX7_manyNow_65 : decode cX7_manyNow 65 = .ok (.invokeinterface 179 1, 5) := by decide +kernel
theorem dX7_manyNow_70 : decode cX7_manyNow 70 = .ok (.ifCond .eq 41, 3) := by decide +kernel
theorem dX7_manyNow_73 : decode cX7_manyNow 73 = .ok (.aload 5, 2) := by decide +kernel
theorem dX7_manyNow_75 : decode cX7_manyNow 75 = .ok (.invokeinterface 185 1, 5) := by decide +kernel
theorem dX7_manyNow_80 : decode cX7_manyNow 80 = .ok (.checkcast 89, 3) := by decide +kernel
theorem dX7_manyNow_83 : decode cX7_manyNow 83 = .ok (.astore 6, 2) := by decide +kernel
theorem dX7_manyNow_85 : decode cX7_manyNow 85 = .ok (.iload_n 2, 1) := by decide +kernel
theorem dX7_manyNow_86 : decode cX7_manyNow 86 = .ok (.aload 6, 2) := by decide +kernel
theorem dX7_manyNow_88 : decode cX7_manyNow 88 = .ok (.iconst 5, 1) := by decide +kernel
theorem dX7_manyNow_89 : decode cX7_manyNow 89 = .ok (.iaload, 1) := by decide +kernel
theorem dX7_manyNow_90 : decode cX7_manyNow 90 = .ok (.iadd, 1) := by decide +kernel
theorem dX7_manyNow_91 : decode cX7_manyNow 91 = .ok (.istore_n 2, 1) := by decide +kernel
theorem dX7_manyNow_92 : decode cX7_manyNow 92 = .ok (.iload 4, 2) := by decide +kernel
theorem dX7_manyNow_94 : decode cX7_manyNow 94 = .ok (.aload 6, 2) := by decide +kernel
theorem dX7_manyNow_96 : decode cX7_manyNow 96 = .ok (.iconst 0, 1) := by decide +kernel
theorem dX7_manyNow_97 : decode cX7_manyNow 97 = .ok (.invokestatic 58, 3) := by decide +kernel
theorem dX7_manyNow_100 : decode cX7_manyNow 100 = .ok (.aload 6, 2) := by decide +kernel
theorem dX7_manyNow_102 : decode cX7_manyNow 102 = .ok (.iconst 4, 1) := by decide +kernel
theorem dX7_manyNow_103 : decode cX7_manyNow 103 = .ok (.iaload, 1) := by decide +kernel
theorem dX7_manyNow_104 : decode cX7_manyNow 104 = .ok (.imul, 1) := by decide +kernel
theorem dX7_manyNow_105 : decode cX7_manyNow 105 = .ok (.iadd, 1) := by decide +kernel
theorem dX7_manyNow_106 : decode cX7_manyNow 106 = .ok (.istore 4, 2) := by decide +kernel
theorem dX7_manyNow_108 : decode cX7_manyNow 108 = .ok (.goto (-45), 3) := by decide +kernel
theorem dX7_manyNow_111 : decode cX7_manyNow 111 = .ok (.bipush 15, 2) := by decide +kernel
theorem dX7_manyNow_113 : decode cX7_manyNow 113 = .ok (.newarray .int, 2) := by decide +kernel
theorem dX7_manyNow_115 : decode cX7_manyNow 115 = .ok (.dup, 1) := by decide +kernel
theorem dX7_manyNow_116 : decode cX7_manyNow 116 = .ok (.iconst 0, 1) := by decide +kernel
theorem dX7_manyNow_117 : decode cX7_manyNow 117 = .ok (.aload_n 0, 1) := by decide +kernel
theorem dX7_manyNow_118 : decode cX7_manyNow 118 = .ok (.getfield 12, 3) := by decide +kernel
theorem dX7_manyNow_121 : decode cX7_manyNow 121 = .ok (.getfield 125, 3) := by decide +kernel
theorem dX7_manyNow_124 : decode cX7_manyNow 124 = .ok (.iastore, 1) := by decide +kernel
theorem dX7_manyNow_125 : decode cX7_manyNow 125 = .ok (.dup, 1) := by decide +kernel
theorem dX7_manyNow_126 : decode cX7_manyNow 126 = .ok (.iconst 1, 1) := by decide +kernel
theorem dX7_manyNow_127 : decode cX7_manyNow 127 = .ok (.aload_n 0, 1) := by decide +kernel
theorem dX7_manyNow_128 : decode cX7_manyNow 128 = .ok (.getfield 12, 3) := by decide +kernel
theorem dX7_manyNow_131 : decode cX7_manyNow 131 = .ok (.getfield 68, 3) := by decide +kernel
theorem dX7_manyNow_134 : decode cX7_manyNow 134 = .ok (.invokevirtual 72, 3) := by decide +kernel
theorem dX7_manyNow_137 : decode cX7_manyNow 137 = .ok (.iastore, 1) := by decide +kernel
theorem dX7_manyNow_138 : decode cX7_manyNow 138 = .ok (.dup, 1) := by decide +kernel
theorem dX7_manyNow_139 : decode cX7_manyNow 139 = .ok (.iconst 2, 1) := by decide +kernel
theorem dX7_manyNow_140 : decode cX7_manyNow 140 = .ok (.aload_n 0, 1) := by decide +kernel
theorem dX7_manyNow_141 : decode cX7_manyNow 141 = .ok (.getfield 12, 3) := by decide +kernel
theorem dX7_manyNow_144 : decode cX7_manyNow 144 = .ok (.getfield 82, 3) := by decide +kernel
theorem dX7_manyNow_147 : decode cX7_manyNow 147 = .ok (.invokevirtual 72, 3) := by decide +kernel
theorem dX7_manyNow_150 : decode cX7_manyNow 150 = .ok (.iastore, 1) := by decide +kernel
theorem dX7_manyNow_151 : decode cX7_manyNow 151 = .ok (.dup, 1) := by decide +kernel
theorem dX7_manyNow_152 : decode cX7_manyNow 152 = .ok (.iconst 3, 1) := by decide +kernel
theorem dX7_manyNow_153 : decode cX7_manyNow 153 = .ok (.iload_n 2, 1) := by decide +kernel
theorem dX7_manyNow_154 : decode cX7_manyNow 154 = .ok (.iastore, 1) := by decide +kernel
theorem dX7_manyNow_155 : decode cX7_manyNow 155 = .ok (.dup, 1) := by decide +kernel
theorem dX7_manyNow_156 : decode cX7_manyNow 156 = .ok (.iconst 4, 1) := by decide +kernel
theorem dX7_manyNow_157 : decode cX7_manyNow 157 = .ok (.aload_n 0, 1) := by decide +kernel
theorem dX7_manyNow_158 : decode cX7_manyNow 158 = .ok (.getfield 12, 3) := by decide +kernel
theorem dX7_manyNow_161 : decode cX7_manyNow 161 = .ok (.getfield 113, 3) := by decide +kernel
theorem dX7_manyNow_164 : decode cX7_manyNow 164 = .ok (.iastore, 1) := by decide +kernel
theorem dX7_manyNow_165 : decode cX7_manyNow 165 = .ok (.dup, 1) := by decide +kernel
theorem dX7_manyNow_166 : decode cX7_manyNow 166 = .ok (.iconst 5, 1) := by decide +kernel
theorem dX7_manyNow_167 : decode cX7_manyNow 167 = .ok (.aload_n 0, 1) := by decide +kernel
theorem dX7_manyNow_168 : decode cX7_manyNow 168 = .ok (.getfield 16, 3) := by decide +kernel
theorem dX7_manyNow_171 : decode cX7_manyNow 171 = .ok (.iastore, 1) := by decide +kernel
theorem dX7_manyNow_172 : decode cX7_manyNow 172 = .ok (.dup, 1) := by decide +kernel
theorem dX7_manyNow_173 : decode cX7_manyNow 173 = .ok (.bipush 6, 2) := by decide +kernel
theorem dX7_manyNow_175 : decode cX7_manyNow 175 = .ok (.aload_n 0, 1) := by decide +kernel
theorem dX7_manyNow_176 : decode cX7_manyNow 176 = .ok (.getfield 20, 3) := by decide +kernel
theorem dX7_manyNow_179 : decode cX7_manyNow 179 = .ok (.iastore, 1) := by decide +kernel
theorem dX7_manyNow_180 : decode cX7_manyNow 180 = .ok (.dup, 1) := by decide +kernel
theorem dX7_manyNow_181 : decode cX7_manyNow 181 = .ok (.bipush 7, 2) := by decide +kernel
theorem dX7_manyNow_183 : decode cX7_manyNow 183 = .ok (.aload_n 0, 1) := by decide +kernel
theorem dX7_manyNow_184 : decode cX7_manyNow 184 = .ok (.getfield 12, 3) := by decide +kernel
theorem dX7_manyNow_187 : decode cX7_manyNow 187 = .ok (.getfield 116, 3) := by decide +kernel
theorem dX7_manyNow_190 : decode cX7_manyNow 190 = .ok (.iastore, 1) := by decide +kernel
theorem dX7_manyNow_191 : decode cX7_manyNow 191 = .ok (.dup, 1) := by decide +kernel
theorem dX7_manyNow_192 : decode cX7_manyNow 192 = .ok (.bipush 8, 2) := by decide +kernel
theorem dX7_manyNow_194 : decode cX7_manyNow 194 = .ok (.aload_n 0, 1) := by decide +kernel
theorem dX7_manyNow_195 : decode cX7_manyNow 195 = .ok (.getfield 12, 3) := by decide +kernel
theorem dX7_manyNow_198 : decode cX7_manyNow 198 = .ok (.getfield 189, 3) := by decide +kernel
theorem dX7_manyNow_201 : decode cX7_manyNow 201 = .ok (.iastore, 1) := by decide +kernel
theorem dX7_manyNow_202 : decode cX7_manyNow 202 = .ok (.dup, 1) := by decide +kernel
theorem dX7_manyNow_203 : decode cX7_manyNow 203 = .ok (.bipush 9, 2) := by decide +kernel
theorem dX7_manyNow_205 : decode cX7_manyNow 205 = .ok (.aload_n 0, 1) := by decide +kernel
theorem dX7_manyNow_206 : decode cX7_manyNow 206 = .ok (.getfield 12, 3) := by decide +kernel
theorem dX7_manyNow_209 : decode cX7_manyNow 209 = .ok (.getfield 192, 3) := by decide +kernel
theorem dX7_manyNow_212 : decode cX7_manyNow 212 = .ok (.iastore, 1) := by decide +kernel
theorem dX7_manyNow_213 : decode cX7_manyNow 213 = .ok (.dup, 1) := by decide +kernel
theorem dX7_manyNow_214 : decode cX7_manyNow 214 = .ok (.bipush 10, 2) := by decide +kernel
theorem dX7_manyNow_216 : decode cX7_manyNow 216 = .ok (.aload_n 0, 1) := by decide +kernel
theorem dX7_manyNow_217 : decode cX7_manyNow 217 = .ok (.getfield 12, 3) := by decide +kernel
theorem dX7_manyNow_220 : decode cX7_manyNow 220 = .ok (.getfield 195, 3) := by decide +kernel
theorem dX7_manyNow_223 : decode cX7_manyNow 223 = .ok (.iastore, 1) := by decide +kernel
theorem dX7_manyNow_224 : decode cX7_manyNow 224 = .ok (.dup, 1) := by decide +kernel
theorem dX7_manyNow_225 : decode cX7_manyNow 225 = .ok (.bipush 11, 2) := by decide +kernel
theorem dX7_manyNow_227 : decode cX7_manyNow 227 = .ok (.aload_n 0, 1) := by decide +kernel
theorem dX7_manyNow_228 : decode cX7_manyNow 228 = .ok (.getfield 12, 3) := by decide +kernel
theorem dX7_manyNow_231 : decode cX7_manyNow 231 = .ok (.getfield 198, 3) := by decide +kernel
theorem dX7_manyNow_234 : decode cX7_manyNow 234 = .ok (.iastore, 1) := by decide +kernel
theorem dX7_manyNow_235 : decode cX7_manyNow 235 = .ok (.dup, 1) := by decide +kernel
theorem dX7_manyNow_236 : decode cX7_manyNow 236 = .ok (.bipush 12, 2) := by decide +kernel
theorem dX7_manyNow_238 : decode cX7_manyNow 238 = .ok (.iload_n 3, 1) := by decide +kernel
theorem dX7_manyNow_239 : decode cX7_manyNow 239 = .ok (.iastore, 1) := by decide +kernel
theorem dX7_manyNow_240 : decode cX7_manyNow 240 = .ok (.dup, 1) := by decide +kernel
theorem dX7_manyNow_241 : decode cX7_manyNow 241 = .ok (.bipush 13, 2) := by decide +kernel
theorem dX7_manyNow_243 : decode cX7_manyNow 243 = .ok (.aload_n 0, 1) := by decide +kernel
theorem dX7_manyNow_244 : decode cX7_manyNow 244 = .ok (.getfield 12, 3) := by decide +kernel
theorem dX7_manyNow_247 : decode cX7_manyNow 247 = .ok (.getfield 201, 3) := by decide +kernel
theorem dX7_manyNow_250 : decode cX7_manyNow 250 = .ok (.iastore, 1) := by decide +kernel
theorem dX7_manyNow_251 : decode cX7_manyNow 251 = .ok (.dup, 1) := by decide +kernel
theorem dX7_manyNow_252 : decode cX7_manyNow 252 = .ok (.bipush 14, 2) := by decide +kernel
theorem dX7_manyNow_254 : decode cX7_manyNow 254 = .ok (.iload 4, 2) := by decide +kernel
theorem dX7_manyNow_256 : decode cX7_manyNow 256 = .ok (.iastore, 1) := by decide +kernel
theorem dX7_manyNow_257 : decode cX7_manyNow 257 = .ok (.astore 5, 2) := by decide +kernel
theorem dX7_manyNow_259 : decode cX7_manyNow 259 = .ok (.aload 5, 2) := by decide +kernel
theorem dX7_manyNow_261 : decode cX7_manyNow 261 = .ok (.iload_n 1, 1) := by decide +kernel
theorem dX7_manyNow_262 : decode cX7_manyNow 262 = .ok (.iaload, 1) := by decide +kernel
theorem dX7_manyNow_263 : decode cX7_manyNow 263 = .ok (.ireturn, 1) := by decide +kernel
theorem dX7_many_0 : decode cX7_many 0 = .ok (.aload_n 0, 1) := by decide +kernel
theorem dX7_many_1 : decode cX7_many 1 = .ok (.iconst 0, 1) := by decide +kernel
theorem dX7_many_2 : decode cX7_many 2 = .ok (.putfield 23, 3) := by decide +kernel
theorem dX7_many_5 : decode cX7_many 5 = .ok (.iload_n 1, 1) := by decide +kernel
theorem dX7_many_6 : decode cX7_many 6 = .ok (.iconst 0, 1) := by decide +kernel
theorem dX7_many_7 : decode cX7_many 7 = .ok (.bipush 14, 2) := by decide +kernel
theorem dX7_many_9 : decode cX7_many 9 = .ok (.invokestatic 78, 3) := by decide +kernel
theorem dX7_many_12 : decode cX7_many 12 = .ok (.ifCond .eq 11, 3) := by decide +kernel
theorem dX7_many_15 : decode cX7_many 15 = .ok (.aload_n 0, 1) := by decide +kernel

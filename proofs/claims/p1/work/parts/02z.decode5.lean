theorem dX7_many_16 : decode cX7_many 16 = .ok (.iload_n 1, 1) := by decide +kernel
theorem dX7_many_17 : decode cX7_many 17 = .ok (.invokevirtual 204, 3) := by decide +kernel
theorem dX7_many_20 : decode cX7_many 20 = .ok (.goto 8, 3) := by decide +kernel
theorem dX7_many_23 : decode cX7_many 23 = .ok (.aload_n 0, 1) := by decide +kernel
theorem dX7_many_24 : decode cX7_many 24 = .ok (.iconst 1, 1) := by decide +kernel
theorem dX7_many_25 : decode cX7_many 25 = .ok (.invokevirtual 95, 3) := by decide +kernel
theorem dX7_many_28 : decode cX7_many 28 = .ok (.ireturn, 1) := by decide +kernel
theorem dX7_meanDepth_0 : decode cX7_meanDepth 0 = .ok (.aload_n 0, 1) := by decide +kernel
theorem dX7_meanDepth_1 : decode cX7_meanDepth 1 = .ok (.iconst 0, 1) := by decide +kernel
theorem dX7_meanDepth_2 : decode cX7_meanDepth 2 = .ok (.putfield 23, 3) := by decide +kernel
theorem dX7_meanDepth_5 : decode cX7_meanDepth 5 = .ok (.iconst 0, 1) := by decide +kernel
theorem dX7_meanDepth_6 : decode cX7_meanDepth 6 = .ok (.istore_n 1, 1) := by decide +kernel
theorem dX7_meanDepth_7 : decode cX7_meanDepth 7 = .ok (.aload_n 0, 1) := by decide +kernel
theorem dX7_meanDepth_8 : decode cX7_meanDepth 8 = .ok (.getfield 12, 3) := by decide +kernel
theorem dX7_meanDepth_11 : decode cX7_meanDepth 11 = .ok (.getfield 82, 3) := by decide +kernel
theorem dX7_meanDepth_14 : decode cX7_meanDepth 14 = .ok (.invokevirtual 175, 3) := by decide +kernel
theorem dX7_meanDepth_17 : decode cX7_meanDepth 17 = .ok (.astore_n 2, 1) := by decide +kernel
theorem dX7_meanDepth_18 : decode cX7_meanDepth 18 = .ok (.aload_n 2, 1) := by decide +kernel
theorem dX7_meanDepth_19 : decode cX7_meanDepth 19 = .ok (.invokeinterface 179 1, 5) := by decide +kernel
theorem dX7_meanDepth_24 : decode cX7_meanDepth 24 = .ok (.ifCond .eq 22, 3) := by decide +kernel
theorem dX7_meanDepth_27 : decode cX7_meanDepth 27 = .ok (.aload_n 2, 1) := by decide +kernel
theorem dX7_meanDepth_28 : decode cX7_meanDepth 28 = .ok (.invokeinterface 185 1, 5) := by decide +kernel
theorem dX7_meanDepth_33 : decode cX7_meanDepth 33 = .ok (.checkcast 89, 3) := by decide +kernel
theorem dX7_meanDepth_36 : decode cX7_meanDepth 36 = .ok (.astore_n 3, 1) := by decide +kernel
theorem dX7_meanDepth_37 : decode cX7_meanDepth 37 = .ok (.iload_n 1, 1) := by decide +kernel
theorem dX7_meanDepth_38 : decode cX7_meanDepth 38 = .ok (.aload_n 3, 1) := by decide +kernel
theorem dX7_meanDepth_39 : decode cX7_meanDepth 39 = .ok (.iconst 4, 1) := by decide +kernel
theorem dX7_meanDepth_40 : decode cX7_meanDepth 40 = .ok (.iaload, 1) := by decide +kernel
theorem dX7_meanDepth_41 : decode cX7_meanDepth 41 = .ok (.iadd, 1) := by decide +kernel
theorem dX7_meanDepth_42 : decode cX7_meanDepth 42 = .ok (.istore_n 1, 1) := by decide +kernel
theorem dX7_meanDepth_43 : decode cX7_meanDepth 43 = .ok (.goto (-25), 3) := by decide +kernel
theorem dX7_meanDepth_46 : decode cX7_meanDepth 46 = .ok (.iload_n 1, 1) := by decide +kernel
theorem dX7_meanDepth_47 : decode cX7_meanDepth 47 = .ok (.ifCond .ne 7, 3) := by decide +kernel
theorem dX7_meanDepth_50 : decode cX7_meanDepth 50 = .ok (.dconst 0, 1) := by decide +kernel
theorem dX7_meanDepth_51 : decode cX7_meanDepth 51 = .ok (.goto 13, 3) := by decide +kernel
theorem dX7_meanDepth_54 : decode cX7_meanDepth 54 = .ok (.aload_n 0, 1) := by decide +kernel
theorem dX7_meanDepth_55 : decode cX7_meanDepth 55 = .ok (.bipush 14, 2) := by decide +kernel
theorem dX7_meanDepth_57 : decode cX7_meanDepth 57 = .ok (.invokevirtual 204, 3) := by decide +kernel
theorem dX7_meanDepth_60 : decode cX7_meanDepth 60 = .ok (.i2d, 1) := by decide +kernel
theorem dX7_meanDepth_61 : decode cX7_meanDepth 61 = .ok (.iload_n 1, 1) := by decide +kernel
theorem dX7_meanDepth_62 : decode cX7_meanDepth 62 = .ok (.i2d, 1) := by decide +kernel
theorem dX7_meanDepth_63 : decode cX7_meanDepth 63 = .ok (.ddiv, 1) := by decide +kernel
theorem dX7_meanDepth_64 : decode cX7_meanDepth 64 = .ok (.dreturn, 1) := by decide +kernel
theorem dX7_wouldRisk_0 : decode cX7_wouldRisk 0 = .ok (.aload_n 0, 1) := by decide +kernel
theorem dX7_wouldRisk_1 : decode cX7_wouldRisk 1 = .ok (.iconst 0, 1) := by decide +kernel
theorem dX7_wouldRisk_2 : decode cX7_wouldRisk 2 = .ok (.putfield 23, 3) := by decide +kernel
theorem dX7_wouldRisk_5 : decode cX7_wouldRisk 5 = .ok (.aload_n 0, 1) := by decide +kernel
theorem dX7_wouldRisk_6 : decode cX7_wouldRisk 6 = .ok (.iload_n 1, 1) := by decide +kernel
theorem dX7_wouldRisk_7 : decode cX7_wouldRisk 7 = .ok (.invokevirtual 110, 3) := by decide +kernel
theorem dX7_wouldRisk_10 : decode cX7_wouldRisk 10 = .ok (.ifCond .ne 9, 3) := by decide +kernel
theorem dX7_wouldRisk_13 : decode cX7_wouldRisk 13 = .ok (.aload_n 0, 1) := by decide +kernel
theorem dX7_wouldRisk_14 : decode cX7_wouldRisk 14 = .ok (.iconst 1, 1) := by decide +kernel
theorem dX7_wouldRisk_15 : decode cX7_wouldRisk 15 = .ok (.invokevirtual 95, 3) := by decide +kernel
theorem dX7_wouldRisk_18 : decode cX7_wouldRisk 18 = .ok (.ireturn, 1) := by decide +kernel
theorem dX7_wouldRisk_19 : decode cX7_wouldRisk 19 = .ok (.iload_n 2, 1) := by decide +kernel
theorem dX7_wouldRisk_20 : decode cX7_wouldRisk 20 = .ok (.invokestatic 119, 3) := by decide +kernel
theorem dX7_wouldRisk_23 : decode cX7_wouldRisk 23 = .ok (.ifCond .eq 33, 3) := by decide +kernel
theorem dX7_wouldRisk_26 : decode cX7_wouldRisk 26 = .ok (.iload_n 3, 1) := by decide +kernel
theorem dX7_wouldRisk_27 : decode cX7_wouldRisk 27 = .ok (.invokestatic 122, 3) := by decide +kernel
theorem dX7_wouldRisk_30 : decode cX7_wouldRisk 30 = .ok (.ifCond .eq 26, 3) := by decide +kernel
theorem dX7_wouldRisk_33 : decode cX7_wouldRisk 33 = .ok (.iload 4, 2) := by decide +kernel
theorem dX7_wouldRisk_35 : decode cX7_wouldRisk 35 = .ok (.iconst 0, 1) := by decide +kernel
theorem dX7_wouldRisk_36 : decode cX7_wouldRisk 36 = .ok (.bipush 9, 2) := by decide +kernel
theorem dX7_wouldRisk_38 : decode cX7_wouldRisk 38 = .ok (.invokestatic 78, 3) := by decide +kernel
theorem dX7_wouldRisk_41 : decode cX7_wouldRisk 41 = .ok (.ifCond .eq 15, 3) := by decide +kernel
theorem dX7_wouldRisk_44 : decode cX7_wouldRisk 44 = .ok (.aload_n 0, 1) := by decide +kernel
theorem dX7_wouldRisk_45 : decode cX7_wouldRisk 45 = .ok (.iload_n 1, 1) := by decide +kernel
theorem dX7_wouldRisk_46 : decode cX7_wouldRisk 46 = .ok (.iload_n 2, 1) := by decide +kernel
theorem dX7_wouldRisk_47 : decode cX7_wouldRisk 47 = .ok (.iload_n 3, 1) := by decide +kernel
theorem dX7_wouldRisk_48 : decode cX7_wouldRisk 48 = .ok (.iload 4, 2) := by decide +kernel
theorem dX7_wouldRisk_50 : decode cX7_wouldRisk 50 = .ok (.invokevirtual 217, 3) := by decide +kernel
theorem dX7_wouldRisk_53 : decode cX7_wouldRisk 53 = .ok (.goto 8, 3) := by decide +kernel
theorem dX7_wouldRisk_56 : decode cX7_wouldRisk 56 = .ok (.aload_n 0, 1) := by decide +kernel
theorem dX7_wouldRisk_57 : decode cX7_wouldRisk 57 = .ok (.iconst 2, 1) := by decide +kernel
theorem dX7_wouldRisk_58 : decode cX7_wouldRisk 58 = .ok (.invokevirtual 95, 3) := by decide +kernel
theorem dX7_wouldRisk_61 : decode cX7_wouldRisk 61 = .ok (.ireturn, 1) := by decide +kernel
theorem dX7_wouldMake_0 : decode cX7_wouldMake 0 = .ok (.aload_n 0, 1) := by decide +kernel
theorem dX7_wouldMake_1 : decode cX7_wouldMake 1 = .ok (.iconst 0, 1) := by decide +kernel
theorem dX7_wouldMake_2 : decode cX7_wouldMake 2 = .ok (.putfield 23, 3) := by decide +kernel
theorem dX7_wouldMake_5 : decode cX7_wouldMake 5 = .ok (.aload_n 0, 1) := by decide +kernel
theorem dX7_wouldMake_6 : decode cX7_wouldMake 6 = .ok (.iload_n 1, 1) := by decide +kernel
theorem dX7_wouldMake_7 : decode cX7_wouldMake 7 = .ok (.invokevirtual 110, 3) := by decide +kernel
theorem dX7_wouldMake_10 : decode cX7_wouldMake 10 = .ok (.ifCond .ne 9, 3) := by decide +kernel
theorem dX7_wouldMake_13 : decode cX7_wouldMake 13 = .ok (.aload_n 0, 1) := by decide +kernel
theorem dX7_wouldMake_14 : decode cX7_wouldMake 14 = .ok (.iconst 1, 1) := by decide +kernel
theorem dX7_wouldMake_15 : decode cX7_wouldMake 15 = .ok (.invokevirtual 95, 3) := by decide +kernel
theorem dX7_wouldMake_18 : decode cX7_wouldMake 18 = .ok (.ireturn, 1) := by decide +kernel
theorem dX7_wouldMake_19 : decode cX7_wouldMake 19 = .ok (.iload_n 2, 1) := by decide +kernel
theorem dX7_wouldMake_20 : decode cX7_wouldMake 20 = .ok (.invokestatic 119, 3) := by decide +kernel
theorem dX7_wouldMake_23 : decode cX7_wouldMake 23 = .ok (.ifCond .eq 33, 3) := by decide +kernel
theorem dX7_wouldMake_26 : decode cX7_wouldMake 26 = .ok (.iload_n 3, 1) := by decide +kernel
theorem dX7_wouldMake_27 : decode cX7_wouldMake 27 = .ok (.invokestatic 122, 3) := by decide +kernel
theorem dX7_wouldMake_30 : decode cX7_wouldMake 30 = .ok (.ifCond .eq 26, 3) := by decide +kernel
theorem dX7_wouldMake_33 : decode cX7_wouldMake 33 = .ok (.iload 4, 2) := by decide +kernel
theorem dX7_wouldMake_35 : decode cX7_wouldMake 35 = .ok (.iconst 0, 1) := by decide +kernel
theorem dX7_wouldMake_36 : decode cX7_wouldMake 36 = .ok (.bipush 100, 2) := by decide +kernel
theorem dX7_wouldMake_38 : decode cX7_wouldMake 38 = .ok (.invokestatic 78, 3) := by decide +kernel
theorem dX7_wouldMake_41 : decode cX7_wouldMake 41 = .ok (.ifCond .eq 15, 3) := by decide +kernel
theorem dX7_wouldMake_44 : decode cX7_wouldMake 44 = .ok (.aload_n 0, 1) := by decide +kernel
theorem dX7_wouldMake_45 : decode cX7_wouldMake 45 = .ok (.iload_n 1, 1) := by decide +kernel
theorem dX7_wouldMake_46 : decode cX7_wouldMake 46 = .ok (.iload_n 2, 1) := by decide +kernel
theorem dX7_wouldMake_47 : decode cX7_wouldMake 47 = .ok (.iload_n 3, 1) := by decide +kernel
theorem dX7_wouldMake_48 : decode cX7_wouldMake 48 = .ok (.iload 4, 2) := by decide +kernel
theorem dX7_wouldMake_50 : decode cX7_wouldMake 50 = .ok (.invokevirtual 224, 3) := by decide +kernel
theorem dX7_wouldMake_53 : decode cX7_wouldMake 53 = .ok (.goto 8, 3) := by decide +kernel
theorem dX7_wouldMake_56 : decode cX7_wouldMake 56 = .ok (.aload_n 0, 1) := by decide +kernel
theorem dX7_wouldMake_57 : decode cX7_wouldMake 57 = .ok (.iconst 2, 1) := by decide +kernel
theorem dX7_wouldMake_58 : decode cX7_wouldMake 58 = .ok (.invokevirtual 95, 3) := by decide +kernel
theorem dX7_wouldMake_61 : decode cX7_wouldMake 61 = .ok (.ireturn, 1) := by decide +kernel
theorem dX7_nextNow_0 : decode cX7_nextNow 0 = .ok (.iconst (-1), 1) := by decide +kernel
theorem dX7_nextNow_1 : decode cX7_nextNow 1 = .ok (.istore_n 1, 1) := by decide +kernel
theorem dX7_nextNow_2 : decode cX7_nextNow 2 = .ok (.iconst 0, 1) := by decide +kernel
theorem dX7_nextNow_3 : decode cX7_nextNow 3 = .ok (.istore_n 2, 1) := by decide +kernel
theorem dX7_nextNow_4 : decode cX7_nextNow 4 = .ok (.iload_n 2, 1) := by decide +kernel
theorem dX7_nextNow_5 : decode cX7_nextNow 5 = .ok (.aload_n 0, 1) := by decide +kernel
theorem dX7_nextNow_6 : decode cX7_nextNow 6 = .ok (.getfield 12, 3) := by decide +kernel
theorem dX7_nextNow_9 : decode cX7_nextNow 9 = .ok (.getfield 82, 3) := by decide +kernel
theorem dX7_nextNow_12 : decode cX7_nextNow 12 = .ok (.invokevirtual 72, 3) := by decide +kernel
theorem dX7_nextNow_15 : decode cX7_nextNow 15 = .ok (.if_icmp .ge 63, 3) := by decide +kernel
theorem dX7_nextNow_18 : decode cX7_nextNow 18 = .ok (.aload_n 0, 1) := by decide +kernel
theorem dX7_nextNow_19 : decode cX7_nextNow 19 = .ok (.iload_n 2, 1) := by decide +kernel
theorem dX7_nextNow_20 : decode cX7_nextNow 20 = .ok (.invokevirtual 91, 3) := by decide +kernel
theorem dX7_nextNow_23 : decode cX7_nextNow 23 = .ok (.astore_n 3, 1) := by decide +kernel
theorem dX7_nextNow_24 : decode cX7_nextNow 24 = .ok (.aload_n 3, 1) := by decide +kernel
theorem dX7_nextNow_25 : decode cX7_nextNow 25 = .ok (.iconst 5, 1) := by decide +kernel
theorem dX7_nextNow_26 : decode cX7_nextNow 26 = .ok (.iaload, 1) := by decide +kernel
theorem dX7_nextNow_27 : decode cX7_nextNow 27 = .ok (.iconst 1, 1) := by decide +kernel
theorem dX7_nextNow_28 : decode cX7_nextNow 28 = .ok (.if_icmp .eq 44, 3) := by decide +kernel
theorem dX7_nextNow_31 : decode cX7_nextNow 31 = .ok (.aload_n 3, 1) := by decide +kernel
theorem dX7_nextNow_32 : decode cX7_nextNow 32 = .ok (.bipush 7, 2) := by decide +kernel
theorem dX7_nextNow_34 : decode cX7_nextNow 34 = .ok (.iaload, 1) := by decide +kernel
theorem dX7_nextNow_35 : decode cX7_nextNow 35 = .ok (.ifCond .gt 37, 3) := by decide +kernel
theorem dX7_nextNow_38 : decode cX7_nextNow 38 = .ok (.aload_n 3, 1) := by decide +kernel
theorem dX7_nextNow_39 : decode cX7_nextNow 39 = .ok (.invokestatic 138, 3) := by decide +kernel
theorem dX7_nextNow_42 : decode cX7_nextNow 42 = .ok (.bipush 40, 2) := by decide +kernel
theorem dX7_nextNow_44 : decode cX7_nextNow 44 = .ok (.if_icmp .ge 6, 3) := by decide +kernel
theorem dX7_nextNow_47 : decode cX7_nextNow 47 = .ok (.goto 25, 3) := by decide +kernel
theorem dX7_nextNow_50 : decode cX7_nextNow 50 = .ok (.iload_n 1, 1) := by decide +kernel
theorem dX7_nextNow_51 : decode cX7_nextNow 51 = .ok (.iconst (-1), 1) := by decide +kernel
theorem dX7_nextNow_52 : decode cX7_nextNow 52 = .ok (.if_icmp .eq 18, 3) := by decide +kernel
theorem dX7_nextNow_55 : decode cX7_nextNow 55 = .ok (.aload_n 3, 1) := by decide +kernel
theorem dX7_nextNow_56 : decode cX7_nextNow 56 = .ok (.invokestatic 227, 3) := by decide +kernel
theorem dX7_nextNow_59 : decode cX7_nextNow 59 = .ok (.aload_n 0, 1) := by decide +kernel
theorem dX7_nextNow_60 : decode cX7_nextNow 60 = .ok (.iload_n 1, 1) := by decide +kernel
theorem dX7_nextNow_61 : decode cX7_nextNow 61 = .ok (.invokevirtual 91, 3) := by decide +kernel
theorem dX7_nextNow_64 : decode cX7_nextNow 64 = .ok (.invokestatic 227, 3) := by decide +kernel
theorem dX7_nextNow_67 : decode cX7_nextNow 67 = .ok (.if_icmp .le 5, 3) := by decide +kernel
theorem dX7_nextNow_70 : decode cX7_nextNow 70 = .ok (.iload_n 2, 1) := by decide +kernel
theorem dX7_nextNow_71 : decode cX7_nextNow 71 = .ok (.istore_n 1, 1) := by decide +kernel
theorem dX7_nextNow_72 : decode cX7_nextNow 72 = .ok (.iinc 2 1, 3) := by decide +kernel
theorem dX7_nextNow_75 : decode cX7_nextNow 75 = .ok (.goto (-71), 3) := by decide +kernel
theorem dX7_nextNow_78 : decode cX7_nextNow 78 = .ok (.iload_n 1, 1) := by decide +kernel
theorem dX7_nextNow_79 : decode cX7_nextNow 79 = .ok (.ireturn, 1) := by decide +kernel
theorem dX7_nextBlast_0 : decode cX7_nextBlast 0 = .ok (.aload_n 0, 1) := by decide +kernel
theorem dX7_nextBlast_1 : decode cX7_nextBlast 1 = .ok (.iconst 0, 1) := by decide +kernel
theorem dX7_nextBlast_2 : decode cX7_nextBlast 2 = .ok (.putfield 23, 3) := by decide +kernel
theorem dX7_nextBlast_5 : decode cX7_nextBlast 5 = .ok (.aload_n 0, 1) := by decide +kernel
theorem dX7_nextBlast_6 : decode cX7_nextBlast 6 = .ok (.invokevirtual 229, 3) := by decide +kernel
theorem dX7_nextBlast_9 : decode cX7_nextBlast 9 = .ok (.ireturn, 1) := by decide +kernel
theorem dX7_couldNow_0 : decode cX7_couldNow 0 = .ok (.iconst 0, 1) := by decide +kernel
theorem dX7_couldNow_1 : decode cX7_couldNow 1 = .ok (.istore_n 1, 1) := by decide +kernel
theorem dX7_couldNow_2 : decode cX7_couldNow 2 = .ok (.iconst 0, 1) := by decide +kernel
theorem dX7_couldNow_3 : decode cX7_couldNow 3 = .ok (.istore_n 2, 1) := by decide +kernel
theorem dX7_couldNow_4 : decode cX7_couldNow 4 = .ok (.iload_n 2, 1) := by decide +kernel
theorem dX7_couldNow_5 : decode cX7_couldNow 5 = .ok (.aload_n 0, 1) := by decide +kernel
theorem dX7_couldNow_6 : decode cX7_couldNow 6 = .ok (.getfield 12, 3) := by decide +kernel
theorem dX7_couldNow_9 : decode cX7_couldNow 9 = .ok (.getfield 82, 3) := by decide +kernel
theorem dX7_couldNow_12 : decode cX7_couldNow 12 = .ok (.invokevirtual 72, 3) := by decide +kernel
theorem dX7_couldNow_15 : decode cX7_couldNow 15 = .ok (.if_icmp .ge 56, 3) := by decide +kernel
theorem dX7_couldNow_18 : decode cX7_couldNow 18 = .ok (.aload_n 0, 1) := by decide +kernel
theorem dX7_couldNow_19 : decode cX7_couldNow 19 = .ok (.iload_n 2, 1) := by decide +kernel
theorem dX7_couldNow_20 : decode cX7_couldNow 20 = .ok (.invokevirtual 159, 3) := by decide +kernel
theorem dX7_couldNow_23 : decode cX7_couldNow 23 = .ok (.ifCond .eq 18, 3) := by decide +kernel
theorem dX7_couldNow_26 : decode cX7_couldNow 26 = .ok (.aload_n 0, 1) := by decide +kernel
theorem dX7_couldNow_27 : decode cX7_couldNow 27 = .ok (.iload_n 2, 1) := by decide +kernel
theorem dX7_couldNow_28 : decode cX7_couldNow 28 = .ok (.iconst 1, 1) := by decide +kernel
theorem dX7_couldNow_29 : decode cX7_couldNow 29 = .ok (.aload_n 0, 1) := by decide +kernel
theorem dX7_couldNow_30 : decode cX7_couldNow 30 = .ok (.iload_n 2, 1) := by decide +kernel
theorem dX7_couldNow_31 : decode cX7_couldNow 31 = .ok (.invokevirtual 147, 3) := by decide +kernel
theorem dX7_couldNow_34 : decode cX7_couldNow 34 = .ok (.iconst 1, 1) := by decide +kernel
theorem dX7_couldNow_35 : decode cX7_couldNow 35 = .ok (.invokevirtual 155, 3) := by decide +kernel
theorem dX7_couldNow_38 : decode cX7_couldNow 38 = .ok (.ifCond .ne 7, 3) := by decide +kernel
theorem dX7_couldNow_41 : decode cX7_couldNow 41 = .ok (.iconst 1, 1) := by decide +kernel
theorem dX7_couldNow_42 : decode cX7_couldNow 42 = .ok (.goto 4, 3) := by decide +kernel
theorem dX7_couldNow_45 : decode cX7_couldNow 45 = .ok (.iconst 0, 1) := by decide +kernel
theorem dX7_couldNow_46 : decode cX7_couldNow 46 = .ok (.istore_n 3, 1) := by decide +kernel
theorem dX7_couldNow_47 : decode cX7_couldNow 47 = .ok (.aload_n 0, 1) := by decide +kernel
theorem dX7_couldNow_48 : decode cX7_couldNow 48 = .ok (.iload_n 2, 1) := by decide +kernel
theorem dX7_couldNow_49 : decode cX7_couldNow 49 = .ok (.invokevirtual 132, 3) := by decide +kernel
theorem dX7_couldNow_52 : decode cX7_couldNow 52 = .ok (.ifCond .ne 13, 3) := by decide +kernel
theorem dX7_couldNow_55 : decode cX7_couldNow 55 = .ok (.iload_n 3, 1) := by decide +kernel
theorem dX7_couldNow_56 : decode cX7_couldNow 56 = .ok (.ifCond .eq 9, 3) := by decide +kernel
theorem dX7_couldNow_59 : decode cX7_couldNow 59 = .ok (.iload_n 1, 1) := by decide +kernel
theorem dX7_couldNow_60 : decode cX7_couldNow 60 = .ok (.iconst 1, 1) := by decide +kernel
theorem dX7_couldNow_61 : decode cX7_couldNow 61 = .ok (.iload_n 2, 1) := by decide +kernel
theorem dX7_couldNow_62 : decode cX7_couldNow 62 = .ok (.ishl, 1) := by decide +kernel
theorem dX7_couldNow_63 : decode cX7_couldNow 63 = .ok (.ior, 1) := by decide +kernel
theorem dX7_couldNow_64 : decode cX7_couldNow 64 = .ok (.istore_n 1, 1) := by decide +kernel
theorem dX7_couldNow_65 : decode cX7_couldNow 65 = .ok (.iinc 2 1, 3) := by decide +kernel
theorem dX7_couldNow_68 : decode cX7_couldNow 68 = .ok (.goto (-64), 3) := by decide +kernel
theorem dX7_couldNow_71 : decode cX7_couldNow 71 = .ok (.iload_n 1, 1) := by decide +kernel
theorem dX7_couldNow_72 : decode cX7_couldNow 72 = .ok (.ireturn, 1) := by decide +kernel
theorem dX7_couldOpen_0 : decode cX7_couldOpen 0 = .ok (.aload_n 0, 1) := by decide +kernel
theorem dX7_couldOpen_1 : decode cX7_couldOpen 1 = .ok (.iconst 0, 1) := by decide +kernel
theorem dX7_couldOpen_2 : decode cX7_couldOpen 2 = .ok (.putfield 23, 3) := by decide +kernel
theorem dX7_couldOpen_5 : decode cX7_couldOpen 5 = .ok (.aload_n 0, 1) := by decide +kernel
theorem dX7_couldOpen_6 : decode cX7_couldOpen 6 = .ok (.invokevirtual 232, 3) := by decide +kernel
theorem dX7_couldOpen_9 : decode cX7_couldOpen 9 = .ok (.ireturn, 1) := by decide +kernel
theorem dX7_add__0 : decode cX7_add_ 0 = .ok (.aload_n 0, 1) := by decide +kernel
theorem dX7_add__1 : decode cX7_add_ 1 = .ok (.aload_n 0, 1) := by decide +kernel
theorem dX7_add__2 : decode cX7_add_ 2 = .ok (.getfield 235, 3) := by decide +kernel
theorem dX7_add__5 : decode cX7_add_ 5 = .ok (.ldc2_w 239, 3) := by decide +kernel
theorem dX7_add__8 : decode cX7_add_ 8 = .ok (.lmul, 1) := by decide +kernel
theorem dX7_add__9 : decode cX7_add_ 9 = .ok (.iload_n 1, 1) := by decide +kernel
theorem dX7_add__10 : decode cX7_add_ 10 = .ok (.i2l, 1) := by decide +kernel
theorem dX7_add__11 : decode cX7_add_ 11 = .ok (.ladd, 1) := by decide +kernel
theorem dX7_add__12 : decode cX7_add_ 12 = .ok (.putfield 235, 3) := by decide +kernel
theorem dX7_add__15 : decode cX7_add_ 15 = .ok (.return_, 1) := by decide +kernel
theorem dX7_digest_0 : decode cX7_digest 0 = .ok (.aload_n 0, 1) := by decide +kernel
theorem dX7_digest_1 : decode cX7_digest 1 = .ok (.iconst 0, 1) := by decide +kernel
theorem dX7_digest_2 : decode cX7_digest 2 = .ok (.putfield 23, 3) := by decide +kernel
theorem dX7_digest_5 : decode cX7_digest 5 = .ok (.aload_n 0, 1) := by decide +kernel
theorem dX7_digest_6 : decode cX7_digest 6 = .ok (.ldc2_w 241, 3) := by decide +kernel
theorem dX7_digest_9 : decode cX7_digest 9 = .ok (.putfield 235, 3) := by decide +kernel
theorem dX7_digest_12 : decode cX7_digest 12 = .ok (.iconst 0, 1) := by decide +kernel
theorem dX7_digest_13 : decode cX7_digest 13 = .ok (.istore_n 1, 1) := by decide +kernel
theorem dX7_digest_14 : decode cX7_digest 14 = .ok (.iload_n 1, 1) := by decide +kernel
theorem dX7_digest_15 : decode cX7_digest 15 = .ok (.bipush 15, 2) := by decide +kernel
theorem dX7_digest_17 : decode cX7_digest 17 = .ok (.if_icmp .ge 18, 3) := by decide +kernel
theorem dX7_digest_20 : decode cX7_digest 20 = .ok (.aload_n 0, 1) := by decide +kernel
theorem dX7_digest_21 : decode cX7_digest 21 = .ok (.aload_n 0, 1) := by decide +kernel
theorem dX7_digest_22 : decode cX7_digest 22 = .ok (.iload_n 1, 1) := by decide +kernel
theorem dX7_digest_23 : decode cX7_digest 23 = .ok (.invokevirtual 204, 3) := by decide +kernel
theorem dX7_digest_26 : decode cX7_digest 26 = .ok (.invokevirtual 243, 3) := by decide +kernel
theorem dX7_digest_29 : decode cX7_digest 29 = .ok (.iinc 1 1, 3) := by decide +kernel
theorem dX7_digest_32 : decode cX7_digest 32 = .ok (.goto (-18), 3) := by decide +kernel
theorem dX7_digest_35 : decode cX7_digest 35 = .ok (.iconst 0, 1) := by decide +kernel
theorem dX7_digest_36 : decode cX7_digest 36 = .ok (.istore_n 1, 1) := by decide +kernel
theorem dX7_digest_37 : decode cX7_digest 37 = .ok (.iload_n 1, 1) := by decide +kernel
theorem dX7_digest_38 : decode cX7_digest 38 = .ok (.aload_n 0, 1) := by decide +kernel
theorem dX7_digest_39 : decode cX7_digest 39 = .ok (.getfield 12, 3) := by decide +kernel
theorem dX7_digest_42 : decode cX7_digest 42 = .ok (.getfield 82, 3) := by decide +kernel
theorem dX7_digest_45 : decode cX7_digest 45 = .ok (.invokevirtual 72, 3) := by decide +kernel
theorem dX7_digest_48 : decode cX7_digest 48 = .ok (.if_icmp .ge 96, 3) := by decide +kernel
theorem dX7_digest_51 : decode cX7_digest 51 = .ok (.iconst 0, 1) := by decide +kernel
theorem dX7_digest_52 : decode cX7_digest 52 = .ok (.istore_n 2, 1) := by decide +kernel
theorem dX7_digest_53 : decode cX7_digest 53 = .ok (.iload_n 2, 1) := by decide +kernel
theorem dX7_digest_54 : decode cX7_digest 54 = .ok (.bipush 14, 2) := by decide +kernel
theorem dX7_digest_56 : decode cX7_digest 56 = .ok (.if_icmp .ge 19, 3) := by decide +kernel
theorem dX7_digest_59 : decode cX7_digest 59 = .ok (.aload_n 0, 1) := by decide +kernel
theorem dX7_digest_60 : decode cX7_digest 60 = .ok (.aload_n 0, 1) := by decide +kernel
theorem dX7_digest_61 : decode cX7_digest 61 = .ok (.iload_n 1, 1) := by decide +kernel
theorem dX7_digest_62 : decode cX7_digest 62 = .ok (.iload_n 2, 1) := by decide +kernel
theorem dX7_digest_63 : decode cX7_digest 63 = .ok (.invokevirtual 166, 3) := by decide +kernel
theorem dX7_digest_66 : decode cX7_digest 66 = .ok (.invokevirtual 243, 3) := by decide +kernel
theorem dX7_digest_69 : decode cX7_digest 69 = .ok (.iinc 2 1, 3) := by decide +kernel
theorem dX7_digest_72 : decode cX7_digest 72 = .ok (.goto (-19), 3) := by decide +kernel
theorem dX7_digest_75 : decode cX7_digest 75 = .ok (.aload_n 0, 1) := by decide +kernel
theorem dX7_digest_76 : decode cX7_digest 76 = .ok (.iload_n 1, 1) := by decide +kernel
theorem dX7_digest_77 : decode cX7_digest 77 = .ok (.invokevirtual 91, 3) := by decide +kernel
theorem dX7_digest_80 : decode cX7_digest 80 = .ok (.astore_n 2, 1) := by decide +kernel
theorem dX7_digest_81 : decode cX7_digest 81 = .ok (.iconst 0, 1) := by decide +kernel
theorem dX7_digest_82 : decode cX7_digest 82 = .ok (.istore_n 3, 1) := by decide +kernel
theorem dX7_digest_83 : decode cX7_digest 83 = .ok (.iload_n 3, 1) := by decide +kernel
theorem dX7_digest_84 : decode cX7_digest 84 = .ok (.iconst 3, 1) := by decide +kernel
theorem dX7_digest_85 : decode cX7_digest 85 = .ok (.aload_n 2, 1) := by decide +kernel
theorem dX7_digest_86 : decode cX7_digest 86 = .ok (.bipush 18, 2) := by decide +kernel
theorem dX7_digest_88 : decode cX7_digest 88 = .ok (.iaload, 1) := by decide +kernel
theorem dX7_digest_89 : decode cX7_digest 89 = .ok (.imul, 1) := by decide +kernel
theorem dX7_digest_90 : decode cX7_digest 90 = .ok (.if_icmp .ge 19, 3) := by decide +kernel
theorem dX7_digest_93 : decode cX7_digest 93 = .ok (.aload_n 0, 1) := by decide +kernel
theorem dX7_digest_94 : decode cX7_digest 94 = .ok (.aload_n 2, 1) := by decide +kernel
theorem dX7_digest_95 : decode cX7_digest 95 = .ok (.bipush 19, 2) := by decide +kernel
theorem dX7_digest_97 : decode cX7_digest 97 = .ok (.iload_n 3, 1) := by decide +kernel
theorem dX7_digest_98 : decode cX7_digest 98 = .ok (.iadd, 1) := by decide +kernel
theorem dX7_digest_99 : decode cX7_digest 99 = .ok (.iaload, 1) := by decide +kernel
theorem dX7_digest_100 : decode cX7_digest 100 = .ok (.invokevirtual 243, 3) := by decide +kernel
theorem dX7_digest_103 : decode cX7_digest 103 = .ok (.iinc 3 1, 3) := by decide +kernel
theorem dX7_digest_106 : decode cX7_digest 106 = .ok (.goto (-23), 3) := by decide +kernel
theorem dX7_digest_109 : decode cX7_digest 109 = .ok (.aload_n 0, 1) := by decide +kernel
theorem dX7_digest_110 : decode cX7_digest 110 = .ok (.aload_n 0, 1) := by decide +kernel
theorem dX7_digest_111 : decode cX7_digest 111 = .ok (.iload_n 1, 1) := by decide +kernel
theorem dX7_digest_112 : decode cX7_digest 112 = .ok (.bipush 12, 2) := by decide +kernel
theorem dX7_digest_114 : decode cX7_digest 114 = .ok (.bipush (-6), 2) := by decide +kernel
theorem dX7_digest_116 : decode cX7_digest 116 = .ok (.iconst 3, 1) := by decide +kernel
theorem dX7_digest_117 : decode cX7_digest 117 = .ok (.invokevirtual 217, 3) := by decide +kernel
theorem dX7_digest_120 : decode cX7_digest 120 = .ok (.invokevirtual 243, 3) := by decide +kernel
theorem dX7_digest_123 : decode cX7_digest 123 = .ok (.aload_n 0, 1) := by decide +kernel
theorem dX7_digest_124 : decode cX7_digest 124 = .ok (.aload_n 0, 1) := by decide +kernel
theorem dX7_digest_125 : decode cX7_digest 125 = .ok (.iload_n 1, 1) := by decide +kernel
theorem dX7_digest_126 : decode cX7_digest 126 = .ok (.bipush 9, 2) := by decide +kernel
theorem dX7_digest_128 : decode cX7_digest 128 = .ok (.bipush (-9), 2) := by decide +kernel
theorem dX7_digest_130 : decode cX7_digest 130 = .ok (.bipush 60, 2) := by decide +kernel
theorem dX7_digest_132 : decode cX7_digest 132 = .ok (.invokevirtual 224, 3) := by decide +kernel
theorem dX7_digest_135 : decode cX7_digest 135 = .ok (.invokevirtual 243, 3) := by decide +kernel
theorem dX7_digest_138 : decode cX7_digest 138 = .ok (.iinc 1 1, 3) := by decide +kernel
theorem dX7_digest_141 : decode cX7_digest 141 = .ok (.goto (-104), 3) := by decide +kernel
theorem dX7_digest_144 : decode cX7_digest 144 = .ok (.iconst 0, 1) := by decide +kernel
theorem dX7_digest_145 : decode cX7_digest 145 = .ok (.istore_n 1, 1) := by decide +kernel
theorem dX7_digest_146 : decode cX7_digest 146 = .ok (.iload_n 1, 1) := by decide +kernel
theorem dX7_digest_147 : decode cX7_digest 147 = .ok (.aload_n 0, 1) := by decide +kernel
theorem dX7_digest_148 : decode cX7_digest 148 = .ok (.getfield 12, 3) := by decide +kernel
theorem dX7_digest_151 : decode cX7_digest 151 = .ok (.getfield 68, 3) := by decide +kernel
theorem dX7_digest_154 : decode cX7_digest 154 = .ok (.invokevirtual 72, 3) := by decide +kernel
theorem dX7_digest_157 : decode cX7_digest 157 = .ok (.if_icmp .ge 33, 3) := by decide +kernel
theorem dX7_digest_160 : decode cX7_digest 160 = .ok (.iconst 0, 1) := by decide +kernel
theorem dX7_digest_161 : decode cX7_digest 161 = .ok (.istore_n 2, 1) := by decide +kernel
theorem dX7_digest_162 : decode cX7_digest 162 = .ok (.iload_n 2, 1) := by decide +kernel
theorem dX7_digest_163 : decode cX7_digest 163 = .ok (.bipush 6, 2) := by decide +kernel
theorem dX7_digest_165 : decode cX7_digest 165 = .ok (.if_icmp .ge 19, 3) := by decide +kernel
theorem dX7_digest_168 : decode cX7_digest 168 = .ok (.aload_n 0, 1) := by decide +kernel
theorem dX7_digest_169 : decode cX7_digest 169 = .ok (.aload_n 0, 1) := by decide +kernel
theorem dX7_digest_170 : decode cX7_digest 170 = .ok (.iload_n 1, 1) := by decide +kernel
theorem dX7_digest_171 : decode cX7_digest 171 = .ok (.iload_n 2, 1) := by decide +kernel
theorem dX7_digest_172 : decode cX7_digest 172 = .ok (.invokevirtual 172, 3) := by decide +kernel
theorem dX7_digest_175 : decode cX7_digest 175 = .ok (.invokevirtual 243, 3) := by decide +kernel
theorem dX7_digest_178 : decode cX7_digest 178 = .ok (.iinc 2 1, 3) := by decide +kernel
theorem dX7_digest_181 : decode cX7_digest 181 = .ok (.goto (-19), 3) := by decide +kernel
theorem dX7_digest_184 : decode cX7_digest 184 = .ok (.iinc 1 1, 3) := by decide +kernel
theorem dX7_digest_187 : decode cX7_digest 187 = .ok (.goto (-41), 3) := by decide +kernel
theorem dX7_digest_190 : decode cX7_digest 190 = .ok (.aload_n 0, 1) := by decide +kernel
theorem dX7_digest_191 : decode cX7_digest 191 = .ok (.aload_n 0, 1) := by decide +kernel
theorem dX7_digest_192 : decode cX7_digest 192 = .ok (.invokevirtual 229, 3) := by decide +kernel
theorem dX7_digest_195 : decode cX7_digest 195 = .ok (.invokevirtual 243, 3) := by decide +kernel
theorem dX7_digest_198 : decode cX7_digest 198 = .ok (.aload_n 0, 1) := by decide +kernel
theorem dX7_digest_199 : decode cX7_digest 199 = .ok (.aload_n 0, 1) := by decide +kernel
theorem dX7_digest_200 : decode cX7_digest 200 = .ok (.invokevirtual 232, 3) := by decide +kernel
theorem dX7_digest_203 : decode cX7_digest 203 = .ok (.invokevirtual 243, 3) := by decide +kernel
theorem dX7_digest_206 : decode cX7_digest 206 = .ok (.aload_n 0, 1) := by decide +kernel
theorem dX7_digest_207 : decode cX7_digest 207 = .ok (.getfield 235, 3) := by decide +kernel
theorem dX7_digest_210 : decode cX7_digest 210 = .ok (.lreturn, 1) := by decide +kernel
theorem dJxa1e45_init_da8c8_0 : decode cJxa1e45_init_da8c8 0 = .ok (.aload_n 0, 1) := by decide +kernel
theorem dJxa1e45_init_da8c8_1 : decode cJxa1e45_init_da8c8 1 = .ok (.invokespecial 1, 3) := by decide +kernel
theorem dJxa1e45_init_da8c8_4 : decode cJxa1e45_init_da8c8 4 = .ok (.return_, 1) := by decide +kernel
theorem dJxc12de_init_da8c8_0 : decode cJxc12de_init_da8c8 0 = .ok (.aload_n 0, 1) := by decide +kernel
theorem dJxc12de_init_da8c8_1 : decode cJxc12de_init_da8c8 1 = .ok (.invokespecial 1, 3) := by decide +kernel
theorem dJxc12de_init_da8c8_4 : decode cJxc12de_init_da8c8 4 = .ok (.aload_n 0, 1) := by decide +kernel
theorem dJxc12de_init_da8c8_5 : decode cJxc12de_init_da8c8 5 = .ok (.iconst 0, 1) := by decide +kernel
theorem dJxc12de_init_da8c8_6 : decode cJxc12de_init_da8c8 6 = .ok (.putfield 7, 3) := by decide +kernel
theorem dJxc12de_init_da8c8_9 : decode cJxc12de_init_da8c8 9 = .ok (.return_, 1) := by decide +kernel
theorem dJx35411_init_45d68_0 : decode cJx35411_init_45d68 0 = .ok (.aload_n 0, 1) := by decide +kernel
theorem dJx35411_init_45d68_1 : decode cJx35411_init_45d68 1 = .ok (.aload_n 1, 1) := by decide +kernel
theorem dJx35411_init_45d68_2 : decode cJx35411_init_45d68 2 = .ok (.putfield 1, 3) := by decide +kernel
theorem dJx35411_init_45d68_5 : decode cJx35411_init_45d68 5 = .ok (.aload_n 0, 1) := by decide +kernel
theorem dJx35411_init_45d68_6 : decode cJx35411_init_45d68 6 = .ok (.invokespecial 7, 3) := by decide +kernel
theorem dJx35411_init_45d68_9 : decode cJx35411_init_45d68 9 = .ok (.aload_n 0, 1) := by decide +kernel
theorem dJx35411_init_45d68_10 : decode cJx35411_init_45d68 10 = .ok (.iconst (-1), 1) := by decide +kernel
theorem dJx35411_init_45d68_11 : decode cJx35411_init_45d68 11 = .ok (.putfield 13, 3) := by decide +kernel
theorem dJx35411_init_45d68_14 : decode cJx35411_init_45d68 14 = .ok (.aload_n 0, 1) := by decide +kernel
theorem dJx35411_init_45d68_15 : decode cJx35411_init_45d68 15 = .ok (.aload_n 0, 1) := by decide +kernel
theorem dJx35411_init_45d68_16 : decode cJx35411_init_45d68 16 = .ok (.getfield 1, 3) := by decide +kernel
theorem dJx35411_init_45d68_19 : decode cJx35411_init_45d68 19 = .ok (.getfield 17, 3) := by decide +kernel
theorem dJx35411_init_45d68_22 : decode cJx35411_init_45d68 22 = .ok (.putfield 22, 3) := by decide +kernel
theorem dJx35411_init_45d68_25 : decode cJx35411_init_45d68 25 = .ok (.return_, 1) := by decide +kernel
theorem dJx35411_hasNext_aae02_0 : decode cJx35411_hasNext_aae02 0 = .ok (.aload_n 0, 1) := by decide +kernel
theorem dJx35411_hasNext_aae02_1 : decode cJx35411_hasNext_aae02 1 = .ok (.getfield 25, 3) := by decide +kernel
theorem dJx35411_hasNext_aae02_4 : decode cJx35411_hasNext_aae02 4 = .ok (.aload_n 0, 1) := by decide +kernel
theorem dJx35411_hasNext_aae02_5 : decode cJx35411_hasNext_aae02 5 = .ok (.getfield 1, 3) := by decide +kernel
theorem dJx35411_hasNext_aae02_8 : decode cJx35411_hasNext_aae02 8 = .ok (.getfield 28, 3) := by decide +kernel
theorem dJx35411_hasNext_aae02_11 : decode cJx35411_hasNext_aae02 11 = .ok (.if_icmp .eq 7, 3) := by decide +kernel
theorem dJx35411_hasNext_aae02_14 : decode cJx35411_hasNext_aae02 14 = .ok (.iconst 1, 1) := by decide +kernel
theorem dJx35411_hasNext_aae02_15 : decode cJx35411_hasNext_aae02 15 = .ok (.goto 4, 3) := by decide +kernel
theorem dJx35411_hasNext_aae02_18 : decode cJx35411_hasNext_aae02 18 = .ok (.iconst 0, 1) := by decide +kernel
theorem dJx35411_hasNext_aae02_19 : decode cJx35411_hasNext_aae02 19 = .ok (.ireturn, 1) := by decide +kernel
theorem dJx4a65c_init_da8c8_0 : decode cJx4a65c_init_da8c8 0 = .ok (.aload_n 0, 1) := by decide +kernel
theorem dJx4a65c_init_da8c8_1 : decode cJx4a65c_init_da8c8 1 = .ok (.invokespecial 1, 3) := by decide +kernel
theorem dJx4a65c_init_da8c8_4 : decode cJx4a65c_init_da8c8 4 = .ok (.aload_n 0, 1) := by decide +kernel
theorem dJx4a65c_init_da8c8_5 : decode cJx4a65c_init_da8c8 5 = .ok (.getstatic 39, 3) := by decide +kernel
theorem dJx4a65c_init_da8c8_8 : decode cJx4a65c_init_da8c8 8 = .ok (.putfield 9, 3) := by decide +kernel
theorem dJx4a65c_init_da8c8_11 : decode cJx4a65c_init_da8c8 11 = .ok (.return_, 1) := by decide +kernel
theorem dJx4a65c_grow_92f84_0 : decode cJx4a65c_grow_92f84 0 = .ok (.aload_n 0, 1) := by decide +kernel
theorem dJx4a65c_grow_92f84_1 : decode cJx4a65c_grow_92f84 1 = .ok (.getfield 9, 3) := by decide +kernel
theorem dJx4a65c_grow_92f84_4 : decode cJx4a65c_grow_92f84 4 = .ok (.arraylength, 1) := by decide +kernel
theorem dJx4a65c_grow_92f84_5 : decode cJx4a65c_grow_92f84 5 = .ok (.istore_n 2, 1) := by decide +kernel
theorem dJx4a65c_grow_92f84_6 : decode cJx4a65c_grow_92f84 6 = .ok (.iload_n 2, 1) := by decide +kernel
theorem dJx4a65c_grow_92f84_7 : decode cJx4a65c_grow_92f84 7 = .ok (.ifCond .gt 13, 3) := by decide +kernel
theorem dJx4a65c_grow_92f84_10 : decode cJx4a65c_grow_92f84 10 = .ok (.aload_n 0, 1) := by decide +kernel
theorem dJx4a65c_grow_92f84_11 : decode cJx4a65c_grow_92f84 11 = .ok (.getfield 9, 3) := by decide +kernel
theorem dJx4a65c_grow_92f84_14 : decode cJx4a65c_grow_92f84 14 = .ok (.getstatic 39, 3) := by decide +kernel
theorem dJx4a65c_grow_92f84_17 : decode cJx4a65c_grow_92f84 17 = .ok (.if_acmp .eq 28, 3) := by decide +kernel
theorem dJx4a65c_grow_92f84_20 : decode cJx4a65c_grow_92f84 20 = .ok (.iload_n 2, 1) := by decide +kernel
theorem dJx4a65c_grow_92f84_21 : decode cJx4a65c_grow_92f84 21 = .ok (.iload_n 1, 1) := by decide +kernel
theorem dJx4a65c_grow_92f84_22 : decode cJx4a65c_grow_92f84 22 = .ok (.iload_n 2, 1) := by decide +kernel
theorem dJx4a65c_grow_92f84_23 : decode cJx4a65c_grow_92f84 23 = .ok (.isub, 1) := by decide +kernel
theorem dJx4a65c_grow_92f84_24 : decode cJx4a65c_grow_92f84 24 = .ok (.iload_n 2, 1) := by decide +kernel
theorem dJx4a65c_grow_92f84_25 : decode cJx4a65c_grow_92f84 25 = .ok (.iconst 1, 1) := by decide +kernel
theorem dJx4a65c_grow_92f84_26 : decode cJx4a65c_grow_92f84 26 = .ok (.ishr, 1) := by decide +kernel
theorem dJx4a65c_grow_92f84_27 : decode cJx4a65c_grow_92f84 27 = .ok (.invokestatic 73, 3) := by decide +kernel
theorem dJx4a65c_grow_92f84_30 : decode cJx4a65c_grow_92f84 30 = .ok (.istore_n 3, 1) := by decide +kernel
theorem dJx4a65c_grow_92f84_31 : decode cJx4a65c_grow_92f84 31 = .ok (.aload_n 0, 1) := by decide +kernel
theorem dJx4a65c_grow_92f84_32 : decode cJx4a65c_grow_92f84 32 = .ok (.aload_n 0, 1) := by decide +kernel
theorem dJx4a65c_grow_92f84_33 : decode cJx4a65c_grow_92f84 33 = .ok (.getfield 9, 3) := by decide +kernel
theorem dJx4a65c_grow_92f84_36 : decode cJx4a65c_grow_92f84 36 = .ok (.iload_n 3, 1) := by decide +kernel
theorem dJx4a65c_grow_92f84_37 : decode cJx4a65c_grow_92f84 37 = .ok (.invokestatic 66, 3) := by decide +kernel
theorem dJx4a65c_grow_92f84_40 : decode cJx4a65c_grow_92f84 40 = .ok (.dup_x1, 1) := by decide +kernel
theorem dJx4a65c_grow_92f84_41 : decode cJx4a65c_grow_92f84 41 = .ok (.putfield 9, 3) := by decide +kernel
theorem dJx4a65c_grow_92f84_44 : decode cJx4a65c_grow_92f84 44 = .ok (.areturn, 1) := by decide +kernel
theorem dJx4a65c_grow_92f84_45 : decode cJx4a65c_grow_92f84 45 = .ok (.aload_n 0, 1) := by decide +kernel
theorem dJx4a65c_grow_92f84_46 : decode cJx4a65c_grow_92f84 46 = .ok (.bipush 10, 2) := by decide +kernel
theorem dJx4a65c_grow_92f84_48 : decode cJx4a65c_grow_92f84 48 = .ok (.iload_n 1, 1) := by decide +kernel
theorem dJx4a65c_grow_92f84_49 : decode cJx4a65c_grow_92f84 49 = .ok (.invokestatic 79, 3) := by decide +kernel
theorem dJx4a65c_grow_92f84_52 : decode cJx4a65c_grow_92f84 52 = .ok (.anewarray 7, 3) := by decide +kernel
theorem dJx4a65c_grow_92f84_55 : decode cJx4a65c_grow_92f84 55 = .ok (.dup_x1, 1) := by decide +kernel
theorem dJx4a65c_grow_92f84_56 : decode cJx4a65c_grow_92f84 56 = .ok (.putfield 9, 3) := by decide +kernel
theorem dJx4a65c_grow_92f84_59 : decode cJx4a65c_grow_92f84 59 = .ok (.areturn, 1) := by decide +kernel
theorem dJx4a65c_grow_d5877_0 : decode cJx4a65c_grow_d5877 0 = .ok (.aload_n 0, 1) := by decide +kernel
theorem dJx4a65c_grow_d5877_1 : decode cJx4a65c_grow_d5877 1 = .ok (.aload_n 0, 1) := by decide +kernel
theorem dJx4a65c_grow_d5877_2 : decode cJx4a65c_grow_d5877 2 = .ok (.getfield 48, 3) := by decide +kernel
theorem dJx4a65c_grow_d5877_5 : decode cJx4a65c_grow_d5877 5 = .ok (.iconst 1, 1) := by decide +kernel
theorem dJx4a65c_grow_d5877_6 : decode cJx4a65c_grow_d5877 6 = .ok (.iadd, 1) := by decide +kernel
theorem dJx4a65c_grow_d5877_7 : decode cJx4a65c_grow_d5877 7 = .ok (.invokevirtual 69, 3) := by decide +kernel
theorem dJx4a65c_grow_d5877_10 : decode cJx4a65c_grow_d5877 10 = .ok (.areturn, 1) := by decide +kernel
theorem dJx4a65c_size_8abf5_0 : decode cJx4a65c_size_8abf5 0 = .ok (.aload_n 0, 1) := by decide +kernel
theorem dJx4a65c_size_8abf5_1 : decode cJx4a65c_size_8abf5 1 = .ok (.getfield 48, 3) := by decide +kernel
theorem dJx4a65c_size_8abf5_4 : decode cJx4a65c_size_8abf5 4 = .ok (.ireturn, 1) := by decide +kernel
theorem dJx4a65c_add_72be8_0 : decode cJx4a65c_add_72be8 0 = .ok (.iload_n 3, 1) := by decide +kernel
theorem dJx4a65c_add_72be8_1 : decode cJx4a65c_add_72be8 1 = .ok (.aload_n 2, 1) := by decide +kernel
theorem dJx4a65c_add_72be8_2 : decode cJx4a65c_add_72be8 2 = .ok (.arraylength, 1) := by decide +kernel
theorem dJx4a65c_add_72be8_3 : decode cJx4a65c_add_72be8 3 = .ok (.if_icmp .ne 8, 3) := by decide +kernel
theorem dJx4a65c_add_72be8_6 : decode cJx4a65c_add_72be8 6 = .ok (.aload_n 0, 1) := by decide +kernel
theorem dJx4a65c_add_72be8_7 : decode cJx4a65c_add_72be8 7 = .ok (.invokevirtual 129, 3) := by decide +kernel
theorem dJx4a65c_add_72be8_10 : decode cJx4a65c_add_72be8 10 = .ok (.astore_n 2, 1) := by decide +kernel
theorem dJx4a65c_add_72be8_11 : decode cJx4a65c_add_72be8 11 = .ok (.aload_n 2, 1) := by decide +kernel
theorem dJx4a65c_add_72be8_12 : decode cJx4a65c_add_72be8 12 = .ok (.iload_n 3, 1) := by decide +kernel
theorem dJx4a65c_add_72be8_13 : decode cJx4a65c_add_72be8 13 = .ok (.aload_n 1, 1) := by decide +kernel
theorem dJx4a65c_add_72be8_14 : decode cJx4a65c_add_72be8 14 = .ok (.aastore, 1) := by decide +kernel
theorem dJx4a65c_add_72be8_15 : decode cJx4a65c_add_72be8 15 = .ok (.aload_n 0, 1) := by decide +kernel
theorem dJx4a65c_add_72be8_16 : decode cJx4a65c_add_72be8 16 = .ok (.iload_n 3, 1) := by decide +kernel
theorem dJx4a65c_add_72be8_17 : decode cJx4a65c_add_72be8 17 = .ok (.iconst 1, 1) := by decide +kernel
theorem dJx4a65c_add_72be8_18 : decode cJx4a65c_add_72be8 18 = .ok (.iadd, 1) := by decide +kernel
theorem dJx4a65c_add_72be8_19 : decode cJx4a65c_add_72be8 19 = .ok (.putfield 48, 3) := by decide +kernel
theorem dJx4a65c_add_72be8_22 : decode cJx4a65c_add_72be8 22 = .ok (.return_, 1) := by decide +kernel
theorem dJx4a65c_add_9ea2d_0 : decode cJx4a65c_add_9ea2d 0 = .ok (.aload_n 0, 1) := by decide +kernel
theorem dJx4a65c_add_9ea2d_1 : decode cJx4a65c_add_9ea2d 1 = .ok (.dup, 1) := by decide +kernel
theorem dJx4a65c_add_9ea2d_2 : decode cJx4a65c_add_9ea2d 2 = .ok (.getfield 63, 3) := by decide +kernel
theorem dJx4a65c_add_9ea2d_5 : decode cJx4a65c_add_9ea2d 5 = .ok (.iconst 1, 1) := by decide +kernel
theorem dJx4a65c_add_9ea2d_6 : decode cJx4a65c_add_9ea2d 6 = .ok (.iadd, 1) := by decide +kernel
theorem dJx4a65c_add_9ea2d_7 : decode cJx4a65c_add_9ea2d 7 = .ok (.putfield 63, 3) := by decide +kernel
theorem dJx4a65c_add_9ea2d_10 : decode cJx4a65c_add_9ea2d 10 = .ok (.aload_n 0, 1) := by decide +kernel
theorem dJx4a65c_add_9ea2d_11 : decode cJx4a65c_add_9ea2d 11 = .ok (.aload_n 1, 1) := by decide +kernel
theorem dJx4a65c_add_9ea2d_12 : decode cJx4a65c_add_9ea2d 12 = .ok (.aload_n 0, 1) := by decide +kernel
theorem dJx4a65c_add_9ea2d_13 : decode cJx4a65c_add_9ea2d 13 = .ok (.getfield 9, 3) := by decide +kernel
theorem dJx4a65c_add_9ea2d_16 : decode cJx4a65c_add_9ea2d 16 = .ok (.aload_n 0, 1) := by decide +kernel
theorem dJx4a65c_add_9ea2d_17 : decode cJx4a65c_add_9ea2d 17 = .ok (.getfield 48, 3) := by decide +kernel
theorem dJx4a65c_add_9ea2d_20 : decode cJx4a65c_add_9ea2d 20 = .ok (.invokevirtual 131, 3) := by decide +kernel
theorem dJx4a65c_add_9ea2d_23 : decode cJx4a65c_add_9ea2d 23 = .ok (.iconst 1, 1) := by decide +kernel
theorem dJx4a65c_add_9ea2d_24 : decode cJx4a65c_add_9ea2d 24 = .ok (.ireturn, 1) := by decide +kernel
theorem dJx4a65c_iterator_32c93_0 : decode cJx4a65c_iterator_32c93 0 = .ok (.new 267, 3) := by decide +kernel
theorem dJx4a65c_iterator_32c93_3 : decode cJx4a65c_iterator_32c93 3 = .ok (.dup, 1) := by decide +kernel
theorem dJx4a65c_iterator_32c93_4 : decode cJx4a65c_iterator_32c93 4 = .ok (.aload_n 0, 1) := by decide +kernel
theorem dJx4a65c_iterator_32c93_5 : decode cJx4a65c_iterator_32c93 5 = .ok (.invokespecial 269, 3) := by decide +kernel
theorem dJx4a65c_iterator_32c93_8 : decode cJx4a65c_iterator_32c93 8 = .ok (.areturn, 1) := by decide +kernel
theorem dL_lift_0 : decode cL_lift 0 = .ok (.aload_n 3, 1) := by decide +kernel
theorem dL_lift_1 : decode cL_lift 1 = .ok (.iconst 0, 1) := by decide +kernel
theorem dL_lift_2 : decode cL_lift 2 = .ok (.aload_n 0, 1) := by decide +kernel
theorem dL_lift_3 : decode cL_lift 3 = .ok (.iload_n 1, 1) := by decide +kernel
theorem dL_lift_4 : decode cL_lift 4 = .ok (.iload_n 2, 1) := by decide +kernel
theorem dL_lift_5 : decode cL_lift 5 = .ok (.invokevirtual 7, 3) := by decide +kernel
theorem dL_lift_8 : decode cL_lift 8 = .ok (.i2l, 1) := by decide +kernel
theorem dL_lift_9 : decode cL_lift 9 = .ok (.lastore, 1) := by decide +kernel
theorem dL_lift_10 : decode cL_lift 10 = .ok (.goto 11, 3) := by decide +kernel
theorem dL_lift_13 : decode cL_lift 13 = .ok (.astore 4, 2) := by decide +kernel
theorem dL_lift_15 : decode cL_lift 15 = .ok (.iconst 1, 1) := by decide +kernel
theorem dL_lift_16 : decode cL_lift 16 = .ok (.ireturn, 1) := by decide +kernel
theorem dL_lift_17 : decode cL_lift 17 = .ok (.astore 4, 2) := by decide +kernel
theorem dL_lift_19 : decode cL_lift 19 = .ok (.iconst 2, 1) := by decide +kernel
theorem dL_lift_20 : decode cL_lift 20 = .ok (.ireturn, 1) := by decide +kernel
theorem dL_lift_21 : decode cL_lift 21 = .ok (.iconst 0, 1) := by decide +kernel
theorem dL_lift_22 : decode cL_lift 22 = .ok (.ireturn, 1) := by decide +kernel
theorem dL_run_0 : decode cL_run 0 = .ok (.aload 6, 2) := by decide +kernel
theorem dL_run_2 : decode cL_run 2 = .ok (.iconst 0, 1) := by decide +kernel
theorem dL_run_3 : decode cL_run 3 = .ok (.aload_n 0, 1) := by decide +kernel
theorem dL_run_4 : decode cL_run 4 = .ok (.iload_n 1, 1) := by decide +kernel
theorem dL_run_5 : decode cL_run 5 = .ok (.iload_n 2, 1) := by decide +kernel
theorem dL_run_6 : decode cL_run 6 = .ok (.iload_n 3, 1) := by decide +kernel
theorem dL_run_7 : decode cL_run 7 = .ok (.iload 4, 2) := by decide +kernel
theorem dL_run_9 : decode cL_run 9 = .ok (.iload 5, 2) := by decide +kernel
theorem dL_run_11 : decode cL_run 11 = .ok (.invokevirtual 17, 3) := by decide +kernel
theorem dL_run_14 : decode cL_run 14 = .ok (.i2l, 1) := by decide +kernel
theorem dL_run_15 : decode cL_run 15 = .ok (.lastore, 1) := by decide +kernel
theorem dL_run_16 : decode cL_run 16 = .ok (.goto 15, 3) := by decide +kernel
theorem dL_run_19 : decode cL_run 19 = .ok (.astore 7, 2) := by decide +kernel
theorem dL_run_21 : decode cL_run 21 = .ok (.iconst 1, 1) := by decide +kernel
theorem dL_run_22 : decode cL_run 22 = .ok (.ireturn, 1) := by decide +kernel
theorem dL_run_23 : decode cL_run 23 = .ok (.astore 7, 2) := by decide +kernel
theorem dL_run_25 : decode cL_run 25 = .ok (.iconst 2, 1) := by decide +kernel
theorem dL_run_26 : decode cL_run 26 = .ok (.ireturn, 1) := by decide +kernel
theorem dL_run_27 : decode cL_run 27 = .ok (.astore 7, 2) := by decide +kernel
theorem dL_run_29 : decode cL_run 29 = .ok (.iconst 3, 1) := by decide +kernel
theorem dL_run_30 : decode cL_run 30 = .ok (.ireturn, 1) := by decide +kernel
theorem dL_run_31 : decode cL_run 31 = .ok (.iconst 0, 1) := by decide +kernel
theorem dL_run_32 : decode cL_run 32 = .ok (.ireturn, 1) := by decide +kernel
theorem dL_turn_0 : decode cL_turn 0 = .ok (.aload_n 3, 1) := by decide +kernel
theorem dL_turn_1 : decode cL_turn 1 = .ok (.iconst 0, 1) := by decide +kernel
theorem dL_turn_2 : decode cL_turn 2 = .ok (.aload_n 0, 1) := by decide +kernel
theorem dL_turn_3 : decode cL_turn 3 = .ok (.iload_n 1, 1) := by decide +kernel
theorem dL_turn_4 : decode cL_turn 4 = .ok (.iload_n 2, 1) := by decide +kernel
theorem dL_turn_5 : decode cL_turn 5 = .ok (.invokevirtual 23, 3) := by decide +kernel
theorem dL_turn_8 : decode cL_turn 8 = .ok (.ifCond .eq 7, 3) := by decide +kernel
theorem dL_turn_11 : decode cL_turn 11 = .ok (.lconst 1, 1) := by decide +kernel
theorem dL_turn_12 : decode cL_turn 12 = .ok (.goto 4, 3) := by decide +kernel
theorem dL_turn_15 : decode cL_turn 15 = .ok (.lconst 0, 1) := by decide +kernel
theorem dL_turn_16 : decode cL_turn 16 = .ok (.lastore, 1) := by decide +kernel
theorem dL_turn_17 : decode cL_turn 17 = .ok (.goto 7, 3) := by decide +kernel
theorem dL_turn_20 : decode cL_turn 20 = .ok (.astore 4, 2) := by decide +kernel
theorem dL_turn_22 : decode cL_turn 22 = .ok (.iconst 1, 1) := by decide +kernel
theorem dL_turn_23 : decode cL_turn 23 = .ok (.ireturn, 1) := by decide +kernel
theorem dL_turn_24 : decode cL_turn 24 = .ok (.iconst 0, 1) := by decide +kernel
theorem dL_turn_25 : decode cL_turn 25 = .ok (.ireturn, 1) := by decide +kernel
theorem dL_release_0 : decode cL_release 0 = .ok (.aload_n 2, 1) := by decide +kernel
theorem dL_release_1 : decode cL_release 1 = .ok (.iconst 0, 1) := by decide +kernel
theorem dL_release_2 : decode cL_release 2 = .ok (.aload_n 0, 1) := by decide +kernel
theorem dL_release_3 : decode cL_release 3 = .ok (.iload_n 1, 1) := by decide +kernel
theorem dL_release_4 : decode cL_release 4 = .ok (.invokevirtual 27, 3) := by decide +kernel
theorem dL_release_7 : decode cL_release 7 = .ok (.ifCond .eq 7, 3) := by decide +kernel
theorem dL_release_10 : decode cL_release 10 = .ok (.lconst 1, 1) := by decide +kernel
theorem dL_release_11 : decode cL_release 11 = .ok (.goto 4, 3) := by decide +kernel
theorem dL_release_14 : decode cL_release 14 = .ok (.lconst 0, 1) := by decide +kernel
theorem dL_release_15 : decode cL_release 15 = .ok (.lastore, 1) := by decide +kernel
theorem dL_release_16 : decode cL_release 16 = .ok (.goto 9, 3) := by decide +kernel
theorem dL_release_19 : decode cL_release 19 = .ok (.astore_n 3, 1) := by decide +kernel
theorem dL_release_20 : decode cL_release 20 = .ok (.iconst 1, 1) := by decide +kernel
theorem dL_release_21 : decode cL_release 21 = .ok (.ireturn, 1) := by decide +kernel
theorem dL_release_22 : decode cL_release 22 = .ok (.astore_n 3, 1) := by decide +kernel
theorem dL_release_23 : decode cL_release 23 = .ok (.iconst 2, 1) := by decide +kernel
theorem dL_release_24 : decode cL_release 24 = .ok (.ireturn, 1) := by decide +kernel
theorem dL_release_25 : decode cL_release 25 = .ok (.iconst 0, 1) := by decide +kernel
theorem dL_release_26 : decode cL_release 26 = .ok (.ireturn, 1) := by decide +kernel
theorem dL_guns_0 : decode cL_guns 0 = .ok (.aload_n 3, 1) := by decide +kernel
theorem dL_guns_1 : decode cL_guns 1 = .ok (.iconst 0, 1) := by decide +kernel
theorem dL_guns_2 : decode cL_guns 2 = .ok (.aload_n 0, 1) := by decide +kernel
theorem dL_guns_3 : decode cL_guns 3 = .ok (.iload_n 1, 1) := by decide +kernel
theorem dL_guns_4 : decode cL_guns 4 = .ok (.iload_n 2, 1) := by decide +kernel
theorem dL_guns_5 : decode cL_guns 5 = .ok (.invokevirtual 31, 3) := by decide +kernel
theorem dL_guns_8 : decode cL_guns 8 = .ok (.i2l, 1) := by decide +kernel
theorem dL_guns_9 : decode cL_guns 9 = .ok (.lastore, 1) := by decide +kernel
theorem dL_guns_10 : decode cL_guns 10 = .ok (.goto 11, 3) := by decide +kernel
theorem dL_guns_13 : decode cL_guns 13 = .ok (.astore 4, 2) := by decide +kernel
theorem dL_guns_15 : decode cL_guns 15 = .ok (.iconst 1, 1) := by decide +kernel
theorem dL_guns_16 : decode cL_guns 16 = .ok (.ireturn, 1) := by decide +kernel
theorem dL_guns_17 : decode cL_guns 17 = .ok (.astore 4, 2) := by decide +kernel
theorem dL_guns_19 : decode cL_guns 19 = .ok (.iconst 2, 1) := by decide +kernel
theorem dL_guns_20 : decode cL_guns 20 = .ok (.ireturn, 1) := by decide +kernel
theorem dL_guns_21 : decode cL_guns 21 = .ok (.iconst 0, 1) := by decide +kernel
theorem dL_guns_22 : decode cL_guns 22 = .ok (.ireturn, 1) := by decide +kernel
theorem dL_fill_0 : decode cL_fill 0 = .ok (.aload_n 2, 1) := by decide +kernel
theorem dL_fill_1 : decode cL_fill 1 = .ok (.iconst 0, 1) := by decide +kernel
theorem dL_fill_2 : decode cL_fill 2 = .ok (.aload_n 0, 1) := by decide +kernel
theorem dL_fill_3 : decode cL_fill 3 = .ok (.iload_n 1, 1) := by decide +kernel
theorem dL_fill_4 : decode cL_fill 4 = .ok (.invokevirtual 34, 3) := by decide +kernel
theorem dL_fill_7 : decode cL_fill 7 = .ok (.i2l, 1) := by decide +kernel
theorem dL_fill_8 : decode cL_fill 8 = .ok (.lastore, 1) := by decide +kernel
theorem dL_fill_9 : decode cL_fill 9 = .ok (.goto 6, 3) := by decide +kernel
theorem dL_fill_12 : decode cL_fill 12 = .ok (.astore_n 3, 1) := by decide +kernel
theorem dL_fill_13 : decode cL_fill 13 = .ok (.iconst 1, 1) := by decide +kernel
theorem dL_fill_14 : decode cL_fill 14 = .ok (.ireturn, 1) := by decide +kernel
theorem dL_fill_15 : decode cL_fill 15 = .ok (.iconst 0, 1) := by decide +kernel
theorem dL_fill_16 : decode cL_fill 16 = .ok (.ireturn, 1) := by decide +kernel
theorem dL_crowd_0 : decode cL_crowd 0 = .ok (.aload_n 2, 1) := by decide +kernel
theorem dL_crowd_1 : decode cL_crowd 1 = .ok (.iconst 0, 1) := by decide +kernel
theorem dL_crowd_2 : decode cL_crowd 2 = .ok (.aload_n 0, 1) := by decide +kernel
theorem dL_crowd_3 : decode cL_crowd 3 = .ok (.iload_n 1, 1) := by decide +kernel
theorem dL_crowd_4 : decode cL_crowd 4 = .ok (.invokevirtual 38, 3) := by decide +kernel
theorem dL_crowd_7 : decode cL_crowd 7 = .ok (.i2l, 1) := by decide +kernel
theorem dL_crowd_8 : decode cL_crowd 8 = .ok (.lastore, 1) := by decide +kernel
theorem dL_crowd_9 : decode cL_crowd 9 = .ok (.goto 6, 3) := by decide +kernel
theorem dL_crowd_12 : decode cL_crowd 12 = .ok (.astore_n 3, 1) := by decide +kernel
theorem dL_crowd_13 : decode cL_crowd 13 = .ok (.iconst 1, 1) := by decide +kernel
theorem dL_crowd_14 : decode cL_crowd 14 = .ok (.ireturn, 1) := by decide +kernel
theorem dL_crowd_15 : decode cL_crowd 15 = .ok (.iconst 0, 1) := by decide +kernel
theorem dL_crowd_16 : decode cL_crowd 16 = .ok (.ireturn, 1) := by decide +kernel
theorem dL_pass_0 : decode cL_pass 0 = .ok (.aload 7, 2) := by decide +kernel
theorem dL_pass_2 : decode cL_pass 2 = .ok (.iconst 0, 1) := by decide +kernel
theorem dL_pass_3 : decode cL_pass 3 = .ok (.aload_n 0, 1) := by decide +kernel
theorem dL_pass_4 : decode cL_pass 4 = .ok (.iload_n 1, 1) := by decide +kernel
theorem dL_pass_5 : decode cL_pass 5 = .ok (.iload_n 2, 1) := by decide +kernel
theorem dL_pass_6 : decode cL_pass 6 = .ok (.iload_n 3, 1) := by decide +kernel
theorem dL_pass_7 : decode cL_pass 7 = .ok (.iload 4, 2) := by decide +kernel
theorem dL_pass_9 : decode cL_pass 9 = .ok (.iload 5, 2) := by decide +kernel
theorem dL_pass_11 : decode cL_pass 11 = .ok (.iload 6, 2) := by decide +kernel
theorem dL_pass_13 : decode cL_pass 13 = .ok (.invokevirtual 41, 3) := by decide +kernel
theorem dL_pass_16 : decode cL_pass 16 = .ok (.i2l, 1) := by decide +kernel
theorem dL_pass_17 : decode cL_pass 17 = .ok (.lastore, 1) := by decide +kernel
theorem dL_pass_18 : decode cL_pass 18 = .ok (.goto 11, 3) := by decide +kernel
theorem dL_pass_21 : decode cL_pass 21 = .ok (.astore 8, 2) := by decide +kernel
theorem dL_pass_23 : decode cL_pass 23 = .ok (.iconst 1, 1) := by decide +kernel
theorem dL_pass_24 : decode cL_pass 24 = .ok (.ireturn, 1) := by decide +kernel
theorem dL_pass_25 : decode cL_pass 25 = .ok (.astore 8, 2) := by decide +kernel
theorem dL_pass_27 : decode cL_pass 27 = .ok (.iconst 2, 1) := by decide +kernel
theorem dL_pass_28 : decode cL_pass 28 = .ok (.ireturn, 1) := by decide +kernel
theorem dL_pass_29 : decode cL_pass 29 = .ok (.iconst 0, 1) := by decide +kernel
theorem dL_pass_30 : decode cL_pass 30 = .ok (.ireturn, 1) := by decide +kernel
theorem dL_blast_0 : decode cL_blast 0 = .ok (.aload_n 2, 1) := by decide +kernel
theorem dL_blast_1 : decode cL_blast 1 = .ok (.iconst 0, 1) := by decide +kernel
theorem dL_blast_2 : decode cL_blast 2 = .ok (.aload_n 0, 1) := by decide +kernel
theorem dL_blast_3 : decode cL_blast 3 = .ok (.iload_n 1, 1) := by decide +kernel
theorem dL_blast_4 : decode cL_blast 4 = .ok (.invokevirtual 45, 3) := by decide +kernel
theorem dL_blast_7 : decode cL_blast 7 = .ok (.i2l, 1) := by decide +kernel
theorem dL_blast_8 : decode cL_blast 8 = .ok (.lastore, 1) := by decide +kernel
theorem dL_blast_9 : decode cL_blast 9 = .ok (.goto 9, 3) := by decide +kernel
theorem dL_blast_12 : decode cL_blast 12 = .ok (.astore_n 3, 1) := by decide +kernel
theorem dL_blast_13 : decode cL_blast 13 = .ok (.iconst 1, 1) := by decide +kernel
theorem dL_blast_14 : decode cL_blast 14 = .ok (.ireturn, 1) := by decide +kernel
theorem dL_blast_15 : decode cL_blast 15 = .ok (.astore_n 3, 1) := by decide +kernel
theorem dL_blast_16 : decode cL_blast 16 = .ok (.iconst 2, 1) := by decide +kernel
theorem dL_blast_17 : decode cL_blast 17 = .ok (.ireturn, 1) := by decide +kernel
theorem dL_blast_18 : decode cL_blast 18 = .ok (.iconst 0, 1) := by decide +kernel
theorem dL_blast_19 : decode cL_blast 19 = .ok (.ireturn, 1) := by decide +kernel
theorem dL_search_0 : decode cL_search 0 = .ok (.aload_n 2, 1) := by decide +kernel
theorem dL_search_1 : decode cL_search 1 = .ok (.iconst 0, 1) := by decide +kernel
theorem dL_search_2 : decode cL_search 2 = .ok (.aload_n 0, 1) := by decide +kernel
theorem dL_search_3 : decode cL_search 3 = .ok (.iload_n 1, 1) := by decide +kernel
theorem dL_search_4 : decode cL_search 4 = .ok (.invokevirtual 48, 3) := by decide +kernel
theorem dL_search_7 : decode cL_search 7 = .ok (.i2l, 1) := by decide +kernel
theorem dL_search_8 : decode cL_search 8 = .ok (.lastore, 1) := by decide +kernel
theorem dL_search_9 : decode cL_search 9 = .ok (.goto 9, 3) := by decide +kernel
theorem dL_search_12 : decode cL_search 12 = .ok (.astore_n 3, 1) := by decide +kernel
theorem dL_search_13 : decode cL_search 13 = .ok (.iconst 1, 1) := by decide +kernel
theorem dL_search_14 : decode cL_search 14 = .ok (.ireturn, 1) := by decide +kernel
theorem dL_search_15 : decode cL_search 15 = .ok (.astore_n 3, 1) := by decide +kernel
theorem dL_search_16 : decode cL_search 16 = .ok (.iconst 2, 1) := by decide +kernel
theorem dL_search_17 : decode cL_search 17 = .ok (.ireturn, 1) := by decide +kernel
theorem dL_search_18 : decode cL_search 18 = .ok (.iconst 0, 1) := by decide +kernel
theorem dL_search_19 : decode cL_search 19 = .ok (.ireturn, 1) := by decide +kernel
theorem dL_test_0 : decode cL_test 0 = .ok (.aload_n 2, 1) := by decide +kernel
theorem dL_test_1 : decode cL_test 1 = .ok (.iconst 0, 1) := by decide +kernel
theorem dL_test_2 : decode cL_test 2 = .ok (.aload_n 0, 1) := by decide +kernel
theorem dL_test_3 : decode cL_test 3 = .ok (.iload_n 1, 1) := by decide +kernel
theorem dL_test_4 : decode cL_test 4 = .ok (.invokevirtual 51, 3) := by decide +kernel
theorem dL_test_7 : decode cL_test 7 = .ok (.i2l, 1) := by decide +kernel
theorem dL_test_8 : decode cL_test 8 = .ok (.lastore, 1) := by decide +kernel
theorem dL_test_9 : decode cL_test 9 = .ok (.goto 6, 3) := by decide +kernel
theorem dL_test_12 : decode cL_test 12 = .ok (.astore_n 3, 1) := by decide +kernel
theorem dL_test_13 : decode cL_test 13 = .ok (.iconst 1, 1) := by decide +kernel
theorem dL_test_14 : decode cL_test 14 = .ok (.ireturn, 1) := by decide +kernel
theorem dL_test_15 : decode cL_test 15 = .ok (.iconst 0, 1) := by decide +kernel
theorem dL_test_16 : decode cL_test 16 = .ok (.ireturn, 1) := by decide +kernel
theorem dL_sweep_0 : decode cL_sweep 0 = .ok (.aload_n 2, 1) := by decide +kernel
theorem dL_sweep_1 : decode cL_sweep 1 = .ok (.iconst 0, 1) := by decide +kernel
theorem dL_sweep_2 : decode cL_sweep 2 = .ok (.aload_n 0, 1) := by decide +kernel
theorem dL_sweep_3 : decode cL_sweep 3 = .ok (.iload_n 1, 1) := by decide +kernel
theorem dL_sweep_4 : decode cL_sweep 4 = .ok (.invokevirtual 54, 3) := by decide +kernel
theorem dL_sweep_7 : decode cL_sweep 7 = .ok (.ifCond .eq 7, 3) := by decide +kernel
theorem dL_sweep_10 : decode cL_sweep 10 = .ok (.lconst 1, 1) := by decide +kernel
theorem dL_sweep_11 : decode cL_sweep 11 = .ok (.goto 4, 3) := by decide +kernel
theorem dL_sweep_14 : decode cL_sweep 14 = .ok (.lconst 0, 1) := by decide +kernel
theorem dL_sweep_15 : decode cL_sweep 15 = .ok (.lastore, 1) := by decide +kernel
theorem dL_sweep_16 : decode cL_sweep 16 = .ok (.goto 9, 3) := by decide +kernel
theorem dL_sweep_19 : decode cL_sweep 19 = .ok (.astore_n 3, 1) := by decide +kernel
theorem dL_sweep_20 : decode cL_sweep 20 = .ok (.iconst 1, 1) := by decide +kernel
theorem dL_sweep_21 : decode cL_sweep 21 = .ok (.ireturn, 1) := by decide +kernel
theorem dL_sweep_22 : decode cL_sweep 22 = .ok (.astore_n 3, 1) := by decide +kernel
theorem dL_sweep_23 : decode cL_sweep 23 = .ok (.iconst 2, 1) := by decide +kernel
theorem dL_sweep_24 : decode cL_sweep 24 = .ok (.ireturn, 1) := by decide +kernel
theorem dL_sweep_25 : decode cL_sweep 25 = .ok (.iconst 0, 1) := by decide +kernel
theorem dL_sweep_26 : decode cL_sweep 26 = .ok (.ireturn, 1) := by decide +kernel
theorem dL_winch_0 : decode cL_winch 0 = .ok (.aload_n 3, 1) := by decide +kernel
theorem dL_winch_1 : decode cL_winch 1 = .ok (.iconst 0, 1) := by decide +kernel
theorem dL_winch_2 : decode cL_winch 2 = .ok (.aload_n 0, 1) := by decide +kernel
theorem dL_winch_3 : decode cL_winch 3 = .ok (.iload_n 1, 1) := by decide +kernel
theorem dL_winch_4 : decode cL_winch 4 = .ok (.iload_n 2, 1) := by decide +kernel
theorem dL_winch_5 : decode cL_winch 5 = .ok (.invokevirtual 57, 3) := by decide +kernel
theorem dL_winch_8 : decode cL_winch 8 = .ok (.ifCond .eq 7, 3) := by decide +kernel
theorem dL_winch_11 : decode cL_winch 11 = .ok (.lconst 1, 1) := by decide +kernel
theorem dL_winch_12 : decode cL_winch 12 = .ok (.goto 4, 3) := by decide +kernel
theorem dL_winch_15 : decode cL_winch 15 = .ok (.lconst 0, 1) := by decide +kernel
theorem dL_winch_16 : decode cL_winch 16 = .ok (.lastore, 1) := by decide +kernel
theorem dL_winch_17 : decode cL_winch 17 = .ok (.goto 11, 3) := by decide +kernel
theorem dL_winch_20 : decode cL_winch 20 = .ok (.astore 4, 2) := by decide +kernel
theorem dL_winch_22 : decode cL_winch 22 = .ok (.iconst 1, 1) := by decide +kernel
theorem dL_winch_23 : decode cL_winch 23 = .ok (.ireturn, 1) := by decide +kernel
theorem dL_winch_24 : decode cL_winch 24 = .ok (.astore 4, 2) := by decide +kernel
theorem dL_winch_26 : decode cL_winch 26 = .ok (.iconst 2, 1) := by decide +kernel
theorem dL_winch_27 : decode cL_winch 27 = .ok (.ireturn, 1) := by decide +kernel
theorem dL_winch_28 : decode cL_winch 28 = .ok (.iconst 0, 1) := by decide +kernel
theorem dL_winch_29 : decode cL_winch 29 = .ok (.ireturn, 1) := by decide +kernel
theorem dL_groom_0 : decode cL_groom 0 = .ok (.aload_n 2, 1) := by decide +kernel
theorem dL_groom_1 : decode cL_groom 1 = .ok (.iconst 0, 1) := by decide +kernel
theorem dL_groom_2 : decode cL_groom 2 = .ok (.aload_n 0, 1) := by decide +kernel
theorem dL_groom_3 : decode cL_groom 3 = .ok (.iload_n 1, 1) := by decide +kernel
theorem dL_groom_4 : decode cL_groom 4 = .ok (.invokevirtual 60, 3) := by decide +kernel
theorem dL_groom_7 : decode cL_groom 7 = .ok (.i2l, 1) := by decide +kernel
theorem dL_groom_8 : decode cL_groom 8 = .ok (.lastore, 1) := by decide +kernel
theorem dL_groom_9 : decode cL_groom 9 = .ok (.goto 9, 3) := by decide +kernel
theorem dL_groom_12 : decode cL_groom 12 = .ok (.astore_n 3, 1) := by decide +kernel
theorem dL_groom_13 : decode cL_groom 13 = .ok (.iconst 1, 1) := by decide +kernel
theorem dL_groom_14 : decode cL_groom 14 = .ok (.ireturn, 1) := by decide +kernel
theorem dL_groom_15 : decode cL_groom 15 = .ok (.astore_n 3, 1) := by decide +kernel
theorem dL_groom_16 : decode cL_groom 16 = .ok (.iconst 2, 1) := by decide +kernel
theorem dL_groom_17 : decode cL_groom 17 = .ok (.ireturn, 1) := by decide +kernel
theorem dL_groom_18 : decode cL_groom 18 = .ok (.iconst 0, 1) := by decide +kernel
theorem dL_groom_19 : decode cL_groom 19 = .ok (.ireturn, 1) := by decide +kernel
theorem dL_open_0 : decode cL_open 0 = .ok (.aload_n 2, 1) := by decide +kernel
theorem dL_open_1 : decode cL_open 1 = .ok (.iconst 0, 1) := by decide +kernel
theorem dL_open_2 : decode cL_open 2 = .ok (.aload_n 0, 1) := by decide +kernel
theorem dL_open_3 : decode cL_open 3 = .ok (.iload_n 1, 1) := by decide +kernel
theorem dL_open_4 : decode cL_open 4 = .ok (.invokevirtual 63, 3) := by decide +kernel
theorem dL_open_7 : decode cL_open 7 = .ok (.i2l, 1) := by decide +kernel
theorem dL_open_8 : decode cL_open 8 = .ok (.lastore, 1) := by decide +kernel
theorem dL_open_9 : decode cL_open 9 = .ok (.goto 9, 3) := by decide +kernel

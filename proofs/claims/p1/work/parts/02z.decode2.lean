theorem dX5_search_13 : decode cX5_search 13 = .ok (.aaload, 1) := by decide +kernel
theorem dX5_search_14 : decode cX5_search 14 = .ok (.astore_n 2, 1) := by decide +kernel
theorem dX5_search_15 : decode cX5_search 15 = .ok (.aload_n 2, 1) := by decide +kernel
theorem dX5_search_16 : decode cX5_search 16 = .ok (.getfield 140, 3) := by decide +kernel
theorem dX5_search_19 : decode cX5_search 19 = .ok (.iconst 1, 1) := by decide +kernel
theorem dX5_search_20 : decode cX5_search 20 = .ok (.if_icmp .ge 13, 3) := by decide +kernel
theorem dX5_search_23 : decode cX5_search 23 = .ok (.new 37, 3) := by decide +kernel
theorem dX5_search_26 : decode cX5_search 26 = .ok (.dup, 1) := by decide +kernel
theorem dX5_search_27 : decode cX5_search 27 = .ok (.ldc 151, 2) := by decide +kernel
theorem dX5_search_29 : decode cX5_search 29 = .ok (.invokespecial 41, 3) := by decide +kernel
theorem dX5_search_32 : decode cX5_search 32 = .ok (.athrow, 1) := by decide +kernel
theorem dX5_search_33 : decode cX5_search 33 = .ok (.aload_n 2, 1) := by decide +kernel
theorem dX5_search_34 : decode cX5_search 34 = .ok (.dup, 1) := by decide +kernel
theorem dX5_search_35 : decode cX5_search 35 = .ok (.getfield 140, 3) := by decide +kernel
theorem dX5_search_38 : decode cX5_search 38 = .ok (.iconst 1, 1) := by decide +kernel
theorem dX5_search_39 : decode cX5_search 39 = .ok (.isub, 1) := by decide +kernel
theorem dX5_search_40 : decode cX5_search 40 = .ok (.putfield 140, 3) := by decide +kernel
theorem dX5_search_43 : decode cX5_search 43 = .ok (.aload_n 2, 1) := by decide +kernel
theorem dX5_search_44 : decode cX5_search 44 = .ok (.getfield 140, 3) := by decide +kernel
theorem dX5_search_47 : decode cX5_search 47 = .ok (.ireturn, 1) := by decide +kernel
theorem dX5_test_0 : decode cX5_test 0 = .ok (.aload_n 0, 1) := by decide +kernel
theorem dX5_test_1 : decode cX5_test 1 = .ok (.iload_n 1, 1) := by decide +kernel
theorem dX5_test_2 : decode cX5_test 2 = .ok (.invokevirtual 98, 3) := by decide +kernel
theorem dX5_test_5 : decode cX5_test 5 = .ok (.aload_n 0, 1) := by decide +kernel
theorem dX5_test_6 : decode cX5_test 6 = .ok (.getfield 10, 3) := by decide +kernel
theorem dX5_test_9 : decode cX5_test 9 = .ok (.getfield 65, 3) := by decide +kernel
theorem dX5_test_12 : decode cX5_test 12 = .ok (.iload_n 1, 1) := by decide +kernel
theorem dX5_test_13 : decode cX5_test 13 = .ok (.aaload, 1) := by decide +kernel
theorem dX5_test_14 : decode cX5_test 14 = .ok (.astore_n 2, 1) := by decide +kernel
theorem dX5_test_15 : decode cX5_test 15 = .ok (.aload_n 2, 1) := by decide +kernel
theorem dX5_test_16 : decode cX5_test 16 = .ok (.aload_n 0, 1) := by decide +kernel
theorem dX5_test_17 : decode cX5_test 17 = .ok (.getfield 10, 3) := by decide +kernel
theorem dX5_test_20 : decode cX5_test 20 = .ok (.iload_n 1, 1) := by decide +kernel
theorem dX5_test_21 : decode cX5_test 21 = .ok (.aload_n 2, 1) := by decide +kernel
theorem dX5_test_22 : decode cX5_test 22 = .ok (.invokevirtual 153, 3) := by decide +kernel
theorem dX5_test_25 : decode cX5_test 25 = .ok (.putfield 157, 3) := by decide +kernel
theorem dX5_test_28 : decode cX5_test 28 = .ok (.aload_n 2, 1) := by decide +kernel
theorem dX5_test_29 : decode cX5_test 29 = .ok (.aload_n 0, 1) := by decide +kernel
theorem dX5_test_30 : decode cX5_test 30 = .ok (.getfield 10, 3) := by decide +kernel
theorem dX5_test_33 : decode cX5_test 33 = .ok (.getfield 116, 3) := by decide +kernel
theorem dX5_test_36 : decode cX5_test 36 = .ok (.bipush 12, 2) := by decide +kernel
theorem dX5_test_38 : decode cX5_test 38 = .ok (.iadd, 1) := by decide +kernel
theorem dX5_test_39 : decode cX5_test 39 = .ok (.putfield 160, 3) := by decide +kernel
theorem dX5_test_42 : decode cX5_test 42 = .ok (.aload_n 2, 1) := by decide +kernel
theorem dX5_test_43 : decode cX5_test 43 = .ok (.getfield 157, 3) := by decide +kernel
theorem dX5_test_46 : decode cX5_test 46 = .ok (.ireturn, 1) := by decide +kernel
theorem dX5_sweep_0 : decode cX5_sweep 0 = .ok (.aload_n 0, 1) := by decide +kernel
theorem dX5_sweep_1 : decode cX5_sweep 1 = .ok (.iload_n 1, 1) := by decide +kernel
theorem dX5_sweep_2 : decode cX5_sweep 2 = .ok (.invokevirtual 132, 3) := by decide +kernel
theorem dX5_sweep_5 : decode cX5_sweep 5 = .ok (.aload_n 0, 1) := by decide +kernel
theorem dX5_sweep_6 : decode cX5_sweep 6 = .ok (.getfield 10, 3) := by decide +kernel
theorem dX5_sweep_9 : decode cX5_sweep 9 = .ok (.getfield 65, 3) := by decide +kernel
theorem dX5_sweep_12 : decode cX5_sweep 12 = .ok (.iload_n 1, 1) := by decide +kernel
theorem dX5_sweep_13 : decode cX5_sweep 13 = .ok (.aaload, 1) := by decide +kernel
theorem dX5_sweep_14 : decode cX5_sweep 14 = .ok (.getfield 163, 3) := by decide +kernel
theorem dX5_sweep_17 : decode cX5_sweep 17 = .ok (.istore_n 2, 1) := by decide +kernel
theorem dX5_sweep_18 : decode cX5_sweep 18 = .ok (.aload_n 0, 1) := by decide +kernel
theorem dX5_sweep_19 : decode cX5_sweep 19 = .ok (.getfield 10, 3) := by decide +kernel
theorem dX5_sweep_22 : decode cX5_sweep 22 = .ok (.getfield 65, 3) := by decide +kernel
theorem dX5_sweep_25 : decode cX5_sweep 25 = .ok (.iload_n 1, 1) := by decide +kernel
theorem dX5_sweep_26 : decode cX5_sweep 26 = .ok (.aaload, 1) := by decide +kernel
theorem dX5_sweep_27 : decode cX5_sweep 27 = .ok (.iconst 1, 1) := by decide +kernel
theorem dX5_sweep_28 : decode cX5_sweep 28 = .ok (.putfield 163, 3) := by decide +kernel
theorem dX5_sweep_31 : decode cX5_sweep 31 = .ok (.iload_n 2, 1) := by decide +kernel
theorem dX5_sweep_32 : decode cX5_sweep 32 = .ok (.ifCond .ne 7, 3) := by decide +kernel
theorem dX5_sweep_35 : decode cX5_sweep 35 = .ok (.iconst 1, 1) := by decide +kernel
theorem dX5_sweep_36 : decode cX5_sweep 36 = .ok (.goto 4, 3) := by decide +kernel
theorem dX5_sweep_39 : decode cX5_sweep 39 = .ok (.iconst 0, 1) := by decide +kernel
theorem dX5_sweep_40 : decode cX5_sweep 40 = .ok (.ireturn, 1) := by decide +kernel
theorem dX5_winch_0 : decode cX5_winch 0 = .ok (.aload_n 0, 1) := by decide +kernel
theorem dX5_winch_1 : decode cX5_winch 1 = .ok (.iload_n 1, 1) := by decide +kernel
theorem dX5_winch_2 : decode cX5_winch 2 = .ok (.invokevirtual 132, 3) := by decide +kernel
theorem dX5_winch_5 : decode cX5_winch 5 = .ok (.aload_n 0, 1) := by decide +kernel
theorem dX5_winch_6 : decode cX5_winch 6 = .ok (.getfield 10, 3) := by decide +kernel
theorem dX5_winch_9 : decode cX5_winch 9 = .ok (.getfield 65, 3) := by decide +kernel
theorem dX5_winch_12 : decode cX5_winch 12 = .ok (.iload_n 1, 1) := by decide +kernel
theorem dX5_winch_13 : decode cX5_winch 13 = .ok (.aaload, 1) := by decide +kernel
theorem dX5_winch_14 : decode cX5_winch 14 = .ok (.getfield 166, 3) := by decide +kernel
theorem dX5_winch_17 : decode cX5_winch 17 = .ok (.istore_n 3, 1) := by decide +kernel
theorem dX5_winch_18 : decode cX5_winch 18 = .ok (.aload_n 0, 1) := by decide +kernel
theorem dX5_winch_19 : decode cX5_winch 19 = .ok (.getfield 10, 3) := by decide +kernel
theorem dX5_winch_22 : decode cX5_winch 22 = .ok (.getfield 65, 3) := by decide +kernel
theorem dX5_winch_25 : decode cX5_winch 25 = .ok (.iload_n 1, 1) := by decide +kernel
theorem dX5_winch_26 : decode cX5_winch 26 = .ok (.aaload, 1) := by decide +kernel
theorem dX5_winch_27 : decode cX5_winch 27 = .ok (.iload_n 2, 1) := by decide +kernel
theorem dX5_winch_28 : decode cX5_winch 28 = .ok (.putfield 166, 3) := by decide +kernel
theorem dX5_winch_31 : decode cX5_winch 31 = .ok (.iload_n 3, 1) := by decide +kernel
theorem dX5_winch_32 : decode cX5_winch 32 = .ok (.ireturn, 1) := by decide +kernel
theorem dX5_groom_0 : decode cX5_groom 0 = .ok (.aload_n 0, 1) := by decide +kernel
theorem dX5_groom_1 : decode cX5_groom 1 = .ok (.iload_n 1, 1) := by decide +kernel
theorem dX5_groom_2 : decode cX5_groom 2 = .ok (.invokevirtual 132, 3) := by decide +kernel
theorem dX5_groom_5 : decode cX5_groom 5 = .ok (.aload_n 0, 1) := by decide +kernel
theorem dX5_groom_6 : decode cX5_groom 6 = .ok (.getfield 10, 3) := by decide +kernel
theorem dX5_groom_9 : decode cX5_groom 9 = .ok (.getfield 65, 3) := by decide +kernel
theorem dX5_groom_12 : decode cX5_groom 12 = .ok (.iload_n 1, 1) := by decide +kernel
theorem dX5_groom_13 : decode cX5_groom 13 = .ok (.aaload, 1) := by decide +kernel
theorem dX5_groom_14 : decode cX5_groom 14 = .ok (.getfield 169, 3) := by decide +kernel
theorem dX5_groom_17 : decode cX5_groom 17 = .ok (.astore_n 2, 1) := by decide +kernel
theorem dX5_groom_18 : decode cX5_groom 18 = .ok (.aload_n 0, 1) := by decide +kernel
theorem dX5_groom_19 : decode cX5_groom 19 = .ok (.getfield 10, 3) := by decide +kernel
theorem dX5_groom_22 : decode cX5_groom 22 = .ok (.invokevirtual 173, 3) := by decide +kernel
theorem dX5_groom_25 : decode cX5_groom 25 = .ok (.istore_n 3, 1) := by decide +kernel
theorem dX5_groom_26 : decode cX5_groom 26 = .ok (.aload_n 2, 1) := by decide +kernel
theorem dX5_groom_27 : decode cX5_groom 27 = .ok (.getfield 176, 3) := by decide +kernel
theorem dX5_groom_30 : decode cX5_groom 30 = .ok (.iconst 2, 1) := by decide +kernel
theorem dX5_groom_31 : decode cX5_groom 31 = .ok (.if_icmp .lt 15, 3) := by decide +kernel
theorem dX5_groom_34 : decode cX5_groom 34 = .ok (.iload_n 3, 1) := by decide +kernel
theorem dX5_groom_35 : decode cX5_groom 35 = .ok (.bipush 6, 2) := by decide +kernel
theorem dX5_groom_37 : decode cX5_groom 37 = .ok (.if_icmp .le 19, 3) := by decide +kernel
theorem dX5_groom_40 : decode cX5_groom 40 = .ok (.iload_n 3, 1) := by decide +kernel
theorem dX5_groom_41 : decode cX5_groom 41 = .ok (.bipush 18, 2) := by decide +kernel
theorem dX5_groom_43 : decode cX5_groom 43 = .ok (.if_icmp .ge 13, 3) := by decide +kernel
theorem dX5_groom_46 : decode cX5_groom 46 = .ok (.new 37, 3) := by decide +kernel
theorem dX5_groom_49 : decode cX5_groom 49 = .ok (.dup, 1) := by decide +kernel
theorem dX5_groom_50 : decode cX5_groom 50 = .ok (.ldc 181, 2) := by decide +kernel
theorem dX5_groom_52 : decode cX5_groom 52 = .ok (.invokespecial 41, 3) := by decide +kernel
theorem dX5_groom_55 : decode cX5_groom 55 = .ok (.athrow, 1) := by decide +kernel
theorem dX5_groom_56 : decode cX5_groom 56 = .ok (.aload_n 0, 1) := by decide +kernel
theorem dX5_groom_57 : decode cX5_groom 57 = .ok (.getfield 10, 3) := by decide +kernel
theorem dX5_groom_60 : decode cX5_groom 60 = .ok (.getfield 183, 3) := by decide +kernel
theorem dX5_groom_63 : decode cX5_groom 63 = .ok (.iconst 5, 1) := by decide +kernel
theorem dX5_groom_64 : decode cX5_groom 64 = .ok (.if_icmp .ge 13, 3) := by decide +kernel
theorem dX5_groom_67 : decode cX5_groom 67 = .ok (.new 37, 3) := by decide +kernel
theorem dX5_groom_70 : decode cX5_groom 70 = .ok (.dup, 1) := by decide +kernel
theorem dX5_groom_71 : decode cX5_groom 71 = .ok (.ldc 186, 2) := by decide +kernel
theorem dX5_groom_73 : decode cX5_groom 73 = .ok (.invokespecial 41, 3) := by decide +kernel
theorem dX5_groom_76 : decode cX5_groom 76 = .ok (.athrow, 1) := by decide +kernel
theorem dX5_groom_77 : decode cX5_groom 77 = .ok (.aload_n 0, 1) := by decide +kernel
theorem dX5_groom_78 : decode cX5_groom 78 = .ok (.getfield 10, 3) := by decide +kernel
theorem dX5_groom_81 : decode cX5_groom 81 = .ok (.dup, 1) := by decide +kernel
theorem dX5_groom_82 : decode cX5_groom 82 = .ok (.getfield 183, 3) := by decide +kernel
theorem dX5_groom_85 : decode cX5_groom 85 = .ok (.iconst 5, 1) := by decide +kernel
theorem dX5_groom_86 : decode cX5_groom 86 = .ok (.isub, 1) := by decide +kernel
theorem dX5_groom_87 : decode cX5_groom 87 = .ok (.putfield 183, 3) := by decide +kernel
theorem dX5_groom_90 : decode cX5_groom 90 = .ok (.aload_n 2, 1) := by decide +kernel
theorem dX5_groom_91 : decode cX5_groom 91 = .ok (.invokevirtual 188, 3) := by decide +kernel
theorem dX5_groom_94 : decode cX5_groom 94 = .ok (.ireturn, 1) := by decide +kernel
theorem dX5_open_0 : decode cX5_open 0 = .ok (.aload_n 0, 1) := by decide +kernel
theorem dX5_open_1 : decode cX5_open 1 = .ok (.iload_n 1, 1) := by decide +kernel
theorem dX5_open_2 : decode cX5_open 2 = .ok (.invokevirtual 132, 3) := by decide +kernel
theorem dX5_open_5 : decode cX5_open 5 = .ok (.aload_n 0, 1) := by decide +kernel
theorem dX5_open_6 : decode cX5_open 6 = .ok (.getfield 10, 3) := by decide +kernel
theorem dX5_open_9 : decode cX5_open 9 = .ok (.getfield 65, 3) := by decide +kernel
theorem dX5_open_12 : decode cX5_open 12 = .ok (.iload_n 1, 1) := by decide +kernel
theorem dX5_open_13 : decode cX5_open 13 = .ok (.aaload, 1) := by decide +kernel
theorem dX5_open_14 : decode cX5_open 14 = .ok (.astore_n 2, 1) := by decide +kernel
theorem dX5_open_15 : decode cX5_open 15 = .ok (.aload_n 0, 1) := by decide +kernel
theorem dX5_open_16 : decode cX5_open 16 = .ok (.getfield 10, 3) := by decide +kernel
theorem dX5_open_19 : decode cX5_open 19 = .ok (.aload_n 2, 1) := by decide +kernel
theorem dX5_open_20 : decode cX5_open 20 = .ok (.invokevirtual 191, 3) := by decide +kernel
theorem dX5_open_23 : decode cX5_open 23 = .ok (.istore_n 3, 1) := by decide +kernel
theorem dX5_open_24 : decode cX5_open 24 = .ok (.iload_n 3, 1) := by decide +kernel
theorem dX5_open_25 : decode cX5_open 25 = .ok (.ifCond .ne 19, 3) := by decide +kernel
theorem dX5_open_28 : decode cX5_open 28 = .ok (.aload_n 2, 1) := by decide +kernel
theorem dX5_open_29 : decode cX5_open 29 = .ok (.iconst 1, 1) := by decide +kernel
theorem dX5_open_30 : decode cX5_open 30 = .ok (.putfield 194, 3) := by decide +kernel
theorem dX5_open_33 : decode cX5_open 33 = .ok (.aload_n 2, 1) := by decide +kernel
theorem dX5_open_34 : decode cX5_open 34 = .ok (.aload_n 0, 1) := by decide +kernel
theorem dX5_open_35 : decode cX5_open 35 = .ok (.getfield 10, 3) := by decide +kernel
theorem dX5_open_38 : decode cX5_open 38 = .ok (.getfield 116, 3) := by decide +kernel
theorem dX5_open_41 : decode cX5_open 41 = .ok (.putfield 197, 3) := by decide +kernel
theorem dX5_open_44 : decode cX5_open 44 = .ok (.iload_n 3, 1) := by decide +kernel
theorem dX5_open_45 : decode cX5_open 45 = .ok (.ireturn, 1) := by decide +kernel
theorem dX5_close_0 : decode cX5_close 0 = .ok (.aload_n 0, 1) := by decide +kernel
theorem dX5_close_1 : decode cX5_close 1 = .ok (.iload_n 1, 1) := by decide +kernel
theorem dX5_close_2 : decode cX5_close 2 = .ok (.invokevirtual 98, 3) := by decide +kernel
theorem dX5_close_5 : decode cX5_close 5 = .ok (.aload_n 0, 1) := by decide +kernel
theorem dX5_close_6 : decode cX5_close 6 = .ok (.getfield 10, 3) := by decide +kernel
theorem dX5_close_9 : decode cX5_close 9 = .ok (.getfield 65, 3) := by decide +kernel
theorem dX5_close_12 : decode cX5_close 12 = .ok (.iload_n 1, 1) := by decide +kernel
theorem dX5_close_13 : decode cX5_close 13 = .ok (.aaload, 1) := by decide +kernel
theorem dX5_close_14 : decode cX5_close 14 = .ok (.astore_n 2, 1) := by decide +kernel
theorem dX5_close_15 : decode cX5_close 15 = .ok (.aload_n 2, 1) := by decide +kernel
theorem dX5_close_16 : decode cX5_close 16 = .ok (.getfield 194, 3) := by decide +kernel
theorem dX5_close_19 : decode cX5_close 19 = .ok (.ifCond .ne 13, 3) := by decide +kernel
theorem dX5_close_22 : decode cX5_close 22 = .ok (.new 37, 3) := by decide +kernel
theorem dX5_close_25 : decode cX5_close 25 = .ok (.dup, 1) := by decide +kernel
theorem dX5_close_26 : decode cX5_close 26 = .ok (.ldc 200, 2) := by decide +kernel
theorem dX5_close_28 : decode cX5_close 28 = .ok (.invokespecial 41, 3) := by decide +kernel
theorem dX5_close_31 : decode cX5_close 31 = .ok (.athrow, 1) := by decide +kernel
theorem dX5_close_32 : decode cX5_close 32 = .ok (.aload_n 2, 1) := by decide +kernel
theorem dX5_close_33 : decode cX5_close 33 = .ok (.iconst 0, 1) := by decide +kernel
theorem dX5_close_34 : decode cX5_close 34 = .ok (.putfield 194, 3) := by decide +kernel
theorem dX5_close_37 : decode cX5_close 37 = .ok (.aload_n 2, 1) := by decide +kernel
theorem dX5_close_38 : decode cX5_close 38 = .ok (.iconst 0, 1) := by decide +kernel
theorem dX5_close_39 : decode cX5_close 39 = .ok (.putfield 163, 3) := by decide +kernel
theorem dX5_close_42 : decode cX5_close 42 = .ok (.aload_n 0, 1) := by decide +kernel
theorem dX5_close_43 : decode cX5_close 43 = .ok (.getfield 10, 3) := by decide +kernel
theorem dX5_close_46 : decode cX5_close 46 = .ok (.getfield 116, 3) := by decide +kernel
theorem dX5_close_49 : decode cX5_close 49 = .ok (.aload_n 2, 1) := by decide +kernel
theorem dX5_close_50 : decode cX5_close 50 = .ok (.getfield 197, 3) := by decide +kernel
theorem dX5_close_53 : decode cX5_close 53 = .ok (.isub, 1) := by decide +kernel
theorem dX5_close_54 : decode cX5_close 54 = .ok (.ireturn, 1) := by decide +kernel
theorem dX5_ofRun_0 : decode cX5_ofRun 0 = .ok (.aload_n 0, 1) := by decide +kernel
theorem dX5_ofRun_1 : decode cX5_ofRun 1 = .ok (.iload_n 1, 1) := by decide +kernel
theorem dX5_ofRun_2 : decode cX5_ofRun 2 = .ok (.invokevirtual 98, 3) := by decide +kernel
theorem dX5_ofRun_5 : decode cX5_ofRun 5 = .ok (.iload_n 2, 1) := by decide +kernel
theorem dX5_ofRun_6 : decode cX5_ofRun 6 = .ok (.iconst 0, 1) := by decide +kernel
theorem dX5_ofRun_7 : decode cX5_ofRun 7 = .ok (.bipush 13, 2) := by decide +kernel
theorem dX5_ofRun_9 : decode cX5_ofRun 9 = .ok (.invokestatic 29, 3) := by decide +kernel
theorem dX5_ofRun_12 : decode cX5_ofRun 12 = .ok (.aload_n 0, 1) := by decide +kernel
theorem dX5_ofRun_13 : decode cX5_ofRun 13 = .ok (.getfield 10, 3) := by decide +kernel
theorem dX5_ofRun_16 : decode cX5_ofRun 16 = .ok (.getfield 65, 3) := by decide +kernel
theorem dX5_ofRun_19 : decode cX5_ofRun 19 = .ok (.iload_n 1, 1) := by decide +kernel
theorem dX5_ofRun_20 : decode cX5_ofRun 20 = .ok (.aaload, 1) := by decide +kernel
theorem dX5_ofRun_21 : decode cX5_ofRun 21 = .ok (.astore_n 3, 1) := by decide +kernel
theorem dX5_ofRun_22 : decode cX5_ofRun 22 = .ok (.iload_n 2, 1) := by decide +kernel
theorem dX5_ofRun_23 : decode cX5_ofRun 23 = .ok (.tableswitch 164 0 12 #[65, 70, 78, 86, 97, 102, 107, 115, 120, 129, 149, 154, 159], 65) := by decide +kernel
theorem dX5_ofRun_88 : decode cX5_ofRun 88 = .ok (.aload_n 3, 1) := by decide +kernel
theorem dX5_ofRun_89 : decode cX5_ofRun 89 = .ok (.getfield 69, 3) := by decide +kernel
theorem dX5_ofRun_92 : decode cX5_ofRun 92 = .ok (.ireturn, 1) := by decide +kernel
theorem dX5_ofRun_93 : decode cX5_ofRun 93 = .ok (.aload_n 3, 1) := by decide +kernel
theorem dX5_ofRun_94 : decode cX5_ofRun 94 = .ok (.getfield 169, 3) := by decide +kernel
theorem dX5_ofRun_97 : decode cX5_ofRun 97 = .ok (.getfield 176, 3) := by decide +kernel
theorem dX5_ofRun_100 : decode cX5_ofRun 100 = .ok (.ireturn, 1) := by decide +kernel
theorem dX5_ofRun_101 : decode cX5_ofRun 101 = .ok (.aload_n 3, 1) := by decide +kernel
theorem dX5_ofRun_102 : decode cX5_ofRun 102 = .ok (.getfield 169, 3) := by decide +kernel
theorem dX5_ofRun_105 : decode cX5_ofRun 105 = .ok (.invokevirtual 202, 3) := by decide +kernel
theorem dX5_ofRun_108 : decode cX5_ofRun 108 = .ok (.ireturn, 1) := by decide +kernel
theorem dX5_ofRun_109 : decode cX5_ofRun 109 = .ok (.aload_n 3, 1) := by decide +kernel
theorem dX5_ofRun_110 : decode cX5_ofRun 110 = .ok (.getfield 169, 3) := by decide +kernel
theorem dX5_ofRun_113 : decode cX5_ofRun 113 = .ok (.getfield 205, 3) := by decide +kernel
theorem dX5_ofRun_116 : decode cX5_ofRun 116 = .ok (.invokestatic 208, 3) := by decide +kernel
theorem dX5_ofRun_119 : decode cX5_ofRun 119 = .ok (.ireturn, 1) := by decide +kernel
theorem dX5_ofRun_120 : decode cX5_ofRun 120 = .ok (.aload_n 3, 1) := by decide +kernel
theorem dX5_ofRun_121 : decode cX5_ofRun 121 = .ok (.invokevirtual 143, 3) := by decide +kernel
theorem dX5_ofRun_124 : decode cX5_ofRun 124 = .ok (.ireturn, 1) := by decide +kernel
theorem dX5_ofRun_125 : decode cX5_ofRun 125 = .ok (.aload_n 3, 1) := by decide +kernel
theorem dX5_ofRun_126 : decode cX5_ofRun 126 = .ok (.invokevirtual 212, 3) := by decide +kernel
theorem dX5_ofRun_129 : decode cX5_ofRun 129 = .ok (.ireturn, 1) := by decide +kernel
theorem dX5_ofRun_130 : decode cX5_ofRun 130 = .ok (.aload_n 3, 1) := by decide +kernel
theorem dX5_ofRun_131 : decode cX5_ofRun 131 = .ok (.getfield 194, 3) := by decide +kernel
theorem dX5_ofRun_134 : decode cX5_ofRun 134 = .ok (.invokestatic 208, 3) := by decide +kernel
theorem dX5_ofRun_137 : decode cX5_ofRun 137 = .ok (.ireturn, 1) := by decide +kernel
theorem dX5_ofRun_138 : decode cX5_ofRun 138 = .ok (.aload_n 3, 1) := by decide +kernel
theorem dX5_ofRun_139 : decode cX5_ofRun 139 = .ok (.getfield 140, 3) := by decide +kernel
theorem dX5_ofRun_142 : decode cX5_ofRun 142 = .ok (.ireturn, 1) := by decide +kernel
theorem dX5_ofRun_143 : decode cX5_ofRun 143 = .ok (.aload_n 0, 1) := by decide +kernel
theorem dX5_ofRun_144 : decode cX5_ofRun 144 = .ok (.getfield 10, 3) := by decide +kernel
theorem dX5_ofRun_147 : decode cX5_ofRun 147 = .ok (.aload_n 3, 1) := by decide +kernel
theorem dX5_ofRun_148 : decode cX5_ofRun 148 = .ok (.invokevirtual 191, 3) := by decide +kernel
theorem dX5_ofRun_151 : decode cX5_ofRun 151 = .ok (.ireturn, 1) := by decide +kernel
theorem dX5_ofRun_152 : decode cX5_ofRun 152 = .ok (.aload_n 0, 1) := by decide +kernel
theorem dX5_ofRun_153 : decode cX5_ofRun 153 = .ok (.getfield 10, 3) := by decide +kernel
theorem dX5_ofRun_156 : decode cX5_ofRun 156 = .ok (.aload_n 3, 1) := by decide +kernel
theorem dX5_ofRun_157 : decode cX5_ofRun 157 = .ok (.invokevirtual 215, 3) := by decide +kernel
theorem dX5_ofRun_160 : decode cX5_ofRun 160 = .ok (.ifCond .eq 10, 3) := by decide +kernel
theorem dX5_ofRun_163 : decode cX5_ofRun 163 = .ok (.aload_n 3, 1) := by decide +kernel
theorem dX5_ofRun_164 : decode cX5_ofRun 164 = .ok (.getfield 157, 3) := by decide +kernel
theorem dX5_ofRun_167 : decode cX5_ofRun 167 = .ok (.goto 4, 3) := by decide +kernel
theorem dX5_ofRun_170 : decode cX5_ofRun 170 = .ok (.iconst (-1), 1) := by decide +kernel
theorem dX5_ofRun_171 : decode cX5_ofRun 171 = .ok (.ireturn, 1) := by decide +kernel
theorem dX5_ofRun_172 : decode cX5_ofRun 172 = .ok (.aload_n 3, 1) := by decide +kernel
theorem dX5_ofRun_173 : decode cX5_ofRun 173 = .ok (.getfield 219, 3) := by decide +kernel
theorem dX5_ofRun_176 : decode cX5_ofRun 176 = .ok (.ireturn, 1) := by decide +kernel
theorem dX5_ofRun_177 : decode cX5_ofRun 177 = .ok (.aload_n 3, 1) := by decide +kernel
theorem dX5_ofRun_178 : decode cX5_ofRun 178 = .ok (.getfield 222, 3) := by decide +kernel
theorem dX5_ofRun_181 : decode cX5_ofRun 181 = .ok (.ireturn, 1) := by decide +kernel
theorem dX5_ofRun_182 : decode cX5_ofRun 182 = .ok (.aload_n 3, 1) := by decide +kernel
theorem dX5_ofRun_183 : decode cX5_ofRun 183 = .ok (.getfield 225, 3) := by decide +kernel
theorem dX5_ofRun_186 : decode cX5_ofRun 186 = .ok (.ireturn, 1) := by decide +kernel
theorem dX5_ofRun_187 : decode cX5_ofRun 187 = .ok (.aload_n 3, 1) := by decide +kernel
theorem dX5_ofRun_188 : decode cX5_ofRun 188 = .ok (.getfield 163, 3) := by decide +kernel
theorem dX5_ofRun_191 : decode cX5_ofRun 191 = .ok (.invokestatic 208, 3) := by decide +kernel
theorem dX5_ofRun_194 : decode cX5_ofRun 194 = .ok (.ireturn, 1) := by decide +kernel
theorem dX5_ofLayer_0 : decode cX5_ofLayer 0 = .ok (.aload_n 0, 1) := by decide +kernel
theorem dX5_ofLayer_1 : decode cX5_ofLayer 1 = .ok (.iload_n 1, 1) := by decide +kernel
theorem dX5_ofLayer_2 : decode cX5_ofLayer 2 = .ok (.invokevirtual 98, 3) := by decide +kernel
theorem dX5_ofLayer_5 : decode cX5_ofLayer 5 = .ok (.aload_n 0, 1) := by decide +kernel
theorem dX5_ofLayer_6 : decode cX5_ofLayer 6 = .ok (.getfield 10, 3) := by decide +kernel
theorem dX5_ofLayer_9 : decode cX5_ofLayer 9 = .ok (.getfield 65, 3) := by decide +kernel
theorem dX5_ofLayer_12 : decode cX5_ofLayer 12 = .ok (.iload_n 1, 1) := by decide +kernel
theorem dX5_ofLayer_13 : decode cX5_ofLayer 13 = .ok (.aaload, 1) := by decide +kernel
theorem dX5_ofLayer_14 : decode cX5_ofLayer 14 = .ok (.getfield 169, 3) := by decide +kernel
theorem dX5_ofLayer_17 : decode cX5_ofLayer 17 = .ok (.astore 4, 2) := by decide +kernel
theorem dX5_ofLayer_19 : decode cX5_ofLayer 19 = .ok (.iload_n 2, 1) := by decide +kernel
theorem dX5_ofLayer_20 : decode cX5_ofLayer 20 = .ok (.ifCond .lt 12, 3) := by decide +kernel
theorem dX5_ofLayer_23 : decode cX5_ofLayer 23 = .ok (.iload_n 2, 1) := by decide +kernel
theorem dX5_ofLayer_24 : decode cX5_ofLayer 24 = .ok (.aload 4, 2) := by decide +kernel
theorem dX5_ofLayer_26 : decode cX5_ofLayer 26 = .ok (.getfield 176, 3) := by decide +kernel
theorem dX5_ofLayer_29 : decode cX5_ofLayer 29 = .ok (.if_icmp .lt 13, 3) := by decide +kernel
theorem dX5_ofLayer_32 : decode cX5_ofLayer 32 = .ok (.new 226, 3) := by decide +kernel
theorem dX5_ofLayer_35 : decode cX5_ofLayer 35 = .ok (.dup, 1) := by decide +kernel
theorem dX5_ofLayer_36 : decode cX5_ofLayer 36 = .ok (.ldc 228, 2) := by decide +kernel
theorem dX5_ofLayer_38 : decode cX5_ofLayer 38 = .ok (.invokespecial 230, 3) := by decide +kernel
theorem dX5_ofLayer_41 : decode cX5_ofLayer 41 = .ok (.athrow, 1) := by decide +kernel
theorem dX5_ofLayer_42 : decode cX5_ofLayer 42 = .ok (.iload_n 3, 1) := by decide +kernel
theorem dX5_ofLayer_43 : decode cX5_ofLayer 43 = .ok (.iconst 0, 1) := by decide +kernel
theorem dX5_ofLayer_44 : decode cX5_ofLayer 44 = .ok (.iconst 2, 1) := by decide +kernel
theorem dX5_ofLayer_45 : decode cX5_ofLayer 45 = .ok (.invokestatic 29, 3) := by decide +kernel
theorem dX5_ofLayer_48 : decode cX5_ofLayer 48 = .ok (.iload_n 3, 1) := by decide +kernel
theorem dX5_ofLayer_49 : decode cX5_ofLayer 49 = .ok (.lookupswitch 43 #[(0, 27), (1, 35)], 27) := by decide +kernel
theorem dX5_ofLayer_76 : decode cX5_ofLayer 76 = .ok (.aload 4, 2) := by decide +kernel
theorem dX5_ofLayer_78 : decode cX5_ofLayer 78 = .ok (.getfield 231, 3) := by decide +kernel
theorem dX5_ofLayer_81 : decode cX5_ofLayer 81 = .ok (.iload_n 2, 1) := by decide +kernel
theorem dX5_ofLayer_82 : decode cX5_ofLayer 82 = .ok (.iaload, 1) := by decide +kernel
theorem dX5_ofLayer_83 : decode cX5_ofLayer 83 = .ok (.ireturn, 1) := by decide +kernel
theorem dX5_ofLayer_84 : decode cX5_ofLayer 84 = .ok (.aload 4, 2) := by decide +kernel
theorem dX5_ofLayer_86 : decode cX5_ofLayer 86 = .ok (.getfield 235, 3) := by decide +kernel
theorem dX5_ofLayer_89 : decode cX5_ofLayer 89 = .ok (.iload_n 2, 1) := by decide +kernel
theorem dX5_ofLayer_90 : decode cX5_ofLayer 90 = .ok (.iaload, 1) := by decide +kernel
theorem dX5_ofLayer_91 : decode cX5_ofLayer 91 = .ok (.ireturn, 1) := by decide +kernel
theorem dX5_ofLayer_92 : decode cX5_ofLayer 92 = .ok (.aload 4, 2) := by decide +kernel
theorem dX5_ofLayer_94 : decode cX5_ofLayer 94 = .ok (.getfield 238, 3) := by decide +kernel
theorem dX5_ofLayer_97 : decode cX5_ofLayer 97 = .ok (.iload_n 2, 1) := by decide +kernel
theorem dX5_ofLayer_98 : decode cX5_ofLayer 98 = .ok (.iaload, 1) := by decide +kernel
theorem dX5_ofLayer_99 : decode cX5_ofLayer 99 = .ok (.ireturn, 1) := by decide +kernel
theorem dX5_ofLift_0 : decode cX5_ofLift 0 = .ok (.aload_n 0, 1) := by decide +kernel
theorem dX5_ofLift_1 : decode cX5_ofLift 1 = .ok (.iload_n 1, 1) := by decide +kernel
theorem dX5_ofLift_2 : decode cX5_ofLift 2 = .ok (.invokevirtual 56, 3) := by decide +kernel
theorem dX5_ofLift_5 : decode cX5_ofLift 5 = .ok (.iload_n 2, 1) := by decide +kernel
theorem dX5_ofLift_6 : decode cX5_ofLift 6 = .ok (.iconst 0, 1) := by decide +kernel
theorem dX5_ofLift_7 : decode cX5_ofLift 7 = .ok (.iconst 5, 1) := by decide +kernel
theorem dX5_ofLift_8 : decode cX5_ofLift 8 = .ok (.invokestatic 29, 3) := by decide +kernel
theorem dX5_ofLift_11 : decode cX5_ofLift 11 = .ok (.aload_n 0, 1) := by decide +kernel
theorem dX5_ofLift_12 : decode cX5_ofLift 12 = .ok (.getfield 10, 3) := by decide +kernel
theorem dX5_ofLift_15 : decode cX5_ofLift 15 = .ok (.getfield 44, 3) := by decide +kernel
theorem dX5_ofLift_18 : decode cX5_ofLift 18 = .ok (.iload_n 1, 1) := by decide +kernel
theorem dX5_ofLift_19 : decode cX5_ofLift 19 = .ok (.aaload, 1) := by decide +kernel
theorem dX5_ofLift_20 : decode cX5_ofLift 20 = .ok (.astore_n 3, 1) := by decide +kernel
theorem dX5_ofLift_21 : decode cX5_ofLift 21 = .ok (.iload_n 2, 1) := by decide +kernel
theorem dX5_ofLift_22 : decode cX5_ofLift 22 = .ok (.tableswitch 65 0 4 #[34, 39, 44, 52, 60], 34) := by decide +kernel
theorem dX5_ofLift_56 : decode cX5_ofLift 56 = .ok (.aload_n 3, 1) := by decide +kernel
theorem dX5_ofLift_57 : decode cX5_ofLift 57 = .ok (.getfield 48, 3) := by decide +kernel
theorem dX5_ofLift_60 : decode cX5_ofLift 60 = .ok (.ireturn, 1) := by decide +kernel
theorem dX5_ofLift_61 : decode cX5_ofLift 61 = .ok (.aload_n 3, 1) := by decide +kernel
theorem dX5_ofLift_62 : decode cX5_ofLift 62 = .ok (.getfield 53, 3) := by decide +kernel
theorem dX5_ofLift_65 : decode cX5_ofLift 65 = .ok (.ireturn, 1) := by decide +kernel
theorem dX5_ofLift_66 : decode cX5_ofLift 66 = .ok (.aload_n 3, 1) := by decide +kernel
theorem dX5_ofLift_67 : decode cX5_ofLift 67 = .ok (.getfield 86, 3) := by decide +kernel
theorem dX5_ofLift_70 : decode cX5_ofLift 70 = .ok (.invokestatic 208, 3) := by decide +kernel
theorem dX5_ofLift_73 : decode cX5_ofLift 73 = .ok (.ireturn, 1) := by decide +kernel
theorem dX5_ofLift_74 : decode cX5_ofLift 74 = .ok (.aload_n 3, 1) := by decide +kernel
theorem dX5_ofLift_75 : decode cX5_ofLift 75 = .ok (.getfield 95, 3) := by decide +kernel
theorem dX5_ofLift_78 : decode cX5_ofLift 78 = .ok (.invokestatic 208, 3) := by decide +kernel
theorem dX5_ofLift_81 : decode cX5_ofLift 81 = .ok (.ireturn, 1) := by decide +kernel
theorem dX5_ofLift_82 : decode cX5_ofLift 82 = .ok (.aload_n 3, 1) := by decide +kernel
theorem dX5_ofLift_83 : decode cX5_ofLift 83 = .ok (.getfield 241, 3) := by decide +kernel
theorem dX5_ofLift_86 : decode cX5_ofLift 86 = .ok (.ireturn, 1) := by decide +kernel
theorem dX5_ofLift_87 : decode cX5_ofLift 87 = .ok (.aload_n 0, 1) := by decide +kernel
theorem dX5_ofLift_88 : decode cX5_ofLift 88 = .ok (.getfield 10, 3) := by decide +kernel
theorem dX5_ofLift_91 : decode cX5_ofLift 91 = .ok (.iload_n 1, 1) := by decide +kernel
theorem dX5_ofLift_92 : decode cX5_ofLift 92 = .ok (.invokevirtual 244, 3) := by decide +kernel
theorem dX5_ofLift_95 : decode cX5_ofLift 95 = .ok (.ireturn, 1) := by decide +kernel
theorem dX5_many_0 : decode cX5_many 0 = .ok (.iload_n 1, 1) := by decide +kernel
theorem dX5_many_1 : decode cX5_many 1 = .ok (.iconst 0, 1) := by decide +kernel
theorem dX5_many_2 : decode cX5_many 2 = .ok (.bipush 14, 2) := by decide +kernel
theorem dX5_many_4 : decode cX5_many 4 = .ok (.invokestatic 29, 3) := by decide +kernel
theorem dX5_many_7 : decode cX5_many 7 = .ok (.iload_n 1, 1) := by decide +kernel
theorem dX5_many_8 : decode cX5_many 8 = .ok (.tableswitch 184 0 13 #[72, 80, 88, 96, 104, 112, 120, 128, 136, 144, 152, 160, 168, 176], 72) := by decide +kernel
theorem dX5_many_80 : decode cX5_many 80 = .ok (.aload_n 0, 1) := by decide +kernel
theorem dX5_many_81 : decode cX5_many 81 = .ok (.getfield 10, 3) := by decide +kernel
theorem dX5_many_84 : decode cX5_many 84 = .ok (.getfield 116, 3) := by decide +kernel
theorem dX5_many_87 : decode cX5_many 87 = .ok (.ireturn, 1) := by decide +kernel
theorem dX5_many_88 : decode cX5_many 88 = .ok (.aload_n 0, 1) := by decide +kernel
theorem dX5_many_89 : decode cX5_many 89 = .ok (.getfield 10, 3) := by decide +kernel
theorem dX5_many_92 : decode cX5_many 92 = .ok (.getfield 33, 3) := by decide +kernel
theorem dX5_many_95 : decode cX5_many 95 = .ok (.ireturn, 1) := by decide +kernel
theorem dX5_many_96 : decode cX5_many 96 = .ok (.aload_n 0, 1) := by decide +kernel
theorem dX5_many_97 : decode cX5_many 97 = .ok (.getfield 10, 3) := by decide +kernel
theorem dX5_many_100 : decode cX5_many 100 = .ok (.getfield 60, 3) := by decide +kernel
theorem dX5_many_103 : decode cX5_many 103 = .ok (.ireturn, 1) := by decide +kernel
theorem dX5_many_104 : decode cX5_many 104 = .ok (.aload_n 0, 1) := by decide +kernel
theorem dX5_many_105 : decode cX5_many 105 = .ok (.getfield 10, 3) := by decide +kernel
theorem dX5_many_108 : decode cX5_many 108 = .ok (.invokevirtual 248, 3) := by decide +kernel
theorem dX5_many_111 : decode cX5_many 111 = .ok (.ireturn, 1) := by decide +kernel
theorem dX5_many_112 : decode cX5_many 112 = .ok (.aload_n 0, 1) := by decide +kernel
theorem dX5_many_113 : decode cX5_many 113 = .ok (.getfield 10, 3) := by decide +kernel
theorem dX5_many_116 : decode cX5_many 116 = .ok (.getfield 104, 3) := by decide +kernel
theorem dX5_many_119 : decode cX5_many 119 = .ok (.ireturn, 1) := by decide +kernel
theorem dX5_many_120 : decode cX5_many 120 = .ok (.aload_n 0, 1) := by decide +kernel
theorem dX5_many_121 : decode cX5_many 121 = .ok (.getfield 10, 3) := by decide +kernel
theorem dX5_many_124 : decode cX5_many 124 = .ok (.getfield 135, 3) := by decide +kernel
theorem dX5_many_127 : decode cX5_many 127 = .ok (.ireturn, 1) := by decide +kernel
theorem dX5_many_128 : decode cX5_many 128 = .ok (.aload_n 0, 1) := by decide +kernel
theorem dX5_many_129 : decode cX5_many 129 = .ok (.getfield 10, 3) := by decide +kernel
theorem dX5_many_132 : decode cX5_many 132 = .ok (.getfield 183, 3) := by decide +kernel
theorem dX5_many_135 : decode cX5_many 135 = .ok (.ireturn, 1) := by decide +kernel
theorem dX5_many_136 : decode cX5_many 136 = .ok (.aload_n 0, 1) := by decide +kernel
theorem dX5_many_137 : decode cX5_many 137 = .ok (.getfield 10, 3) := by decide +kernel
theorem dX5_many_140 : decode cX5_many 140 = .ok (.getfield 113, 3) := by decide +kernel
theorem dX5_many_143 : decode cX5_many 143 = .ok (.ireturn, 1) := by decide +kernel
theorem dX5_many_144 : decode cX5_many 144 = .ok (.aload_n 0, 1) := by decide +kernel
theorem dX5_many_145 : decode cX5_many 145 = .ok (.getfield 10, 3) := by decide +kernel
theorem dX5_many_148 : decode cX5_many 148 = .ok (.getfield 121, 3) := by decide +kernel
theorem dX5_many_151 : decode cX5_many 151 = .ok (.ireturn, 1) := by decide +kernel
theorem dX5_many_152 : decode cX5_many 152 = .ok (.aload_n 0, 1) := by decide +kernel
theorem dX5_many_153 : decode cX5_many 153 = .ok (.getfield 10, 3) := by decide +kernel
theorem dX5_many_156 : decode cX5_many 156 = .ok (.getfield 251, 3) := by decide +kernel
theorem dX5_many_159 : decode cX5_many 159 = .ok (.ireturn, 1) := by decide +kernel
theorem dX5_many_160 : decode cX5_many 160 = .ok (.aload_n 0, 1) := by decide +kernel
theorem dX5_many_161 : decode cX5_many 161 = .ok (.getfield 10, 3) := by decide +kernel
theorem dX5_many_164 : decode cX5_many 164 = .ok (.getfield 254, 3) := by decide +kernel
theorem dX5_many_167 : decode cX5_many 167 = .ok (.ireturn, 1) := by decide +kernel
theorem dX5_many_168 : decode cX5_many 168 = .ok (.aload_n 0, 1) := by decide +kernel
theorem dX5_many_169 : decode cX5_many 169 = .ok (.getfield 10, 3) := by decide +kernel
theorem dX5_many_172 : decode cX5_many 172 = .ok (.getfield 257, 3) := by decide +kernel
theorem dX5_many_175 : decode cX5_many 175 = .ok (.ireturn, 1) := by decide +kernel
theorem dX5_many_176 : decode cX5_many 176 = .ok (.aload_n 0, 1) := by decide +kernel
theorem dX5_many_177 : decode cX5_many 177 = .ok (.getfield 10, 3) := by decide +kernel
theorem dX5_many_180 : decode cX5_many 180 = .ok (.getfield 260, 3) := by decide +kernel
theorem dX5_many_183 : decode cX5_many 183 = .ok (.ireturn, 1) := by decide +kernel
theorem dX5_many_184 : decode cX5_many 184 = .ok (.aload_n 0, 1) := by decide +kernel
theorem dX5_many_185 : decode cX5_many 185 = .ok (.getfield 10, 3) := by decide +kernel
theorem dX5_many_188 : decode cX5_many 188 = .ok (.getfield 261, 3) := by decide +kernel
theorem dX5_many_191 : decode cX5_many 191 = .ok (.ireturn, 1) := by decide +kernel
theorem dX5_many_192 : decode cX5_many 192 = .ok (.aload_n 0, 1) := by decide +kernel
theorem dX5_many_193 : decode cX5_many 193 = .ok (.getfield 10, 3) := by decide +kernel
theorem dX5_many_196 : decode cX5_many 196 = .ok (.invokevirtual 264, 3) := by decide +kernel
theorem dX5_many_199 : decode cX5_many 199 = .ok (.ireturn, 1) := by decide +kernel
theorem dX5_meanDepth_0 : decode cX5_meanDepth 0 = .ok (.aload_n 0, 1) := by decide +kernel
theorem dX5_meanDepth_1 : decode cX5_meanDepth 1 = .ok (.getfield 10, 3) := by decide +kernel
theorem dX5_meanDepth_4 : decode cX5_meanDepth 4 = .ok (.invokevirtual 267, 3) := by decide +kernel
theorem dX5_meanDepth_7 : decode cX5_meanDepth 7 = .ok (.istore_n 1, 1) := by decide +kernel
theorem dX5_meanDepth_8 : decode cX5_meanDepth 8 = .ok (.iload_n 1, 1) := by decide +kernel
theorem dX5_meanDepth_9 : decode cX5_meanDepth 9 = .ok (.iconst 1, 1) := by decide +kernel
theorem dX5_meanDepth_10 : decode cX5_meanDepth 10 = .ok (.if_icmp .ge 7, 3) := by decide +kernel
theorem dX5_meanDepth_13 : decode cX5_meanDepth 13 = .ok (.dconst 0, 1) := by decide +kernel
theorem dX5_meanDepth_14 : decode cX5_meanDepth 14 = .ok (.goto 14, 3) := by decide +kernel
theorem dX5_meanDepth_17 : decode cX5_meanDepth 17 = .ok (.aload_n 0, 1) := by decide +kernel
theorem dX5_meanDepth_18 : decode cX5_meanDepth 18 = .ok (.getfield 10, 3) := by decide +kernel
theorem dX5_meanDepth_21 : decode cX5_meanDepth 21 = .ok (.invokevirtual 264, 3) := by decide +kernel
theorem dX5_meanDepth_24 : decode cX5_meanDepth 24 = .ok (.i2d, 1) := by decide +kernel
theorem dX5_meanDepth_25 : decode cX5_meanDepth 25 = .ok (.iload_n 1, 1) := by decide +kernel
theorem dX5_meanDepth_26 : decode cX5_meanDepth 26 = .ok (.i2d, 1) := by decide +kernel
theorem dX5_meanDepth_27 : decode cX5_meanDepth 27 = .ok (.ddiv, 1) := by decide +kernel
theorem dX5_meanDepth_28 : decode cX5_meanDepth 28 = .ok (.dreturn, 1) := by decide +kernel
theorem dX5_wouldRisk_0 : decode cX5_wouldRisk 0 = .ok (.aload_n 0, 1) := by decide +kernel
theorem dX5_wouldRisk_1 : decode cX5_wouldRisk 1 = .ok (.iload_n 1, 1) := by decide +kernel
theorem dX5_wouldRisk_2 : decode cX5_wouldRisk 2 = .ok (.invokevirtual 98, 3) := by decide +kernel
theorem dX5_wouldRisk_5 : decode cX5_wouldRisk 5 = .ok (.iload_n 2, 1) := by decide +kernel
theorem dX5_wouldRisk_6 : decode cX5_wouldRisk 6 = .ok (.iconst 1, 1) := by decide +kernel
theorem dX5_wouldRisk_7 : decode cX5_wouldRisk 7 = .ok (.bipush 48, 2) := by decide +kernel
theorem dX5_wouldRisk_9 : decode cX5_wouldRisk 9 = .ok (.invokestatic 29, 3) := by decide +kernel
theorem dX5_wouldRisk_12 : decode cX5_wouldRisk 12 = .ok (.iload_n 3, 1) := by decide +kernel
theorem dX5_wouldRisk_13 : decode cX5_wouldRisk 13 = .ok (.bipush (-20), 2) := by decide +kernel
theorem dX5_wouldRisk_15 : decode cX5_wouldRisk 15 = .ok (.bipush 20, 2) := by decide +kernel
theorem dX5_wouldRisk_17 : decode cX5_wouldRisk 17 = .ok (.invokestatic 29, 3) := by decide +kernel
theorem dX5_wouldRisk_20 : decode cX5_wouldRisk 20 = .ok (.iload 4, 2) := by decide +kernel
theorem dX5_wouldRisk_22 : decode cX5_wouldRisk 22 = .ok (.iconst 0, 1) := by decide +kernel
theorem dX5_wouldRisk_23 : decode cX5_wouldRisk 23 = .ok (.bipush 9, 2) := by decide +kernel
theorem dX5_wouldRisk_25 : decode cX5_wouldRisk 25 = .ok (.invokestatic 29, 3) := by decide +kernel
theorem dX5_wouldRisk_28 : decode cX5_wouldRisk 28 = .ok (.aload_n 0, 1) := by decide +kernel
theorem dX5_wouldRisk_29 : decode cX5_wouldRisk 29 = .ok (.getfield 25, 3) := by decide +kernel
theorem dX5_wouldRisk_32 : decode cX5_wouldRisk 32 = .ok (.iload_n 3, 1) := by decide +kernel
theorem dX5_wouldRisk_33 : decode cX5_wouldRisk 33 = .ok (.iload 4, 2) := by decide +kernel
theorem dX5_wouldRisk_35 : decode cX5_wouldRisk 35 = .ok (.iconst 0, 1) := by decide +kernel
theorem dX5_wouldRisk_36 : decode cX5_wouldRisk 36 = .ok (.iconst 0, 1) := by decide +kernel
theorem dX5_wouldRisk_37 : decode cX5_wouldRisk 37 = .ok (.bipush 100, 2) := by decide +kernel
theorem dX5_wouldRisk_39 : decode cX5_wouldRisk 39 = .ok (.invokevirtual 124, 3) := by decide +kernel
theorem dX5_wouldRisk_42 : decode cX5_wouldRisk 42 = .ok (.aload_n 0, 1) := by decide +kernel
theorem dX5_wouldRisk_43 : decode cX5_wouldRisk 43 = .ok (.getfield 16, 3) := by decide +kernel
theorem dX5_wouldRisk_46 : decode cX5_wouldRisk 46 = .ok (.aload_n 0, 1) := by decide +kernel
theorem dX5_wouldRisk_47 : decode cX5_wouldRisk 47 = .ok (.getfield 10, 3) := by decide +kernel
theorem dX5_wouldRisk_50 : decode cX5_wouldRisk 50 = .ok (.invokevirtual 270, 3) := by decide +kernel
theorem dX5_wouldRisk_53 : decode cX5_wouldRisk 53 = .ok (.iconst 0, 1) := by decide +kernel
theorem dX5_wouldRisk_54 : decode cX5_wouldRisk 54 = .ok (.istore 5, 2) := by decide +kernel
theorem dX5_wouldRisk_56 : decode cX5_wouldRisk 56 = .ok (.iconst 0, 1) := by decide +kernel
theorem dX5_wouldRisk_57 : decode cX5_wouldRisk 57 = .ok (.istore 6, 2) := by decide +kernel
theorem dX5_wouldRisk_59 : decode cX5_wouldRisk 59 = .ok (.iload 6, 2) := by decide +kernel
theorem dX5_wouldRisk_61 : decode cX5_wouldRisk 61 = .ok (.iload_n 2, 1) := by decide +kernel
theorem dX5_wouldRisk_62 : decode cX5_wouldRisk 62 = .ok (.if_icmp .ge 39, 3) := by decide +kernel
theorem dX5_wouldRisk_65 : decode cX5_wouldRisk 65 = .ok (.aload_n 0, 1) := by decide +kernel
theorem dX5_wouldRisk_66 : decode cX5_wouldRisk 66 = .ok (.getfield 16, 3) := by decide +kernel
theorem dX5_wouldRisk_69 : decode cX5_wouldRisk 69 = .ok (.aload_n 0, 1) := by decide +kernel
theorem dX5_wouldRisk_70 : decode cX5_wouldRisk 70 = .ok (.getfield 25, 3) := by decide +kernel
theorem dX5_wouldRisk_73 : decode cX5_wouldRisk 73 = .ok (.invokevirtual 128, 3) := by decide +kernel
theorem dX5_wouldRisk_76 : decode cX5_wouldRisk 76 = .ok (.iload 5, 2) := by decide +kernel
theorem dX5_wouldRisk_78 : decode cX5_wouldRisk 78 = .ok (.aload_n 0, 1) := by decide +kernel
theorem dX5_wouldRisk_79 : decode cX5_wouldRisk 79 = .ok (.getfield 16, 3) := by decide +kernel
theorem dX5_wouldRisk_82 : decode cX5_wouldRisk 82 = .ok (.getfield 65, 3) := by decide +kernel
theorem dX5_wouldRisk_85 : decode cX5_wouldRisk 85 = .ok (.iload_n 1, 1) := by decide +kernel
theorem dX5_wouldRisk_86 : decode cX5_wouldRisk 86 = .ok (.aaload, 1) := by decide +kernel
theorem dX5_wouldRisk_87 : decode cX5_wouldRisk 87 = .ok (.getfield 274, 3) := by decide +kernel
theorem dX5_wouldRisk_90 : decode cX5_wouldRisk 90 = .ok (.invokestatic 277, 3) := by decide +kernel
theorem dX5_wouldRisk_93 : decode cX5_wouldRisk 93 = .ok (.istore 5, 2) := by decide +kernel
theorem dX5_wouldRisk_95 : decode cX5_wouldRisk 95 = .ok (.iinc 6 1, 3) := by decide +kernel
theorem dX5_wouldRisk_98 : decode cX5_wouldRisk 98 = .ok (.goto (-39), 3) := by decide +kernel
theorem dX5_wouldRisk_101 : decode cX5_wouldRisk 101 = .ok (.iload 5, 2) := by decide +kernel
theorem dX5_wouldRisk_103 : decode cX5_wouldRisk 103 = .ok (.ireturn, 1) := by decide +kernel
theorem dX5_wouldMake_0 : decode cX5_wouldMake 0 = .ok (.aload_n 0, 1) := by decide +kernel
theorem dX5_wouldMake_1 : decode cX5_wouldMake 1 = .ok (.iload_n 1, 1) := by decide +kernel
theorem dX5_wouldMake_2 : decode cX5_wouldMake 2 = .ok (.invokevirtual 98, 3) := by decide +kernel
theorem dX5_wouldMake_5 : decode cX5_wouldMake 5 = .ok (.iload_n 2, 1) := by decide +kernel
theorem dX5_wouldMake_6 : decode cX5_wouldMake 6 = .ok (.iconst 1, 1) := by decide +kernel
theorem dX5_wouldMake_7 : decode cX5_wouldMake 7 = .ok (.bipush 48, 2) := by decide +kernel
theorem dX5_wouldMake_9 : decode cX5_wouldMake 9 = .ok (.invokestatic 29, 3) := by decide +kernel
theorem dX5_wouldMake_12 : decode cX5_wouldMake 12 = .ok (.iload_n 3, 1) := by decide +kernel
theorem dX5_wouldMake_13 : decode cX5_wouldMake 13 = .ok (.bipush (-20), 2) := by decide +kernel
theorem dX5_wouldMake_15 : decode cX5_wouldMake 15 = .ok (.bipush 20, 2) := by decide +kernel
theorem dX5_wouldMake_17 : decode cX5_wouldMake 17 = .ok (.invokestatic 29, 3) := by decide +kernel
theorem dX5_wouldMake_20 : decode cX5_wouldMake 20 = .ok (.iload 4, 2) := by decide +kernel
theorem dX5_wouldMake_22 : decode cX5_wouldMake 22 = .ok (.iconst 0, 1) := by decide +kernel
theorem dX5_wouldMake_23 : decode cX5_wouldMake 23 = .ok (.bipush 100, 2) := by decide +kernel
theorem dX5_wouldMake_25 : decode cX5_wouldMake 25 = .ok (.invokestatic 29, 3) := by decide +kernel
theorem dX5_wouldMake_28 : decode cX5_wouldMake 28 = .ok (.aload_n 0, 1) := by decide +kernel
theorem dX5_wouldMake_29 : decode cX5_wouldMake 29 = .ok (.getfield 10, 3) := by decide +kernel
theorem dX5_wouldMake_32 : decode cX5_wouldMake 32 = .ok (.getfield 65, 3) := by decide +kernel
theorem dX5_wouldMake_35 : decode cX5_wouldMake 35 = .ok (.iload_n 1, 1) := by decide +kernel
theorem dX5_wouldMake_36 : decode cX5_wouldMake 36 = .ok (.aaload, 1) := by decide +kernel
theorem dX5_wouldMake_37 : decode cX5_wouldMake 37 = .ok (.getfield 101, 3) := by decide +kernel
theorem dX5_wouldMake_40 : decode cX5_wouldMake 40 = .ok (.iconst 1, 1) := by decide +kernel
theorem dX5_wouldMake_41 : decode cX5_wouldMake 41 = .ok (.if_icmp .ge 5, 3) := by decide +kernel
theorem dX5_wouldMake_44 : decode cX5_wouldMake 44 = .ok (.iconst 0, 1) := by decide +kernel
theorem dX5_wouldMake_45 : decode cX5_wouldMake 45 = .ok (.ireturn, 1) := by decide +kernel
theorem dX5_wouldMake_46 : decode cX5_wouldMake 46 = .ok (.aload_n 0, 1) := by decide +kernel
theorem dX5_wouldMake_47 : decode cX5_wouldMake 47 = .ok (.getfield 25, 3) := by decide +kernel
theorem dX5_wouldMake_50 : decode cX5_wouldMake 50 = .ok (.iload_n 3, 1) := by decide +kernel
theorem dX5_wouldMake_51 : decode cX5_wouldMake 51 = .ok (.iconst 0, 1) := by decide +kernel
theorem dX5_wouldMake_52 : decode cX5_wouldMake 52 = .ok (.iconst 0, 1) := by decide +kernel
theorem dX5_wouldMake_53 : decode cX5_wouldMake 53 = .ok (.iconst 0, 1) := by decide +kernel
theorem dX5_wouldMake_54 : decode cX5_wouldMake 54 = .ok (.iload 4, 2) := by decide +kernel
theorem dX5_wouldMake_56 : decode cX5_wouldMake 56 = .ok (.invokevirtual 124, 3) := by decide +kernel
theorem dX5_wouldMake_59 : decode cX5_wouldMake 59 = .ok (.aload_n 0, 1) := by decide +kernel
theorem dX5_wouldMake_60 : decode cX5_wouldMake 60 = .ok (.getfield 19, 3) := by decide +kernel
theorem dX5_wouldMake_63 : decode cX5_wouldMake 63 = .ok (.aload_n 0, 1) := by decide +kernel
theorem dX5_wouldMake_64 : decode cX5_wouldMake 64 = .ok (.getfield 10, 3) := by decide +kernel
theorem dX5_wouldMake_67 : decode cX5_wouldMake 67 = .ok (.invokevirtual 270, 3) := by decide +kernel
theorem dX5_wouldMake_70 : decode cX5_wouldMake 70 = .ok (.aload_n 0, 1) := by decide +kernel
theorem dX5_wouldMake_71 : decode cX5_wouldMake 71 = .ok (.getfield 19, 3) := by decide +kernel
theorem dX5_wouldMake_74 : decode cX5_wouldMake 74 = .ok (.invokevirtual 280, 3) := by decide +kernel
theorem dX5_wouldMake_77 : decode cX5_wouldMake 77 = .ok (.aload_n 0, 1) := by decide +kernel
theorem dX5_wouldMake_78 : decode cX5_wouldMake 78 = .ok (.getfield 16, 3) := by decide +kernel
theorem dX5_wouldMake_81 : decode cX5_wouldMake 81 = .ok (.aload_n 0, 1) := by decide +kernel
theorem dX5_wouldMake_82 : decode cX5_wouldMake 82 = .ok (.getfield 19, 3) := by decide +kernel
theorem dX5_wouldMake_85 : decode cX5_wouldMake 85 = .ok (.invokevirtual 270, 3) := by decide +kernel
theorem dX5_wouldMake_88 : decode cX5_wouldMake 88 = .ok (.aload_n 0, 1) := by decide +kernel
theorem dX5_wouldMake_89 : decode cX5_wouldMake 89 = .ok (.getfield 16, 3) := by decide +kernel
theorem dX5_wouldMake_92 : decode cX5_wouldMake 92 = .ok (.getfield 65, 3) := by decide +kernel
theorem dX5_wouldMake_95 : decode cX5_wouldMake 95 = .ok (.iload_n 1, 1) := by decide +kernel
theorem dX5_wouldMake_96 : decode cX5_wouldMake 96 = .ok (.aaload, 1) := by decide +kernel
theorem dX5_wouldMake_97 : decode cX5_wouldMake 97 = .ok (.aload_n 0, 1) := by decide +kernel
theorem dX5_wouldMake_98 : decode cX5_wouldMake 98 = .ok (.getfield 10, 3) := by decide +kernel
theorem dX5_wouldMake_101 : decode cX5_wouldMake 101 = .ok (.getfield 65, 3) := by decide +kernel
theorem dX5_wouldMake_104 : decode cX5_wouldMake 104 = .ok (.iload_n 1, 1) := by decide +kernel
theorem dX5_wouldMake_105 : decode cX5_wouldMake 105 = .ok (.aaload, 1) := by decide +kernel
theorem dX5_wouldMake_106 : decode cX5_wouldMake 106 = .ok (.getfield 101, 3) := by decide +kernel
theorem dX5_wouldMake_109 : decode cX5_wouldMake 109 = .ok (.putfield 101, 3) := by decide +kernel
theorem dX5_wouldMake_112 : decode cX5_wouldMake 112 = .ok (.iconst 0, 1) := by decide +kernel
theorem dX5_wouldMake_113 : decode cX5_wouldMake 113 = .ok (.istore 5, 2) := by decide +kernel
theorem dX5_wouldMake_115 : decode cX5_wouldMake 115 = .ok (.iload 5, 2) := by decide +kernel
theorem dX5_wouldMake_117 : decode cX5_wouldMake 117 = .ok (.iload_n 2, 1) := by decide +kernel
theorem dX5_wouldMake_118 : decode cX5_wouldMake 118 = .ok (.if_icmp .ge 31, 3) := by decide +kernel
theorem dX5_wouldMake_121 : decode cX5_wouldMake 121 = .ok (.aload_n 0, 1) := by decide +kernel
theorem dX5_wouldMake_122 : decode cX5_wouldMake 122 = .ok (.getfield 16, 3) := by decide +kernel
theorem dX5_wouldMake_125 : decode cX5_wouldMake 125 = .ok (.aload_n 0, 1) := by decide +kernel
theorem dX5_wouldMake_126 : decode cX5_wouldMake 126 = .ok (.getfield 25, 3) := by decide +kernel
theorem dX5_wouldMake_129 : decode cX5_wouldMake 129 = .ok (.invokevirtual 128, 3) := by decide +kernel
theorem dX5_wouldMake_132 : decode cX5_wouldMake 132 = .ok (.aload_n 0, 1) := by decide +kernel
theorem dX5_wouldMake_133 : decode cX5_wouldMake 133 = .ok (.getfield 19, 3) := by decide +kernel
theorem dX5_wouldMake_136 : decode cX5_wouldMake 136 = .ok (.aload_n 0, 1) := by decide +kernel
theorem dX5_wouldMake_137 : decode cX5_wouldMake 137 = .ok (.getfield 25, 3) := by decide +kernel
theorem dX5_wouldMake_140 : decode cX5_wouldMake 140 = .ok (.invokevirtual 128, 3) := by decide +kernel
theorem dX5_wouldMake_143 : decode cX5_wouldMake 143 = .ok (.iinc 5 1, 3) := by decide +kernel
theorem dX5_wouldMake_146 : decode cX5_wouldMake 146 = .ok (.goto (-31), 3) := by decide +kernel
theorem dX5_wouldMake_149 : decode cX5_wouldMake 149 = .ok (.aload_n 0, 1) := by decide +kernel
theorem dX5_wouldMake_150 : decode cX5_wouldMake 150 = .ok (.getfield 16, 3) := by decide +kernel
theorem dX5_wouldMake_153 : decode cX5_wouldMake 153 = .ok (.getfield 65, 3) := by decide +kernel
theorem dX5_wouldMake_156 : decode cX5_wouldMake 156 = .ok (.iload_n 1, 1) := by decide +kernel
theorem dX5_wouldMake_157 : decode cX5_wouldMake 157 = .ok (.aaload, 1) := by decide +kernel
theorem dX5_wouldMake_158 : decode cX5_wouldMake 158 = .ok (.getfield 169, 3) := by decide +kernel
theorem dX5_wouldMake_161 : decode cX5_wouldMake 161 = .ok (.invokevirtual 202, 3) := by decide +kernel
theorem dX5_wouldMake_164 : decode cX5_wouldMake 164 = .ok (.aload_n 0, 1) := by decide +kernel
theorem dX5_wouldMake_165 : decode cX5_wouldMake 165 = .ok (.getfield 19, 3) := by decide +kernel
theorem dX5_wouldMake_168 : decode cX5_wouldMake 168 = .ok (.getfield 65, 3) := by decide +kernel
theorem dX5_wouldMake_171 : decode cX5_wouldMake 171 = .ok (.iload_n 1, 1) := by decide +kernel
theorem dX5_wouldMake_172 : decode cX5_wouldMake 172 = .ok (.aaload, 1) := by decide +kernel
theorem dX5_wouldMake_173 : decode cX5_wouldMake 173 = .ok (.getfield 169, 3) := by decide +kernel
theorem dX5_wouldMake_176 : decode cX5_wouldMake 176 = .ok (.invokevirtual 202, 3) := by decide +kernel
theorem dX5_wouldMake_179 : decode cX5_wouldMake 179 = .ok (.isub, 1) := by decide +kernel
theorem dX5_wouldMake_180 : decode cX5_wouldMake 180 = .ok (.ireturn, 1) := by decide +kernel
theorem dX5_nextBlast_0 : decode cX5_nextBlast 0 = .ok (.iconst (-1), 1) := by decide +kernel
theorem dX5_nextBlast_1 : decode cX5_nextBlast 1 = .ok (.istore_n 1, 1) := by decide +kernel
theorem dX5_nextBlast_2 : decode cX5_nextBlast 2 = .ok (.iconst 0, 1) := by decide +kernel
theorem dX5_nextBlast_3 : decode cX5_nextBlast 3 = .ok (.istore_n 2, 1) := by decide +kernel
theorem dX5_nextBlast_4 : decode cX5_nextBlast 4 = .ok (.iconst 0, 1) := by decide +kernel
theorem dX5_nextBlast_5 : decode cX5_nextBlast 5 = .ok (.istore_n 3, 1) := by decide +kernel
theorem dX5_nextBlast_6 : decode cX5_nextBlast 6 = .ok (.iload_n 3, 1) := by decide +kernel
theorem dX5_nextBlast_7 : decode cX5_nextBlast 7 = .ok (.aload_n 0, 1) := by decide +kernel
theorem dX5_nextBlast_8 : decode cX5_nextBlast 8 = .ok (.getfield 10, 3) := by decide +kernel
theorem dX5_nextBlast_11 : decode cX5_nextBlast 11 = .ok (.getfield 60, 3) := by decide +kernel
theorem dX5_nextBlast_14 : decode cX5_nextBlast 14 = .ok (.if_icmp .ge 85, 3) := by decide +kernel
theorem dX5_nextBlast_17 : decode cX5_nextBlast 17 = .ok (.aload_n 0, 1) := by decide +kernel
theorem dX5_nextBlast_18 : decode cX5_nextBlast 18 = .ok (.getfield 10, 3) := by decide +kernel
theorem dX5_nextBlast_21 : decode cX5_nextBlast 21 = .ok (.getfield 65, 3) := by decide +kernel
theorem dX5_nextBlast_24 : decode cX5_nextBlast 24 = .ok (.iload_n 3, 1) := by decide +kernel
theorem dX5_nextBlast_25 : decode cX5_nextBlast 25 = .ok (.aaload, 1) := by decide +kernel
theorem dX5_nextBlast_26 : decode cX5_nextBlast 26 = .ok (.astore 4, 2) := by decide +kernel
theorem dX5_nextBlast_28 : decode cX5_nextBlast 28 = .ok (.aload 4, 2) := by decide +kernel
theorem dX5_nextBlast_30 : decode cX5_nextBlast 30 = .ok (.getfield 194, 3) := by decide +kernel
theorem dX5_nextBlast_33 : decode cX5_nextBlast 33 = .ok (.ifCond .ne 25, 3) := by decide +kernel
theorem dX5_nextBlast_36 : decode cX5_nextBlast 36 = .ok (.aload 4, 2) := by decide +kernel
theorem dX5_nextBlast_38 : decode cX5_nextBlast 38 = .ok (.getfield 140, 3) := by decide +kernel
theorem dX5_nextBlast_41 : decode cX5_nextBlast 41 = .ok (.ifCond .ne 17, 3) := by decide +kernel
theorem dX5_nextBlast_44 : decode cX5_nextBlast 44 = .ok (.aload 4, 2) := by decide +kernel
theorem dX5_nextBlast_46 : decode cX5_nextBlast 46 = .ok (.invokevirtual 143, 3) := by decide +kernel
theorem dX5_nextBlast_49 : decode cX5_nextBlast 49 = .ok (.bipush 40, 2) := by decide +kernel
theorem dX5_nextBlast_51 : decode cX5_nextBlast 51 = .ok (.if_icmp .lt 7, 3) := by decide +kernel
theorem dX5_nextBlast_54 : decode cX5_nextBlast 54 = .ok (.iconst 1, 1) := by decide +kernel
theorem dX5_nextBlast_55 : decode cX5_nextBlast 55 = .ok (.goto 4, 3) := by decide +kernel
theorem dX5_nextBlast_58 : decode cX5_nextBlast 58 = .ok (.iconst 0, 1) := by decide +kernel
theorem dX5_nextBlast_59 : decode cX5_nextBlast 59 = .ok (.istore 5, 2) := by decide +kernel
theorem dX5_nextBlast_61 : decode cX5_nextBlast 61 = .ok (.iload 5, 2) := by decide +kernel
theorem dX5_nextBlast_63 : decode cX5_nextBlast 63 = .ok (.ifCond .eq 16, 3) := by decide +kernel
theorem dX5_nextBlast_66 : decode cX5_nextBlast 66 = .ok (.aload 4, 2) := by decide +kernel
theorem dX5_nextBlast_68 : decode cX5_nextBlast 68 = .ok (.aload 4, 2) := by decide +kernel
theorem dX5_nextBlast_70 : decode cX5_nextBlast 70 = .ok (.invokevirtual 212, 3) := by decide +kernel
theorem dX5_nextBlast_73 : decode cX5_nextBlast 73 = .ok (.invokevirtual 283, 3) := by decide +kernel
theorem dX5_nextBlast_76 : decode cX5_nextBlast 76 = .ok (.goto 4, 3) := by decide +kernel
theorem dX5_nextBlast_79 : decode cX5_nextBlast 79 = .ok (.iconst 0, 1) := by decide +kernel
theorem dX5_nextBlast_80 : decode cX5_nextBlast 80 = .ok (.istore 6, 2) := by decide +kernel
theorem dX5_nextBlast_82 : decode cX5_nextBlast 82 = .ok (.iload 6, 2) := by decide +kernel
theorem dX5_nextBlast_84 : decode cX5_nextBlast 84 = .ok (.iload_n 2, 1) := by decide +kernel
theorem dX5_nextBlast_85 : decode cX5_nextBlast 85 = .ok (.if_icmp .le 8, 3) := by decide +kernel
theorem dX5_nextBlast_88 : decode cX5_nextBlast 88 = .ok (.iload 6, 2) := by decide +kernel
theorem dX5_nextBlast_90 : decode cX5_nextBlast 90 = .ok (.istore_n 2, 1) := by decide +kernel
theorem dX5_nextBlast_91 : decode cX5_nextBlast 91 = .ok (.iload_n 3, 1) := by decide +kernel
theorem dX5_nextBlast_92 : decode cX5_nextBlast 92 = .ok (.istore_n 1, 1) := by decide +kernel
theorem dX5_nextBlast_93 : decode cX5_nextBlast 93 = .ok (.iinc 3 1, 3) := by decide +kernel
theorem dX5_nextBlast_96 : decode cX5_nextBlast 96 = .ok (.goto (-90), 3) := by decide +kernel
theorem dX5_nextBlast_99 : decode cX5_nextBlast 99 = .ok (.iload_n 1, 1) := by decide +kernel
theorem dX5_nextBlast_100 : decode cX5_nextBlast 100 = .ok (.ireturn, 1) := by decide +kernel
theorem dX5_couldOpen_0 : decode cX5_couldOpen 0 = .ok (.iconst 0, 1) := by decide +kernel
theorem dX5_couldOpen_1 : decode cX5_couldOpen 1 = .ok (.istore_n 1, 1) := by decide +kernel
theorem dX5_couldOpen_2 : decode cX5_couldOpen 2 = .ok (.iconst 0, 1) := by decide +kernel
theorem dX5_couldOpen_3 : decode cX5_couldOpen 3 = .ok (.istore_n 2, 1) := by decide +kernel
theorem dX5_couldOpen_4 : decode cX5_couldOpen 4 = .ok (.iload_n 2, 1) := by decide +kernel
theorem dX5_couldOpen_5 : decode cX5_couldOpen 5 = .ok (.aload_n 0, 1) := by decide +kernel
theorem dX5_couldOpen_6 : decode cX5_couldOpen 6 = .ok (.getfield 10, 3) := by decide +kernel
theorem dX5_couldOpen_9 : decode cX5_couldOpen 9 = .ok (.getfield 60, 3) := by decide +kernel
theorem dX5_couldOpen_12 : decode cX5_couldOpen 12 = .ok (.if_icmp .ge 81, 3) := by decide +kernel
theorem dX5_couldOpen_15 : decode cX5_couldOpen 15 = .ok (.aload_n 0, 1) := by decide +kernel
theorem dX5_couldOpen_16 : decode cX5_couldOpen 16 = .ok (.getfield 10, 3) := by decide +kernel
theorem dX5_couldOpen_19 : decode cX5_couldOpen 19 = .ok (.getfield 65, 3) := by decide +kernel
theorem dX5_couldOpen_22 : decode cX5_couldOpen 22 = .ok (.iload_n 2, 1) := by decide +kernel
theorem dX5_couldOpen_23 : decode cX5_couldOpen 23 = .ok (.aaload, 1) := by decide +kernel
theorem dX5_couldOpen_24 : decode cX5_couldOpen 24 = .ok (.astore_n 3, 1) := by decide +kernel
theorem dX5_couldOpen_25 : decode cX5_couldOpen 25 = .ok (.aload_n 0, 1) := by decide +kernel
theorem dX5_couldOpen_26 : decode cX5_couldOpen 26 = .ok (.getfield 10, 3) := by decide +kernel
theorem dX5_couldOpen_29 : decode cX5_couldOpen 29 = .ok (.iload_n 2, 1) := by decide +kernel
theorem dX5_couldOpen_30 : decode cX5_couldOpen 30 = .ok (.aload_n 3, 1) := by decide +kernel
theorem dX5_couldOpen_31 : decode cX5_couldOpen 31 = .ok (.invokevirtual 153, 3) := by decide +kernel
theorem dX5_couldOpen_34 : decode cX5_couldOpen 34 = .ok (.istore 4, 2) := by decide +kernel
theorem dX5_couldOpen_36 : decode cX5_couldOpen 36 = .ok (.aload_n 0, 1) := by decide +kernel
theorem dX5_couldOpen_37 : decode cX5_couldOpen 37 = .ok (.getfield 10, 3) := by decide +kernel
theorem dX5_couldOpen_40 : decode cX5_couldOpen 40 = .ok (.aload_n 3, 1) := by decide +kernel
theorem dX5_couldOpen_41 : decode cX5_couldOpen 41 = .ok (.invokevirtual 191, 3) := by decide +kernel
theorem dX5_couldOpen_44 : decode cX5_couldOpen 44 = .ok (.ifCond .eq 18, 3) := by decide +kernel
theorem dX5_couldOpen_47 : decode cX5_couldOpen 47 = .ok (.aload_n 0, 1) := by decide +kernel
theorem dX5_couldOpen_48 : decode cX5_couldOpen 48 = .ok (.getfield 10, 3) := by decide +kernel
theorem dX5_couldOpen_51 : decode cX5_couldOpen 51 = .ok (.aload_n 3, 1) := by decide +kernel
theorem dX5_couldOpen_52 : decode cX5_couldOpen 52 = .ok (.iconst 1, 1) := by decide +kernel
theorem dX5_couldOpen_53 : decode cX5_couldOpen 53 = .ok (.iload 4, 2) := by decide +kernel
theorem dX5_couldOpen_55 : decode cX5_couldOpen 55 = .ok (.iconst 1, 1) := by decide +kernel
theorem dX5_couldOpen_56 : decode cX5_couldOpen 56 = .ok (.invokevirtual 286, 3) := by decide +kernel
theorem dX5_couldOpen_59 : decode cX5_couldOpen 59 = .ok (.ifCond .ne 7, 3) := by decide +kernel
theorem dX5_couldOpen_62 : decode cX5_couldOpen 62 = .ok (.iconst 1, 1) := by decide +kernel
theorem dX5_couldOpen_63 : decode cX5_couldOpen 63 = .ok (.goto 4, 3) := by decide +kernel
theorem dX5_couldOpen_66 : decode cX5_couldOpen 66 = .ok (.iconst 0, 1) := by decide +kernel
theorem dX5_couldOpen_67 : decode cX5_couldOpen 67 = .ok (.istore 5, 2) := by decide +kernel
theorem dX5_couldOpen_69 : decode cX5_couldOpen 69 = .ok (.aload_n 3, 1) := by decide +kernel
theorem dX5_couldOpen_70 : decode cX5_couldOpen 70 = .ok (.getfield 194, 3) := by decide +kernel
theorem dX5_couldOpen_73 : decode cX5_couldOpen 73 = .ok (.ifCond .ne 14, 3) := by decide +kernel
theorem dX5_couldOpen_76 : decode cX5_couldOpen 76 = .ok (.iload 5, 2) := by decide +kernel
theorem dX5_couldOpen_78 : decode cX5_couldOpen 78 = .ok (.ifCond .eq 9, 3) := by decide +kernel
theorem dX5_couldOpen_81 : decode cX5_couldOpen 81 = .ok (.iload_n 1, 1) := by decide +kernel
theorem dX5_couldOpen_82 : decode cX5_couldOpen 82 = .ok (.iconst 1, 1) := by decide +kernel
theorem dX5_couldOpen_83 : decode cX5_couldOpen 83 = .ok (.iload_n 2, 1) := by decide +kernel
theorem dX5_couldOpen_84 : decode cX5_couldOpen 84 = .ok (.ishl, 1) := by decide +kernel
theorem dX5_couldOpen_85 : decode cX5_couldOpen 85 = .ok (.ior, 1) := by decide +kernel
theorem dX5_couldOpen_86 : decode cX5_couldOpen 86 = .ok (.istore_n 1, 1) := by decide +kernel
theorem dX5_couldOpen_87 : decode cX5_couldOpen 87 = .ok (.iinc 2 1, 3) := by decide +kernel
theorem dX5_couldOpen_90 : decode cX5_couldOpen 90 = .ok (.goto (-86), 3) := by decide +kernel
theorem dX5_couldOpen_93 : decode cX5_couldOpen 93 = .ok (.iload_n 1, 1) := by decide +kernel
theorem dX5_couldOpen_94 : decode cX5_couldOpen 94 = .ok (.ireturn, 1) := by decide +kernel
theorem dX5_digest_0 : decode cX5_digest 0 = .ok (.ldc2_w 290, 3) := by decide +kernel
theorem dX5_digest_3 : decode cX5_digest 3 = .ok (.lstore_n 1, 1) := by decide +kernel
theorem dX5_digest_4 : decode cX5_digest 4 = .ok (.iconst 0, 1) := by decide +kernel
theorem dX5_digest_5 : decode cX5_digest 5 = .ok (.istore_n 3, 1) := by decide +kernel
theorem dX5_digest_6 : decode cX5_digest 6 = .ok (.iload_n 3, 1) := by decide +kernel
theorem dX5_digest_7 : decode cX5_digest 7 = .ok (.bipush 14, 2) := by decide +kernel
theorem dX5_digest_9 : decode cX5_digest 9 = .ok (.if_icmp .gt 22, 3) := by decide +kernel
theorem dX5_digest_12 : decode cX5_digest 12 = .ok (.lload_n 1, 1) := by decide +kernel
theorem dX5_digest_13 : decode cX5_digest 13 = .ok (.ldc2_w 292, 3) := by decide +kernel
theorem dX5_digest_16 : decode cX5_digest 16 = .ok (.lmul, 1) := by decide +kernel
theorem dX5_digest_17 : decode cX5_digest 17 = .ok (.aload_n 0, 1) := by decide +kernel
theorem dX5_digest_18 : decode cX5_digest 18 = .ok (.iload_n 3, 1) := by decide +kernel
theorem dX5_digest_19 : decode cX5_digest 19 = .ok (.invokevirtual 294, 3) := by decide +kernel
theorem dX5_digest_22 : decode cX5_digest 22 = .ok (.i2l, 1) := by decide +kernel
theorem dX5_digest_23 : decode cX5_digest 23 = .ok (.ladd, 1) := by decide +kernel
theorem dX5_digest_24 : decode cX5_digest 24 = .ok (.lstore_n 1, 1) := by decide +kernel
theorem dX5_digest_25 : decode cX5_digest 25 = .ok (.iinc 3 1, 3) := by decide +kernel
theorem dX5_digest_28 : decode cX5_digest 28 = .ok (.goto (-22), 3) := by decide +kernel
theorem dX5_digest_31 : decode cX5_digest 31 = .ok (.iconst 0, 1) := by decide +kernel
theorem dX5_digest_32 : decode cX5_digest 32 = .ok (.istore_n 3, 1) := by decide +kernel
theorem dX5_digest_33 : decode cX5_digest 33 = .ok (.iload_n 3, 1) := by decide +kernel
theorem dX5_digest_34 : decode cX5_digest 34 = .ok (.aload_n 0, 1) := by decide +kernel
theorem dX5_digest_35 : decode cX5_digest 35 = .ok (.getfield 10, 3) := by decide +kernel
theorem dX5_digest_38 : decode cX5_digest 38 = .ok (.getfield 60, 3) := by decide +kernel
theorem dX5_digest_41 : decode cX5_digest 41 = .ok (.if_icmp .ge 84, 3) := by decide +kernel

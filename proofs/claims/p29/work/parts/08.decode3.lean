theorem dX3_shear_47 : decode cX3_shear 47 = .ok (.if_icmp .lt 9, 3) := by decide +kernel
theorem dX3_shear_50 : decode cX3_shear 50 = .ok (.iload 6, 2) := by decide +kernel
theorem dX3_shear_52 : decode cX3_shear 52 = .ok (.istore_n 3, 1) := by decide +kernel
theorem dX3_shear_53 : decode cX3_shear 53 = .ok (.iload 5, 2) := by decide +kernel
theorem dX3_shear_55 : decode cX3_shear 55 = .ok (.istore_n 2, 1) := by decide +kernel
theorem dX3_shear_56 : decode cX3_shear 56 = .ok (.iload 4, 2) := by decide +kernel
theorem dX3_shear_58 : decode cX3_shear 58 = .ok (.aload_n 0, 1) := by decide +kernel
theorem dX3_shear_59 : decode cX3_shear 59 = .ok (.getfield 9, 3) := by decide +kernel
theorem dX3_shear_62 : decode cX3_shear 62 = .ok (.iload 5, 2) := by decide +kernel
theorem dX3_shear_64 : decode cX3_shear 64 = .ok (.iaload, 1) := by decide +kernel
theorem dX3_shear_65 : decode cX3_shear 65 = .ok (.iadd, 1) := by decide +kernel
theorem dX3_shear_66 : decode cX3_shear 66 = .ok (.istore 4, 2) := by decide +kernel
theorem dX3_shear_68 : decode cX3_shear 68 = .ok (.iinc 5 (-1), 3) := by decide +kernel
theorem dX3_shear_71 : decode cX3_shear 71 = .ok (.goto (-48), 3) := by decide +kernel
theorem dX3_shear_74 : decode cX3_shear 74 = .ok (.iload_n 2, 1) := by decide +kernel
theorem dX3_shear_75 : decode cX3_shear 75 = .ok (.ireturn, 1) := by decide +kernel
theorem dX3_risk_0 : decode cX3_risk 0 = .ok (.aload_n 0, 1) := by decide +kernel
theorem dX3_risk_1 : decode cX3_risk 1 = .ok (.iload_n 1, 1) := by decide +kernel
theorem dX3_risk_2 : decode cX3_risk 2 = .ok (.invokevirtual 62, 3) := by decide +kernel
theorem dX3_risk_5 : decode cX3_risk 5 = .ok (.istore_n 2, 1) := by decide +kernel
theorem dX3_risk_6 : decode cX3_risk 6 = .ok (.iload_n 2, 1) := by decide +kernel
theorem dX3_risk_7 : decode cX3_risk 7 = .ok (.iconst (-1), 1) := by decide +kernel
theorem dX3_risk_8 : decode cX3_risk 8 = .ok (.if_icmp .ne 7, 3) := by decide +kernel
theorem dX3_risk_11 : decode cX3_risk 11 = .ok (.iconst 0, 1) := by decide +kernel
theorem dX3_risk_12 : decode cX3_risk 12 = .ok (.goto 22, 3) := by decide +kernel
theorem dX3_risk_15 : decode cX3_risk 15 = .ok (.aload_n 0, 1) := by decide +kernel
theorem dX3_risk_16 : decode cX3_risk 16 = .ok (.iload_n 2, 1) := by decide +kernel
theorem dX3_risk_17 : decode cX3_risk 17 = .ok (.aload_n 0, 1) := by decide +kernel
theorem dX3_risk_18 : decode cX3_risk 18 = .ok (.iload_n 2, 1) := by decide +kernel
theorem dX3_risk_19 : decode cX3_risk 19 = .ok (.iconst 1, 1) := by decide +kernel
theorem dX3_risk_20 : decode cX3_risk 20 = .ok (.iadd, 1) := by decide +kernel
theorem dX3_risk_21 : decode cX3_risk 21 = .ok (.invokevirtual 38, 3) := by decide +kernel
theorem dX3_risk_24 : decode cX3_risk 24 = .ok (.iload_n 1, 1) := by decide +kernel
theorem dX3_risk_25 : decode cX3_risk 25 = .ok (.invokevirtual 58, 3) := by decide +kernel
theorem dX3_risk_28 : decode cX3_risk 28 = .ok (.sipush 999, 3) := by decide +kernel
theorem dX3_risk_31 : decode cX3_risk 31 = .ok (.invokestatic 48, 3) := by decide +kernel
theorem dX3_risk_34 : decode cX3_risk 34 = .ok (.ireturn, 1) := by decide +kernel
theorem dX3_dropFrom_0 : decode cX3_dropFrom 0 = .ok (.iload_n 1, 1) := by decide +kernel
theorem dX3_dropFrom_1 : decode cX3_dropFrom 1 = .ok (.ifCond .lt 21, 3) := by decide +kernel
theorem dX3_dropFrom_4 : decode cX3_dropFrom 4 = .ok (.iload_n 1, 1) := by decide +kernel
theorem dX3_dropFrom_5 : decode cX3_dropFrom 5 = .ok (.aload_n 0, 1) := by decide +kernel
theorem dX3_dropFrom_6 : decode cX3_dropFrom 6 = .ok (.getfield 27, 3) := by decide +kernel
theorem dX3_dropFrom_9 : decode cX3_dropFrom 9 = .ok (.if_icmp .ge 13, 3) := by decide +kernel
theorem dX3_dropFrom_12 : decode cX3_dropFrom 12 = .ok (.aload_n 0, 1) := by decide +kernel
theorem dX3_dropFrom_13 : decode cX3_dropFrom 13 = .ok (.iload_n 1, 1) := by decide +kernel
theorem dX3_dropFrom_14 : decode cX3_dropFrom 14 = .ok (.putfield 27, 3) := by decide +kernel
theorem dX3_dropFrom_17 : decode cX3_dropFrom 17 = .ok (.aload_n 0, 1) := by decide +kernel
theorem dX3_dropFrom_18 : decode cX3_dropFrom 18 = .ok (.iconst 0, 1) := by decide +kernel
theorem dX3_dropFrom_19 : decode cX3_dropFrom 19 = .ok (.putfield 31, 3) := by decide +kernel
theorem dX3_dropFrom_22 : decode cX3_dropFrom 22 = .ok (.return_, 1) := by decide +kernel
theorem dX3_comeDown_0 : decode cX3_comeDown 0 = .ok (.iload_n 1, 1) := by decide +kernel
theorem dX3_comeDown_1 : decode cX3_comeDown 1 = .ok (.ifCond .le 11, 3) := by decide +kernel
theorem dX3_comeDown_4 : decode cX3_comeDown 4 = .ok (.iload_n 2, 1) := by decide +kernel
theorem dX3_comeDown_5 : decode cX3_comeDown 5 = .ok (.ifCond .gt 7, 3) := by decide +kernel
theorem dX3_comeDown_8 : decode cX3_comeDown 8 = .ok (.iconst 1, 1) := by decide +kernel
theorem dX3_comeDown_9 : decode cX3_comeDown 9 = .ok (.goto 4, 3) := by decide +kernel
theorem dX3_comeDown_12 : decode cX3_comeDown 12 = .ok (.iconst 0, 1) := by decide +kernel
theorem dX3_comeDown_13 : decode cX3_comeDown 13 = .ok (.istore_n 3, 1) := by decide +kernel
theorem dX3_comeDown_14 : decode cX3_comeDown 14 = .ok (.iload_n 3, 1) := by decide +kernel
theorem dX3_comeDown_15 : decode cX3_comeDown 15 = .ok (.ifCond .eq 26, 3) := by decide +kernel
theorem dX3_comeDown_18 : decode cX3_comeDown 18 = .ok (.aload_n 0, 1) := by decide +kernel
theorem dX3_comeDown_19 : decode cX3_comeDown 19 = .ok (.getfield 35, 3) := by decide +kernel
theorem dX3_comeDown_22 : decode cX3_comeDown 22 = .ok (.ifCond .eq 19, 3) := by decide +kernel
theorem dX3_comeDown_25 : decode cX3_comeDown 25 = .ok (.aload_n 0, 1) := by decide +kernel
theorem dX3_comeDown_26 : decode cX3_comeDown 26 = .ok (.iconst 0, 1) := by decide +kernel
theorem dX3_comeDown_27 : decode cX3_comeDown 27 = .ok (.invokevirtual 65, 3) := by decide +kernel
theorem dX3_comeDown_30 : decode cX3_comeDown 30 = .ok (.ifCond .eq 11, 3) := by decide +kernel
theorem dX3_comeDown_33 : decode cX3_comeDown 33 = .ok (.aload_n 0, 1) := by decide +kernel
theorem dX3_comeDown_34 : decode cX3_comeDown 34 = .ok (.iload_n 1, 1) := by decide +kernel
theorem dX3_comeDown_35 : decode cX3_comeDown 35 = .ok (.invokevirtual 69, 3) := by decide +kernel
theorem dX3_comeDown_38 : decode cX3_comeDown 38 = .ok (.goto 27, 3) := by decide +kernel
theorem dX3_comeDown_41 : decode cX3_comeDown 41 = .ok (.iload_n 3, 1) := by decide +kernel
theorem dX3_comeDown_42 : decode cX3_comeDown 42 = .ok (.ifCond .eq 14, 3) := by decide +kernel
theorem dX3_comeDown_45 : decode cX3_comeDown 45 = .ok (.aload_n 0, 1) := by decide +kernel
theorem dX3_comeDown_46 : decode cX3_comeDown 46 = .ok (.iconst 0, 1) := by decide +kernel
theorem dX3_comeDown_47 : decode cX3_comeDown 47 = .ok (.iload_n 1, 1) := by decide +kernel
theorem dX3_comeDown_48 : decode cX3_comeDown 48 = .ok (.bipush 10, 2) := by decide +kernel
theorem dX3_comeDown_50 : decode cX3_comeDown 50 = .ok (.invokevirtual 72, 3) := by decide +kernel
theorem dX3_comeDown_53 : decode cX3_comeDown 53 = .ok (.goto 12, 3) := by decide +kernel
theorem dX3_comeDown_56 : decode cX3_comeDown 56 = .ok (.iload_n 1, 1) := by decide +kernel
theorem dX3_comeDown_57 : decode cX3_comeDown 57 = .ok (.ifCond .le 8, 3) := by decide +kernel
theorem dX3_comeDown_60 : decode cX3_comeDown 60 = .ok (.aload_n 0, 1) := by decide +kernel
theorem dX3_comeDown_61 : decode cX3_comeDown 61 = .ok (.iload_n 1, 1) := by decide +kernel
theorem dX3_comeDown_62 : decode cX3_comeDown 62 = .ok (.invokevirtual 76, 3) := by decide +kernel
theorem dX3_comeDown_65 : decode cX3_comeDown 65 = .ok (.aload_n 0, 1) := by decide +kernel
theorem dX3_comeDown_66 : decode cX3_comeDown 66 = .ok (.iload_n 3, 1) := by decide +kernel
theorem dX3_comeDown_67 : decode cX3_comeDown 67 = .ok (.putfield 35, 3) := by decide +kernel
theorem dX3_comeDown_70 : decode cX3_comeDown 70 = .ok (.return_, 1) := by decide +kernel
theorem dX3_drift_0 : decode cX3_drift 0 = .ok (.iload_n 2, 1) := by decide +kernel
theorem dX3_drift_1 : decode cX3_drift 1 = .ok (.ifCond .eq 19, 3) := by decide +kernel
theorem dX3_drift_4 : decode cX3_drift 4 = .ok (.aload_n 0, 1) := by decide +kernel
theorem dX3_drift_5 : decode cX3_drift 5 = .ok (.iconst 0, 1) := by decide +kernel
theorem dX3_drift_6 : decode cX3_drift 6 = .ok (.invokevirtual 65, 3) := by decide +kernel
theorem dX3_drift_9 : decode cX3_drift 9 = .ok (.ifCond .eq 11, 3) := by decide +kernel
theorem dX3_drift_12 : decode cX3_drift 12 = .ok (.aload_n 0, 1) := by decide +kernel
theorem dX3_drift_13 : decode cX3_drift 13 = .ok (.iload_n 1, 1) := by decide +kernel
theorem dX3_drift_14 : decode cX3_drift 14 = .ok (.invokevirtual 69, 3) := by decide +kernel
theorem dX3_drift_17 : decode cX3_drift 17 = .ok (.goto 35, 3) := by decide +kernel
theorem dX3_drift_20 : decode cX3_drift 20 = .ok (.iload_n 2, 1) := by decide +kernel
theorem dX3_drift_21 : decode cX3_drift 21 = .ok (.ifCond .eq 14, 3) := by decide +kernel
theorem dX3_drift_24 : decode cX3_drift 24 = .ok (.aload_n 0, 1) := by decide +kernel
theorem dX3_drift_25 : decode cX3_drift 25 = .ok (.iconst 0, 1) := by decide +kernel
theorem dX3_drift_26 : decode cX3_drift 26 = .ok (.iload_n 1, 1) := by decide +kernel
theorem dX3_drift_27 : decode cX3_drift 27 = .ok (.bipush 20, 2) := by decide +kernel
theorem dX3_drift_29 : decode cX3_drift 29 = .ok (.invokevirtual 72, 3) := by decide +kernel
theorem dX3_drift_32 : decode cX3_drift 32 = .ok (.goto 20, 3) := by decide +kernel
theorem dX3_drift_35 : decode cX3_drift 35 = .ok (.iload_n 3, 1) := by decide +kernel
theorem dX3_drift_36 : decode cX3_drift 36 = .ok (.ifCond .eq 16, 3) := by decide +kernel
theorem dX3_drift_39 : decode cX3_drift 39 = .ok (.aload_n 0, 1) := by decide +kernel
theorem dX3_drift_40 : decode cX3_drift 40 = .ok (.iconst 0, 1) := by decide +kernel
theorem dX3_drift_41 : decode cX3_drift 41 = .ok (.invokevirtual 65, 3) := by decide +kernel
theorem dX3_drift_44 : decode cX3_drift 44 = .ok (.ifCond .eq 8, 3) := by decide +kernel
theorem dX3_drift_47 : decode cX3_drift 47 = .ok (.aload_n 0, 1) := by decide +kernel
theorem dX3_drift_48 : decode cX3_drift 48 = .ok (.iload_n 1, 1) := by decide +kernel
theorem dX3_drift_49 : decode cX3_drift 49 = .ok (.invokevirtual 51, 3) := by decide +kernel
theorem dX3_drift_52 : decode cX3_drift 52 = .ok (.return_, 1) := by decide +kernel
theorem dX3_freeze_0 : decode cX3_freeze 0 = .ok (.aload_n 0, 1) := by decide +kernel
theorem dX3_freeze_1 : decode cX3_freeze 1 = .ok (.getfield 31, 3) := by decide +kernel
theorem dX3_freeze_4 : decode cX3_freeze 4 = .ok (.ifCond .eq 15, 3) := by decide +kernel
theorem dX3_freeze_7 : decode cX3_freeze 7 = .ok (.aload_n 0, 1) := by decide +kernel
theorem dX3_freeze_8 : decode cX3_freeze 8 = .ok (.iconst 2, 1) := by decide +kernel
theorem dX3_freeze_9 : decode cX3_freeze 9 = .ok (.bipush 80, 2) := by decide +kernel
theorem dX3_freeze_11 : decode cX3_freeze 11 = .ok (.invokevirtual 79, 3) := by decide +kernel
theorem dX3_freeze_14 : decode cX3_freeze 14 = .ok (.aload_n 0, 1) := by decide +kernel
theorem dX3_freeze_15 : decode cX3_freeze 15 = .ok (.iconst 0, 1) := by decide +kernel
theorem dX3_freeze_16 : decode cX3_freeze 16 = .ok (.putfield 31, 3) := by decide +kernel
theorem dX3_freeze_19 : decode cX3_freeze 19 = .ok (.return_, 1) := by decide +kernel
theorem dX3_growWeak_0 : decode cX3_growWeak 0 = .ok (.aload_n 0, 1) := by decide +kernel
theorem dX3_growWeak_1 : decode cX3_growWeak 1 = .ok (.iconst 0, 1) := by decide +kernel
theorem dX3_growWeak_2 : decode cX3_growWeak 2 = .ok (.invokevirtual 65, 3) := by decide +kernel
theorem dX3_growWeak_5 : decode cX3_growWeak 5 = .ok (.ifCond .eq 25, 3) := by decide +kernel
theorem dX3_growWeak_8 : decode cX3_growWeak 8 = .ok (.aload_n 0, 1) := by decide +kernel
theorem dX3_growWeak_9 : decode cX3_growWeak 9 = .ok (.getfield 9, 3) := by decide +kernel
theorem dX3_growWeak_12 : decode cX3_growWeak 12 = .ok (.aload_n 0, 1) := by decide +kernel
theorem dX3_growWeak_13 : decode cX3_growWeak 13 = .ok (.getfield 27, 3) := by decide +kernel
theorem dX3_growWeak_16 : decode cX3_growWeak 16 = .ok (.iconst 1, 1) := by decide +kernel
theorem dX3_growWeak_17 : decode cX3_growWeak 17 = .ok (.isub, 1) := by decide +kernel
theorem dX3_growWeak_18 : decode cX3_growWeak 18 = .ok (.iaload, 1) := by decide +kernel
theorem dX3_growWeak_19 : decode cX3_growWeak 19 = .ok (.bipush 10, 2) := by decide +kernel
theorem dX3_growWeak_21 : decode cX3_growWeak 21 = .ok (.if_icmp .gt 9, 3) := by decide +kernel
theorem dX3_growWeak_24 : decode cX3_growWeak 24 = .ok (.aload_n 0, 1) := by decide +kernel
theorem dX3_growWeak_25 : decode cX3_growWeak 25 = .ok (.iconst 1, 1) := by decide +kernel
theorem dX3_growWeak_26 : decode cX3_growWeak 26 = .ok (.iconst 5, 1) := by decide +kernel
theorem dX3_growWeak_27 : decode cX3_growWeak 27 = .ok (.invokevirtual 79, 3) := by decide +kernel
theorem dX3_growWeak_30 : decode cX3_growWeak 30 = .ok (.return_, 1) := by decide +kernel
theorem dX3_settle_0 : decode cX3_settle 0 = .ok (.iconst 0, 1) := by decide +kernel
theorem dX3_settle_1 : decode cX3_settle 1 = .ok (.istore_n 2, 1) := by decide +kernel
theorem dX3_settle_2 : decode cX3_settle 2 = .ok (.iload_n 2, 1) := by decide +kernel
theorem dX3_settle_3 : decode cX3_settle 3 = .ok (.aload_n 0, 1) := by decide +kernel
theorem dX3_settle_4 : decode cX3_settle 4 = .ok (.getfield 27, 3) := by decide +kernel
theorem dX3_settle_7 : decode cX3_settle 7 = .ok (.if_icmp .ge 71, 3) := by decide +kernel
theorem dX3_settle_10 : decode cX3_settle 10 = .ok (.aload_n 0, 1) := by decide +kernel
theorem dX3_settle_11 : decode cX3_settle 11 = .ok (.getfield 18, 3) := by decide +kernel
theorem dX3_settle_14 : decode cX3_settle 14 = .ok (.iload_n 2, 1) := by decide +kernel
theorem dX3_settle_15 : decode cX3_settle 15 = .ok (.iaload, 1) := by decide +kernel
theorem dX3_settle_16 : decode cX3_settle 16 = .ok (.ifCond .eq 27, 3) := by decide +kernel
theorem dX3_settle_19 : decode cX3_settle 19 = .ok (.aload_n 0, 1) := by decide +kernel
theorem dX3_settle_20 : decode cX3_settle 20 = .ok (.getfield 18, 3) := by decide +kernel
theorem dX3_settle_23 : decode cX3_settle 23 = .ok (.iload_n 2, 1) := by decide +kernel
theorem dX3_settle_24 : decode cX3_settle 24 = .ok (.iaload, 1) := by decide +kernel
theorem dX3_settle_25 : decode cX3_settle 25 = .ok (.iconst 3, 1) := by decide +kernel
theorem dX3_settle_26 : decode cX3_settle 26 = .ok (.if_icmp .eq 17, 3) := by decide +kernel
theorem dX3_settle_29 : decode cX3_settle 29 = .ok (.aload_n 0, 1) := by decide +kernel
theorem dX3_settle_30 : decode cX3_settle 30 = .ok (.getfield 18, 3) := by decide +kernel
theorem dX3_settle_33 : decode cX3_settle 33 = .ok (.iload_n 2, 1) := by decide +kernel
theorem dX3_settle_34 : decode cX3_settle 34 = .ok (.iaload, 1) := by decide +kernel
theorem dX3_settle_35 : decode cX3_settle 35 = .ok (.iconst 1, 1) := by decide +kernel
theorem dX3_settle_36 : decode cX3_settle 36 = .ok (.if_icmp .ne 11, 3) := by decide +kernel
theorem dX3_settle_39 : decode cX3_settle 39 = .ok (.iload_n 1, 1) := by decide +kernel
theorem dX3_settle_40 : decode cX3_settle 40 = .ok (.ifCond .eq 7, 3) := by decide +kernel
theorem dX3_settle_43 : decode cX3_settle 43 = .ok (.iconst 1, 1) := by decide +kernel
theorem dX3_settle_44 : decode cX3_settle 44 = .ok (.goto 4, 3) := by decide +kernel
theorem dX3_settle_47 : decode cX3_settle 47 = .ok (.iconst 0, 1) := by decide +kernel
theorem dX3_settle_48 : decode cX3_settle 48 = .ok (.istore_n 3, 1) := by decide +kernel
theorem dX3_settle_49 : decode cX3_settle 49 = .ok (.iload_n 3, 1) := by decide +kernel
theorem dX3_settle_50 : decode cX3_settle 50 = .ok (.ifCond .eq 22, 3) := by decide +kernel
theorem dX3_settle_53 : decode cX3_settle 53 = .ok (.aload_n 0, 1) := by decide +kernel
theorem dX3_settle_54 : decode cX3_settle 54 = .ok (.getfield 15, 3) := by decide +kernel
theorem dX3_settle_57 : decode cX3_settle 57 = .ok (.iload_n 2, 1) := by decide +kernel
theorem dX3_settle_58 : decode cX3_settle 58 = .ok (.aload_n 0, 1) := by decide +kernel
theorem dX3_settle_59 : decode cX3_settle 59 = .ok (.getfield 15, 3) := by decide +kernel
theorem dX3_settle_62 : decode cX3_settle 62 = .ok (.iload_n 2, 1) := by decide +kernel
theorem dX3_settle_63 : decode cX3_settle 63 = .ok (.iaload, 1) := by decide +kernel
theorem dX3_settle_64 : decode cX3_settle 64 = .ok (.iconst 1, 1) := by decide +kernel
theorem dX3_settle_65 : decode cX3_settle 65 = .ok (.iadd, 1) := by decide +kernel
theorem dX3_settle_66 : decode cX3_settle 66 = .ok (.bipush 100, 2) := by decide +kernel
theorem dX3_settle_68 : decode cX3_settle 68 = .ok (.invokestatic 48, 3) := by decide +kernel
theorem dX3_settle_71 : decode cX3_settle 71 = .ok (.iastore, 1) := by decide +kernel
theorem dX3_settle_72 : decode cX3_settle 72 = .ok (.iinc 2 1, 3) := by decide +kernel
theorem dX3_settle_75 : decode cX3_settle 75 = .ok (.goto (-73), 3) := by decide +kernel
theorem dX3_settle_78 : decode cX3_settle 78 = .ok (.return_, 1) := by decide +kernel
theorem dX4_init_0 : decode cX4_init 0 = .ok (.aload_n 0, 1) := by decide +kernel
theorem dX4_init_1 : decode cX4_init 1 = .ok (.invokespecial 1, 3) := by decide +kernel
theorem dX4_init_4 : decode cX4_init 4 = .ok (.return_, 1) := by decide +kernel
theorem dX4_tell_0 : decode cX4_tell 0 = .ok (.aload_n 0, 1) := by decide +kernel
theorem dX4_tell_1 : decode cX4_tell 1 = .ok (.iload_n 1, 1) := by decide +kernel
theorem dX4_tell_2 : decode cX4_tell 2 = .ok (.putfield 7, 3) := by decide +kernel
theorem dX4_tell_5 : decode cX4_tell 5 = .ok (.aload_n 0, 1) := by decide +kernel
theorem dX4_tell_6 : decode cX4_tell 6 = .ok (.iload_n 2, 1) := by decide +kernel
theorem dX4_tell_7 : decode cX4_tell 7 = .ok (.putfield 13, 3) := by decide +kernel
theorem dX4_tell_10 : decode cX4_tell 10 = .ok (.aload_n 0, 1) := by decide +kernel
theorem dX4_tell_11 : decode cX4_tell 11 = .ok (.iload_n 3, 1) := by decide +kernel
theorem dX4_tell_12 : decode cX4_tell 12 = .ok (.putfield 16, 3) := by decide +kernel
theorem dX4_tell_15 : decode cX4_tell 15 = .ok (.aload_n 0, 1) := by decide +kernel
theorem dX4_tell_16 : decode cX4_tell 16 = .ok (.iload 4, 2) := by decide +kernel
theorem dX4_tell_18 : decode cX4_tell 18 = .ok (.putfield 19, 3) := by decide +kernel
theorem dX4_tell_21 : decode cX4_tell 21 = .ok (.aload_n 0, 1) := by decide +kernel
theorem dX4_tell_22 : decode cX4_tell 22 = .ok (.iload 5, 2) := by decide +kernel
theorem dX4_tell_24 : decode cX4_tell 24 = .ok (.putfield 22, 3) := by decide +kernel
theorem dX4_tell_27 : decode cX4_tell 27 = .ok (.return_, 1) := by decide +kernel
theorem dX5_init_0 : decode cX5_init 0 = .ok (.aload_n 0, 1) := by decide +kernel
theorem dX5_init_1 : decode cX5_init 1 = .ok (.invokespecial 1, 3) := by decide +kernel
theorem dX5_init_4 : decode cX5_init 4 = .ok (.aload_n 0, 1) := by decide +kernel
theorem dX5_init_5 : decode cX5_init 5 = .ok (.new 7, 3) := by decide +kernel
theorem dX5_init_8 : decode cX5_init 8 = .ok (.dup, 1) := by decide +kernel
theorem dX5_init_9 : decode cX5_init 9 = .ok (.invokespecial 9, 3) := by decide +kernel
theorem dX5_init_12 : decode cX5_init 12 = .ok (.putfield 10, 3) := by decide +kernel
theorem dX5_init_15 : decode cX5_init 15 = .ok (.aload_n 0, 1) := by decide +kernel
theorem dX5_init_16 : decode cX5_init 16 = .ok (.new 7, 3) := by decide +kernel
theorem dX5_init_19 : decode cX5_init 19 = .ok (.dup, 1) := by decide +kernel
theorem dX5_init_20 : decode cX5_init 20 = .ok (.invokespecial 9, 3) := by decide +kernel
theorem dX5_init_23 : decode cX5_init 23 = .ok (.putfield 16, 3) := by decide +kernel
theorem dX5_init_26 : decode cX5_init 26 = .ok (.aload_n 0, 1) := by decide +kernel
theorem dX5_init_27 : decode cX5_init 27 = .ok (.new 7, 3) := by decide +kernel
theorem dX5_init_30 : decode cX5_init 30 = .ok (.dup, 1) := by decide +kernel
theorem dX5_init_31 : decode cX5_init 31 = .ok (.invokespecial 9, 3) := by decide +kernel
theorem dX5_init_34 : decode cX5_init 34 = .ok (.putfield 19, 3) := by decide +kernel
theorem dX5_init_37 : decode cX5_init 37 = .ok (.aload_n 0, 1) := by decide +kernel
theorem dX5_init_38 : decode cX5_init 38 = .ok (.new 22, 3) := by decide +kernel
theorem dX5_init_41 : decode cX5_init 41 = .ok (.dup, 1) := by decide +kernel
theorem dX5_init_42 : decode cX5_init 42 = .ok (.invokespecial 24, 3) := by decide +kernel
theorem dX5_init_45 : decode cX5_init 45 = .ok (.putfield 25, 3) := by decide +kernel
theorem dX5_init_48 : decode cX5_init 48 = .ok (.return_, 1) := by decide +kernel
theorem dX5_lift_0 : decode cX5_lift 0 = .ok (.iload_n 1, 1) := by decide +kernel
theorem dX5_lift_1 : decode cX5_lift 1 = .ok (.bipush 10, 2) := by decide +kernel
theorem dX5_lift_3 : decode cX5_lift 3 = .ok (.sipush 999, 3) := by decide +kernel
theorem dX5_lift_6 : decode cX5_lift 6 = .ok (.invokestatic 29, 3) := by decide +kernel
theorem dX5_lift_9 : decode cX5_lift 9 = .ok (.iload_n 2, 1) := by decide +kernel
theorem dX5_lift_10 : decode cX5_lift 10 = .ok (.iconst 3, 1) := by decide +kernel
theorem dX5_lift_11 : decode cX5_lift 11 = .ok (.bipush 9, 2) := by decide +kernel
theorem dX5_lift_13 : decode cX5_lift 13 = .ok (.invokestatic 29, 3) := by decide +kernel
theorem dX5_lift_16 : decode cX5_lift 16 = .ok (.aload_n 0, 1) := by decide +kernel
theorem dX5_lift_17 : decode cX5_lift 17 = .ok (.getfield 10, 3) := by decide +kernel
theorem dX5_lift_20 : decode cX5_lift 20 = .ok (.getfield 33, 3) := by decide +kernel
theorem dX5_lift_23 : decode cX5_lift 23 = .ok (.iconst 4, 1) := by decide +kernel
theorem dX5_lift_24 : decode cX5_lift 24 = .ok (.if_icmp .lt 13, 3) := by decide +kernel
theorem dX5_lift_27 : decode cX5_lift 27 = .ok (.new 37, 3) := by decide +kernel
theorem dX5_lift_30 : decode cX5_lift 30 = .ok (.dup, 1) := by decide +kernel
theorem dX5_lift_31 : decode cX5_lift 31 = .ok (.ldc 39, 2) := by decide +kernel
theorem dX5_lift_33 : decode cX5_lift 33 = .ok (.invokespecial 41, 3) := by decide +kernel
theorem dX5_lift_36 : decode cX5_lift 36 = .ok (.athrow, 1) := by decide +kernel
theorem dX5_lift_37 : decode cX5_lift 37 = .ok (.aload_n 0, 1) := by decide +kernel
theorem dX5_lift_38 : decode cX5_lift 38 = .ok (.getfield 10, 3) := by decide +kernel
theorem dX5_lift_41 : decode cX5_lift 41 = .ok (.getfield 33, 3) := by decide +kernel
theorem dX5_lift_44 : decode cX5_lift 44 = .ok (.istore_n 3, 1) := by decide +kernel
theorem dX5_lift_45 : decode cX5_lift 45 = .ok (.aload_n 0, 1) := by decide +kernel
theorem dX5_lift_46 : decode cX5_lift 46 = .ok (.getfield 10, 3) := by decide +kernel
theorem dX5_lift_49 : decode cX5_lift 49 = .ok (.getfield 44, 3) := by decide +kernel
theorem dX5_lift_52 : decode cX5_lift 52 = .ok (.iload_n 3, 1) := by decide +kernel
theorem dX5_lift_53 : decode cX5_lift 53 = .ok (.aaload, 1) := by decide +kernel
theorem dX5_lift_54 : decode cX5_lift 54 = .ok (.iload_n 1, 1) := by decide +kernel
theorem dX5_lift_55 : decode cX5_lift 55 = .ok (.putfield 48, 3) := by decide +kernel
theorem dX5_lift_58 : decode cX5_lift 58 = .ok (.aload_n 0, 1) := by decide +kernel
theorem dX5_lift_59 : decode cX5_lift 59 = .ok (.getfield 10, 3) := by decide +kernel
theorem dX5_lift_62 : decode cX5_lift 62 = .ok (.getfield 44, 3) := by decide +kernel
theorem dX5_lift_65 : decode cX5_lift 65 = .ok (.iload_n 3, 1) := by decide +kernel
theorem dX5_lift_66 : decode cX5_lift 66 = .ok (.aaload, 1) := by decide +kernel
theorem dX5_lift_67 : decode cX5_lift 67 = .ok (.iload_n 2, 1) := by decide +kernel
theorem dX5_lift_68 : decode cX5_lift 68 = .ok (.putfield 53, 3) := by decide +kernel
theorem dX5_lift_71 : decode cX5_lift 71 = .ok (.aload_n 0, 1) := by decide +kernel
theorem dX5_lift_72 : decode cX5_lift 72 = .ok (.getfield 10, 3) := by decide +kernel
theorem dX5_lift_75 : decode cX5_lift 75 = .ok (.dup, 1) := by decide +kernel
theorem dX5_lift_76 : decode cX5_lift 76 = .ok (.getfield 33, 3) := by decide +kernel
theorem dX5_lift_79 : decode cX5_lift 79 = .ok (.iconst 1, 1) := by decide +kernel
theorem dX5_lift_80 : decode cX5_lift 80 = .ok (.iadd, 1) := by decide +kernel
theorem dX5_lift_81 : decode cX5_lift 81 = .ok (.putfield 33, 3) := by decide +kernel
theorem dX5_lift_84 : decode cX5_lift 84 = .ok (.iload_n 3, 1) := by decide +kernel
theorem dX5_lift_85 : decode cX5_lift 85 = .ok (.ireturn, 1) := by decide +kernel
theorem dX5_run_0 : decode cX5_run 0 = .ok (.aload_n 0, 1) := by decide +kernel
theorem dX5_run_1 : decode cX5_run 1 = .ok (.iload_n 1, 1) := by decide +kernel
theorem dX5_run_2 : decode cX5_run 2 = .ok (.invokevirtual 56, 3) := by decide +kernel
theorem dX5_run_5 : decode cX5_run 5 = .ok (.iload_n 2, 1) := by decide +kernel
theorem dX5_run_6 : decode cX5_run 6 = .ok (.iconst 0, 1) := by decide +kernel
theorem dX5_run_7 : decode cX5_run 7 = .ok (.bipush 30, 2) := by decide +kernel
theorem dX5_run_9 : decode cX5_run 9 = .ok (.invokestatic 29, 3) := by decide +kernel
theorem dX5_run_12 : decode cX5_run 12 = .ok (.iload_n 3, 1) := by decide +kernel
theorem dX5_run_13 : decode cX5_run 13 = .ok (.iconst 5, 1) := by decide +kernel
theorem dX5_run_14 : decode cX5_run 14 = .ok (.bipush 45, 2) := by decide +kernel
theorem dX5_run_16 : decode cX5_run 16 = .ok (.invokestatic 29, 3) := by decide +kernel
theorem dX5_run_19 : decode cX5_run 19 = .ok (.iload 4, 2) := by decide +kernel
theorem dX5_run_21 : decode cX5_run 21 = .ok (.iconst 0, 1) := by decide +kernel
theorem dX5_run_22 : decode cX5_run 22 = .ok (.iconst 3, 1) := by decide +kernel
theorem dX5_run_23 : decode cX5_run 23 = .ok (.invokestatic 29, 3) := by decide +kernel
theorem dX5_run_26 : decode cX5_run 26 = .ok (.iload 5, 2) := by decide +kernel
theorem dX5_run_28 : decode cX5_run 28 = .ok (.iconst 1, 1) := by decide +kernel
theorem dX5_run_29 : decode cX5_run 29 = .ok (.bipush 9, 2) := by decide +kernel
theorem dX5_run_31 : decode cX5_run 31 = .ok (.invokestatic 29, 3) := by decide +kernel
theorem dX5_run_34 : decode cX5_run 34 = .ok (.aload_n 0, 1) := by decide +kernel
theorem dX5_run_35 : decode cX5_run 35 = .ok (.getfield 10, 3) := by decide +kernel
theorem dX5_run_38 : decode cX5_run 38 = .ok (.getfield 60, 3) := by decide +kernel
theorem dX5_run_41 : decode cX5_run 41 = .ok (.bipush 8, 2) := by decide +kernel
theorem dX5_run_43 : decode cX5_run 43 = .ok (.if_icmp .lt 13, 3) := by decide +kernel
theorem dX5_run_46 : decode cX5_run 46 = .ok (.new 37, 3) := by decide +kernel
theorem dX5_run_49 : decode cX5_run 49 = .ok (.dup, 1) := by decide +kernel
theorem dX5_run_50 : decode cX5_run 50 = .ok (.ldc 63, 2) := by decide +kernel
theorem dX5_run_52 : decode cX5_run 52 = .ok (.invokespecial 41, 3) := by decide +kernel
theorem dX5_run_55 : decode cX5_run 55 = .ok (.athrow, 1) := by decide +kernel
theorem dX5_run_56 : decode cX5_run 56 = .ok (.aload_n 0, 1) := by decide +kernel
theorem dX5_run_57 : decode cX5_run 57 = .ok (.getfield 10, 3) := by decide +kernel
theorem dX5_run_60 : decode cX5_run 60 = .ok (.getfield 60, 3) := by decide +kernel
theorem dX5_run_63 : decode cX5_run 63 = .ok (.istore 6, 2) := by decide +kernel
theorem dX5_run_65 : decode cX5_run 65 = .ok (.aload_n 0, 1) := by decide +kernel
theorem dX5_run_66 : decode cX5_run 66 = .ok (.getfield 10, 3) := by decide +kernel
theorem dX5_run_69 : decode cX5_run 69 = .ok (.getfield 65, 3) := by decide +kernel
theorem dX5_run_72 : decode cX5_run 72 = .ok (.iload 6, 2) := by decide +kernel
theorem dX5_run_74 : decode cX5_run 74 = .ok (.aaload, 1) := by decide +kernel
theorem dX5_run_75 : decode cX5_run 75 = .ok (.astore 7, 2) := by decide +kernel
theorem dX5_run_77 : decode cX5_run 77 = .ok (.aload 7, 2) := by decide +kernel
theorem dX5_run_79 : decode cX5_run 79 = .ok (.iload_n 1, 1) := by decide +kernel
theorem dX5_run_80 : decode cX5_run 80 = .ok (.putfield 69, 3) := by decide +kernel
theorem dX5_run_83 : decode cX5_run 83 = .ok (.aload 7, 2) := by decide +kernel
theorem dX5_run_85 : decode cX5_run 85 = .ok (.iload_n 2, 1) := by decide +kernel
theorem dX5_run_86 : decode cX5_run 86 = .ok (.putfield 74, 3) := by decide +kernel
theorem dX5_run_89 : decode cX5_run 89 = .ok (.aload 7, 2) := by decide +kernel
theorem dX5_run_91 : decode cX5_run 91 = .ok (.iload_n 3, 1) := by decide +kernel
theorem dX5_run_92 : decode cX5_run 92 = .ok (.putfield 77, 3) := by decide +kernel
theorem dX5_run_95 : decode cX5_run 95 = .ok (.aload 7, 2) := by decide +kernel
theorem dX5_run_97 : decode cX5_run 97 = .ok (.iload 4, 2) := by decide +kernel
theorem dX5_run_99 : decode cX5_run 99 = .ok (.putfield 80, 3) := by decide +kernel
theorem dX5_run_102 : decode cX5_run 102 = .ok (.aload 7, 2) := by decide +kernel
theorem dX5_run_104 : decode cX5_run 104 = .ok (.iload 5, 2) := by decide +kernel
theorem dX5_run_106 : decode cX5_run 106 = .ok (.putfield 83, 3) := by decide +kernel
theorem dX5_run_109 : decode cX5_run 109 = .ok (.aload_n 0, 1) := by decide +kernel
theorem dX5_run_110 : decode cX5_run 110 = .ok (.getfield 10, 3) := by decide +kernel
theorem dX5_run_113 : decode cX5_run 113 = .ok (.dup, 1) := by decide +kernel
theorem dX5_run_114 : decode cX5_run 114 = .ok (.getfield 60, 3) := by decide +kernel
theorem dX5_run_117 : decode cX5_run 117 = .ok (.iconst 1, 1) := by decide +kernel
theorem dX5_run_118 : decode cX5_run 118 = .ok (.iadd, 1) := by decide +kernel
theorem dX5_run_119 : decode cX5_run 119 = .ok (.putfield 60, 3) := by decide +kernel
theorem dX5_run_122 : decode cX5_run 122 = .ok (.iload 6, 2) := by decide +kernel
theorem dX5_run_124 : decode cX5_run 124 = .ok (.ireturn, 1) := by decide +kernel
theorem dX5_turn_0 : decode cX5_turn 0 = .ok (.aload_n 0, 1) := by decide +kernel
theorem dX5_turn_1 : decode cX5_turn 1 = .ok (.iload_n 1, 1) := by decide +kernel
theorem dX5_turn_2 : decode cX5_turn 2 = .ok (.invokevirtual 56, 3) := by decide +kernel
theorem dX5_turn_5 : decode cX5_turn 5 = .ok (.aload_n 0, 1) := by decide +kernel
theorem dX5_turn_6 : decode cX5_turn 6 = .ok (.getfield 10, 3) := by decide +kernel
theorem dX5_turn_9 : decode cX5_turn 9 = .ok (.getfield 44, 3) := by decide +kernel
theorem dX5_turn_12 : decode cX5_turn 12 = .ok (.iload_n 1, 1) := by decide +kernel
theorem dX5_turn_13 : decode cX5_turn 13 = .ok (.aaload, 1) := by decide +kernel
theorem dX5_turn_14 : decode cX5_turn 14 = .ok (.getfield 86, 3) := by decide +kernel
theorem dX5_turn_17 : decode cX5_turn 17 = .ok (.istore_n 3, 1) := by decide +kernel
theorem dX5_turn_18 : decode cX5_turn 18 = .ok (.aload_n 0, 1) := by decide +kernel
theorem dX5_turn_19 : decode cX5_turn 19 = .ok (.getfield 10, 3) := by decide +kernel
theorem dX5_turn_22 : decode cX5_turn 22 = .ok (.getfield 44, 3) := by decide +kernel
theorem dX5_turn_25 : decode cX5_turn 25 = .ok (.iload_n 1, 1) := by decide +kernel
theorem dX5_turn_26 : decode cX5_turn 26 = .ok (.aaload, 1) := by decide +kernel
theorem dX5_turn_27 : decode cX5_turn 27 = .ok (.iload_n 2, 1) := by decide +kernel
theorem dX5_turn_28 : decode cX5_turn 28 = .ok (.putfield 86, 3) := by decide +kernel
theorem dX5_turn_31 : decode cX5_turn 31 = .ok (.iload_n 3, 1) := by decide +kernel
theorem dX5_turn_32 : decode cX5_turn 32 = .ok (.ireturn, 1) := by decide +kernel
theorem dX5_guns_0 : decode cX5_guns 0 = .ok (.aload_n 0, 1) := by decide +kernel
theorem dX5_guns_1 : decode cX5_guns 1 = .ok (.iload_n 1, 1) := by decide +kernel
theorem dX5_guns_2 : decode cX5_guns 2 = .ok (.invokevirtual 98, 3) := by decide +kernel
theorem dX5_guns_5 : decode cX5_guns 5 = .ok (.iload_n 2, 1) := by decide +kernel
theorem dX5_guns_6 : decode cX5_guns 6 = .ok (.iconst 0, 1) := by decide +kernel
theorem dX5_guns_7 : decode cX5_guns 7 = .ok (.bipush 9, 2) := by decide +kernel
theorem dX5_guns_9 : decode cX5_guns 9 = .ok (.invokestatic 29, 3) := by decide +kernel
theorem dX5_guns_12 : decode cX5_guns 12 = .ok (.aload_n 0, 1) := by decide +kernel
theorem dX5_guns_13 : decode cX5_guns 13 = .ok (.getfield 10, 3) := by decide +kernel
theorem dX5_guns_16 : decode cX5_guns 16 = .ok (.getfield 65, 3) := by decide +kernel
theorem dX5_guns_19 : decode cX5_guns 19 = .ok (.iload_n 1, 1) := by decide +kernel
theorem dX5_guns_20 : decode cX5_guns 20 = .ok (.aaload, 1) := by decide +kernel
theorem dX5_guns_21 : decode cX5_guns 21 = .ok (.getfield 101, 3) := by decide +kernel
theorem dX5_guns_24 : decode cX5_guns 24 = .ok (.istore_n 3, 1) := by decide +kernel
theorem dX5_guns_25 : decode cX5_guns 25 = .ok (.aload_n 0, 1) := by decide +kernel
theorem dX5_guns_26 : decode cX5_guns 26 = .ok (.getfield 10, 3) := by decide +kernel
theorem dX5_guns_29 : decode cX5_guns 29 = .ok (.getfield 65, 3) := by decide +kernel
theorem dX5_guns_32 : decode cX5_guns 32 = .ok (.iload_n 1, 1) := by decide +kernel
theorem dX5_guns_33 : decode cX5_guns 33 = .ok (.aaload, 1) := by decide +kernel
theorem dX5_guns_34 : decode cX5_guns 34 = .ok (.iload_n 2, 1) := by decide +kernel
theorem dX5_guns_35 : decode cX5_guns 35 = .ok (.putfield 101, 3) := by decide +kernel
theorem dX5_guns_38 : decode cX5_guns 38 = .ok (.iload_n 3, 1) := by decide +kernel
theorem dX5_guns_39 : decode cX5_guns 39 = .ok (.ireturn, 1) := by decide +kernel
theorem dX5_fill_0 : decode cX5_fill 0 = .ok (.iload_n 1, 1) := by decide +kernel
theorem dX5_fill_1 : decode cX5_fill 1 = .ok (.iconst 1, 1) := by decide +kernel
theorem dX5_fill_2 : decode cX5_fill 2 = .ok (.sipush 5000, 3) := by decide +kernel
theorem dX5_fill_5 : decode cX5_fill 5 = .ok (.invokestatic 29, 3) := by decide +kernel
theorem dX5_fill_8 : decode cX5_fill 8 = .ok (.aload_n 0, 1) := by decide +kernel
theorem dX5_fill_9 : decode cX5_fill 9 = .ok (.getfield 10, 3) := by decide +kernel
theorem dX5_fill_12 : decode cX5_fill 12 = .ok (.aload_n 0, 1) := by decide +kernel
theorem dX5_fill_13 : decode cX5_fill 13 = .ok (.getfield 10, 3) := by decide +kernel
theorem dX5_fill_16 : decode cX5_fill 16 = .ok (.getfield 104, 3) := by decide +kernel
theorem dX5_fill_19 : decode cX5_fill 19 = .ok (.iload_n 1, 1) := by decide +kernel
theorem dX5_fill_20 : decode cX5_fill 20 = .ok (.iadd, 1) := by decide +kernel
theorem dX5_fill_21 : decode cX5_fill 21 = .ok (.sipush 5000, 3) := by decide +kernel
theorem dX5_fill_24 : decode cX5_fill 24 = .ok (.invokestatic 107, 3) := by decide +kernel
theorem dX5_fill_27 : decode cX5_fill 27 = .ok (.putfield 104, 3) := by decide +kernel
theorem dX5_fill_30 : decode cX5_fill 30 = .ok (.aload_n 0, 1) := by decide +kernel
theorem dX5_fill_31 : decode cX5_fill 31 = .ok (.getfield 10, 3) := by decide +kernel
theorem dX5_fill_34 : decode cX5_fill 34 = .ok (.getfield 104, 3) := by decide +kernel
theorem dX5_fill_37 : decode cX5_fill 37 = .ok (.ireturn, 1) := by decide +kernel
theorem dX5_crowd_0 : decode cX5_crowd 0 = .ok (.iload_n 1, 1) := by decide +kernel
theorem dX5_crowd_1 : decode cX5_crowd 1 = .ok (.iconst 0, 1) := by decide +kernel
theorem dX5_crowd_2 : decode cX5_crowd 2 = .ok (.sipush 5000, 3) := by decide +kernel
theorem dX5_crowd_5 : decode cX5_crowd 5 = .ok (.invokestatic 29, 3) := by decide +kernel
theorem dX5_crowd_8 : decode cX5_crowd 8 = .ok (.aload_n 0, 1) := by decide +kernel
theorem dX5_crowd_9 : decode cX5_crowd 9 = .ok (.getfield 10, 3) := by decide +kernel
theorem dX5_crowd_12 : decode cX5_crowd 12 = .ok (.getfield 113, 3) := by decide +kernel
theorem dX5_crowd_15 : decode cX5_crowd 15 = .ok (.istore_n 2, 1) := by decide +kernel
theorem dX5_crowd_16 : decode cX5_crowd 16 = .ok (.aload_n 0, 1) := by decide +kernel
theorem dX5_crowd_17 : decode cX5_crowd 17 = .ok (.getfield 10, 3) := by decide +kernel
theorem dX5_crowd_20 : decode cX5_crowd 20 = .ok (.iload_n 1, 1) := by decide +kernel
theorem dX5_crowd_21 : decode cX5_crowd 21 = .ok (.putfield 113, 3) := by decide +kernel
theorem dX5_crowd_24 : decode cX5_crowd 24 = .ok (.iload_n 2, 1) := by decide +kernel
theorem dX5_crowd_25 : decode cX5_crowd 25 = .ok (.ireturn, 1) := by decide +kernel
theorem dX5_pass_0 : decode cX5_pass 0 = .ok (.iload_n 1, 1) := by decide +kernel
theorem dX5_pass_1 : decode cX5_pass 1 = .ok (.iconst 1, 1) := by decide +kernel
theorem dX5_pass_2 : decode cX5_pass 2 = .ok (.bipush 48, 2) := by decide +kernel
theorem dX5_pass_4 : decode cX5_pass 4 = .ok (.invokestatic 29, 3) := by decide +kernel
theorem dX5_pass_7 : decode cX5_pass 7 = .ok (.iload_n 2, 1) := by decide +kernel
theorem dX5_pass_8 : decode cX5_pass 8 = .ok (.bipush (-20), 2) := by decide +kernel
theorem dX5_pass_10 : decode cX5_pass 10 = .ok (.bipush 20, 2) := by decide +kernel
theorem dX5_pass_12 : decode cX5_pass 12 = .ok (.invokestatic 29, 3) := by decide +kernel
theorem dX5_pass_15 : decode cX5_pass 15 = .ok (.iload_n 3, 1) := by decide +kernel
theorem dX5_pass_16 : decode cX5_pass 16 = .ok (.iconst 0, 1) := by decide +kernel
theorem dX5_pass_17 : decode cX5_pass 17 = .ok (.bipush 9, 2) := by decide +kernel
theorem dX5_pass_19 : decode cX5_pass 19 = .ok (.invokestatic 29, 3) := by decide +kernel
theorem dX5_pass_22 : decode cX5_pass 22 = .ok (.iload 4, 2) := by decide +kernel
theorem dX5_pass_24 : decode cX5_pass 24 = .ok (.iconst 0, 1) := by decide +kernel
theorem dX5_pass_25 : decode cX5_pass 25 = .ok (.bipush 9, 2) := by decide +kernel
theorem dX5_pass_27 : decode cX5_pass 27 = .ok (.invokestatic 29, 3) := by decide +kernel
theorem dX5_pass_30 : decode cX5_pass 30 = .ok (.iload 5, 2) := by decide +kernel
theorem dX5_pass_32 : decode cX5_pass 32 = .ok (.iconst 0, 1) := by decide +kernel
theorem dX5_pass_33 : decode cX5_pass 33 = .ok (.iconst 3, 1) := by decide +kernel
theorem dX5_pass_34 : decode cX5_pass 34 = .ok (.invokestatic 29, 3) := by decide +kernel
theorem dX5_pass_37 : decode cX5_pass 37 = .ok (.iload 6, 2) := by decide +kernel
theorem dX5_pass_39 : decode cX5_pass 39 = .ok (.iconst 0, 1) := by decide +kernel
theorem dX5_pass_40 : decode cX5_pass 40 = .ok (.bipush 100, 2) := by decide +kernel
theorem dX5_pass_42 : decode cX5_pass 42 = .ok (.invokestatic 29, 3) := by decide +kernel
theorem dX5_pass_45 : decode cX5_pass 45 = .ok (.aload_n 0, 1) := by decide +kernel
theorem dX5_pass_46 : decode cX5_pass 46 = .ok (.getfield 10, 3) := by decide +kernel
theorem dX5_pass_49 : decode cX5_pass 49 = .ok (.getfield 116, 3) := by decide +kernel
theorem dX5_pass_52 : decode cX5_pass 52 = .ok (.iload_n 1, 1) := by decide +kernel
theorem dX5_pass_53 : decode cX5_pass 53 = .ok (.iadd, 1) := by decide +kernel
theorem dX5_pass_54 : decode cX5_pass 54 = .ok (.sipush 9999, 3) := by decide +kernel
theorem dX5_pass_57 : decode cX5_pass 57 = .ok (.if_icmp .le 13, 3) := by decide +kernel
theorem dX5_pass_60 : decode cX5_pass 60 = .ok (.new 37, 3) := by decide +kernel
theorem dX5_pass_63 : decode cX5_pass 63 = .ok (.dup, 1) := by decide +kernel
theorem dX5_pass_64 : decode cX5_pass 64 = .ok (.ldc 119, 2) := by decide +kernel
theorem dX5_pass_66 : decode cX5_pass 66 = .ok (.invokespecial 41, 3) := by decide +kernel
theorem dX5_pass_69 : decode cX5_pass 69 = .ok (.athrow, 1) := by decide +kernel
theorem dX5_pass_70 : decode cX5_pass 70 = .ok (.aload_n 0, 1) := by decide +kernel
theorem dX5_pass_71 : decode cX5_pass 71 = .ok (.getfield 10, 3) := by decide +kernel
theorem dX5_pass_74 : decode cX5_pass 74 = .ok (.getfield 121, 3) := by decide +kernel
theorem dX5_pass_77 : decode cX5_pass 77 = .ok (.istore 7, 2) := by decide +kernel
theorem dX5_pass_79 : decode cX5_pass 79 = .ok (.aload_n 0, 1) := by decide +kernel
theorem dX5_pass_80 : decode cX5_pass 80 = .ok (.getfield 25, 3) := by decide +kernel
theorem dX5_pass_83 : decode cX5_pass 83 = .ok (.iload_n 2, 1) := by decide +kernel
theorem dX5_pass_84 : decode cX5_pass 84 = .ok (.iload_n 3, 1) := by decide +kernel
theorem dX5_pass_85 : decode cX5_pass 85 = .ok (.iload 4, 2) := by decide +kernel
theorem dX5_pass_87 : decode cX5_pass 87 = .ok (.iload 5, 2) := by decide +kernel
theorem dX5_pass_89 : decode cX5_pass 89 = .ok (.iload 6, 2) := by decide +kernel
theorem dX5_pass_91 : decode cX5_pass 91 = .ok (.invokevirtual 124, 3) := by decide +kernel
theorem dX5_pass_94 : decode cX5_pass 94 = .ok (.iconst 0, 1) := by decide +kernel
theorem dX5_pass_95 : decode cX5_pass 95 = .ok (.istore 8, 2) := by decide +kernel
theorem dX5_pass_97 : decode cX5_pass 97 = .ok (.iload 8, 2) := by decide +kernel
theorem dX5_pass_99 : decode cX5_pass 99 = .ok (.iload_n 1, 1) := by decide +kernel
theorem dX5_pass_100 : decode cX5_pass 100 = .ok (.if_icmp .ge 20, 3) := by decide +kernel
theorem dX5_pass_103 : decode cX5_pass 103 = .ok (.aload_n 0, 1) := by decide +kernel
theorem dX5_pass_104 : decode cX5_pass 104 = .ok (.getfield 10, 3) := by decide +kernel
theorem dX5_pass_107 : decode cX5_pass 107 = .ok (.aload_n 0, 1) := by decide +kernel
theorem dX5_pass_108 : decode cX5_pass 108 = .ok (.getfield 25, 3) := by decide +kernel
theorem dX5_pass_111 : decode cX5_pass 111 = .ok (.invokevirtual 128, 3) := by decide +kernel
theorem dX5_pass_114 : decode cX5_pass 114 = .ok (.iinc 8 1, 3) := by decide +kernel
theorem dX5_pass_117 : decode cX5_pass 117 = .ok (.goto (-20), 3) := by decide +kernel
theorem dX5_pass_120 : decode cX5_pass 120 = .ok (.aload_n 0, 1) := by decide +kernel
theorem dX5_pass_121 : decode cX5_pass 121 = .ok (.getfield 10, 3) := by decide +kernel
theorem dX5_pass_124 : decode cX5_pass 124 = .ok (.getfield 121, 3) := by decide +kernel
theorem dX5_pass_127 : decode cX5_pass 127 = .ok (.iload 7, 2) := by decide +kernel
theorem dX5_pass_129 : decode cX5_pass 129 = .ok (.isub, 1) := by decide +kernel
theorem dX5_pass_130 : decode cX5_pass 130 = .ok (.ireturn, 1) := by decide +kernel
theorem dX5_blast_0 : decode cX5_blast 0 = .ok (.aload_n 0, 1) := by decide +kernel
theorem dX5_blast_1 : decode cX5_blast 1 = .ok (.iload_n 1, 1) := by decide +kernel
theorem dX5_blast_2 : decode cX5_blast 2 = .ok (.invokevirtual 132, 3) := by decide +kernel
theorem dX5_blast_5 : decode cX5_blast 5 = .ok (.aload_n 0, 1) := by decide +kernel
theorem dX5_blast_6 : decode cX5_blast 6 = .ok (.getfield 10, 3) := by decide +kernel
theorem dX5_blast_9 : decode cX5_blast 9 = .ok (.getfield 135, 3) := by decide +kernel
theorem dX5_blast_12 : decode cX5_blast 12 = .ok (.iconst 1, 1) := by decide +kernel
theorem dX5_blast_13 : decode cX5_blast 13 = .ok (.if_icmp .ge 13, 3) := by decide +kernel
theorem dX5_blast_16 : decode cX5_blast 16 = .ok (.new 37, 3) := by decide +kernel
theorem dX5_blast_19 : decode cX5_blast 19 = .ok (.dup, 1) := by decide +kernel
theorem dX5_blast_20 : decode cX5_blast 20 = .ok (.ldc 138, 2) := by decide +kernel
theorem dX5_blast_22 : decode cX5_blast 22 = .ok (.invokespecial 41, 3) := by decide +kernel
theorem dX5_blast_25 : decode cX5_blast 25 = .ok (.athrow, 1) := by decide +kernel
theorem dX5_blast_26 : decode cX5_blast 26 = .ok (.aload_n 0, 1) := by decide +kernel
theorem dX5_blast_27 : decode cX5_blast 27 = .ok (.getfield 10, 3) := by decide +kernel
theorem dX5_blast_30 : decode cX5_blast 30 = .ok (.getfield 65, 3) := by decide +kernel
theorem dX5_blast_33 : decode cX5_blast 33 = .ok (.iload_n 1, 1) := by decide +kernel
theorem dX5_blast_34 : decode cX5_blast 34 = .ok (.aaload, 1) := by decide +kernel
theorem dX5_blast_35 : decode cX5_blast 35 = .ok (.astore_n 2, 1) := by decide +kernel
theorem dX5_blast_36 : decode cX5_blast 36 = .ok (.aload_n 0, 1) := by decide +kernel
theorem dX5_blast_37 : decode cX5_blast 37 = .ok (.getfield 10, 3) := by decide +kernel
theorem dX5_blast_40 : decode cX5_blast 40 = .ok (.dup, 1) := by decide +kernel
theorem dX5_blast_41 : decode cX5_blast 41 = .ok (.getfield 135, 3) := by decide +kernel
theorem dX5_blast_44 : decode cX5_blast 44 = .ok (.iconst 1, 1) := by decide +kernel
theorem dX5_blast_45 : decode cX5_blast 45 = .ok (.isub, 1) := by decide +kernel
theorem dX5_blast_46 : decode cX5_blast 46 = .ok (.putfield 135, 3) := by decide +kernel
theorem dX5_blast_49 : decode cX5_blast 49 = .ok (.bipush 50, 2) := by decide +kernel
theorem dX5_blast_51 : decode cX5_blast 51 = .ok (.aload_n 0, 1) := by decide +kernel
theorem dX5_blast_52 : decode cX5_blast 52 = .ok (.getfield 10, 3) := by decide +kernel
theorem dX5_blast_55 : decode cX5_blast 55 = .ok (.getfield 135, 3) := by decide +kernel
theorem dX5_blast_58 : decode cX5_blast 58 = .ok (.isub, 1) := by decide +kernel
theorem dX5_blast_59 : decode cX5_blast 59 = .ok (.bipush 7, 2) := by decide +kernel
theorem dX5_blast_61 : decode cX5_blast 61 = .ok (.irem, 1) := by decide +kernel
theorem dX5_blast_62 : decode cX5_blast 62 = .ok (.ifCond .ne 16, 3) := by decide +kernel
theorem dX5_blast_65 : decode cX5_blast 65 = .ok (.aload_n 2, 1) := by decide +kernel
theorem dX5_blast_66 : decode cX5_blast 66 = .ok (.dup, 1) := by decide +kernel
theorem dX5_blast_67 : decode cX5_blast 67 = .ok (.getfield 140, 3) := by decide +kernel
theorem dX5_blast_70 : decode cX5_blast 70 = .ok (.iconst 1, 1) := by decide +kernel
theorem dX5_blast_71 : decode cX5_blast 71 = .ok (.iadd, 1) := by decide +kernel
theorem dX5_blast_72 : decode cX5_blast 72 = .ok (.putfield 140, 3) := by decide +kernel
theorem dX5_blast_75 : decode cX5_blast 75 = .ok (.bipush (-2), 2) := by decide +kernel
theorem dX5_blast_77 : decode cX5_blast 77 = .ok (.ireturn, 1) := by decide +kernel
theorem dX5_blast_78 : decode cX5_blast 78 = .ok (.aload_n 2, 1) := by decide +kernel
theorem dX5_blast_79 : decode cX5_blast 79 = .ok (.invokevirtual 143, 3) := by decide +kernel
theorem dX5_blast_82 : decode cX5_blast 82 = .ok (.bipush 40, 2) := by decide +kernel
theorem dX5_blast_84 : decode cX5_blast 84 = .ok (.if_icmp .lt 14, 3) := by decide +kernel
theorem dX5_blast_87 : decode cX5_blast 87 = .ok (.aload_n 0, 1) := by decide +kernel
theorem dX5_blast_88 : decode cX5_blast 88 = .ok (.getfield 10, 3) := by decide +kernel
theorem dX5_blast_91 : decode cX5_blast 91 = .ok (.aload_n 2, 1) := by decide +kernel
theorem dX5_blast_92 : decode cX5_blast 92 = .ok (.invokevirtual 147, 3) := by decide +kernel
theorem dX5_blast_95 : decode cX5_blast 95 = .ok (.goto 4, 3) := by decide +kernel
theorem dX5_blast_98 : decode cX5_blast 98 = .ok (.iconst 0, 1) := by decide +kernel
theorem dX5_blast_99 : decode cX5_blast 99 = .ok (.ireturn, 1) := by decide +kernel
theorem dX5_search_0 : decode cX5_search 0 = .ok (.aload_n 0, 1) := by decide +kernel
theorem dX5_search_1 : decode cX5_search 1 = .ok (.iload_n 1, 1) := by decide +kernel
theorem dX5_search_2 : decode cX5_search 2 = .ok (.invokevirtual 98, 3) := by decide +kernel
theorem dX5_search_5 : decode cX5_search 5 = .ok (.aload_n 0, 1) := by decide +kernel
theorem dX5_search_6 : decode cX5_search 6 = .ok (.getfield 10, 3) := by decide +kernel
theorem dX5_search_9 : decode cX5_search 9 = .ok (.getfield 65, 3) := by decide +kernel
theorem dX5_search_12 : decode cX5_search 12 = .ok (.iload_n 1, 1) := by decide +kernel
theorem dX5_search_13 : decode cX5_search 13 = .ok (.aaload, 1) := by decide +kernel
theorem dX5_search_14 : decode cX5_search 14 = .ok (.astore_n 2, 1) := by decide +kernel
theorem dX5_search_15 : decode cX5_search 15 = .ok (.aload_n 2, 1) := by decide +kernel
theorem dX5_search_16 : decode cX5_search 16 = .ok (.getfield 140, 3) := by decide +kernel
theorem dX5_search_19 : decode cX5_search 19 = .ok (.iconst 1, 1) := by decide +kernel
theorem dX5_search_20 : decode cX5_search 20 = .ok (.if_icmp .ge 13, 3) := by decide +kernel
theorem dX5_search_23 : decode cX5_search 23 = .ok (.new 37, 3) := by decide +kernel
theorem dX5_search_26 : decode cX5_search 26 = .ok (.dup, 1) := by decide +kernel
theorem dX5_search_27 : decode cX5_search 27 = .ok (.ldc 151, 2) := by decide +kernel
theorem dX5_search_29 : decode cX5_search 29 = .ok (.invokespecial 41, 3) := by decide +kernel
theorem dX5_search_32 : decode cX5_search 32 = .ok (.athrow, 1) := by decide +kernel
theorem dX5_search_33 : decode cX5_search 33 = .ok (.aload_n 2, 1) := by decide +kernel
theorem dX5_search_34 : decode cX5_search 34 = .ok (.dup, 1) := by decide +kernel
theorem dX5_search_35 : decode cX5_search 35 = .ok (.getfield 140, 3) := by decide +kernel
theorem dX5_search_38 : decode cX5_search 38 = .ok (.iconst 1, 1) := by decide +kernel
theorem dX5_search_39 : decode cX5_search 39 = .ok (.isub, 1) := by decide +kernel
theorem dX5_search_40 : decode cX5_search 40 = .ok (.putfield 140, 3) := by decide +kernel
theorem dX5_search_43 : decode cX5_search 43 = .ok (.aload_n 2, 1) := by decide +kernel
theorem dX5_search_44 : decode cX5_search 44 = .ok (.getfield 140, 3) := by decide +kernel
theorem dX5_search_47 : decode cX5_search 47 = .ok (.ireturn, 1) := by decide +kernel
theorem dX5_test_0 : decode cX5_test 0 = .ok (.aload_n 0, 1) := by decide +kernel
theorem dX5_test_1 : decode cX5_test 1 = .ok (.iload_n 1, 1) := by decide +kernel
theorem dX5_test_2 : decode cX5_test 2 = .ok (.invokevirtual 98, 3) := by decide +kernel
theorem dX5_test_5 : decode cX5_test 5 = .ok (.aload_n 0, 1) := by decide +kernel
theorem dX5_test_6 : decode cX5_test 6 = .ok (.getfield 10, 3) := by decide +kernel
theorem dX5_test_9 : decode cX5_test 9 = .ok (.getfield 65, 3) := by decide +kernel
theorem dX5_test_12 : decode cX5_test 12 = .ok (.iload_n 1, 1) := by decide +kernel
theorem dX5_test_13 : decode cX5_test 13 = .ok (.aaload, 1) := by decide +kernel
theorem dX5_test_14 : decode cX5_test 14 = .ok (.astore_n 2, 1) := by decide +kernel
theorem dX5_test_15 : decode cX5_test 15 = .ok (.aload_n 2, 1) := by decide +kernel
theorem dX5_test_16 : decode cX5_test 16 = .ok (.aload_n 0, 1) := by decide +kernel
theorem dX5_test_17 : decode cX5_test 17 = .ok (.getfield 10, 3) := by decide +kernel
theorem dX5_test_20 : decode cX5_test 20 = .ok (.iload_n 1, 1) := by decide +kernel
theorem dX5_test_21 : decode cX5_test 21 = .ok (.aload_n 2, 1) := by decide +kernel
theorem dX5_test_22 : decode cX5_test 22 = .ok (.invokevirtual 153, 3) := by decide +kernel
theorem dX5_test_25 : decode cX5_test 25 = .ok (.putfield 157, 3) := by decide +kernel
theorem dX5_test_28 : decode cX5_test 28 = .ok (.aload_n 2, 1) := by decide +kernel
theorem dX5_test_29 : decode cX5_test 29 = .ok (.aload_n 0, 1) := by decide +kernel
theorem dX5_test_30 : decode cX5_test 30 = .ok (.getfield 10, 3) := by decide +kernel
theorem dX5_test_33 : decode cX5_test 33 = .ok (.getfield 116, 3) := by decide +kernel
theorem dX5_test_36 : decode cX5_test 36 = .ok (.bipush 12, 2) := by decide +kernel
theorem dX5_test_38 : decode cX5_test 38 = .ok (.iadd, 1) := by decide +kernel
theorem dX5_test_39 : decode cX5_test 39 = .ok (.putfield 160, 3) := by decide +kernel
theorem dX5_test_42 : decode cX5_test 42 = .ok (.aload_n 2, 1) := by decide +kernel
theorem dX5_test_43 : decode cX5_test 43 = .ok (.getfield 157, 3) := by decide +kernel
theorem dX5_test_46 : decode cX5_test 46 = .ok (.ireturn, 1) := by decide +kernel
theorem dX5_sweep_0 : decode cX5_sweep 0 = .ok (.aload_n 0, 1) := by decide +kernel
theorem dX5_sweep_1 : decode cX5_sweep 1 = .ok (.iload_n 1, 1) := by decide +kernel
theorem dX5_sweep_2 : decode cX5_sweep 2 = .ok (.invokevirtual 132, 3) := by decide +kernel
theorem dX5_sweep_5 : decode cX5_sweep 5 = .ok (.aload_n 0, 1) := by decide +kernel
theorem dX5_sweep_6 : decode cX5_sweep 6 = .ok (.getfield 10, 3) := by decide +kernel
theorem dX5_sweep_9 : decode cX5_sweep 9 = .ok (.getfield 65, 3) := by decide +kernel
theorem dX5_sweep_12 : decode cX5_sweep 12 = .ok (.iload_n 1, 1) := by decide +kernel
theorem dX5_sweep_13 : decode cX5_sweep 13 = .ok (.aaload, 1) := by decide +kernel
theorem dX5_sweep_14 : decode cX5_sweep 14 = .ok (.getfield 163, 3) := by decide +kernel
theorem dX5_sweep_17 : decode cX5_sweep 17 = .ok (.istore_n 2, 1) := by decide +kernel
theorem dX5_sweep_18 : decode cX5_sweep 18 = .ok (.aload_n 0, 1) := by decide +kernel
theorem dX5_sweep_19 : decode cX5_sweep 19 = .ok (.getfield 10, 3) := by decide +kernel
theorem dX5_sweep_22 : decode cX5_sweep 22 = .ok (.getfield 65, 3) := by decide +kernel
theorem dX5_sweep_25 : decode cX5_sweep 25 = .ok (.iload_n 1, 1) := by decide +kernel
theorem dX5_sweep_26 : decode cX5_sweep 26 = .ok (.aaload, 1) := by decide +kernel
theorem dX5_sweep_27 : decode cX5_sweep 27 = .ok (.iconst 1, 1) := by decide +kernel
theorem dX5_sweep_28 : decode cX5_sweep 28 = .ok (.putfield 163, 3) := by decide +kernel
theorem dX5_sweep_31 : decode cX5_sweep 31 = .ok (.iload_n 2, 1) := by decide +kernel
theorem dX5_sweep_32 : decode cX5_sweep 32 = .ok (.ifCond .ne 7, 3) := by decide +kernel
theorem dX5_sweep_35 : decode cX5_sweep 35 = .ok (.iconst 1, 1) := by decide +kernel
theorem dX5_sweep_36 : decode cX5_sweep 36 = .ok (.goto 4, 3) := by decide +kernel
theorem dX5_sweep_39 : decode cX5_sweep 39 = .ok (.iconst 0, 1) := by decide +kernel
theorem dX5_sweep_40 : decode cX5_sweep 40 = .ok (.ireturn, 1) := by decide +kernel
theorem dX5_groom_0 : decode cX5_groom 0 = .ok (.aload_n 0, 1) := by decide +kernel
theorem dX5_groom_1 : decode cX5_groom 1 = .ok (.iload_n 1, 1) := by decide +kernel
theorem dX5_groom_2 : decode cX5_groom 2 = .ok (.invokevirtual 132, 3) := by decide +kernel
theorem dX5_groom_5 : decode cX5_groom 5 = .ok (.aload_n 0, 1) := by decide +kernel
theorem dX5_groom_6 : decode cX5_groom 6 = .ok (.getfield 10, 3) := by decide +kernel
theorem dX5_groom_9 : decode cX5_groom 9 = .ok (.getfield 65, 3) := by decide +kernel
theorem dX5_groom_12 : decode cX5_groom 12 = .ok (.iload_n 1, 1) := by decide +kernel
theorem dX5_groom_13 : decode cX5_groom 13 = .ok (.aaload, 1) := by decide +kernel
theorem dX5_groom_14 : decode cX5_groom 14 = .ok (.getfield 169, 3) := by decide +kernel
theorem dX5_groom_17 : decode cX5_groom 17 = .ok (.astore_n 2, 1) := by decide +kernel
theorem dX5_groom_18 : decode cX5_groom 18 = .ok (.aload_n 0, 1) := by decide +kernel
theorem dX5_groom_19 : decode cX5_groom 19 = .ok (.getfield 10, 3) := by decide +kernel
theorem dX5_groom_22 : decode cX5_groom 22 = .ok (.invokevirtual 173, 3) := by decide +kernel
theorem dX5_groom_25 : decode cX5_groom 25 = .ok (.istore_n 3, 1) := by decide +kernel
theorem dX5_groom_26 : decode cX5_groom 26 = .ok (.aload_n 2, 1) := by decide +kernel
theorem dX5_groom_27 : decode cX5_groom 27 = .ok (.getfield 176, 3) := by decide +kernel
theorem dX5_groom_30 : decode cX5_groom 30 = .ok (.iconst 2, 1) := by decide +kernel
theorem dX5_groom_31 : decode cX5_groom 31 = .ok (.if_icmp .lt 15, 3) := by decide +kernel
theorem dX5_groom_34 : decode cX5_groom 34 = .ok (.iload_n 3, 1) := by decide +kernel
theorem dX5_groom_35 : decode cX5_groom 35 = .ok (.bipush 6, 2) := by decide +kernel
theorem dX5_groom_37 : decode cX5_groom 37 = .ok (.if_icmp .le 19, 3) := by decide +kernel
theorem dX5_groom_40 : decode cX5_groom 40 = .ok (.iload_n 3, 1) := by decide +kernel
theorem dX5_groom_41 : decode cX5_groom 41 = .ok (.bipush 18, 2) := by decide +kernel
theorem dX5_groom_43 : decode cX5_groom 43 = .ok (.if_icmp .ge 13, 3) := by decide +kernel
theorem dX5_groom_46 : decode cX5_groom 46 = .ok (.new 37, 3) := by decide +kernel
theorem dX5_groom_49 : decode cX5_groom 49 = .ok (.dup, 1) := by decide +kernel
theorem dX5_groom_50 : decode cX5_groom 50 = .ok (.ldc 181, 2) := by decide +kernel
theorem dX5_groom_52 : decode cX5_groom 52 = .ok (.invokespecial 41, 3) := by decide +kernel
theorem dX5_groom_55 : decode cX5_groom 55 = .ok (.athrow, 1) := by decide +kernel
theorem dX5_groom_56 : decode cX5_groom 56 = .ok (.aload_n 0, 1) := by decide +kernel
theorem dX5_groom_57 : decode cX5_groom 57 = .ok (.getfield 10, 3) := by decide +kernel
theorem dX5_groom_60 : decode cX5_groom 60 = .ok (.getfield 183, 3) := by decide +kernel
theorem dX5_groom_63 : decode cX5_groom 63 = .ok (.iconst 5, 1) := by decide +kernel
theorem dX5_groom_64 : decode cX5_groom 64 = .ok (.if_icmp .ge 13, 3) := by decide +kernel
theorem dX5_groom_67 : decode cX5_groom 67 = .ok (.new 37, 3) := by decide +kernel
theorem dX5_groom_70 : decode cX5_groom 70 = .ok (.dup, 1) := by decide +kernel
theorem dX5_groom_71 : decode cX5_groom 71 = .ok (.ldc 186, 2) := by decide +kernel
theorem dX5_groom_73 : decode cX5_groom 73 = .ok (.invokespecial 41, 3) := by decide +kernel
theorem dX5_groom_76 : decode cX5_groom 76 = .ok (.athrow, 1) := by decide +kernel
theorem dX5_groom_77 : decode cX5_groom 77 = .ok (.aload_n 0, 1) := by decide +kernel
theorem dX5_groom_78 : decode cX5_groom 78 = .ok (.getfield 10, 3) := by decide +kernel
theorem dX5_groom_81 : decode cX5_groom 81 = .ok (.dup, 1) := by decide +kernel
theorem dX5_groom_82 : decode cX5_groom 82 = .ok (.getfield 183, 3) := by decide +kernel
theorem dX5_groom_85 : decode cX5_groom 85 = .ok (.iconst 5, 1) := by decide +kernel
theorem dX5_groom_86 : decode cX5_groom 86 = .ok (.isub, 1) := by decide +kernel
theorem dX5_groom_87 : decode cX5_groom 87 = .ok (.putfield 183, 3) := by decide +kernel
theorem dX5_groom_90 : decode cX5_groom 90 = .ok (.aload_n 2, 1) := by decide +kernel
theorem dX5_groom_91 : decode cX5_groom 91 = .ok (.invokevirtual 188, 3) := by decide +kernel
theorem dX5_groom_94 : decode cX5_groom 94 = .ok (.ireturn, 1) := by decide +kernel
theorem dX5_open_0 : decode cX5_open 0 = .ok (.aload_n 0, 1) := by decide +kernel
theorem dX5_open_1 : decode cX5_open 1 = .ok (.iload_n 1, 1) := by decide +kernel
theorem dX5_open_2 : decode cX5_open 2 = .ok (.invokevirtual 132, 3) := by decide +kernel
theorem dX5_open_5 : decode cX5_open 5 = .ok (.aload_n 0, 1) := by decide +kernel
theorem dX5_open_6 : decode cX5_open 6 = .ok (.getfield 10, 3) := by decide +kernel
theorem dX5_open_9 : decode cX5_open 9 = .ok (.getfield 65, 3) := by decide +kernel
theorem dX5_open_12 : decode cX5_open 12 = .ok (.iload_n 1, 1) := by decide +kernel
theorem dX5_open_13 : decode cX5_open 13 = .ok (.aaload, 1) := by decide +kernel
theorem dX5_open_14 : decode cX5_open 14 = .ok (.astore_n 2, 1) := by decide +kernel
theorem dX5_open_15 : decode cX5_open 15 = .ok (.aload_n 0, 1) := by decide +kernel
theorem dX5_open_16 : decode cX5_open 16 = .ok (.getfield 10, 3) := by decide +kernel
theorem dX5_open_19 : decode cX5_open 19 = .ok (.aload_n 2, 1) := by decide +kernel
theorem dX5_open_20 : decode cX5_open 20 = .ok (.invokevirtual 191, 3) := by decide +kernel
theorem dX5_open_23 : decode cX5_open 23 = .ok (.istore_n 3, 1) := by decide +kernel
theorem dX5_open_24 : decode cX5_open 24 = .ok (.iload_n 3, 1) := by decide +kernel
theorem dX5_open_25 : decode cX5_open 25 = .ok (.ifCond .ne 19, 3) := by decide +kernel
theorem dX5_open_28 : decode cX5_open 28 = .ok (.aload_n 2, 1) := by decide +kernel
theorem dX5_open_29 : decode cX5_open 29 = .ok (.iconst 1, 1) := by decide +kernel
theorem dX5_open_30 : decode cX5_open 30 = .ok (.putfield 194, 3) := by decide +kernel
theorem dX5_open_33 : decode cX5_open 33 = .ok (.aload_n 2, 1) := by decide +kernel
theorem dX5_open_34 : decode cX5_open 34 = .ok (.aload_n 0, 1) := by decide +kernel
theorem dX5_open_35 : decode cX5_open 35 = .ok (.getfield 10, 3) := by decide +kernel
theorem dX5_open_38 : decode cX5_open 38 = .ok (.getfield 116, 3) := by decide +kernel
theorem dX5_open_41 : decode cX5_open 41 = .ok (.putfield 197, 3) := by decide +kernel
theorem dX5_open_44 : decode cX5_open 44 = .ok (.iload_n 3, 1) := by decide +kernel
theorem dX5_open_45 : decode cX5_open 45 = .ok (.ireturn, 1) := by decide +kernel
theorem dX5_close_0 : decode cX5_close 0 = .ok (.aload_n 0, 1) := by decide +kernel
theorem dX5_close_1 : decode cX5_close 1 = .ok (.iload_n 1, 1) := by decide +kernel
theorem dX5_close_2 : decode cX5_close 2 = .ok (.invokevirtual 98, 3) := by decide +kernel
theorem dX5_close_5 : decode cX5_close 5 = .ok (.aload_n 0, 1) := by decide +kernel
theorem dX5_close_6 : decode cX5_close 6 = .ok (.getfield 10, 3) := by decide +kernel
theorem dX5_close_9 : decode cX5_close 9 = .ok (.getfield 65, 3) := by decide +kernel
theorem dX5_close_12 : decode cX5_close 12 = .ok (.iload_n 1, 1) := by decide +kernel
theorem dX5_close_13 : decode cX5_close 13 = .ok (.aaload, 1) := by decide +kernel
theorem dX5_close_14 : decode cX5_close 14 = .ok (.astore_n 2, 1) := by decide +kernel
theorem dX5_close_15 : decode cX5_close 15 = .ok (.aload_n 2, 1) := by decide +kernel
theorem dX5_close_16 : decode cX5_close 16 = .ok (.getfield 194, 3) := by decide +kernel
theorem dX5_close_19 : decode cX5_close 19 = .ok (.ifCond .ne 13, 3) := by decide +kernel
theorem dX5_close_22 : decode cX5_close 22 = .ok (.new 37, 3) := by decide +kernel
theorem dX5_close_25 : decode cX5_close 25 = .ok (.dup, 1) := by decide +kernel
theorem dX5_close_26 : decode cX5_close 26 = .ok (.ldc 200, 2) := by decide +kernel

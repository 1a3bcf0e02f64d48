theorem dX0_init_0 : decode cX0_init 0 = .ok (.aload_n 0, 1) := by decide +kernel
theorem dX0_init_1 : decode cX0_init 1 = .ok (.invokespecial 3, 3) := by decide +kernel
theorem dX0_init_4 : decode cX0_init 4 = .ok (.aload_n 0, 1) := by decide +kernel
theorem dX0_init_5 : decode cX0_init 5 = .ok (.iconst 1, 1) := by decide +kernel
theorem dX0_init_6 : decode cX0_init 6 = .ok (.putfield 9, 3) := by decide +kernel
theorem dX0_init_9 : decode cX0_init 9 = .ok (.aload_n 0, 1) := by decide +kernel
theorem dX0_init_10 : decode cX0_init 10 = .ok (.iconst 0, 1) := by decide +kernel
theorem dX0_init_11 : decode cX0_init 11 = .ok (.putfield 15, 3) := by decide +kernel
theorem dX0_init_14 : decode cX0_init 14 = .ok (.aload_n 0, 1) := by decide +kernel
theorem dX0_init_15 : decode cX0_init 15 = .ok (.iconst 1, 1) := by decide +kernel
theorem dX0_init_16 : decode cX0_init 16 = .ok (.putfield 18, 3) := by decide +kernel
theorem dX0_init_19 : decode cX0_init 19 = .ok (.aload_n 0, 1) := by decide +kernel
theorem dX0_init_20 : decode cX0_init 20 = .ok (.bipush 10, 2) := by decide +kernel
theorem dX0_init_22 : decode cX0_init 22 = .ok (.putfield 21, 3) := by decide +kernel
theorem dX0_init_25 : decode cX0_init 25 = .ok (.aload_n 0, 1) := by decide +kernel
theorem dX0_init_26 : decode cX0_init 26 = .ok (.iconst 0, 1) := by decide +kernel
theorem dX0_init_27 : decode cX0_init 27 = .ok (.putfield 24, 3) := by decide +kernel
theorem dX0_init_30 : decode cX0_init 30 = .ok (.aload_n 0, 1) := by decide +kernel
theorem dX0_init_31 : decode cX0_init 31 = .ok (.iconst 0, 1) := by decide +kernel
theorem dX0_init_32 : decode cX0_init 32 = .ok (.putfield 27, 3) := by decide +kernel
theorem dX0_init_35 : decode cX0_init 35 = .ok (.aload_n 0, 1) := by decide +kernel
theorem dX0_init_36 : decode cX0_init 36 = .ok (.iconst 0, 1) := by decide +kernel
theorem dX0_init_37 : decode cX0_init 37 = .ok (.putfield 31, 3) := by decide +kernel
theorem dX0_init_40 : decode cX0_init 40 = .ok (.aload_n 0, 1) := by decide +kernel
theorem dX0_init_41 : decode cX0_init 41 = .ok (.iconst 0, 1) := by decide +kernel
theorem dX0_init_42 : decode cX0_init 42 = .ok (.putfield 34, 3) := by decide +kernel
theorem dX0_init_45 : decode cX0_init 45 = .ok (.aload_n 0, 1) := by decide +kernel
theorem dX0_init_46 : decode cX0_init 46 = .ok (.iconst 0, 1) := by decide +kernel
theorem dX0_init_47 : decode cX0_init 47 = .ok (.putfield 37, 3) := by decide +kernel
theorem dX0_init_50 : decode cX0_init 50 = .ok (.aload_n 0, 1) := by decide +kernel
theorem dX0_init_51 : decode cX0_init 51 = .ok (.iconst 1, 1) := by decide +kernel
theorem dX0_init_52 : decode cX0_init 52 = .ok (.putfield 40, 3) := by decide +kernel
theorem dX0_init_55 : decode cX0_init 55 = .ok (.aload_n 0, 1) := by decide +kernel
theorem dX0_init_56 : decode cX0_init 56 = .ok (.iconst 0, 1) := by decide +kernel
theorem dX0_init_57 : decode cX0_init 57 = .ok (.putfield 43, 3) := by decide +kernel
theorem dX0_init_60 : decode cX0_init 60 = .ok (.aload_n 0, 1) := by decide +kernel
theorem dX0_init_61 : decode cX0_init 61 = .ok (.iconst 0, 1) := by decide +kernel
theorem dX0_init_62 : decode cX0_init 62 = .ok (.putfield 46, 3) := by decide +kernel
theorem dX0_init_65 : decode cX0_init 65 = .ok (.return_, 1) := by decide +kernel
theorem dX0_copyFrom_0 : decode cX0_copyFrom 0 = .ok (.aload_n 0, 1) := by decide +kernel
theorem dX0_copyFrom_1 : decode cX0_copyFrom 1 = .ok (.aload_n 1, 1) := by decide +kernel
theorem dX0_copyFrom_2 : decode cX0_copyFrom 2 = .ok (.getfield 18, 3) := by decide +kernel
theorem dX0_copyFrom_5 : decode cX0_copyFrom 5 = .ok (.putfield 18, 3) := by decide +kernel
theorem dX0_copyFrom_8 : decode cX0_copyFrom 8 = .ok (.aload_n 0, 1) := by decide +kernel
theorem dX0_copyFrom_9 : decode cX0_copyFrom 9 = .ok (.aload_n 1, 1) := by decide +kernel
theorem dX0_copyFrom_10 : decode cX0_copyFrom 10 = .ok (.getfield 21, 3) := by decide +kernel
theorem dX0_copyFrom_13 : decode cX0_copyFrom 13 = .ok (.putfield 21, 3) := by decide +kernel
theorem dX0_copyFrom_16 : decode cX0_copyFrom 16 = .ok (.aload_n 0, 1) := by decide +kernel
theorem dX0_copyFrom_17 : decode cX0_copyFrom 17 = .ok (.aload_n 1, 1) := by decide +kernel
theorem dX0_copyFrom_18 : decode cX0_copyFrom 18 = .ok (.getfield 31, 3) := by decide +kernel
theorem dX0_copyFrom_21 : decode cX0_copyFrom 21 = .ok (.putfield 31, 3) := by decide +kernel
theorem dX0_copyFrom_24 : decode cX0_copyFrom 24 = .ok (.aload_n 0, 1) := by decide +kernel
theorem dX0_copyFrom_25 : decode cX0_copyFrom 25 = .ok (.aload_n 1, 1) := by decide +kernel
theorem dX0_copyFrom_26 : decode cX0_copyFrom 26 = .ok (.getfield 34, 3) := by decide +kernel
theorem dX0_copyFrom_29 : decode cX0_copyFrom 29 = .ok (.putfield 34, 3) := by decide +kernel
theorem dX0_copyFrom_32 : decode cX0_copyFrom 32 = .ok (.aload_n 0, 1) := by decide +kernel
theorem dX0_copyFrom_33 : decode cX0_copyFrom 33 = .ok (.aload_n 1, 1) := by decide +kernel
theorem dX0_copyFrom_34 : decode cX0_copyFrom 34 = .ok (.getfield 37, 3) := by decide +kernel
theorem dX0_copyFrom_37 : decode cX0_copyFrom 37 = .ok (.putfield 37, 3) := by decide +kernel
theorem dX0_copyFrom_40 : decode cX0_copyFrom 40 = .ok (.aload_n 0, 1) := by decide +kernel
theorem dX0_copyFrom_41 : decode cX0_copyFrom 41 = .ok (.aload_n 1, 1) := by decide +kernel
theorem dX0_copyFrom_42 : decode cX0_copyFrom 42 = .ok (.getfield 40, 3) := by decide +kernel
theorem dX0_copyFrom_45 : decode cX0_copyFrom 45 = .ok (.putfield 40, 3) := by decide +kernel
theorem dX0_copyFrom_48 : decode cX0_copyFrom 48 = .ok (.aload_n 0, 1) := by decide +kernel
theorem dX0_copyFrom_49 : decode cX0_copyFrom 49 = .ok (.aload_n 1, 1) := by decide +kernel
theorem dX0_copyFrom_50 : decode cX0_copyFrom 50 = .ok (.getfield 43, 3) := by decide +kernel
theorem dX0_copyFrom_53 : decode cX0_copyFrom 53 = .ok (.putfield 43, 3) := by decide +kernel
theorem dX0_copyFrom_56 : decode cX0_copyFrom 56 = .ok (.aload_n 0, 1) := by decide +kernel
theorem dX0_copyFrom_57 : decode cX0_copyFrom 57 = .ok (.aload_n 1, 1) := by decide +kernel
theorem dX0_copyFrom_58 : decode cX0_copyFrom 58 = .ok (.getfield 46, 3) := by decide +kernel
theorem dX0_copyFrom_61 : decode cX0_copyFrom 61 = .ok (.putfield 46, 3) := by decide +kernel
theorem dX0_copyFrom_64 : decode cX0_copyFrom 64 = .ok (.return_, 1) := by decide +kernel
theorem dX0_start_0 : decode cX0_start 0 = .ok (.aload_n 0, 1) := by decide +kernel
theorem dX0_start_1 : decode cX0_start 1 = .ok (.iconst 1, 1) := by decide +kernel
theorem dX0_start_2 : decode cX0_start 2 = .ok (.putfield 31, 3) := by decide +kernel
theorem dX0_start_5 : decode cX0_start 5 = .ok (.aload_n 0, 1) := by decide +kernel
theorem dX0_start_6 : decode cX0_start 6 = .ok (.iconst 1, 1) := by decide +kernel
theorem dX0_start_7 : decode cX0_start 7 = .ok (.putfield 34, 3) := by decide +kernel
theorem dX0_start_10 : decode cX0_start 10 = .ok (.aload_n 0, 1) := by decide +kernel
theorem dX0_start_11 : decode cX0_start 11 = .ok (.iconst 0, 1) := by decide +kernel
theorem dX0_start_12 : decode cX0_start 12 = .ok (.putfield 37, 3) := by decide +kernel
theorem dX0_start_15 : decode cX0_start 15 = .ok (.aload_n 0, 1) := by decide +kernel
theorem dX0_start_16 : decode cX0_start 16 = .ok (.iconst 1, 1) := by decide +kernel
theorem dX0_start_17 : decode cX0_start 17 = .ok (.putfield 40, 3) := by decide +kernel
theorem dX0_start_20 : decode cX0_start 20 = .ok (.aload_n 0, 1) := by decide +kernel
theorem dX0_start_21 : decode cX0_start 21 = .ok (.iload_n 2, 1) := by decide +kernel
theorem dX0_start_22 : decode cX0_start 22 = .ok (.putfield 43, 3) := by decide +kernel
theorem dX0_start_25 : decode cX0_start 25 = .ok (.aload_n 0, 1) := by decide +kernel
theorem dX0_start_26 : decode cX0_start 26 = .ok (.iload_n 1, 1) := by decide +kernel
theorem dX0_start_27 : decode cX0_start 27 = .ok (.putfield 46, 3) := by decide +kernel
theorem dX0_start_30 : decode cX0_start 30 = .ok (.return_, 1) := by decide +kernel
theorem dX0_turnTime_0 : decode cX0_turnTime 0 = .ok (.aload_n 0, 1) := by decide +kernel
theorem dX0_turnTime_1 : decode cX0_turnTime 1 = .ok (.getfield 46, 3) := by decide +kernel
theorem dX0_turnTime_4 : decode cX0_turnTime 4 = .ok (.aload_n 0, 1) := by decide +kernel
theorem dX0_turnTime_5 : decode cX0_turnTime 5 = .ok (.getfield 21, 3) := by decide +kernel
theorem dX0_turnTime_8 : decode cX0_turnTime 8 = .ok (.iadd, 1) := by decide +kernel
theorem dX0_turnTime_9 : decode cX0_turnTime 9 = .ok (.ireturn, 1) := by decide +kernel
theorem dX0_turnsAt_0 : decode cX0_turnsAt 0 = .ok (.aload_n 0, 1) := by decide +kernel
theorem dX0_turnsAt_1 : decode cX0_turnsAt 1 = .ok (.getfield 31, 3) := by decide +kernel
theorem dX0_turnsAt_4 : decode cX0_turnsAt 4 = .ok (.ifCond .eq 15, 3) := by decide +kernel
theorem dX0_turnsAt_7 : decode cX0_turnsAt 7 = .ok (.iload_n 1, 1) := by decide +kernel
theorem dX0_turnsAt_8 : decode cX0_turnsAt 8 = .ok (.aload_n 0, 1) := by decide +kernel
theorem dX0_turnsAt_9 : decode cX0_turnsAt 9 = .ok (.invokevirtual 49, 3) := by decide +kernel
theorem dX0_turnsAt_12 : decode cX0_turnsAt 12 = .ok (.if_icmp .ne 7, 3) := by decide +kernel
theorem dX0_turnsAt_15 : decode cX0_turnsAt 15 = .ok (.iconst 1, 1) := by decide +kernel
theorem dX0_turnsAt_16 : decode cX0_turnsAt 16 = .ok (.goto 4, 3) := by decide +kernel
theorem dX0_turnsAt_19 : decode cX0_turnsAt 19 = .ok (.iconst 0, 1) := by decide +kernel
theorem dX0_turnsAt_20 : decode cX0_turnsAt 20 = .ok (.ireturn, 1) := by decide +kernel
theorem dX0_turn_0 : decode cX0_turn 0 = .ok (.aload_n 0, 1) := by decide +kernel
theorem dX0_turn_1 : decode cX0_turn 1 = .ok (.aload_n 0, 1) := by decide +kernel
theorem dX0_turn_2 : decode cX0_turn 2 = .ok (.invokevirtual 49, 3) := by decide +kernel
theorem dX0_turn_5 : decode cX0_turn 5 = .ok (.putfield 46, 3) := by decide +kernel
theorem dX0_turn_8 : decode cX0_turn 8 = .ok (.aload_n 0, 1) := by decide +kernel
theorem dX0_turn_9 : decode cX0_turn 9 = .ok (.aload_n 0, 1) := by decide +kernel
theorem dX0_turn_10 : decode cX0_turn 10 = .ok (.getfield 40, 3) := by decide +kernel
theorem dX0_turn_13 : decode cX0_turn 13 = .ok (.ineg, 1) := by decide +kernel
theorem dX0_turn_14 : decode cX0_turn 14 = .ok (.putfield 40, 3) := by decide +kernel
theorem dX0_turn_17 : decode cX0_turn 17 = .ok (.aload_n 0, 1) := by decide +kernel
theorem dX0_turn_18 : decode cX0_turn 18 = .ok (.iconst 0, 1) := by decide +kernel
theorem dX0_turn_19 : decode cX0_turn 19 = .ok (.aload_n 0, 1) := by decide +kernel
theorem dX0_turn_20 : decode cX0_turn 20 = .ok (.getfield 37, 3) := by decide +kernel
theorem dX0_turn_23 : decode cX0_turn 23 = .ok (.aload_n 0, 1) := by decide +kernel
theorem dX0_turn_24 : decode cX0_turn 24 = .ok (.getfield 37, 3) := by decide +kernel
theorem dX0_turn_27 : decode cX0_turn 27 = .ok (.bipush 30, 2) := by decide +kernel
theorem dX0_turn_29 : decode cX0_turn 29 = .ok (.imul, 1) := by decide +kernel
theorem dX0_turn_30 : decode cX0_turn 30 = .ok (.sipush 1000, 3) := by decide +kernel
theorem dX0_turn_33 : decode cX0_turn 33 = .ok (.idiv, 1) := by decide +kernel
theorem dX0_turn_34 : decode cX0_turn 34 = .ok (.iconst 2, 1) := by decide +kernel
theorem dX0_turn_35 : decode cX0_turn 35 = .ok (.iadd, 1) := by decide +kernel
theorem dX0_turn_36 : decode cX0_turn 36 = .ok (.isub, 1) := by decide +kernel
theorem dX0_turn_37 : decode cX0_turn 37 = .ok (.invokestatic 53, 3) := by decide +kernel
theorem dX0_turn_40 : decode cX0_turn 40 = .ok (.putfield 37, 3) := by decide +kernel
theorem dX0_turn_43 : decode cX0_turn 43 = .ok (.aload_n 0, 1) := by decide +kernel
theorem dX0_turn_44 : decode cX0_turn 44 = .ok (.getfield 34, 3) := by decide +kernel
theorem dX0_turn_47 : decode cX0_turn 47 = .ok (.ifCond .eq 32, 3) := by decide +kernel
theorem dX0_turn_50 : decode cX0_turn 50 = .ok (.aload_n 0, 1) := by decide +kernel
theorem dX0_turn_51 : decode cX0_turn 51 = .ok (.getfield 37, 3) := by decide +kernel
theorem dX0_turn_54 : decode cX0_turn 54 = .ok (.aload_n 0, 1) := by decide +kernel
theorem dX0_turn_55 : decode cX0_turn 55 = .ok (.getfield 43, 3) := by decide +kernel
theorem dX0_turn_58 : decode cX0_turn 58 = .ok (.if_icmp .ge 21, 3) := by decide +kernel
theorem dX0_turn_61 : decode cX0_turn 61 = .ok (.aload_n 0, 1) := by decide +kernel
theorem dX0_turn_62 : decode cX0_turn 62 = .ok (.aload_n 0, 1) := by decide +kernel
theorem dX0_turn_63 : decode cX0_turn 63 = .ok (.getfield 37, 3) := by decide +kernel
theorem dX0_turn_66 : decode cX0_turn 66 = .ok (.bipush 80, 2) := by decide +kernel
theorem dX0_turn_68 : decode cX0_turn 68 = .ok (.iadd, 1) := by decide +kernel
theorem dX0_turn_69 : decode cX0_turn 69 = .ok (.aload_n 0, 1) := by decide +kernel
theorem dX0_turn_70 : decode cX0_turn 70 = .ok (.getfield 43, 3) := by decide +kernel
theorem dX0_turn_73 : decode cX0_turn 73 = .ok (.invokestatic 59, 3) := by decide +kernel
theorem dX0_turn_76 : decode cX0_turn 76 = .ok (.putfield 37, 3) := by decide +kernel
theorem dX0_turn_79 : decode cX0_turn 79 = .ok (.aload_n 0, 1) := by decide +kernel
theorem dX0_turn_80 : decode cX0_turn 80 = .ok (.getfield 37, 3) := by decide +kernel
theorem dX0_turn_83 : decode cX0_turn 83 = .ok (.ifCond .ne 15, 3) := by decide +kernel
theorem dX0_turn_86 : decode cX0_turn 86 = .ok (.aload_n 0, 1) := by decide +kernel
theorem dX0_turn_87 : decode cX0_turn 87 = .ok (.getfield 34, 3) := by decide +kernel
theorem dX0_turn_90 : decode cX0_turn 90 = .ok (.ifCond .ne 8, 3) := by decide +kernel
theorem dX0_turn_93 : decode cX0_turn 93 = .ok (.aload_n 0, 1) := by decide +kernel
theorem dX0_turn_94 : decode cX0_turn 94 = .ok (.iconst 0, 1) := by decide +kernel
theorem dX0_turn_95 : decode cX0_turn 95 = .ok (.putfield 31, 3) := by decide +kernel
theorem dX0_turn_98 : decode cX0_turn 98 = .ok (.return_, 1) := by decide +kernel
theorem dX0_forceAt_0 : decode cX0_forceAt 0 = .ok (.aload_n 0, 1) := by decide +kernel
theorem dX0_forceAt_1 : decode cX0_forceAt 1 = .ok (.getfield 31, 3) := by decide +kernel
theorem dX0_forceAt_4 : decode cX0_forceAt 4 = .ok (.ifCond .eq 11, 3) := by decide +kernel
theorem dX0_forceAt_7 : decode cX0_forceAt 7 = .ok (.aload_n 0, 1) := by decide +kernel
theorem dX0_forceAt_8 : decode cX0_forceAt 8 = .ok (.getfield 21, 3) := by decide +kernel
theorem dX0_forceAt_11 : decode cX0_forceAt 11 = .ok (.iconst 1, 1) := by decide +kernel
theorem dX0_forceAt_12 : decode cX0_forceAt 12 = .ok (.if_icmp .ge 5, 3) := by decide +kernel
theorem dX0_forceAt_15 : decode cX0_forceAt 15 = .ok (.iconst 0, 1) := by decide +kernel
theorem dX0_forceAt_16 : decode cX0_forceAt 16 = .ok (.ireturn, 1) := by decide +kernel
theorem dX0_forceAt_17 : decode cX0_forceAt 17 = .ok (.iload_n 1, 1) := by decide +kernel
theorem dX0_forceAt_18 : decode cX0_forceAt 18 = .ok (.aload_n 0, 1) := by decide +kernel
theorem dX0_forceAt_19 : decode cX0_forceAt 19 = .ok (.getfield 46, 3) := by decide +kernel
theorem dX0_forceAt_22 : decode cX0_forceAt 22 = .ok (.isub, 1) := by decide +kernel
theorem dX0_forceAt_23 : decode cX0_forceAt 23 = .ok (.istore_n 2, 1) := by decide +kernel
theorem dX0_forceAt_24 : decode cX0_forceAt 24 = .ok (.aload_n 0, 1) := by decide +kernel
theorem dX0_forceAt_25 : decode cX0_forceAt 25 = .ok (.getfield 40, 3) := by decide +kernel
theorem dX0_forceAt_28 : decode cX0_forceAt 28 = .ok (.aload_n 0, 1) := by decide +kernel
theorem dX0_forceAt_29 : decode cX0_forceAt 29 = .ok (.getfield 18, 3) := by decide +kernel
theorem dX0_forceAt_32 : decode cX0_forceAt 32 = .ok (.imul, 1) := by decide +kernel
theorem dX0_forceAt_33 : decode cX0_forceAt 33 = .ok (.aload_n 0, 1) := by decide +kernel
theorem dX0_forceAt_34 : decode cX0_forceAt 34 = .ok (.getfield 37, 3) := by decide +kernel
theorem dX0_forceAt_37 : decode cX0_forceAt 37 = .ok (.imul, 1) := by decide +kernel
theorem dX0_forceAt_38 : decode cX0_forceAt 38 = .ok (.aload_n 0, 1) := by decide +kernel
theorem dX0_forceAt_39 : decode cX0_forceAt 39 = .ok (.getfield 21, 3) := by decide +kernel
theorem dX0_forceAt_42 : decode cX0_forceAt 42 = .ok (.iconst 2, 1) := by decide +kernel
theorem dX0_forceAt_43 : decode cX0_forceAt 43 = .ok (.iload_n 2, 1) := by decide +kernel
theorem dX0_forceAt_44 : decode cX0_forceAt 44 = .ok (.imul, 1) := by decide +kernel
theorem dX0_forceAt_45 : decode cX0_forceAt 45 = .ok (.isub, 1) := by decide +kernel
theorem dX0_forceAt_46 : decode cX0_forceAt 46 = .ok (.imul, 1) := by decide +kernel
theorem dX0_forceAt_47 : decode cX0_forceAt 47 = .ok (.bipush 100, 2) := by decide +kernel
theorem dX0_forceAt_49 : decode cX0_forceAt 49 = .ok (.aload_n 0, 1) := by decide +kernel
theorem dX0_forceAt_50 : decode cX0_forceAt 50 = .ok (.getfield 21, 3) := by decide +kernel
theorem dX0_forceAt_53 : decode cX0_forceAt 53 = .ok (.imul, 1) := by decide +kernel
theorem dX0_forceAt_54 : decode cX0_forceAt 54 = .ok (.idiv, 1) := by decide +kernel
theorem dX0_forceAt_55 : decode cX0_forceAt 55 = .ok (.ireturn, 1) := by decide +kernel
theorem dX0_addForces_0 : decode cX0_addForces 0 = .ok (.iconst 0, 1) := by decide +kernel
theorem dX0_addForces_1 : decode cX0_addForces 1 = .ok (.istore 4, 2) := by decide +kernel
theorem dX0_addForces_3 : decode cX0_addForces 3 = .ok (.iload 4, 2) := by decide +kernel
theorem dX0_addForces_5 : decode cX0_addForces 5 = .ok (.iload_n 3, 1) := by decide +kernel
theorem dX0_addForces_6 : decode cX0_addForces 6 = .ok (.if_icmp .gt 46, 3) := by decide +kernel
theorem dX0_addForces_9 : decode cX0_addForces 9 = .ok (.iload 4, 2) := by decide +kernel
theorem dX0_addForces_11 : decode cX0_addForces 11 = .ok (.aload_n 1, 1) := by decide +kernel
theorem dX0_addForces_12 : decode cX0_addForces 12 = .ok (.arraylength, 1) := by decide +kernel
theorem dX0_addForces_13 : decode cX0_addForces 13 = .ok (.if_icmp .ge 39, 3) := by decide +kernel
theorem dX0_addForces_16 : decode cX0_addForces 16 = .ok (.aload_n 0, 1) := by decide +kernel
theorem dX0_addForces_17 : decode cX0_addForces 17 = .ok (.iload_n 2, 1) := by decide +kernel
theorem dX0_addForces_18 : decode cX0_addForces 18 = .ok (.iload 4, 2) := by decide +kernel
theorem dX0_addForces_20 : decode cX0_addForces 20 = .ok (.iadd, 1) := by decide +kernel
theorem dX0_addForces_21 : decode cX0_addForces 21 = .ok (.invokevirtual 62, 3) := by decide +kernel
theorem dX0_addForces_24 : decode cX0_addForces 24 = .ok (.ifCond .eq 7, 3) := by decide +kernel
theorem dX0_addForces_27 : decode cX0_addForces 27 = .ok (.aload_n 0, 1) := by decide +kernel
theorem dX0_addForces_28 : decode cX0_addForces 28 = .ok (.invokevirtual 66, 3) := by decide +kernel
theorem dX0_addForces_31 : decode cX0_addForces 31 = .ok (.aload_n 1, 1) := by decide +kernel
theorem dX0_addForces_32 : decode cX0_addForces 32 = .ok (.iload 4, 2) := by decide +kernel
theorem dX0_addForces_34 : decode cX0_addForces 34 = .ok (.dup2, 1) := by decide +kernel
theorem dX0_addForces_35 : decode cX0_addForces 35 = .ok (.iaload, 1) := by decide +kernel
theorem dX0_addForces_36 : decode cX0_addForces 36 = .ok (.aload_n 0, 1) := by decide +kernel
theorem dX0_addForces_37 : decode cX0_addForces 37 = .ok (.iload_n 2, 1) := by decide +kernel
theorem dX0_addForces_38 : decode cX0_addForces 38 = .ok (.iload 4, 2) := by decide +kernel
theorem dX0_addForces_40 : decode cX0_addForces 40 = .ok (.iadd, 1) := by decide +kernel
theorem dX0_addForces_41 : decode cX0_addForces 41 = .ok (.invokevirtual 69, 3) := by decide +kernel
theorem dX0_addForces_44 : decode cX0_addForces 44 = .ok (.iadd, 1) := by decide +kernel
theorem dX0_addForces_45 : decode cX0_addForces 45 = .ok (.iastore, 1) := by decide +kernel
theorem dX0_addForces_46 : decode cX0_addForces 46 = .ok (.iinc 4 1, 3) := by decide +kernel
theorem dX0_addForces_49 : decode cX0_addForces 49 = .ok (.goto (-46), 3) := by decide +kernel
theorem dX0_addForces_52 : decode cX0_addForces 52 = .ok (.return_, 1) := by decide +kernel
theorem dX1_init_0 : decode cX1_init 0 = .ok (.aload_n 0, 1) := by decide +kernel
theorem dX1_init_1 : decode cX1_init 1 = .ok (.invokespecial 3, 3) := by decide +kernel
theorem dX1_init_4 : decode cX1_init 4 = .ok (.aload_n 0, 1) := by decide +kernel
theorem dX1_init_5 : decode cX1_init 5 = .ok (.iconst 0, 1) := by decide +kernel
theorem dX1_init_6 : decode cX1_init 6 = .ok (.putfield 9, 3) := by decide +kernel
theorem dX1_init_9 : decode cX1_init 9 = .ok (.aload_n 0, 1) := by decide +kernel
theorem dX1_init_10 : decode cX1_init 10 = .ok (.iconst 0, 1) := by decide +kernel
theorem dX1_init_11 : decode cX1_init 11 = .ok (.putfield 15, 3) := by decide +kernel
theorem dX1_init_14 : decode cX1_init 14 = .ok (.aload_n 0, 1) := by decide +kernel
theorem dX1_init_15 : decode cX1_init 15 = .ok (.iconst 0, 1) := by decide +kernel
theorem dX1_init_16 : decode cX1_init 16 = .ok (.putfield 18, 3) := by decide +kernel
theorem dX1_init_19 : decode cX1_init 19 = .ok (.aload_n 0, 1) := by decide +kernel
theorem dX1_init_20 : decode cX1_init 20 = .ok (.iconst 1, 1) := by decide +kernel
theorem dX1_init_21 : decode cX1_init 21 = .ok (.putfield 21, 3) := by decide +kernel
theorem dX1_init_24 : decode cX1_init 24 = .ok (.aload_n 0, 1) := by decide +kernel
theorem dX1_init_25 : decode cX1_init 25 = .ok (.iconst 0, 1) := by decide +kernel
theorem dX1_init_26 : decode cX1_init 26 = .ok (.putfield 24, 3) := by decide +kernel
theorem dX1_init_29 : decode cX1_init 29 = .ok (.aload_n 0, 1) := by decide +kernel
theorem dX1_init_30 : decode cX1_init 30 = .ok (.iconst (-1), 1) := by decide +kernel
theorem dX1_init_31 : decode cX1_init 31 = .ok (.putfield 27, 3) := by decide +kernel
theorem dX1_init_34 : decode cX1_init 34 = .ok (.return_, 1) := by decide +kernel
theorem dX2_init_0 : decode cX2_init 0 = .ok (.aload_n 0, 1) := by decide +kernel
theorem dX2_init_1 : decode cX2_init 1 = .ok (.invokespecial 3, 3) := by decide +kernel
theorem dX2_init_4 : decode cX2_init 4 = .ok (.aload_n 0, 1) := by decide +kernel
theorem dX2_init_5 : decode cX2_init 5 = .ok (.bipush 100, 2) := by decide +kernel
theorem dX2_init_7 : decode cX2_init 7 = .ok (.newarray .int, 2) := by decide +kernel
theorem dX2_init_9 : decode cX2_init 9 = .ok (.putfield 9, 3) := by decide +kernel
theorem dX2_init_12 : decode cX2_init 12 = .ok (.aload_n 0, 1) := by decide +kernel
theorem dX2_init_13 : decode cX2_init 13 = .ok (.iconst 0, 1) := by decide +kernel
theorem dX2_init_14 : decode cX2_init 14 = .ok (.putfield 15, 3) := by decide +kernel
theorem dX2_init_17 : decode cX2_init 17 = .ok (.return_, 1) := by decide +kernel
theorem dX2_isMissing_0 : decode cX2_isMissing 0 = .ok (.aload_n 0, 1) := by decide +kernel
theorem dX2_isMissing_1 : decode cX2_isMissing 1 = .ok (.getfield 15, 3) := by decide +kernel
theorem dX2_isMissing_4 : decode cX2_isMissing 4 = .ok (.ifCond .ne 7, 3) := by decide +kernel
theorem dX2_isMissing_7 : decode cX2_isMissing 7 = .ok (.iconst 1, 1) := by decide +kernel
theorem dX2_isMissing_8 : decode cX2_isMissing 8 = .ok (.goto 4, 3) := by decide +kernel
theorem dX2_isMissing_11 : decode cX2_isMissing 11 = .ok (.iconst 0, 1) := by decide +kernel
theorem dX2_isMissing_12 : decode cX2_isMissing 12 = .ok (.ireturn, 1) := by decide +kernel
theorem dX2_strokesOf_0 : decode cX2_strokesOf 0 = .ok (.iconst 0, 1) := by decide +kernel
theorem dX2_strokesOf_1 : decode cX2_strokesOf 1 = .ok (.istore_n 2, 1) := by decide +kernel
theorem dX2_strokesOf_2 : decode cX2_strokesOf 2 = .ok (.iconst 0, 1) := by decide +kernel
theorem dX2_strokesOf_3 : decode cX2_strokesOf 3 = .ok (.istore_n 3, 1) := by decide +kernel
theorem dX2_strokesOf_4 : decode cX2_strokesOf 4 = .ok (.iload_n 3, 1) := by decide +kernel
theorem dX2_strokesOf_5 : decode cX2_strokesOf 5 = .ok (.aload_n 0, 1) := by decide +kernel
theorem dX2_strokesOf_6 : decode cX2_strokesOf 6 = .ok (.getfield 15, 3) := by decide +kernel
theorem dX2_strokesOf_9 : decode cX2_strokesOf 9 = .ok (.if_icmp .ge 23, 3) := by decide +kernel
theorem dX2_strokesOf_12 : decode cX2_strokesOf 12 = .ok (.iload_n 2, 1) := by decide +kernel
theorem dX2_strokesOf_13 : decode cX2_strokesOf 13 = .ok (.aload_n 0, 1) := by decide +kernel
theorem dX2_strokesOf_14 : decode cX2_strokesOf 14 = .ok (.getfield 9, 3) := by decide +kernel
theorem dX2_strokesOf_17 : decode cX2_strokesOf 17 = .ok (.iload_n 3, 1) := by decide +kernel
theorem dX2_strokesOf_18 : decode cX2_strokesOf 18 = .ok (.iaload, 1) := by decide +kernel
theorem dX2_strokesOf_19 : decode cX2_strokesOf 19 = .ok (.iload_n 1, 1) := by decide +kernel
theorem dX2_strokesOf_20 : decode cX2_strokesOf 20 = .ok (.iand, 1) := by decide +kernel
theorem dX2_strokesOf_21 : decode cX2_strokesOf 21 = .ok (.invokestatic 19, 3) := by decide +kernel
theorem dX2_strokesOf_24 : decode cX2_strokesOf 24 = .ok (.iadd, 1) := by decide +kernel
theorem dX2_strokesOf_25 : decode cX2_strokesOf 25 = .ok (.istore_n 2, 1) := by decide +kernel
theorem dX2_strokesOf_26 : decode cX2_strokesOf 26 = .ok (.iinc 3 1, 3) := by decide +kernel
theorem dX2_strokesOf_29 : decode cX2_strokesOf 29 = .ok (.goto (-25), 3) := by decide +kernel
theorem dX2_strokesOf_32 : decode cX2_strokesOf 32 = .ok (.iload_n 2, 1) := by decide +kernel
theorem dX2_strokesOf_33 : decode cX2_strokesOf 33 = .ok (.ireturn, 1) := by decide +kernel
theorem dX3_init_0 : decode cX3_init 0 = .ok (.aload_n 0, 1) := by decide +kernel
theorem dX3_init_1 : decode cX3_init 1 = .ok (.invokespecial 3, 3) := by decide +kernel
theorem dX3_init_4 : decode cX3_init 4 = .ok (.aload_n 0, 1) := by decide +kernel
theorem dX3_init_5 : decode cX3_init 5 = .ok (.sipush 300, 3) := by decide +kernel
theorem dX3_init_8 : decode cX3_init 8 = .ok (.newarray .int, 2) := by decide +kernel
theorem dX3_init_10 : decode cX3_init 10 = .ok (.putfield 9, 3) := by decide +kernel
theorem dX3_init_13 : decode cX3_init 13 = .ok (.aload_n 0, 1) := by decide +kernel
theorem dX3_init_14 : decode cX3_init 14 = .ok (.iconst 0, 1) := by decide +kernel
theorem dX3_init_15 : decode cX3_init 15 = .ok (.putfield 15, 3) := by decide +kernel
theorem dX3_init_18 : decode cX3_init 18 = .ok (.aload_n 0, 1) := by decide +kernel
theorem dX3_init_19 : decode cX3_init 19 = .ok (.bipush 100, 2) := by decide +kernel
theorem dX3_init_21 : decode cX3_init 21 = .ok (.newarray .int, 2) := by decide +kernel
theorem dX3_init_23 : decode cX3_init 23 = .ok (.putfield 19, 3) := by decide +kernel
theorem dX3_init_26 : decode cX3_init 26 = .ok (.aload_n 0, 1) := by decide +kernel
theorem dX3_init_27 : decode cX3_init 27 = .ok (.iconst 0, 1) := by decide +kernel
theorem dX3_init_28 : decode cX3_init 28 = .ok (.putfield 22, 3) := by decide +kernel
theorem dX3_init_31 : decode cX3_init 31 = .ok (.aload_n 0, 1) := by decide +kernel
theorem dX3_init_32 : decode cX3_init 32 = .ok (.iconst 0, 1) := by decide +kernel
theorem dX3_init_33 : decode cX3_init 33 = .ok (.putfield 25, 3) := by decide +kernel
theorem dX3_init_36 : decode cX3_init 36 = .ok (.aload_n 0, 1) := by decide +kernel
theorem dX3_init_37 : decode cX3_init 37 = .ok (.iconst (-1), 1) := by decide +kernel
theorem dX3_init_38 : decode cX3_init 38 = .ok (.putfield 28, 3) := by decide +kernel
theorem dX3_init_41 : decode cX3_init 41 = .ok (.aload_n 0, 1) := by decide +kernel
theorem dX3_init_42 : decode cX3_init 42 = .ok (.iconst 0, 1) := by decide +kernel
theorem dX3_init_43 : decode cX3_init 43 = .ok (.putfield 31, 3) := by decide +kernel
theorem dX3_init_46 : decode cX3_init 46 = .ok (.aload_n 0, 1) := by decide +kernel
theorem dX3_init_47 : decode cX3_init 47 = .ok (.iconst 0, 1) := by decide +kernel
theorem dX3_init_48 : decode cX3_init 48 = .ok (.putfield 34, 3) := by decide +kernel
theorem dX3_init_51 : decode cX3_init 51 = .ok (.aload_n 0, 1) := by decide +kernel
theorem dX3_init_52 : decode cX3_init 52 = .ok (.iconst 0, 1) := by decide +kernel
theorem dX3_init_53 : decode cX3_init 53 = .ok (.putfield 37, 3) := by decide +kernel
theorem dX3_init_56 : decode cX3_init 56 = .ok (.aload_n 0, 1) := by decide +kernel
theorem dX3_init_57 : decode cX3_init 57 = .ok (.iconst 3, 1) := by decide +kernel
theorem dX3_init_58 : decode cX3_init 58 = .ok (.newarray .int, 2) := by decide +kernel
theorem dX3_init_60 : decode cX3_init 60 = .ok (.putfield 40, 3) := by decide +kernel
theorem dX3_init_63 : decode cX3_init 63 = .ok (.aload_n 0, 1) := by decide +kernel
theorem dX3_init_64 : decode cX3_init 64 = .ok (.iconst 3, 1) := by decide +kernel
theorem dX3_init_65 : decode cX3_init 65 = .ok (.newarray .int, 2) := by decide +kernel
theorem dX3_init_67 : decode cX3_init 67 = .ok (.putfield 43, 3) := by decide +kernel
theorem dX3_init_70 : decode cX3_init 70 = .ok (.return_, 1) := by decide +kernel
theorem dX3_append_0 : decode cX3_append 0 = .ok (.bipush 24, 2) := by decide +kernel
theorem dX3_append_2 : decode cX3_append 2 = .ok (.istore_n 2, 1) := by decide +kernel
theorem dX3_append_3 : decode cX3_append 3 = .ok (.iload_n 2, 1) := by decide +kernel
theorem dX3_append_4 : decode cX3_append 4 = .ok (.ifCond .lt 45, 3) := by decide +kernel
theorem dX3_append_7 : decode cX3_append 7 = .ok (.aload_n 0, 1) := by decide +kernel
theorem dX3_append_8 : decode cX3_append 8 = .ok (.getfield 15, 3) := by decide +kernel
theorem dX3_append_11 : decode cX3_append 11 = .ok (.sipush 300, 3) := by decide +kernel
theorem dX3_append_14 : decode cX3_append 14 = .ok (.if_icmp .ge 35, 3) := by decide +kernel
theorem dX3_append_17 : decode cX3_append 17 = .ok (.aload_n 0, 1) := by decide +kernel
theorem dX3_append_18 : decode cX3_append 18 = .ok (.getfield 9, 3) := by decide +kernel
theorem dX3_append_21 : decode cX3_append 21 = .ok (.aload_n 0, 1) := by decide +kernel
theorem dX3_append_22 : decode cX3_append 22 = .ok (.getfield 15, 3) := by decide +kernel
theorem dX3_append_25 : decode cX3_append 25 = .ok (.iload_n 1, 1) := by decide +kernel
theorem dX3_append_26 : decode cX3_append 26 = .ok (.iload_n 2, 1) := by decide +kernel
theorem dX3_append_27 : decode cX3_append 27 = .ok (.iushr, 1) := by decide +kernel
theorem dX3_append_28 : decode cX3_append 28 = .ok (.sipush 255, 3) := by decide +kernel
theorem dX3_append_31 : decode cX3_append 31 = .ok (.iand, 1) := by decide +kernel
theorem dX3_append_32 : decode cX3_append 32 = .ok (.iastore, 1) := by decide +kernel
theorem dX3_append_33 : decode cX3_append 33 = .ok (.aload_n 0, 1) := by decide +kernel
theorem dX3_append_34 : decode cX3_append 34 = .ok (.dup, 1) := by decide +kernel
theorem dX3_append_35 : decode cX3_append 35 = .ok (.getfield 15, 3) := by decide +kernel
theorem dX3_append_38 : decode cX3_append 38 = .ok (.iconst 1, 1) := by decide +kernel
theorem dX3_append_39 : decode cX3_append 39 = .ok (.iadd, 1) := by decide +kernel
theorem dX3_append_40 : decode cX3_append 40 = .ok (.putfield 15, 3) := by decide +kernel
theorem dX3_append_43 : decode cX3_append 43 = .ok (.iinc 2 (-8), 3) := by decide +kernel
theorem dX3_append_46 : decode cX3_append 46 = .ok (.goto (-43), 3) := by decide +kernel
theorem dX3_append_49 : decode cX3_append 49 = .ok (.return_, 1) := by decide +kernel
theorem dX3_read_0 : decode cX3_read 0 = .ok (.aload_n 0, 1) := by decide +kernel
theorem dX3_read_1 : decode cX3_read 1 = .ok (.iload_n 1, 1) := by decide +kernel
theorem dX3_read_2 : decode cX3_read 2 = .ok (.aload_n 0, 1) := by decide +kernel
theorem dX3_read_3 : decode cX3_read 3 = .ok (.getfield 15, 3) := by decide +kernel
theorem dX3_read_6 : decode cX3_read 6 = .ok (.invokestatic 46, 3) := by decide +kernel
theorem dX3_read_9 : decode cX3_read 9 = .ok (.putfield 31, 3) := by decide +kernel
theorem dX3_read_12 : decode cX3_read 12 = .ok (.aload_n 0, 1) := by decide +kernel
theorem dX3_read_13 : decode cX3_read 13 = .ok (.iconst 0, 1) := by decide +kernel
theorem dX3_read_14 : decode cX3_read 14 = .ok (.putfield 34, 3) := by decide +kernel
theorem dX3_read_17 : decode cX3_read 17 = .ok (.aload_n 0, 1) := by decide +kernel
theorem dX3_read_18 : decode cX3_read 18 = .ok (.iconst 0, 1) := by decide +kernel
theorem dX3_read_19 : decode cX3_read 19 = .ok (.putfield 37, 3) := by decide +kernel
theorem dX3_read_22 : decode cX3_read 22 = .ok (.aload_n 0, 1) := by decide +kernel
theorem dX3_read_23 : decode cX3_read 23 = .ok (.iconst 0, 1) := by decide +kernel
theorem dX3_read_24 : decode cX3_read 24 = .ok (.putfield 22, 3) := by decide +kernel
theorem dX3_read_27 : decode cX3_read 27 = .ok (.aload_n 0, 1) := by decide +kernel
theorem dX3_read_28 : decode cX3_read 28 = .ok (.iconst 0, 1) := by decide +kernel
theorem dX3_read_29 : decode cX3_read 29 = .ok (.putfield 25, 3) := by decide +kernel
theorem dX3_read_32 : decode cX3_read 32 = .ok (.aload_n 0, 1) := by decide +kernel
theorem dX3_read_33 : decode cX3_read 33 = .ok (.iconst (-1), 1) := by decide +kernel
theorem dX3_read_34 : decode cX3_read 34 = .ok (.putfield 28, 3) := by decide +kernel
theorem dX3_read_37 : decode cX3_read 37 = .ok (.iconst 0, 1) := by decide +kernel
theorem dX3_read_38 : decode cX3_read 38 = .ok (.istore_n 2, 1) := by decide +kernel
theorem dX3_read_39 : decode cX3_read 39 = .ok (.iload_n 2, 1) := by decide +kernel
theorem dX3_read_40 : decode cX3_read 40 = .ok (.sipush 300, 3) := by decide +kernel
theorem dX3_read_43 : decode cX3_read 43 = .ok (.if_icmp .ge 31, 3) := by decide +kernel
theorem dX3_read_46 : decode cX3_read 46 = .ok (.aload_n 0, 1) := by decide +kernel
theorem dX3_read_47 : decode cX3_read 47 = .ok (.getfield 34, 3) := by decide +kernel
theorem dX3_read_50 : decode cX3_read 50 = .ok (.aload_n 0, 1) := by decide +kernel
theorem dX3_read_51 : decode cX3_read 51 = .ok (.getfield 31, 3) := by decide +kernel
theorem dX3_read_54 : decode cX3_read 54 = .ok (.if_icmp .ge 20, 3) := by decide +kernel
theorem dX3_read_57 : decode cX3_read 57 = .ok (.aload_n 0, 1) := by decide +kernel
theorem dX3_read_58 : decode cX3_read 58 = .ok (.getfield 25, 3) := by decide +kernel
theorem dX3_read_61 : decode cX3_read 61 = .ok (.ifCond .ne 13, 3) := by decide +kernel
theorem dX3_read_64 : decode cX3_read 64 = .ok (.aload_n 0, 1) := by decide +kernel
theorem dX3_read_65 : decode cX3_read 65 = .ok (.invokevirtual 52, 3) := by decide +kernel
theorem dX3_read_68 : decode cX3_read 68 = .ok (.iinc 2 1, 3) := by decide +kernel
theorem dX3_read_71 : decode cX3_read 71 = .ok (.goto (-32), 3) := by decide +kernel
theorem dX3_read_74 : decode cX3_read 74 = .ok (.aload_n 0, 1) := by decide +kernel
theorem dX3_read_75 : decode cX3_read 75 = .ok (.getfield 25, 3) := by decide +kernel
theorem dX3_read_78 : decode cX3_read 78 = .ok (.ifCond .ne 22, 3) := by decide +kernel
theorem dX3_read_81 : decode cX3_read 81 = .ok (.aload_n 0, 1) := by decide +kernel
theorem dX3_read_82 : decode cX3_read 82 = .ok (.getfield 37, 3) := by decide +kernel
theorem dX3_read_85 : decode cX3_read 85 = .ok (.ifCond .le 15, 3) := by decide +kernel
theorem dX3_read_88 : decode cX3_read 88 = .ok (.aload_n 0, 1) := by decide +kernel
theorem dX3_read_89 : decode cX3_read 89 = .ok (.iconst 1, 1) := by decide +kernel
theorem dX3_read_90 : decode cX3_read 90 = .ok (.aload_n 0, 1) := by decide +kernel
theorem dX3_read_91 : decode cX3_read 91 = .ok (.getfield 31, 3) := by decide +kernel
theorem dX3_read_94 : decode cX3_read 94 = .ok (.invokevirtual 55, 3) := by decide +kernel
theorem dX3_read_97 : decode cX3_read 97 = .ok (.goto 26, 3) := by decide +kernel
theorem dX3_read_100 : decode cX3_read 100 = .ok (.aload_n 0, 1) := by decide +kernel
theorem dX3_read_101 : decode cX3_read 101 = .ok (.getfield 25, 3) := by decide +kernel
theorem dX3_read_104 : decode cX3_read 104 = .ok (.ifCond .ne 19, 3) := by decide +kernel
theorem dX3_read_107 : decode cX3_read 107 = .ok (.aload_n 0, 1) := by decide +kernel
theorem dX3_read_108 : decode cX3_read 108 = .ok (.getfield 22, 3) := by decide +kernel
theorem dX3_read_111 : decode cX3_read 111 = .ok (.ifCond .ne 12, 3) := by decide +kernel
theorem dX3_read_114 : decode cX3_read 114 = .ok (.aload_n 0, 1) := by decide +kernel
theorem dX3_read_115 : decode cX3_read 115 = .ok (.iconst 5, 1) := by decide +kernel
theorem dX3_read_116 : decode cX3_read 116 = .ok (.aload_n 0, 1) := by decide +kernel
theorem dX3_read_117 : decode cX3_read 117 = .ok (.getfield 31, 3) := by decide +kernel
theorem dX3_read_120 : decode cX3_read 120 = .ok (.invokevirtual 55, 3) := by decide +kernel
theorem dX3_read_123 : decode cX3_read 123 = .ok (.return_, 1) := by decide +kernel
theorem dX3_fail_0 : decode cX3_fail 0 = .ok (.aload_n 0, 1) := by decide +kernel
theorem dX3_fail_1 : decode cX3_fail 1 = .ok (.iload_n 1, 1) := by decide +kernel
theorem dX3_fail_2 : decode cX3_fail 2 = .ok (.putfield 25, 3) := by decide +kernel
theorem dX3_fail_5 : decode cX3_fail 5 = .ok (.aload_n 0, 1) := by decide +kernel
theorem dX3_fail_6 : decode cX3_fail 6 = .ok (.iload_n 2, 1) := by decide +kernel
theorem dX3_fail_7 : decode cX3_fail 7 = .ok (.putfield 28, 3) := by decide +kernel
theorem dX3_fail_10 : decode cX3_fail 10 = .ok (.return_, 1) := by decide +kernel
theorem dX3_readNext_0 : decode cX3_readNext 0 = .ok (.aload_n 0, 1) := by decide +kernel
theorem dX3_readNext_1 : decode cX3_readNext 1 = .ok (.aload_n 0, 1) := by decide +kernel
theorem dX3_readNext_2 : decode cX3_readNext 2 = .ok (.getfield 34, 3) := by decide +kernel
theorem dX3_readNext_5 : decode cX3_readNext 5 = .ok (.invokevirtual 59, 3) := by decide +kernel
theorem dX3_readNext_8 : decode cX3_readNext 8 = .ok (.istore_n 1, 1) := by decide +kernel
theorem dX3_readNext_9 : decode cX3_readNext 9 = .ok (.iload_n 1, 1) := by decide +kernel
theorem dX3_readNext_10 : decode cX3_readNext 10 = .ok (.bipush 32, 2) := by decide +kernel
theorem dX3_readNext_12 : decode cX3_readNext 12 = .ok (.if_icmp .ne 16, 3) := by decide +kernel
theorem dX3_readNext_15 : decode cX3_readNext 15 = .ok (.aload_n 0, 1) := by decide +kernel
theorem dX3_readNext_16 : decode cX3_readNext 16 = .ok (.dup, 1) := by decide +kernel
theorem dX3_readNext_17 : decode cX3_readNext 17 = .ok (.getfield 34, 3) := by decide +kernel
theorem dX3_readNext_20 : decode cX3_readNext 20 = .ok (.iconst 1, 1) := by decide +kernel
theorem dX3_readNext_21 : decode cX3_readNext 21 = .ok (.iadd, 1) := by decide +kernel
theorem dX3_readNext_22 : decode cX3_readNext 22 = .ok (.putfield 34, 3) := by decide +kernel
theorem dX3_readNext_25 : decode cX3_readNext 25 = .ok (.goto 58, 3) := by decide +kernel
theorem dX3_readNext_28 : decode cX3_readNext 28 = .ok (.iload_n 1, 1) := by decide +kernel
theorem dX3_readNext_29 : decode cX3_readNext 29 = .ok (.bipush 40, 2) := by decide +kernel
theorem dX3_readNext_31 : decode cX3_readNext 31 = .ok (.if_icmp .ne 10, 3) := by decide +kernel
theorem dX3_readNext_34 : decode cX3_readNext 34 = .ok (.aload_n 0, 1) := by decide +kernel
theorem dX3_readNext_35 : decode cX3_readNext 35 = .ok (.invokevirtual 63, 3) := by decide +kernel
theorem dX3_readNext_38 : decode cX3_readNext 38 = .ok (.goto 45, 3) := by decide +kernel
theorem dX3_readNext_41 : decode cX3_readNext 41 = .ok (.iload_n 1, 1) := by decide +kernel
theorem dX3_readNext_42 : decode cX3_readNext 42 = .ok (.bipush 41, 2) := by decide +kernel
theorem dX3_readNext_44 : decode cX3_readNext 44 = .ok (.if_icmp .ne 10, 3) := by decide +kernel
theorem dX3_readNext_47 : decode cX3_readNext 47 = .ok (.aload_n 0, 1) := by decide +kernel
theorem dX3_readNext_48 : decode cX3_readNext 48 = .ok (.invokevirtual 66, 3) := by decide +kernel
theorem dX3_readNext_51 : decode cX3_readNext 51 = .ok (.goto 32, 3) := by decide +kernel
theorem dX3_readNext_54 : decode cX3_readNext 54 = .ok (.iload_n 1, 1) := by decide +kernel
theorem dX3_readNext_55 : decode cX3_readNext 55 = .ok (.bipush 45, 2) := by decide +kernel
theorem dX3_readNext_57 : decode cX3_readNext 57 = .ok (.if_icmp .eq 10, 3) := by decide +kernel
theorem dX3_readNext_60 : decode cX3_readNext 60 = .ok (.iload_n 1, 1) := by decide +kernel
theorem dX3_readNext_61 : decode cX3_readNext 61 = .ok (.invokestatic 69, 3) := by decide +kernel
theorem dX3_readNext_64 : decode cX3_readNext 64 = .ok (.ifCond .eq 10, 3) := by decide +kernel
theorem dX3_readNext_67 : decode cX3_readNext 67 = .ok (.aload_n 0, 1) := by decide +kernel
theorem dX3_readNext_68 : decode cX3_readNext 68 = .ok (.invokevirtual 73, 3) := by decide +kernel
theorem dX3_readNext_71 : decode cX3_readNext 71 = .ok (.goto 12, 3) := by decide +kernel
theorem dX3_readNext_74 : decode cX3_readNext 74 = .ok (.aload_n 0, 1) := by decide +kernel
theorem dX3_readNext_75 : decode cX3_readNext 75 = .ok (.iconst 1, 1) := by decide +kernel
theorem dX3_readNext_76 : decode cX3_readNext 76 = .ok (.aload_n 0, 1) := by decide +kernel
theorem dX3_readNext_77 : decode cX3_readNext 77 = .ok (.getfield 34, 3) := by decide +kernel
theorem dX3_readNext_80 : decode cX3_readNext 80 = .ok (.invokevirtual 55, 3) := by decide +kernel
theorem dX3_readNext_83 : decode cX3_readNext 83 = .ok (.return_, 1) := by decide +kernel
theorem dX3_signAt_0 : decode cX3_signAt 0 = .ok (.iload_n 1, 1) := by decide +kernel
theorem dX3_signAt_1 : decode cX3_signAt 1 = .ok (.ifCond .lt 20, 3) := by decide +kernel
theorem dX3_signAt_4 : decode cX3_signAt 4 = .ok (.iload_n 1, 1) := by decide +kernel
theorem dX3_signAt_5 : decode cX3_signAt 5 = .ok (.aload_n 0, 1) := by decide +kernel
theorem dX3_signAt_6 : decode cX3_signAt 6 = .ok (.getfield 31, 3) := by decide +kernel
theorem dX3_signAt_9 : decode cX3_signAt 9 = .ok (.if_icmp .ge 12, 3) := by decide +kernel
theorem dX3_signAt_12 : decode cX3_signAt 12 = .ok (.aload_n 0, 1) := by decide +kernel
theorem dX3_signAt_13 : decode cX3_signAt 13 = .ok (.getfield 9, 3) := by decide +kernel
theorem dX3_signAt_16 : decode cX3_signAt 16 = .ok (.iload_n 1, 1) := by decide +kernel
theorem dX3_signAt_17 : decode cX3_signAt 17 = .ok (.iaload, 1) := by decide +kernel
theorem dX3_signAt_18 : decode cX3_signAt 18 = .ok (.goto 4, 3) := by decide +kernel
theorem dX3_signAt_21 : decode cX3_signAt 21 = .ok (.iconst (-1), 1) := by decide +kernel
theorem dX3_signAt_22 : decode cX3_signAt 22 = .ok (.ireturn, 1) := by decide +kernel
theorem dX3_isLetter_0 : decode cX3_isLetter 0 = .ok (.iload_n 0, 1) := by decide +kernel
theorem dX3_isLetter_1 : decode cX3_isLetter 1 = .ok (.bipush 97, 2) := by decide +kernel
theorem dX3_isLetter_3 : decode cX3_isLetter 3 = .ok (.if_icmp .lt 13, 3) := by decide +kernel
theorem dX3_isLetter_6 : decode cX3_isLetter 6 = .ok (.iload_n 0, 1) := by decide +kernel
theorem dX3_isLetter_7 : decode cX3_isLetter 7 = .ok (.bipush 108, 2) := by decide +kernel
theorem dX3_isLetter_9 : decode cX3_isLetter 9 = .ok (.if_icmp .gt 7, 3) := by decide +kernel
theorem dX3_isLetter_12 : decode cX3_isLetter 12 = .ok (.iconst 1, 1) := by decide +kernel
theorem dX3_isLetter_13 : decode cX3_isLetter 13 = .ok (.goto 4, 3) := by decide +kernel
theorem dX3_isLetter_16 : decode cX3_isLetter 16 = .ok (.iconst 0, 1) := by decide +kernel
theorem dX3_isLetter_17 : decode cX3_isLetter 17 = .ok (.ireturn, 1) := by decide +kernel
theorem dX3_isDigit_0 : decode cX3_isDigit 0 = .ok (.iload_n 0, 1) := by decide +kernel
theorem dX3_isDigit_1 : decode cX3_isDigit 1 = .ok (.bipush 48, 2) := by decide +kernel
theorem dX3_isDigit_3 : decode cX3_isDigit 3 = .ok (.if_icmp .lt 13, 3) := by decide +kernel
theorem dX3_isDigit_6 : decode cX3_isDigit 6 = .ok (.iload_n 0, 1) := by decide +kernel
theorem dX3_isDigit_7 : decode cX3_isDigit 7 = .ok (.bipush 57, 2) := by decide +kernel
theorem dX3_isDigit_9 : decode cX3_isDigit 9 = .ok (.if_icmp .gt 7, 3) := by decide +kernel
theorem dX3_isDigit_12 : decode cX3_isDigit 12 = .ok (.iconst 1, 1) := by decide +kernel
theorem dX3_isDigit_13 : decode cX3_isDigit 13 = .ok (.goto 4, 3) := by decide +kernel
theorem dX3_isDigit_16 : decode cX3_isDigit 16 = .ok (.iconst 0, 1) := by decide +kernel
theorem dX3_isDigit_17 : decode cX3_isDigit 17 = .ok (.ireturn, 1) := by decide +kernel
theorem dX3_readStep_0 : decode cX3_readStep 0 = .ok (.aload_n 0, 1) := by decide +kernel
theorem dX3_readStep_1 : decode cX3_readStep 1 = .ok (.getfield 34, 3) := by decide +kernel
theorem dX3_readStep_4 : decode cX3_readStep 4 = .ok (.istore_n 1, 1) := by decide +kernel
theorem dX3_readStep_5 : decode cX3_readStep 5 = .ok (.iconst 0, 1) := by decide +kernel
theorem dX3_readStep_6 : decode cX3_readStep 6 = .ok (.istore_n 2, 1) := by decide +kernel
theorem dX3_readStep_7 : decode cX3_readStep 7 = .ok (.aload_n 0, 1) := by decide +kernel
theorem dX3_readStep_8 : decode cX3_readStep 8 = .ok (.aload_n 0, 1) := by decide +kernel
theorem dX3_readStep_9 : decode cX3_readStep 9 = .ok (.getfield 34, 3) := by decide +kernel
theorem dX3_readStep_12 : decode cX3_readStep 12 = .ok (.invokevirtual 59, 3) := by decide +kernel
theorem dX3_readStep_15 : decode cX3_readStep 15 = .ok (.bipush 45, 2) := by decide +kernel
theorem dX3_readStep_17 : decode cX3_readStep 17 = .ok (.if_icmp .ne 16, 3) := by decide +kernel
theorem dX3_readStep_20 : decode cX3_readStep 20 = .ok (.aload_n 0, 1) := by decide +kernel
theorem dX3_readStep_21 : decode cX3_readStep 21 = .ok (.dup, 1) := by decide +kernel
theorem dX3_readStep_22 : decode cX3_readStep 22 = .ok (.getfield 34, 3) := by decide +kernel
theorem dX3_readStep_25 : decode cX3_readStep 25 = .ok (.iconst 1, 1) := by decide +kernel
theorem dX3_readStep_26 : decode cX3_readStep 26 = .ok (.iadd, 1) := by decide +kernel
theorem dX3_readStep_27 : decode cX3_readStep 27 = .ok (.putfield 34, 3) := by decide +kernel
theorem dX3_readStep_30 : decode cX3_readStep 30 = .ok (.goto 57, 3) := by decide +kernel
theorem dX3_readStep_33 : decode cX3_readStep 33 = .ok (.aload_n 0, 1) := by decide +kernel
theorem dX3_readStep_34 : decode cX3_readStep 34 = .ok (.getfield 34, 3) := by decide +kernel
theorem dX3_readStep_37 : decode cX3_readStep 37 = .ok (.aload_n 0, 1) := by decide +kernel
theorem dX3_readStep_38 : decode cX3_readStep 38 = .ok (.getfield 31, 3) := by decide +kernel
theorem dX3_readStep_41 : decode cX3_readStep 41 = .ok (.if_icmp .ge 46, 3) := by decide +kernel
theorem dX3_readStep_44 : decode cX3_readStep 44 = .ok (.aload_n 0, 1) := by decide +kernel
theorem dX3_readStep_45 : decode cX3_readStep 45 = .ok (.aload_n 0, 1) := by decide +kernel
theorem dX3_readStep_46 : decode cX3_readStep 46 = .ok (.getfield 34, 3) := by decide +kernel
theorem dX3_readStep_49 : decode cX3_readStep 49 = .ok (.invokevirtual 59, 3) := by decide +kernel
theorem dX3_readStep_52 : decode cX3_readStep 52 = .ok (.invokestatic 69, 3) := by decide +kernel
theorem dX3_readStep_55 : decode cX3_readStep 55 = .ok (.ifCond .eq 32, 3) := by decide +kernel
theorem dX3_readStep_58 : decode cX3_readStep 58 = .ok (.iload_n 2, 1) := by decide +kernel
theorem dX3_readStep_59 : decode cX3_readStep 59 = .ok (.iconst 1, 1) := by decide +kernel
theorem dX3_readStep_60 : decode cX3_readStep 60 = .ok (.aload_n 0, 1) := by decide +kernel
theorem dX3_readStep_61 : decode cX3_readStep 61 = .ok (.aload_n 0, 1) := by decide +kernel
theorem dX3_readStep_62 : decode cX3_readStep 62 = .ok (.getfield 34, 3) := by decide +kernel
theorem dX3_readStep_65 : decode cX3_readStep 65 = .ok (.invokevirtual 59, 3) := by decide +kernel
theorem dX3_readStep_68 : decode cX3_readStep 68 = .ok (.bipush 97, 2) := by decide +kernel
theorem dX3_readStep_70 : decode cX3_readStep 70 = .ok (.isub, 1) := by decide +kernel
theorem dX3_readStep_71 : decode cX3_readStep 71 = .ok (.ishl, 1) := by decide +kernel
theorem dX3_readStep_72 : decode cX3_readStep 72 = .ok (.ior, 1) := by decide +kernel
theorem dX3_readStep_73 : decode cX3_readStep 73 = .ok (.istore_n 2, 1) := by decide +kernel
theorem dX3_readStep_74 : decode cX3_readStep 74 = .ok (.aload_n 0, 1) := by decide +kernel
theorem dX3_readStep_75 : decode cX3_readStep 75 = .ok (.dup, 1) := by decide +kernel
theorem dX3_readStep_76 : decode cX3_readStep 76 = .ok (.getfield 34, 3) := by decide +kernel
theorem dX3_readStep_79 : decode cX3_readStep 79 = .ok (.iconst 1, 1) := by decide +kernel
theorem dX3_readStep_80 : decode cX3_readStep 80 = .ok (.iadd, 1) := by decide +kernel
theorem dX3_readStep_81 : decode cX3_readStep 81 = .ok (.putfield 34, 3) := by decide +kernel
theorem dX3_readStep_84 : decode cX3_readStep 84 = .ok (.goto (-51), 3) := by decide +kernel
theorem dX3_readStep_87 : decode cX3_readStep 87 = .ok (.aload_n 0, 1) := by decide +kernel
theorem dX3_readStep_88 : decode cX3_readStep 88 = .ok (.aload_n 0, 1) := by decide +kernel
theorem dX3_readStep_89 : decode cX3_readStep 89 = .ok (.getfield 34, 3) := by decide +kernel
theorem dX3_readStep_92 : decode cX3_readStep 92 = .ok (.invokevirtual 59, 3) := by decide +kernel
theorem dX3_readStep_95 : decode cX3_readStep 95 = .ok (.invokestatic 76, 3) := by decide +kernel
theorem dX3_readStep_98 : decode cX3_readStep 98 = .ok (.ifCond .eq 10, 3) := by decide +kernel
theorem dX3_readStep_101 : decode cX3_readStep 101 = .ok (.aload_n 0, 1) := by decide +kernel
theorem dX3_readStep_102 : decode cX3_readStep 102 = .ok (.invokevirtual 79, 3) := by decide +kernel
theorem dX3_readStep_105 : decode cX3_readStep 105 = .ok (.goto 4, 3) := by decide +kernel
theorem dX3_readStep_108 : decode cX3_readStep 108 = .ok (.iconst 1, 1) := by decide +kernel
theorem dX3_readStep_109 : decode cX3_readStep 109 = .ok (.istore_n 3, 1) := by decide +kernel
theorem dX3_readStep_110 : decode cX3_readStep 110 = .ok (.aload_n 0, 1) := by decide +kernel
theorem dX3_readStep_111 : decode cX3_readStep 111 = .ok (.getfield 25, 3) := by decide +kernel
theorem dX3_readStep_114 : decode cX3_readStep 114 = .ok (.ifCond .ne 20, 3) := by decide +kernel
theorem dX3_readStep_117 : decode cX3_readStep 117 = .ok (.aload_n 0, 1) := by decide +kernel
theorem dX3_readStep_118 : decode cX3_readStep 118 = .ok (.getfield 22, 3) := by decide +kernel
theorem dX3_readStep_121 : decode cX3_readStep 121 = .ok (.iload_n 3, 1) := by decide +kernel
theorem dX3_readStep_122 : decode cX3_readStep 122 = .ok (.iadd, 1) := by decide +kernel
theorem dX3_readStep_123 : decode cX3_readStep 123 = .ok (.bipush 100, 2) := by decide +kernel
theorem dX3_readStep_125 : decode cX3_readStep 125 = .ok (.if_icmp .le 9, 3) := by decide +kernel
theorem dX3_readStep_128 : decode cX3_readStep 128 = .ok (.aload_n 0, 1) := by decide +kernel
theorem dX3_readStep_129 : decode cX3_readStep 129 = .ok (.iconst 4, 1) := by decide +kernel
theorem dX3_readStep_130 : decode cX3_readStep 130 = .ok (.iload_n 1, 1) := by decide +kernel
theorem dX3_readStep_131 : decode cX3_readStep 131 = .ok (.invokevirtual 55, 3) := by decide +kernel
theorem dX3_readStep_134 : decode cX3_readStep 134 = .ok (.iconst 0, 1) := by decide +kernel
theorem dX3_readStep_135 : decode cX3_readStep 135 = .ok (.istore 4, 2) := by decide +kernel
theorem dX3_readStep_137 : decode cX3_readStep 137 = .ok (.iload 4, 2) := by decide +kernel
theorem dX3_readStep_139 : decode cX3_readStep 139 = .ok (.iload_n 3, 1) := by decide +kernel
theorem dX3_readStep_140 : decode cX3_readStep 140 = .ok (.if_icmp .ge 45, 3) := by decide +kernel
theorem dX3_readStep_143 : decode cX3_readStep 143 = .ok (.aload_n 0, 1) := by decide +kernel
theorem dX3_readStep_144 : decode cX3_readStep 144 = .ok (.getfield 25, 3) := by decide +kernel
theorem dX3_readStep_147 : decode cX3_readStep 147 = .ok (.ifCond .ne 38, 3) := by decide +kernel
theorem dX3_readStep_150 : decode cX3_readStep 150 = .ok (.aload_n 0, 1) := by decide +kernel
theorem dX3_readStep_151 : decode cX3_readStep 151 = .ok (.getfield 19, 3) := by decide +kernel
theorem dX3_readStep_154 : decode cX3_readStep 154 = .ok (.aload_n 0, 1) := by decide +kernel
theorem dX3_readStep_155 : decode cX3_readStep 155 = .ok (.getfield 22, 3) := by decide +kernel
theorem dX3_readStep_158 : decode cX3_readStep 158 = .ok (.iload 4, 2) := by decide +kernel
theorem dX3_readStep_160 : decode cX3_readStep 160 = .ok (.ifCond .ne 7, 3) := by decide +kernel
theorem dX3_readStep_163 : decode cX3_readStep 163 = .ok (.iload_n 2, 1) := by decide +kernel
theorem dX3_readStep_164 : decode cX3_readStep 164 = .ok (.goto 4, 3) := by decide +kernel
theorem dX3_readStep_167 : decode cX3_readStep 167 = .ok (.iconst 0, 1) := by decide +kernel
theorem dX3_readStep_168 : decode cX3_readStep 168 = .ok (.iastore, 1) := by decide +kernel
theorem dX3_readStep_169 : decode cX3_readStep 169 = .ok (.aload_n 0, 1) := by decide +kernel
theorem dX3_readStep_170 : decode cX3_readStep 170 = .ok (.dup, 1) := by decide +kernel
theorem dX3_readStep_171 : decode cX3_readStep 171 = .ok (.getfield 22, 3) := by decide +kernel
theorem dX3_readStep_174 : decode cX3_readStep 174 = .ok (.iconst 1, 1) := by decide +kernel
theorem dX3_readStep_175 : decode cX3_readStep 175 = .ok (.iadd, 1) := by decide +kernel
theorem dX3_readStep_176 : decode cX3_readStep 176 = .ok (.putfield 22, 3) := by decide +kernel
theorem dX3_readStep_179 : decode cX3_readStep 179 = .ok (.iinc 4 1, 3) := by decide +kernel
theorem dX3_readStep_182 : decode cX3_readStep 182 = .ok (.goto (-45), 3) := by decide +kernel
theorem dX3_readStep_185 : decode cX3_readStep 185 = .ok (.return_, 1) := by decide +kernel
theorem dX3_readNumber_0 : decode cX3_readNumber 0 = .ok (.aload_n 0, 1) := by decide +kernel
theorem dX3_readNumber_1 : decode cX3_readNumber 1 = .ok (.getfield 34, 3) := by decide +kernel
theorem dX3_readNumber_4 : decode cX3_readNumber 4 = .ok (.istore_n 1, 1) := by decide +kernel
theorem dX3_readNumber_5 : decode cX3_readNumber 5 = .ok (.iconst 0, 1) := by decide +kernel
theorem dX3_readNumber_6 : decode cX3_readNumber 6 = .ok (.istore_n 2, 1) := by decide +kernel
theorem dX3_readNumber_7 : decode cX3_readNumber 7 = .ok (.aload_n 0, 1) := by decide +kernel
theorem dX3_readNumber_8 : decode cX3_readNumber 8 = .ok (.getfield 34, 3) := by decide +kernel
theorem dX3_readNumber_11 : decode cX3_readNumber 11 = .ok (.iload_n 1, 1) := by decide +kernel
theorem dX3_readNumber_12 : decode cX3_readNumber 12 = .ok (.iconst 2, 1) := by decide +kernel
theorem dX3_readNumber_13 : decode cX3_readNumber 13 = .ok (.iadd, 1) := by decide +kernel
theorem dX3_readNumber_14 : decode cX3_readNumber 14 = .ok (.if_icmp .ge 47, 3) := by decide +kernel
theorem dX3_readNumber_17 : decode cX3_readNumber 17 = .ok (.aload_n 0, 1) := by decide +kernel
theorem dX3_readNumber_18 : decode cX3_readNumber 18 = .ok (.aload_n 0, 1) := by decide +kernel
theorem dX3_readNumber_19 : decode cX3_readNumber 19 = .ok (.getfield 34, 3) := by decide +kernel
theorem dX3_readNumber_22 : decode cX3_readNumber 22 = .ok (.invokevirtual 59, 3) := by decide +kernel
theorem dX3_readNumber_25 : decode cX3_readNumber 25 = .ok (.invokestatic 76, 3) := by decide +kernel
theorem dX3_readNumber_28 : decode cX3_readNumber 28 = .ok (.ifCond .eq 33, 3) := by decide +kernel
theorem dX3_readNumber_31 : decode cX3_readNumber 31 = .ok (.iload_n 2, 1) := by decide +kernel
theorem dX3_readNumber_32 : decode cX3_readNumber 32 = .ok (.bipush 10, 2) := by decide +kernel
theorem dX3_readNumber_34 : decode cX3_readNumber 34 = .ok (.imul, 1) := by decide +kernel
theorem dX3_readNumber_35 : decode cX3_readNumber 35 = .ok (.aload_n 0, 1) := by decide +kernel
theorem dX3_readNumber_36 : decode cX3_readNumber 36 = .ok (.aload_n 0, 1) := by decide +kernel
theorem dX3_readNumber_37 : decode cX3_readNumber 37 = .ok (.getfield 34, 3) := by decide +kernel
theorem dX3_readNumber_40 : decode cX3_readNumber 40 = .ok (.invokevirtual 59, 3) := by decide +kernel
theorem dX3_readNumber_43 : decode cX3_readNumber 43 = .ok (.iadd, 1) := by decide +kernel
theorem dX3_readNumber_44 : decode cX3_readNumber 44 = .ok (.bipush 48, 2) := by decide +kernel
theorem dX3_readNumber_46 : decode cX3_readNumber 46 = .ok (.isub, 1) := by decide +kernel
theorem dX3_readNumber_47 : decode cX3_readNumber 47 = .ok (.istore_n 2, 1) := by decide +kernel
theorem dX3_readNumber_48 : decode cX3_readNumber 48 = .ok (.aload_n 0, 1) := by decide +kernel
theorem dX3_readNumber_49 : decode cX3_readNumber 49 = .ok (.dup, 1) := by decide +kernel
theorem dX3_readNumber_50 : decode cX3_readNumber 50 = .ok (.getfield 34, 3) := by decide +kernel
theorem dX3_readNumber_53 : decode cX3_readNumber 53 = .ok (.iconst 1, 1) := by decide +kernel
theorem dX3_readNumber_54 : decode cX3_readNumber 54 = .ok (.iadd, 1) := by decide +kernel
theorem dX3_readNumber_55 : decode cX3_readNumber 55 = .ok (.putfield 34, 3) := by decide +kernel
theorem dX3_readNumber_58 : decode cX3_readNumber 58 = .ok (.goto (-51), 3) := by decide +kernel
theorem dX3_readNumber_61 : decode cX3_readNumber 61 = .ok (.iload_n 2, 1) := by decide +kernel
theorem dX3_readNumber_62 : decode cX3_readNumber 62 = .ok (.iconst 1, 1) := by decide +kernel
theorem dX3_readNumber_63 : decode cX3_readNumber 63 = .ok (.if_icmp .lt 9, 3) := by decide +kernel
theorem dX3_readNumber_66 : decode cX3_readNumber 66 = .ok (.iload_n 2, 1) := by decide +kernel
theorem dX3_readNumber_67 : decode cX3_readNumber 67 = .ok (.bipush 20, 2) := by decide +kernel
theorem dX3_readNumber_69 : decode cX3_readNumber 69 = .ok (.if_icmp .le 9, 3) := by decide +kernel
theorem dX3_readNumber_72 : decode cX3_readNumber 72 = .ok (.aload_n 0, 1) := by decide +kernel
theorem dX3_readNumber_73 : decode cX3_readNumber 73 = .ok (.iconst 2, 1) := by decide +kernel
theorem dX3_readNumber_74 : decode cX3_readNumber 74 = .ok (.iload_n 1, 1) := by decide +kernel
theorem dX3_readNumber_75 : decode cX3_readNumber 75 = .ok (.invokevirtual 55, 3) := by decide +kernel
theorem dX3_readNumber_78 : decode cX3_readNumber 78 = .ok (.iload_n 2, 1) := by decide +kernel
theorem dX3_readNumber_79 : decode cX3_readNumber 79 = .ok (.ireturn, 1) := by decide +kernel
theorem dX3_openGroup_0 : decode cX3_openGroup 0 = .ok (.aload_n 0, 1) := by decide +kernel
theorem dX3_openGroup_1 : decode cX3_openGroup 1 = .ok (.getfield 37, 3) := by decide +kernel
theorem dX3_openGroup_4 : decode cX3_openGroup 4 = .ok (.iconst 3, 1) := by decide +kernel
theorem dX3_openGroup_5 : decode cX3_openGroup 5 = .ok (.if_icmp .lt 13, 3) := by decide +kernel
theorem dX3_openGroup_8 : decode cX3_openGroup 8 = .ok (.aload_n 0, 1) := by decide +kernel
theorem dX3_openGroup_9 : decode cX3_openGroup 9 = .ok (.iconst 3, 1) := by decide +kernel
theorem dX3_openGroup_10 : decode cX3_openGroup 10 = .ok (.aload_n 0, 1) := by decide +kernel
theorem dX3_openGroup_11 : decode cX3_openGroup 11 = .ok (.getfield 34, 3) := by decide +kernel
theorem dX3_openGroup_14 : decode cX3_openGroup 14 = .ok (.invokevirtual 55, 3) := by decide +kernel
theorem dX3_openGroup_17 : decode cX3_openGroup 17 = .ok (.return_, 1) := by decide +kernel
theorem dX3_openGroup_18 : decode cX3_openGroup 18 = .ok (.aload_n 0, 1) := by decide +kernel
theorem dX3_openGroup_19 : decode cX3_openGroup 19 = .ok (.getfield 40, 3) := by decide +kernel
theorem dX3_openGroup_22 : decode cX3_openGroup 22 = .ok (.aload_n 0, 1) := by decide +kernel
theorem dX3_openGroup_23 : decode cX3_openGroup 23 = .ok (.getfield 37, 3) := by decide +kernel
theorem dX3_openGroup_26 : decode cX3_openGroup 26 = .ok (.aload_n 0, 1) := by decide +kernel
theorem dX3_openGroup_27 : decode cX3_openGroup 27 = .ok (.getfield 34, 3) := by decide +kernel
theorem dX3_openGroup_30 : decode cX3_openGroup 30 = .ok (.iastore, 1) := by decide +kernel
theorem dX3_openGroup_31 : decode cX3_openGroup 31 = .ok (.aload_n 0, 1) := by decide +kernel
theorem dX3_openGroup_32 : decode cX3_openGroup 32 = .ok (.getfield 43, 3) := by decide +kernel
theorem dX3_openGroup_35 : decode cX3_openGroup 35 = .ok (.aload_n 0, 1) := by decide +kernel
theorem dX3_openGroup_36 : decode cX3_openGroup 36 = .ok (.getfield 37, 3) := by decide +kernel
theorem dX3_openGroup_39 : decode cX3_openGroup 39 = .ok (.aload_n 0, 1) := by decide +kernel
theorem dX3_openGroup_40 : decode cX3_openGroup 40 = .ok (.getfield 22, 3) := by decide +kernel
theorem dX3_openGroup_43 : decode cX3_openGroup 43 = .ok (.iastore, 1) := by decide +kernel
theorem dX3_openGroup_44 : decode cX3_openGroup 44 = .ok (.aload_n 0, 1) := by decide +kernel
theorem dX3_openGroup_45 : decode cX3_openGroup 45 = .ok (.dup, 1) := by decide +kernel
theorem dX3_openGroup_46 : decode cX3_openGroup 46 = .ok (.getfield 37, 3) := by decide +kernel
theorem dX3_openGroup_49 : decode cX3_openGroup 49 = .ok (.iconst 1, 1) := by decide +kernel
theorem dX3_openGroup_50 : decode cX3_openGroup 50 = .ok (.iadd, 1) := by decide +kernel
theorem dX3_openGroup_51 : decode cX3_openGroup 51 = .ok (.putfield 37, 3) := by decide +kernel
theorem dX3_openGroup_54 : decode cX3_openGroup 54 = .ok (.aload_n 0, 1) := by decide +kernel
theorem dX3_openGroup_55 : decode cX3_openGroup 55 = .ok (.dup, 1) := by decide +kernel
theorem dX3_openGroup_56 : decode cX3_openGroup 56 = .ok (.getfield 34, 3) := by decide +kernel
theorem dX3_openGroup_59 : decode cX3_openGroup 59 = .ok (.iconst 1, 1) := by decide +kernel
theorem dX3_openGroup_60 : decode cX3_openGroup 60 = .ok (.iadd, 1) := by decide +kernel
theorem dX3_openGroup_61 : decode cX3_openGroup 61 = .ok (.putfield 34, 3) := by decide +kernel
theorem dX3_openGroup_64 : decode cX3_openGroup 64 = .ok (.return_, 1) := by decide +kernel
theorem dX3_closeGroup_0 : decode cX3_closeGroup 0 = .ok (.aload_n 0, 1) := by decide +kernel
theorem dX3_closeGroup_1 : decode cX3_closeGroup 1 = .ok (.getfield 37, 3) := by decide +kernel
theorem dX3_closeGroup_4 : decode cX3_closeGroup 4 = .ok (.iconst 1, 1) := by decide +kernel
theorem dX3_closeGroup_5 : decode cX3_closeGroup 5 = .ok (.if_icmp .ge 13, 3) := by decide +kernel
theorem dX3_closeGroup_8 : decode cX3_closeGroup 8 = .ok (.aload_n 0, 1) := by decide +kernel
theorem dX3_closeGroup_9 : decode cX3_closeGroup 9 = .ok (.iconst 1, 1) := by decide +kernel
theorem dX3_closeGroup_10 : decode cX3_closeGroup 10 = .ok (.aload_n 0, 1) := by decide +kernel
theorem dX3_closeGroup_11 : decode cX3_closeGroup 11 = .ok (.getfield 34, 3) := by decide +kernel
theorem dX3_closeGroup_14 : decode cX3_closeGroup 14 = .ok (.invokevirtual 55, 3) := by decide +kernel
theorem dX3_closeGroup_17 : decode cX3_closeGroup 17 = .ok (.return_, 1) := by decide +kernel
theorem dX3_closeGroup_18 : decode cX3_closeGroup 18 = .ok (.aload_n 0, 1) := by decide +kernel
theorem dX3_closeGroup_19 : decode cX3_closeGroup 19 = .ok (.dup, 1) := by decide +kernel
theorem dX3_closeGroup_20 : decode cX3_closeGroup 20 = .ok (.getfield 37, 3) := by decide +kernel
theorem dX3_closeGroup_23 : decode cX3_closeGroup 23 = .ok (.iconst 1, 1) := by decide +kernel
theorem dX3_closeGroup_24 : decode cX3_closeGroup 24 = .ok (.isub, 1) := by decide +kernel
theorem dX3_closeGroup_25 : decode cX3_closeGroup 25 = .ok (.putfield 37, 3) := by decide +kernel
theorem dX3_closeGroup_28 : decode cX3_closeGroup 28 = .ok (.aload_n 0, 1) := by decide +kernel
theorem dX3_closeGroup_29 : decode cX3_closeGroup 29 = .ok (.getfield 22, 3) := by decide +kernel
theorem dX3_closeGroup_32 : decode cX3_closeGroup 32 = .ok (.aload_n 0, 1) := by decide +kernel
theorem dX3_closeGroup_33 : decode cX3_closeGroup 33 = .ok (.getfield 43, 3) := by decide +kernel
theorem dX3_closeGroup_36 : decode cX3_closeGroup 36 = .ok (.aload_n 0, 1) := by decide +kernel
theorem dX3_closeGroup_37 : decode cX3_closeGroup 37 = .ok (.getfield 37, 3) := by decide +kernel
theorem dX3_closeGroup_40 : decode cX3_closeGroup 40 = .ok (.iaload, 1) := by decide +kernel
theorem dX3_closeGroup_41 : decode cX3_closeGroup 41 = .ok (.if_icmp .ne 13, 3) := by decide +kernel
theorem dX3_closeGroup_44 : decode cX3_closeGroup 44 = .ok (.aload_n 0, 1) := by decide +kernel
theorem dX3_closeGroup_45 : decode cX3_closeGroup 45 = .ok (.iconst 5, 1) := by decide +kernel
theorem dX3_closeGroup_46 : decode cX3_closeGroup 46 = .ok (.aload_n 0, 1) := by decide +kernel
theorem dX3_closeGroup_47 : decode cX3_closeGroup 47 = .ok (.getfield 34, 3) := by decide +kernel
theorem dX3_closeGroup_50 : decode cX3_closeGroup 50 = .ok (.invokevirtual 55, 3) := by decide +kernel
theorem dX3_closeGroup_53 : decode cX3_closeGroup 53 = .ok (.return_, 1) := by decide +kernel
theorem dX3_closeGroup_54 : decode cX3_closeGroup 54 = .ok (.aload_n 0, 1) := by decide +kernel
theorem dX3_closeGroup_55 : decode cX3_closeGroup 55 = .ok (.dup, 1) := by decide +kernel
theorem dX3_closeGroup_56 : decode cX3_closeGroup 56 = .ok (.getfield 34, 3) := by decide +kernel
theorem dX3_closeGroup_59 : decode cX3_closeGroup 59 = .ok (.iconst 1, 1) := by decide +kernel
theorem dX3_closeGroup_60 : decode cX3_closeGroup 60 = .ok (.iadd, 1) := by decide +kernel
theorem dX3_closeGroup_61 : decode cX3_closeGroup 61 = .ok (.putfield 34, 3) := by decide +kernel
theorem dX3_closeGroup_64 : decode cX3_closeGroup 64 = .ok (.aload_n 0, 1) := by decide +kernel
theorem dX3_closeGroup_65 : decode cX3_closeGroup 65 = .ok (.aload_n 0, 1) := by decide +kernel
theorem dX3_closeGroup_66 : decode cX3_closeGroup 66 = .ok (.getfield 34, 3) := by decide +kernel
theorem dX3_closeGroup_69 : decode cX3_closeGroup 69 = .ok (.invokevirtual 59, 3) := by decide +kernel
theorem dX3_closeGroup_72 : decode cX3_closeGroup 72 = .ok (.invokestatic 76, 3) := by decide +kernel
theorem dX3_closeGroup_75 : decode cX3_closeGroup 75 = .ok (.ifCond .ne 13, 3) := by decide +kernel
theorem dX3_closeGroup_78 : decode cX3_closeGroup 78 = .ok (.aload_n 0, 1) := by decide +kernel
theorem dX3_closeGroup_79 : decode cX3_closeGroup 79 = .ok (.iconst 1, 1) := by decide +kernel
theorem dX3_closeGroup_80 : decode cX3_closeGroup 80 = .ok (.aload_n 0, 1) := by decide +kernel
theorem dX3_closeGroup_81 : decode cX3_closeGroup 81 = .ok (.getfield 34, 3) := by decide +kernel
theorem dX3_closeGroup_84 : decode cX3_closeGroup 84 = .ok (.invokevirtual 55, 3) := by decide +kernel
theorem dX3_closeGroup_87 : decode cX3_closeGroup 87 = .ok (.return_, 1) := by decide +kernel
theorem dX3_closeGroup_88 : decode cX3_closeGroup 88 = .ok (.aload_n 0, 1) := by decide +kernel
theorem dX3_closeGroup_89 : decode cX3_closeGroup 89 = .ok (.invokevirtual 79, 3) := by decide +kernel
theorem dX3_closeGroup_92 : decode cX3_closeGroup 92 = .ok (.istore_n 1, 1) := by decide +kernel
theorem dX3_closeGroup_93 : decode cX3_closeGroup 93 = .ok (.aload_n 0, 1) := by decide +kernel
theorem dX3_closeGroup_94 : decode cX3_closeGroup 94 = .ok (.getfield 25, 3) := by decide +kernel
theorem dX3_closeGroup_97 : decode cX3_closeGroup 97 = .ok (.ifCond .ne 12, 3) := by decide +kernel
theorem dX3_closeGroup_100 : decode cX3_closeGroup 100 = .ok (.aload_n 0, 1) := by decide +kernel
theorem dX3_closeGroup_101 : decode cX3_closeGroup 101 = .ok (.aload_n 0, 1) := by decide +kernel
theorem dX3_closeGroup_102 : decode cX3_closeGroup 102 = .ok (.getfield 37, 3) := by decide +kernel
theorem dX3_closeGroup_105 : decode cX3_closeGroup 105 = .ok (.iload_n 1, 1) := by decide +kernel
theorem dX3_closeGroup_106 : decode cX3_closeGroup 106 = .ok (.invokevirtual 83, 3) := by decide +kernel
theorem dX3_closeGroup_109 : decode cX3_closeGroup 109 = .ok (.return_, 1) := by decide +kernel
theorem dX3_repeatGroup_0 : decode cX3_repeatGroup 0 = .ok (.aload_n 0, 1) := by decide +kernel
theorem dX3_repeatGroup_1 : decode cX3_repeatGroup 1 = .ok (.getfield 43, 3) := by decide +kernel
theorem dX3_repeatGroup_4 : decode cX3_repeatGroup 4 = .ok (.iload_n 1, 1) := by decide +kernel
theorem dX3_repeatGroup_5 : decode cX3_repeatGroup 5 = .ok (.iaload, 1) := by decide +kernel
theorem dX3_repeatGroup_6 : decode cX3_repeatGroup 6 = .ok (.istore_n 3, 1) := by decide +kernel
theorem dX3_repeatGroup_7 : decode cX3_repeatGroup 7 = .ok (.aload_n 0, 1) := by decide +kernel
theorem dX3_repeatGroup_8 : decode cX3_repeatGroup 8 = .ok (.getfield 22, 3) := by decide +kernel
theorem dX3_repeatGroup_11 : decode cX3_repeatGroup 11 = .ok (.iload_n 3, 1) := by decide +kernel
theorem dX3_repeatGroup_12 : decode cX3_repeatGroup 12 = .ok (.isub, 1) := by decide +kernel
theorem dX3_repeatGroup_13 : decode cX3_repeatGroup 13 = .ok (.istore 4, 2) := by decide +kernel
theorem dX3_repeatGroup_15 : decode cX3_repeatGroup 15 = .ok (.iload_n 3, 1) := by decide +kernel
theorem dX3_repeatGroup_16 : decode cX3_repeatGroup 16 = .ok (.iload 4, 2) := by decide +kernel
theorem dX3_repeatGroup_18 : decode cX3_repeatGroup 18 = .ok (.iload_n 2, 1) := by decide +kernel
theorem dX3_repeatGroup_19 : decode cX3_repeatGroup 19 = .ok (.imul, 1) := by decide +kernel
theorem dX3_repeatGroup_20 : decode cX3_repeatGroup 20 = .ok (.iadd, 1) := by decide +kernel
theorem dX3_repeatGroup_21 : decode cX3_repeatGroup 21 = .ok (.bipush 100, 2) := by decide +kernel
theorem dX3_repeatGroup_23 : decode cX3_repeatGroup 23 = .ok (.if_icmp .le 15, 3) := by decide +kernel
theorem dX3_repeatGroup_26 : decode cX3_repeatGroup 26 = .ok (.aload_n 0, 1) := by decide +kernel
theorem dX3_repeatGroup_27 : decode cX3_repeatGroup 27 = .ok (.iconst 4, 1) := by decide +kernel
theorem dX3_repeatGroup_28 : decode cX3_repeatGroup 28 = .ok (.aload_n 0, 1) := by decide +kernel
theorem dX3_repeatGroup_29 : decode cX3_repeatGroup 29 = .ok (.getfield 40, 3) := by decide +kernel
theorem dX3_repeatGroup_32 : decode cX3_repeatGroup 32 = .ok (.iload_n 1, 1) := by decide +kernel
theorem dX3_repeatGroup_33 : decode cX3_repeatGroup 33 = .ok (.iaload, 1) := by decide +kernel
theorem dX3_repeatGroup_34 : decode cX3_repeatGroup 34 = .ok (.invokevirtual 55, 3) := by decide +kernel
theorem dX3_repeatGroup_37 : decode cX3_repeatGroup 37 = .ok (.return_, 1) := by decide +kernel
theorem dX3_repeatGroup_38 : decode cX3_repeatGroup 38 = .ok (.iconst 1, 1) := by decide +kernel
theorem dX3_repeatGroup_39 : decode cX3_repeatGroup 39 = .ok (.istore 5, 2) := by decide +kernel
theorem dX3_repeatGroup_41 : decode cX3_repeatGroup 41 = .ok (.iload 5, 2) := by decide +kernel
theorem dX3_repeatGroup_43 : decode cX3_repeatGroup 43 = .ok (.iload_n 2, 1) := by decide +kernel
theorem dX3_repeatGroup_44 : decode cX3_repeatGroup 44 = .ok (.if_icmp .ge 38, 3) := by decide +kernel
theorem dX3_repeatGroup_47 : decode cX3_repeatGroup 47 = .ok (.aload_n 0, 1) := by decide +kernel
theorem dX3_repeatGroup_48 : decode cX3_repeatGroup 48 = .ok (.getfield 19, 3) := by decide +kernel
theorem dX3_repeatGroup_51 : decode cX3_repeatGroup 51 = .ok (.iload_n 3, 1) := by decide +kernel
theorem dX3_repeatGroup_52 : decode cX3_repeatGroup 52 = .ok (.aload_n 0, 1) := by decide +kernel
theorem dX3_repeatGroup_53 : decode cX3_repeatGroup 53 = .ok (.getfield 19, 3) := by decide +kernel
theorem dX3_repeatGroup_56 : decode cX3_repeatGroup 56 = .ok (.aload_n 0, 1) := by decide +kernel
theorem dX3_repeatGroup_57 : decode cX3_repeatGroup 57 = .ok (.getfield 22, 3) := by decide +kernel
theorem dX3_repeatGroup_60 : decode cX3_repeatGroup 60 = .ok (.iload 4, 2) := by decide +kernel
theorem dX3_repeatGroup_62 : decode cX3_repeatGroup 62 = .ok (.invokestatic 86, 3) := by decide +kernel
theorem dX3_repeatGroup_65 : decode cX3_repeatGroup 65 = .ok (.aload_n 0, 1) := by decide +kernel
theorem dX3_repeatGroup_66 : decode cX3_repeatGroup 66 = .ok (.dup, 1) := by decide +kernel
theorem dX3_repeatGroup_67 : decode cX3_repeatGroup 67 = .ok (.getfield 22, 3) := by decide +kernel
theorem dX3_repeatGroup_70 : decode cX3_repeatGroup 70 = .ok (.iload 4, 2) := by decide +kernel
theorem dX3_repeatGroup_72 : decode cX3_repeatGroup 72 = .ok (.iadd, 1) := by decide +kernel
theorem dX3_repeatGroup_73 : decode cX3_repeatGroup 73 = .ok (.putfield 22, 3) := by decide +kernel
theorem dX3_repeatGroup_76 : decode cX3_repeatGroup 76 = .ok (.iinc 5 1, 3) := by decide +kernel
theorem dX3_repeatGroup_79 : decode cX3_repeatGroup 79 = .ok (.goto (-38), 3) := by decide +kernel
theorem dX3_repeatGroup_82 : decode cX3_repeatGroup 82 = .ok (.return_, 1) := by decide +kernel
theorem dX4_init_0 : decode cX4_init 0 = .ok (.aload_n 0, 1) := by decide +kernel
theorem dX4_init_1 : decode cX4_init 1 = .ok (.invokespecial 3, 3) := by decide +kernel
theorem dX4_init_4 : decode cX4_init 4 = .ok (.aload_n 0, 1) := by decide +kernel
theorem dX4_init_5 : decode cX4_init 5 = .ok (.sipush 300, 3) := by decide +kernel
theorem dX4_init_8 : decode cX4_init 8 = .ok (.newarray .int, 2) := by decide +kernel
theorem dX4_init_10 : decode cX4_init 10 = .ok (.putfield 9, 3) := by decide +kernel
theorem dX4_init_13 : decode cX4_init 13 = .ok (.aload_n 0, 1) := by decide +kernel
theorem dX4_init_14 : decode cX4_init 14 = .ok (.sipush 300, 3) := by decide +kernel
theorem dX4_init_17 : decode cX4_init 17 = .ok (.newarray .int, 2) := by decide +kernel
theorem dX4_init_19 : decode cX4_init 19 = .ok (.putfield 15, 3) := by decide +kernel
theorem dX4_init_22 : decode cX4_init 22 = .ok (.aload_n 0, 1) := by decide +kernel
theorem dX4_init_23 : decode cX4_init 23 = .ok (.sipush 300, 3) := by decide +kernel
theorem dX4_init_26 : decode cX4_init 26 = .ok (.newarray .int, 2) := by decide +kernel
theorem dX4_init_28 : decode cX4_init 28 = .ok (.putfield 18, 3) := by decide +kernel
theorem dX4_init_31 : decode cX4_init 31 = .ok (.aload_n 0, 1) := by decide +kernel
theorem dX4_init_32 : decode cX4_init 32 = .ok (.bipush 51, 2) := by decide +kernel
theorem dX4_init_34 : decode cX4_init 34 = .ok (.newarray .int, 2) := by decide +kernel
theorem dX4_init_36 : decode cX4_init 36 = .ok (.putfield 21, 3) := by decide +kernel
theorem dX4_init_39 : decode cX4_init 39 = .ok (.aload_n 0, 1) := by decide +kernel
theorem dX4_init_40 : decode cX4_init 40 = .ok (.iconst 0, 1) := by decide +kernel
theorem dX4_init_41 : decode cX4_init 41 = .ok (.putfield 24, 3) := by decide +kernel
theorem dX4_init_44 : decode cX4_init 44 = .ok (.return_, 1) := by decide +kernel
theorem dX4_isFull_0 : decode cX4_isFull 0 = .ok (.aload_n 0, 1) := by decide +kernel
theorem dX4_isFull_1 : decode cX4_isFull 1 = .ok (.getfield 24, 3) := by decide +kernel
theorem dX4_isFull_4 : decode cX4_isFull 4 = .ok (.sipush 300, 3) := by decide +kernel
theorem dX4_isFull_7 : decode cX4_isFull 7 = .ok (.if_icmp .lt 7, 3) := by decide +kernel
theorem dX4_isFull_10 : decode cX4_isFull 10 = .ok (.iconst 1, 1) := by decide +kernel
theorem dX4_isFull_11 : decode cX4_isFull 11 = .ok (.goto 4, 3) := by decide +kernel
theorem dX4_isFull_14 : decode cX4_isFull 14 = .ok (.iconst 0, 1) := by decide +kernel
theorem dX4_isFull_15 : decode cX4_isFull 15 = .ok (.ireturn, 1) := by decide +kernel
theorem dX4_copyFrom_0 : decode cX4_copyFrom 0 = .ok (.aload_n 0, 1) := by decide +kernel
theorem dX4_copyFrom_1 : decode cX4_copyFrom 1 = .ok (.aload_n 1, 1) := by decide +kernel
theorem dX4_copyFrom_2 : decode cX4_copyFrom 2 = .ok (.getfield 24, 3) := by decide +kernel
theorem dX4_copyFrom_5 : decode cX4_copyFrom 5 = .ok (.putfield 24, 3) := by decide +kernel
theorem dX4_copyFrom_8 : decode cX4_copyFrom 8 = .ok (.aload_n 1, 1) := by decide +kernel
theorem dX4_copyFrom_9 : decode cX4_copyFrom 9 = .ok (.getfield 9, 3) := by decide +kernel
theorem dX4_copyFrom_12 : decode cX4_copyFrom 12 = .ok (.iconst 0, 1) := by decide +kernel
theorem dX4_copyFrom_13 : decode cX4_copyFrom 13 = .ok (.aload_n 0, 1) := by decide +kernel
theorem dX4_copyFrom_14 : decode cX4_copyFrom 14 = .ok (.getfield 9, 3) := by decide +kernel
theorem dX4_copyFrom_17 : decode cX4_copyFrom 17 = .ok (.iconst 0, 1) := by decide +kernel
theorem dX4_copyFrom_18 : decode cX4_copyFrom 18 = .ok (.aload_n 0, 1) := by decide +kernel
theorem dX4_copyFrom_19 : decode cX4_copyFrom 19 = .ok (.getfield 24, 3) := by decide +kernel
theorem dX4_copyFrom_22 : decode cX4_copyFrom 22 = .ok (.invokestatic 28, 3) := by decide +kernel
theorem dX4_copyFrom_25 : decode cX4_copyFrom 25 = .ok (.aload_n 1, 1) := by decide +kernel
theorem dX4_copyFrom_26 : decode cX4_copyFrom 26 = .ok (.getfield 15, 3) := by decide +kernel
theorem dX4_copyFrom_29 : decode cX4_copyFrom 29 = .ok (.iconst 0, 1) := by decide +kernel
theorem dX4_copyFrom_30 : decode cX4_copyFrom 30 = .ok (.aload_n 0, 1) := by decide +kernel
theorem dX4_copyFrom_31 : decode cX4_copyFrom 31 = .ok (.getfield 15, 3) := by decide +kernel
theorem dX4_copyFrom_34 : decode cX4_copyFrom 34 = .ok (.iconst 0, 1) := by decide +kernel
theorem dX4_copyFrom_35 : decode cX4_copyFrom 35 = .ok (.aload_n 0, 1) := by decide +kernel
theorem dX4_copyFrom_36 : decode cX4_copyFrom 36 = .ok (.getfield 24, 3) := by decide +kernel
theorem dX4_copyFrom_39 : decode cX4_copyFrom 39 = .ok (.invokestatic 28, 3) := by decide +kernel
theorem dX4_copyFrom_42 : decode cX4_copyFrom 42 = .ok (.aload_n 1, 1) := by decide +kernel
theorem dX4_copyFrom_43 : decode cX4_copyFrom 43 = .ok (.getfield 18, 3) := by decide +kernel
theorem dX4_copyFrom_46 : decode cX4_copyFrom 46 = .ok (.iconst 0, 1) := by decide +kernel
theorem dX4_copyFrom_47 : decode cX4_copyFrom 47 = .ok (.aload_n 0, 1) := by decide +kernel
theorem dX4_copyFrom_48 : decode cX4_copyFrom 48 = .ok (.getfield 18, 3) := by decide +kernel
theorem dX4_copyFrom_51 : decode cX4_copyFrom 51 = .ok (.iconst 0, 1) := by decide +kernel
theorem dX4_copyFrom_52 : decode cX4_copyFrom 52 = .ok (.aload_n 0, 1) := by decide +kernel
theorem dX4_copyFrom_53 : decode cX4_copyFrom 53 = .ok (.getfield 24, 3) := by decide +kernel
theorem dX4_copyFrom_56 : decode cX4_copyFrom 56 = .ok (.invokestatic 28, 3) := by decide +kernel
theorem dX4_copyFrom_59 : decode cX4_copyFrom 59 = .ok (.return_, 1) := by decide +kernel
theorem dX4_rankOf_0 : decode cX4_rankOf 0 = .ok (.iconst 0, 1) := by decide +kernel
theorem dX4_rankOf_1 : decode cX4_rankOf 1 = .ok (.istore_n 2, 1) := by decide +kernel
theorem dX4_rankOf_2 : decode cX4_rankOf 2 = .ok (.sipush 256, 3) := by decide +kernel
theorem dX4_rankOf_5 : decode cX4_rankOf 5 = .ok (.istore_n 3, 1) := by decide +kernel
theorem dX4_rankOf_6 : decode cX4_rankOf 6 = .ok (.iload_n 3, 1) := by decide +kernel
theorem dX4_rankOf_7 : decode cX4_rankOf 7 = .ok (.ifCond .le 38, 3) := by decide +kernel
theorem dX4_rankOf_10 : decode cX4_rankOf 10 = .ok (.iload_n 2, 1) := by decide +kernel
theorem dX4_rankOf_11 : decode cX4_rankOf 11 = .ok (.iload_n 3, 1) := by decide +kernel
theorem dX4_rankOf_12 : decode cX4_rankOf 12 = .ok (.iadd, 1) := by decide +kernel
theorem dX4_rankOf_13 : decode cX4_rankOf 13 = .ok (.aload_n 0, 1) := by decide +kernel
theorem dX4_rankOf_14 : decode cX4_rankOf 14 = .ok (.getfield 24, 3) := by decide +kernel
theorem dX4_rankOf_17 : decode cX4_rankOf 17 = .ok (.if_icmp .gt 21, 3) := by decide +kernel
theorem dX4_rankOf_20 : decode cX4_rankOf 20 = .ok (.aload_n 0, 1) := by decide +kernel
theorem dX4_rankOf_21 : decode cX4_rankOf 21 = .ok (.getfield 15, 3) := by decide +kernel
theorem dX4_rankOf_24 : decode cX4_rankOf 24 = .ok (.iload_n 2, 1) := by decide +kernel
theorem dX4_rankOf_25 : decode cX4_rankOf 25 = .ok (.iload_n 3, 1) := by decide +kernel
theorem dX4_rankOf_26 : decode cX4_rankOf 26 = .ok (.iadd, 1) := by decide +kernel
theorem dX4_rankOf_27 : decode cX4_rankOf 27 = .ok (.iconst 1, 1) := by decide +kernel
theorem dX4_rankOf_28 : decode cX4_rankOf 28 = .ok (.isub, 1) := by decide +kernel
theorem dX4_rankOf_29 : decode cX4_rankOf 29 = .ok (.iaload, 1) := by decide +kernel
theorem dX4_rankOf_30 : decode cX4_rankOf 30 = .ok (.iload_n 1, 1) := by decide +kernel
theorem dX4_rankOf_31 : decode cX4_rankOf 31 = .ok (.if_icmp .ge 7, 3) := by decide +kernel
theorem dX4_rankOf_34 : decode cX4_rankOf 34 = .ok (.iload_n 2, 1) := by decide +kernel
theorem dX4_rankOf_35 : decode cX4_rankOf 35 = .ok (.iload_n 3, 1) := by decide +kernel
theorem dX4_rankOf_36 : decode cX4_rankOf 36 = .ok (.iadd, 1) := by decide +kernel
theorem dX4_rankOf_37 : decode cX4_rankOf 37 = .ok (.istore_n 2, 1) := by decide +kernel
theorem dX4_rankOf_38 : decode cX4_rankOf 38 = .ok (.iload_n 3, 1) := by decide +kernel
theorem dX4_rankOf_39 : decode cX4_rankOf 39 = .ok (.iconst 2, 1) := by decide +kernel
theorem dX4_rankOf_40 : decode cX4_rankOf 40 = .ok (.idiv, 1) := by decide +kernel
theorem dX4_rankOf_41 : decode cX4_rankOf 41 = .ok (.istore_n 3, 1) := by decide +kernel
theorem dX4_rankOf_42 : decode cX4_rankOf 42 = .ok (.goto (-36), 3) := by decide +kernel
theorem dX4_rankOf_45 : decode cX4_rankOf 45 = .ok (.iload_n 2, 1) := by decide +kernel
theorem dX4_rankOf_46 : decode cX4_rankOf 46 = .ok (.ireturn, 1) := by decide +kernel
theorem dX4_insert_0 : decode cX4_insert 0 = .ok (.aload_n 0, 1) := by decide +kernel
theorem dX4_insert_1 : decode cX4_insert 1 = .ok (.invokevirtual 34, 3) := by decide +kernel
theorem dX4_insert_4 : decode cX4_insert 4 = .ok (.ifCond .eq 4, 3) := by decide +kernel
theorem dX4_insert_7 : decode cX4_insert 7 = .ok (.return_, 1) := by decide +kernel
theorem dX4_insert_8 : decode cX4_insert 8 = .ok (.aload_n 0, 1) := by decide +kernel
theorem dX4_insert_9 : decode cX4_insert 9 = .ok (.iload_n 2, 1) := by decide +kernel
theorem dX4_insert_10 : decode cX4_insert 10 = .ok (.invokevirtual 38, 3) := by decide +kernel
theorem dX4_insert_13 : decode cX4_insert 13 = .ok (.istore 4, 2) := by decide +kernel
theorem dX4_insert_15 : decode cX4_insert 15 = .ok (.iload 4, 2) := by decide +kernel
theorem dX4_insert_17 : decode cX4_insert 17 = .ok (.aload_n 0, 1) := by decide +kernel
theorem dX4_insert_18 : decode cX4_insert 18 = .ok (.getfield 24, 3) := by decide +kernel
theorem dX4_insert_21 : decode cX4_insert 21 = .ok (.if_icmp .ge 31, 3) := by decide +kernel
theorem dX4_insert_24 : decode cX4_insert 24 = .ok (.aload_n 0, 1) := by decide +kernel
theorem dX4_insert_25 : decode cX4_insert 25 = .ok (.getfield 15, 3) := by decide +kernel
theorem dX4_insert_28 : decode cX4_insert 28 = .ok (.iload 4, 2) := by decide +kernel
theorem dX4_insert_30 : decode cX4_insert 30 = .ok (.iaload, 1) := by decide +kernel
theorem dX4_insert_31 : decode cX4_insert 31 = .ok (.iload_n 2, 1) := by decide +kernel
theorem dX4_insert_32 : decode cX4_insert 32 = .ok (.if_icmp .ne 20, 3) := by decide +kernel
theorem dX4_insert_35 : decode cX4_insert 35 = .ok (.aload_n 0, 1) := by decide +kernel
theorem dX4_insert_36 : decode cX4_insert 36 = .ok (.getfield 9, 3) := by decide +kernel
theorem dX4_insert_39 : decode cX4_insert 39 = .ok (.iload 4, 2) := by decide +kernel
theorem dX4_insert_41 : decode cX4_insert 41 = .ok (.iaload, 1) := by decide +kernel
theorem dX4_insert_42 : decode cX4_insert 42 = .ok (.iload_n 1, 1) := by decide +kernel
theorem dX4_insert_43 : decode cX4_insert 43 = .ok (.if_icmp .ge 9, 3) := by decide +kernel
theorem dX4_insert_46 : decode cX4_insert 46 = .ok (.iinc 4 1, 3) := by decide +kernel
theorem dX4_insert_49 : decode cX4_insert 49 = .ok (.goto (-34), 3) := by decide +kernel
theorem dX4_insert_52 : decode cX4_insert 52 = .ok (.aload_n 0, 1) := by decide +kernel
theorem dX4_insert_53 : decode cX4_insert 53 = .ok (.getfield 9, 3) := by decide +kernel
theorem dX4_insert_56 : decode cX4_insert 56 = .ok (.iload 4, 2) := by decide +kernel
theorem dX4_insert_58 : decode cX4_insert 58 = .ok (.aload_n 0, 1) := by decide +kernel
theorem dX4_insert_59 : decode cX4_insert 59 = .ok (.getfield 9, 3) := by decide +kernel
theorem dX4_insert_62 : decode cX4_insert 62 = .ok (.iload 4, 2) := by decide +kernel
theorem dX4_insert_64 : decode cX4_insert 64 = .ok (.iconst 1, 1) := by decide +kernel
theorem dX4_insert_65 : decode cX4_insert 65 = .ok (.iadd, 1) := by decide +kernel
theorem dX4_insert_66 : decode cX4_insert 66 = .ok (.aload_n 0, 1) := by decide +kernel
theorem dX4_insert_67 : decode cX4_insert 67 = .ok (.getfield 24, 3) := by decide +kernel
theorem dX4_insert_70 : decode cX4_insert 70 = .ok (.iload 4, 2) := by decide +kernel
theorem dX4_insert_72 : decode cX4_insert 72 = .ok (.isub, 1) := by decide +kernel
theorem dX4_insert_73 : decode cX4_insert 73 = .ok (.invokestatic 28, 3) := by decide +kernel
theorem dX4_insert_76 : decode cX4_insert 76 = .ok (.aload_n 0, 1) := by decide +kernel
theorem dX4_insert_77 : decode cX4_insert 77 = .ok (.getfield 15, 3) := by decide +kernel
theorem dX4_insert_80 : decode cX4_insert 80 = .ok (.iload 4, 2) := by decide +kernel
theorem dX4_insert_82 : decode cX4_insert 82 = .ok (.aload_n 0, 1) := by decide +kernel
theorem dX4_insert_83 : decode cX4_insert 83 = .ok (.getfield 15, 3) := by decide +kernel
theorem dX4_insert_86 : decode cX4_insert 86 = .ok (.iload 4, 2) := by decide +kernel
theorem dX4_insert_88 : decode cX4_insert 88 = .ok (.iconst 1, 1) := by decide +kernel
theorem dX4_insert_89 : decode cX4_insert 89 = .ok (.iadd, 1) := by decide +kernel
theorem dX4_insert_90 : decode cX4_insert 90 = .ok (.aload_n 0, 1) := by decide +kernel
theorem dX4_insert_91 : decode cX4_insert 91 = .ok (.getfield 24, 3) := by decide +kernel
theorem dX4_insert_94 : decode cX4_insert 94 = .ok (.iload 4, 2) := by decide +kernel
theorem dX4_insert_96 : decode cX4_insert 96 = .ok (.isub, 1) := by decide +kernel
theorem dX4_insert_97 : decode cX4_insert 97 = .ok (.invokestatic 28, 3) := by decide +kernel
theorem dX4_insert_100 : decode cX4_insert 100 = .ok (.aload_n 0, 1) := by decide +kernel
theorem dX4_insert_101 : decode cX4_insert 101 = .ok (.getfield 18, 3) := by decide +kernel
theorem dX4_insert_104 : decode cX4_insert 104 = .ok (.iload 4, 2) := by decide +kernel
theorem dX4_insert_106 : decode cX4_insert 106 = .ok (.aload_n 0, 1) := by decide +kernel
theorem dX4_insert_107 : decode cX4_insert 107 = .ok (.getfield 18, 3) := by decide +kernel
theorem dX4_insert_110 : decode cX4_insert 110 = .ok (.iload 4, 2) := by decide +kernel
theorem dX4_insert_112 : decode cX4_insert 112 = .ok (.iconst 1, 1) := by decide +kernel
theorem dX4_insert_113 : decode cX4_insert 113 = .ok (.iadd, 1) := by decide +kernel
theorem dX4_insert_114 : decode cX4_insert 114 = .ok (.aload_n 0, 1) := by decide +kernel
theorem dX4_insert_115 : decode cX4_insert 115 = .ok (.getfield 24, 3) := by decide +kernel
theorem dX4_insert_118 : decode cX4_insert 118 = .ok (.iload 4, 2) := by decide +kernel
theorem dX4_insert_120 : decode cX4_insert 120 = .ok (.isub, 1) := by decide +kernel
theorem dX4_insert_121 : decode cX4_insert 121 = .ok (.invokestatic 28, 3) := by decide +kernel
theorem dX4_insert_124 : decode cX4_insert 124 = .ok (.aload_n 0, 1) := by decide +kernel
theorem dX4_insert_125 : decode cX4_insert 125 = .ok (.getfield 9, 3) := by decide +kernel
theorem dX4_insert_128 : decode cX4_insert 128 = .ok (.iload 4, 2) := by decide +kernel
theorem dX4_insert_130 : decode cX4_insert 130 = .ok (.iload_n 1, 1) := by decide +kernel
theorem dX4_insert_131 : decode cX4_insert 131 = .ok (.iastore, 1) := by decide +kernel
theorem dX4_insert_132 : decode cX4_insert 132 = .ok (.aload_n 0, 1) := by decide +kernel
theorem dX4_insert_133 : decode cX4_insert 133 = .ok (.getfield 15, 3) := by decide +kernel
theorem dX4_insert_136 : decode cX4_insert 136 = .ok (.iload 4, 2) := by decide +kernel
theorem dX4_insert_138 : decode cX4_insert 138 = .ok (.iload_n 2, 1) := by decide +kernel
theorem dX4_insert_139 : decode cX4_insert 139 = .ok (.iastore, 1) := by decide +kernel
theorem dX4_insert_140 : decode cX4_insert 140 = .ok (.aload_n 0, 1) := by decide +kernel
theorem dX4_insert_141 : decode cX4_insert 141 = .ok (.getfield 18, 3) := by decide +kernel
theorem dX4_insert_144 : decode cX4_insert 144 = .ok (.iload 4, 2) := by decide +kernel
theorem dX4_insert_146 : decode cX4_insert 146 = .ok (.iload_n 3, 1) := by decide +kernel
theorem dX4_insert_147 : decode cX4_insert 147 = .ok (.iastore, 1) := by decide +kernel
theorem dX4_insert_148 : decode cX4_insert 148 = .ok (.aload_n 0, 1) := by decide +kernel
theorem dX4_insert_149 : decode cX4_insert 149 = .ok (.dup, 1) := by decide +kernel
theorem dX4_insert_150 : decode cX4_insert 150 = .ok (.getfield 24, 3) := by decide +kernel
theorem dX4_insert_153 : decode cX4_insert 153 = .ok (.iconst 1, 1) := by decide +kernel
theorem dX4_insert_154 : decode cX4_insert 154 = .ok (.iadd, 1) := by decide +kernel
theorem dX4_insert_155 : decode cX4_insert 155 = .ok (.putfield 24, 3) := by decide +kernel
theorem dX4_insert_158 : decode cX4_insert 158 = .ok (.return_, 1) := by decide +kernel
theorem dX4_removeAt_0 : decode cX4_removeAt 0 = .ok (.iload_n 1, 1) := by decide +kernel
theorem dX4_removeAt_1 : decode cX4_removeAt 1 = .ok (.ifCond .lt 11, 3) := by decide +kernel
theorem dX4_removeAt_4 : decode cX4_removeAt 4 = .ok (.iload_n 1, 1) := by decide +kernel
theorem dX4_removeAt_5 : decode cX4_removeAt 5 = .ok (.aload_n 0, 1) := by decide +kernel
theorem dX4_removeAt_6 : decode cX4_removeAt 6 = .ok (.getfield 24, 3) := by decide +kernel
theorem dX4_removeAt_9 : decode cX4_removeAt 9 = .ok (.if_icmp .lt 4, 3) := by decide +kernel
theorem dX4_removeAt_12 : decode cX4_removeAt 12 = .ok (.return_, 1) := by decide +kernel
theorem dX4_removeAt_13 : decode cX4_removeAt 13 = .ok (.aload_n 0, 1) := by decide +kernel
theorem dX4_removeAt_14 : decode cX4_removeAt 14 = .ok (.dup, 1) := by decide +kernel
theorem dX4_removeAt_15 : decode cX4_removeAt 15 = .ok (.getfield 24, 3) := by decide +kernel
theorem dX4_removeAt_18 : decode cX4_removeAt 18 = .ok (.iconst 1, 1) := by decide +kernel
theorem dX4_removeAt_19 : decode cX4_removeAt 19 = .ok (.isub, 1) := by decide +kernel
theorem dX4_removeAt_20 : decode cX4_removeAt 20 = .ok (.putfield 24, 3) := by decide +kernel
theorem dX4_removeAt_23 : decode cX4_removeAt 23 = .ok (.aload_n 0, 1) := by decide +kernel
theorem dX4_removeAt_24 : decode cX4_removeAt 24 = .ok (.getfield 9, 3) := by decide +kernel
theorem dX4_removeAt_27 : decode cX4_removeAt 27 = .ok (.iload_n 1, 1) := by decide +kernel
theorem dX4_removeAt_28 : decode cX4_removeAt 28 = .ok (.iconst 1, 1) := by decide +kernel
theorem dX4_removeAt_29 : decode cX4_removeAt 29 = .ok (.iadd, 1) := by decide +kernel
theorem dX4_removeAt_30 : decode cX4_removeAt 30 = .ok (.aload_n 0, 1) := by decide +kernel
theorem dX4_removeAt_31 : decode cX4_removeAt 31 = .ok (.getfield 9, 3) := by decide +kernel
theorem dX4_removeAt_34 : decode cX4_removeAt 34 = .ok (.iload_n 1, 1) := by decide +kernel
theorem dX4_removeAt_35 : decode cX4_removeAt 35 = .ok (.aload_n 0, 1) := by decide +kernel
theorem dX4_removeAt_36 : decode cX4_removeAt 36 = .ok (.getfield 24, 3) := by decide +kernel
theorem dX4_removeAt_39 : decode cX4_removeAt 39 = .ok (.iload_n 1, 1) := by decide +kernel
theorem dX4_removeAt_40 : decode cX4_removeAt 40 = .ok (.isub, 1) := by decide +kernel
theorem dX4_removeAt_41 : decode cX4_removeAt 41 = .ok (.invokestatic 28, 3) := by decide +kernel
theorem dX4_removeAt_44 : decode cX4_removeAt 44 = .ok (.aload_n 0, 1) := by decide +kernel
theorem dX4_removeAt_45 : decode cX4_removeAt 45 = .ok (.getfield 15, 3) := by decide +kernel
theorem dX4_removeAt_48 : decode cX4_removeAt 48 = .ok (.iload_n 1, 1) := by decide +kernel
theorem dX4_removeAt_49 : decode cX4_removeAt 49 = .ok (.iconst 1, 1) := by decide +kernel
theorem dX4_removeAt_50 : decode cX4_removeAt 50 = .ok (.iadd, 1) := by decide +kernel
theorem dX4_removeAt_51 : decode cX4_removeAt 51 = .ok (.aload_n 0, 1) := by decide +kernel
theorem dX4_removeAt_52 : decode cX4_removeAt 52 = .ok (.getfield 15, 3) := by decide +kernel
theorem dX4_removeAt_55 : decode cX4_removeAt 55 = .ok (.iload_n 1, 1) := by decide +kernel
theorem dX4_removeAt_56 : decode cX4_removeAt 56 = .ok (.aload_n 0, 1) := by decide +kernel
theorem dX4_removeAt_57 : decode cX4_removeAt 57 = .ok (.getfield 24, 3) := by decide +kernel
theorem dX4_removeAt_60 : decode cX4_removeAt 60 = .ok (.iload_n 1, 1) := by decide +kernel
theorem dX4_removeAt_61 : decode cX4_removeAt 61 = .ok (.isub, 1) := by decide +kernel
theorem dX4_removeAt_62 : decode cX4_removeAt 62 = .ok (.invokestatic 28, 3) := by decide +kernel
theorem dX4_removeAt_65 : decode cX4_removeAt 65 = .ok (.aload_n 0, 1) := by decide +kernel
theorem dX4_removeAt_66 : decode cX4_removeAt 66 = .ok (.getfield 18, 3) := by decide +kernel
theorem dX4_removeAt_69 : decode cX4_removeAt 69 = .ok (.iload_n 1, 1) := by decide +kernel
theorem dX4_removeAt_70 : decode cX4_removeAt 70 = .ok (.iconst 1, 1) := by decide +kernel
theorem dX4_removeAt_71 : decode cX4_removeAt 71 = .ok (.iadd, 1) := by decide +kernel
theorem dX4_removeAt_72 : decode cX4_removeAt 72 = .ok (.aload_n 0, 1) := by decide +kernel
theorem dX4_removeAt_73 : decode cX4_removeAt 73 = .ok (.getfield 18, 3) := by decide +kernel
theorem dX4_removeAt_76 : decode cX4_removeAt 76 = .ok (.iload_n 1, 1) := by decide +kernel
theorem dX4_removeAt_77 : decode cX4_removeAt 77 = .ok (.aload_n 0, 1) := by decide +kernel
theorem dX4_removeAt_78 : decode cX4_removeAt 78 = .ok (.getfield 24, 3) := by decide +kernel
theorem dX4_removeAt_81 : decode cX4_removeAt 81 = .ok (.iload_n 1, 1) := by decide +kernel
theorem dX4_removeAt_82 : decode cX4_removeAt 82 = .ok (.isub, 1) := by decide +kernel
theorem dX4_removeAt_83 : decode cX4_removeAt 83 = .ok (.invokestatic 28, 3) := by decide +kernel
theorem dX4_removeAt_86 : decode cX4_removeAt 86 = .ok (.return_, 1) := by decide +kernel
theorem dX4_indexOf_0 : decode cX4_indexOf 0 = .ok (.iconst 0, 1) := by decide +kernel
theorem dX4_indexOf_1 : decode cX4_indexOf 1 = .ok (.istore_n 3, 1) := by decide +kernel
theorem dX4_indexOf_2 : decode cX4_indexOf 2 = .ok (.iload_n 3, 1) := by decide +kernel
theorem dX4_indexOf_3 : decode cX4_indexOf 3 = .ok (.aload_n 0, 1) := by decide +kernel
theorem dX4_indexOf_4 : decode cX4_indexOf 4 = .ok (.getfield 24, 3) := by decide +kernel
theorem dX4_indexOf_7 : decode cX4_indexOf 7 = .ok (.if_icmp .ge 31, 3) := by decide +kernel
theorem dX4_indexOf_10 : decode cX4_indexOf 10 = .ok (.aload_n 0, 1) := by decide +kernel
theorem dX4_indexOf_11 : decode cX4_indexOf 11 = .ok (.getfield 9, 3) := by decide +kernel
theorem dX4_indexOf_14 : decode cX4_indexOf 14 = .ok (.iload_n 3, 1) := by decide +kernel
theorem dX4_indexOf_15 : decode cX4_indexOf 15 = .ok (.iaload, 1) := by decide +kernel
theorem dX4_indexOf_16 : decode cX4_indexOf 16 = .ok (.iload_n 1, 1) := by decide +kernel
theorem dX4_indexOf_17 : decode cX4_indexOf 17 = .ok (.if_icmp .ne 15, 3) := by decide +kernel
theorem dX4_indexOf_20 : decode cX4_indexOf 20 = .ok (.aload_n 0, 1) := by decide +kernel
theorem dX4_indexOf_21 : decode cX4_indexOf 21 = .ok (.getfield 18, 3) := by decide +kernel
theorem dX4_indexOf_24 : decode cX4_indexOf 24 = .ok (.iload_n 3, 1) := by decide +kernel
theorem dX4_indexOf_25 : decode cX4_indexOf 25 = .ok (.iaload, 1) := by decide +kernel
theorem dX4_indexOf_26 : decode cX4_indexOf 26 = .ok (.iload_n 2, 1) := by decide +kernel
theorem dX4_indexOf_27 : decode cX4_indexOf 27 = .ok (.if_icmp .ne 5, 3) := by decide +kernel
theorem dX4_indexOf_30 : decode cX4_indexOf 30 = .ok (.iload_n 3, 1) := by decide +kernel
theorem dX4_indexOf_31 : decode cX4_indexOf 31 = .ok (.ireturn, 1) := by decide +kernel
theorem dX4_indexOf_32 : decode cX4_indexOf 32 = .ok (.iinc 3 1, 3) := by decide +kernel
theorem dX4_indexOf_35 : decode cX4_indexOf 35 = .ok (.goto (-33), 3) := by decide +kernel
theorem dX4_indexOf_38 : decode cX4_indexOf 38 = .ok (.iconst (-1), 1) := by decide +kernel
theorem dX4_indexOf_39 : decode cX4_indexOf 39 = .ok (.ireturn, 1) := by decide +kernel
theorem dX4_firstTimeOf_0 : decode cX4_firstTimeOf 0 = .ok (.iconst 0, 1) := by decide +kernel
theorem dX4_firstTimeOf_1 : decode cX4_firstTimeOf 1 = .ok (.istore_n 2, 1) := by decide +kernel
theorem dX4_firstTimeOf_2 : decode cX4_firstTimeOf 2 = .ok (.iload_n 2, 1) := by decide +kernel
theorem dX4_firstTimeOf_3 : decode cX4_firstTimeOf 3 = .ok (.aload_n 0, 1) := by decide +kernel
theorem dX4_firstTimeOf_4 : decode cX4_firstTimeOf 4 = .ok (.getfield 24, 3) := by decide +kernel
theorem dX4_firstTimeOf_7 : decode cX4_firstTimeOf 7 = .ok (.if_icmp .ge 26, 3) := by decide +kernel
theorem dX4_firstTimeOf_10 : decode cX4_firstTimeOf 10 = .ok (.aload_n 0, 1) := by decide +kernel
theorem dX4_firstTimeOf_11 : decode cX4_firstTimeOf 11 = .ok (.getfield 9, 3) := by decide +kernel
theorem dX4_firstTimeOf_14 : decode cX4_firstTimeOf 14 = .ok (.iload_n 2, 1) := by decide +kernel
theorem dX4_firstTimeOf_15 : decode cX4_firstTimeOf 15 = .ok (.iaload, 1) := by decide +kernel
theorem dX4_firstTimeOf_16 : decode cX4_firstTimeOf 16 = .ok (.iload_n 1, 1) := by decide +kernel
theorem dX4_firstTimeOf_17 : decode cX4_firstTimeOf 17 = .ok (.if_icmp .ne 10, 3) := by decide +kernel
theorem dX4_firstTimeOf_20 : decode cX4_firstTimeOf 20 = .ok (.aload_n 0, 1) := by decide +kernel
theorem dX4_firstTimeOf_21 : decode cX4_firstTimeOf 21 = .ok (.getfield 18, 3) := by decide +kernel
theorem dX4_firstTimeOf_24 : decode cX4_firstTimeOf 24 = .ok (.iload_n 2, 1) := by decide +kernel
theorem dX4_firstTimeOf_25 : decode cX4_firstTimeOf 25 = .ok (.iaload, 1) := by decide +kernel
theorem dX4_firstTimeOf_26 : decode cX4_firstTimeOf 26 = .ok (.ireturn, 1) := by decide +kernel
theorem dX4_firstTimeOf_27 : decode cX4_firstTimeOf 27 = .ok (.iinc 2 1, 3) := by decide +kernel
theorem dX4_firstTimeOf_30 : decode cX4_firstTimeOf 30 = .ok (.goto (-28), 3) := by decide +kernel
theorem dX4_firstTimeOf_33 : decode cX4_firstTimeOf 33 = .ok (.iconst (-1), 1) := by decide +kernel
theorem dX4_firstTimeOf_34 : decode cX4_firstTimeOf 34 = .ok (.ireturn, 1) := by decide +kernel
theorem dX4_movingAt_0 : decode cX4_movingAt 0 = .ok (.iconst 0, 1) := by decide +kernel
theorem dX4_movingAt_1 : decode cX4_movingAt 1 = .ok (.istore_n 2, 1) := by decide +kernel
theorem dX4_movingAt_2 : decode cX4_movingAt 2 = .ok (.iconst 0, 1) := by decide +kernel
theorem dX4_movingAt_3 : decode cX4_movingAt 3 = .ok (.istore_n 3, 1) := by decide +kernel
theorem dX4_movingAt_4 : decode cX4_movingAt 4 = .ok (.iload_n 3, 1) := by decide +kernel
theorem dX4_movingAt_5 : decode cX4_movingAt 5 = .ok (.aload_n 0, 1) := by decide +kernel
theorem dX4_movingAt_6 : decode cX4_movingAt 6 = .ok (.getfield 24, 3) := by decide +kernel
theorem dX4_movingAt_9 : decode cX4_movingAt 9 = .ok (.if_icmp .ge 32, 3) := by decide +kernel
theorem dX4_movingAt_12 : decode cX4_movingAt 12 = .ok (.aload_n 0, 1) := by decide +kernel
theorem dX4_movingAt_13 : decode cX4_movingAt 13 = .ok (.getfield 15, 3) := by decide +kernel
theorem dX4_movingAt_16 : decode cX4_movingAt 16 = .ok (.iload_n 3, 1) := by decide +kernel
theorem dX4_movingAt_17 : decode cX4_movingAt 17 = .ok (.iaload, 1) := by decide +kernel
theorem dX4_movingAt_18 : decode cX4_movingAt 18 = .ok (.iload_n 1, 1) := by decide +kernel
theorem dX4_movingAt_19 : decode cX4_movingAt 19 = .ok (.if_icmp .gt 22, 3) := by decide +kernel
theorem dX4_movingAt_22 : decode cX4_movingAt 22 = .ok (.aload_n 0, 1) := by decide +kernel
theorem dX4_movingAt_23 : decode cX4_movingAt 23 = .ok (.getfield 18, 3) := by decide +kernel
theorem dX4_movingAt_26 : decode cX4_movingAt 26 = .ok (.iload_n 3, 1) := by decide +kernel
theorem dX4_movingAt_27 : decode cX4_movingAt 27 = .ok (.iaload, 1) := by decide +kernel
theorem dX4_movingAt_28 : decode cX4_movingAt 28 = .ok (.iload_n 1, 1) := by decide +kernel
theorem dX4_movingAt_29 : decode cX4_movingAt 29 = .ok (.if_icmp .le 6, 3) := by decide +kernel
theorem dX4_movingAt_32 : decode cX4_movingAt 32 = .ok (.iinc 2 1, 3) := by decide +kernel
theorem dX4_movingAt_35 : decode cX4_movingAt 35 = .ok (.iinc 3 1, 3) := by decide +kernel
theorem dX4_movingAt_38 : decode cX4_movingAt 38 = .ok (.goto (-34), 3) := by decide +kernel
theorem dX4_movingAt_41 : decode cX4_movingAt 41 = .ok (.iload_n 2, 1) := by decide +kernel
theorem dX4_movingAt_42 : decode cX4_movingAt 42 = .ok (.ireturn, 1) := by decide +kernel
theorem dX4_takeSounding_0 : decode cX4_takeSounding 0 = .ok (.iconst 0, 1) := by decide +kernel
theorem dX4_takeSounding_1 : decode cX4_takeSounding 1 = .ok (.istore_n 2, 1) := by decide +kernel
theorem dX4_takeSounding_2 : decode cX4_takeSounding 2 = .ok (.iconst 0, 1) := by decide +kernel
theorem dX4_takeSounding_3 : decode cX4_takeSounding 3 = .ok (.istore_n 3, 1) := by decide +kernel
theorem dX4_takeSounding_4 : decode cX4_takeSounding 4 = .ok (.iload_n 3, 1) := by decide +kernel
theorem dX4_takeSounding_5 : decode cX4_takeSounding 5 = .ok (.aload_n 0, 1) := by decide +kernel
theorem dX4_takeSounding_6 : decode cX4_takeSounding 6 = .ok (.getfield 24, 3) := by decide +kernel
theorem dX4_takeSounding_9 : decode cX4_takeSounding 9 = .ok (.if_icmp .ge 19, 3) := by decide +kernel
theorem dX4_takeSounding_12 : decode cX4_takeSounding 12 = .ok (.aload_n 0, 1) := by decide +kernel
theorem dX4_takeSounding_13 : decode cX4_takeSounding 13 = .ok (.getfield 15, 3) := by decide +kernel
theorem dX4_takeSounding_16 : decode cX4_takeSounding 16 = .ok (.iload_n 3, 1) := by decide +kernel
theorem dX4_takeSounding_17 : decode cX4_takeSounding 17 = .ok (.iaload, 1) := by decide +kernel
theorem dX4_takeSounding_18 : decode cX4_takeSounding 18 = .ok (.iload_n 1, 1) := by decide +kernel
theorem dX4_takeSounding_19 : decode cX4_takeSounding 19 = .ok (.if_icmp .ge 9, 3) := by decide +kernel
theorem dX4_takeSounding_22 : decode cX4_takeSounding 22 = .ok (.iinc 3 1, 3) := by decide +kernel
theorem dX4_takeSounding_25 : decode cX4_takeSounding 25 = .ok (.goto (-21), 3) := by decide +kernel
theorem dX4_takeSounding_28 : decode cX4_takeSounding 28 = .ok (.iload_n 3, 1) := by decide +kernel
theorem dX4_takeSounding_29 : decode cX4_takeSounding 29 = .ok (.iconst 1, 1) := by decide +kernel
theorem dX4_takeSounding_30 : decode cX4_takeSounding 30 = .ok (.isub, 1) := by decide +kernel
theorem dX4_takeSounding_31 : decode cX4_takeSounding 31 = .ok (.istore 4, 2) := by decide +kernel
theorem dX4_takeSounding_33 : decode cX4_takeSounding 33 = .ok (.iload 4, 2) := by decide +kernel
theorem dX4_takeSounding_35 : decode cX4_takeSounding 35 = .ok (.ifCond .lt 38, 3) := by decide +kernel
theorem dX4_takeSounding_38 : decode cX4_takeSounding 38 = .ok (.aload_n 0, 1) := by decide +kernel
theorem dX4_takeSounding_39 : decode cX4_takeSounding 39 = .ok (.getfield 18, 3) := by decide +kernel
theorem dX4_takeSounding_42 : decode cX4_takeSounding 42 = .ok (.iload 4, 2) := by decide +kernel
theorem dX4_takeSounding_44 : decode cX4_takeSounding 44 = .ok (.iaload, 1) := by decide +kernel
theorem dX4_takeSounding_45 : decode cX4_takeSounding 45 = .ok (.iload_n 1, 1) := by decide +kernel
theorem dX4_takeSounding_46 : decode cX4_takeSounding 46 = .ok (.if_icmp .ne 21, 3) := by decide +kernel
theorem dX4_takeSounding_49 : decode cX4_takeSounding 49 = .ok (.iload_n 2, 1) := by decide +kernel
theorem dX4_takeSounding_50 : decode cX4_takeSounding 50 = .ok (.iconst 1, 1) := by decide +kernel
theorem dX4_takeSounding_51 : decode cX4_takeSounding 51 = .ok (.aload_n 0, 1) := by decide +kernel
theorem dX4_takeSounding_52 : decode cX4_takeSounding 52 = .ok (.getfield 9, 3) := by decide +kernel
theorem dX4_takeSounding_55 : decode cX4_takeSounding 55 = .ok (.iload 4, 2) := by decide +kernel
theorem dX4_takeSounding_57 : decode cX4_takeSounding 57 = .ok (.iaload, 1) := by decide +kernel
theorem dX4_takeSounding_58 : decode cX4_takeSounding 58 = .ok (.ishl, 1) := by decide +kernel
theorem dX4_takeSounding_59 : decode cX4_takeSounding 59 = .ok (.ior, 1) := by decide +kernel
theorem dX4_takeSounding_60 : decode cX4_takeSounding 60 = .ok (.istore_n 2, 1) := by decide +kernel
theorem dX4_takeSounding_61 : decode cX4_takeSounding 61 = .ok (.aload_n 0, 1) := by decide +kernel
theorem dX4_takeSounding_62 : decode cX4_takeSounding 62 = .ok (.iload 4, 2) := by decide +kernel
theorem dX4_takeSounding_64 : decode cX4_takeSounding 64 = .ok (.invokevirtual 42, 3) := by decide +kernel
theorem dX4_takeSounding_67 : decode cX4_takeSounding 67 = .ok (.iinc 4 (-1), 3) := by decide +kernel
theorem dX4_takeSounding_70 : decode cX4_takeSounding 70 = .ok (.goto (-37), 3) := by decide +kernel
theorem dX4_takeSounding_73 : decode cX4_takeSounding 73 = .ok (.iload_n 2, 1) := by decide +kernel
theorem dX4_takeSounding_74 : decode cX4_takeSounding 74 = .ok (.ireturn, 1) := by decide +kernel
theorem dX4_clashes_0 : decode cX4_clashes 0 = .ok (.iload_n 1, 1) := by decide +kernel
theorem dX4_clashes_1 : decode cX4_clashes 1 = .ok (.istore 6, 2) := by decide +kernel
theorem dX4_clashes_3 : decode cX4_clashes 3 = .ok (.iload 6, 2) := by decide +kernel
theorem dX4_clashes_5 : decode cX4_clashes 5 = .ok (.aload_n 0, 1) := by decide +kernel
theorem dX4_clashes_6 : decode cX4_clashes 6 = .ok (.getfield 24, 3) := by decide +kernel
theorem dX4_clashes_9 : decode cX4_clashes 9 = .ok (.if_icmp .ge 51, 3) := by decide +kernel
theorem dX4_clashes_12 : decode cX4_clashes 12 = .ok (.aload_n 0, 1) := by decide +kernel
theorem dX4_clashes_13 : decode cX4_clashes 13 = .ok (.getfield 15, 3) := by decide +kernel
theorem dX4_clashes_16 : decode cX4_clashes 16 = .ok (.iload 6, 2) := by decide +kernel
theorem dX4_clashes_18 : decode cX4_clashes 18 = .ok (.iaload, 1) := by decide +kernel
theorem dX4_clashes_19 : decode cX4_clashes 19 = .ok (.iload 4, 2) := by decide +kernel
theorem dX4_clashes_21 : decode cX4_clashes 21 = .ok (.iload 5, 2) := by decide +kernel
theorem dX4_clashes_23 : decode cX4_clashes 23 = .ok (.iadd, 1) := by decide +kernel
theorem dX4_clashes_24 : decode cX4_clashes 24 = .ok (.if_icmp .ge 36, 3) := by decide +kernel
theorem dX4_clashes_27 : decode cX4_clashes 27 = .ok (.aload_n 0, 1) := by decide +kernel
theorem dX4_clashes_28 : decode cX4_clashes 28 = .ok (.getfield 9, 3) := by decide +kernel
theorem dX4_clashes_31 : decode cX4_clashes 31 = .ok (.iload 6, 2) := by decide +kernel
theorem dX4_clashes_33 : decode cX4_clashes 33 = .ok (.iaload, 1) := by decide +kernel
theorem dX4_clashes_34 : decode cX4_clashes 34 = .ok (.iload_n 2, 1) := by decide +kernel
theorem dX4_clashes_35 : decode cX4_clashes 35 = .ok (.if_icmp .ne 19, 3) := by decide +kernel
theorem dX4_clashes_38 : decode cX4_clashes 38 = .ok (.aload_n 0, 1) := by decide +kernel
theorem dX4_clashes_39 : decode cX4_clashes 39 = .ok (.getfield 18, 3) := by decide +kernel
theorem dX4_clashes_42 : decode cX4_clashes 42 = .ok (.iload 6, 2) := by decide +kernel
theorem dX4_clashes_44 : decode cX4_clashes 44 = .ok (.iaload, 1) := by decide +kernel
theorem dX4_clashes_45 : decode cX4_clashes 45 = .ok (.iload 5, 2) := by decide +kernel
theorem dX4_clashes_47 : decode cX4_clashes 47 = .ok (.iadd, 1) := by decide +kernel
theorem dX4_clashes_48 : decode cX4_clashes 48 = .ok (.iload_n 3, 1) := by decide +kernel
theorem dX4_clashes_49 : decode cX4_clashes 49 = .ok (.if_icmp .le 5, 3) := by decide +kernel
theorem dX4_clashes_52 : decode cX4_clashes 52 = .ok (.iconst 1, 1) := by decide +kernel
theorem dX4_clashes_53 : decode cX4_clashes 53 = .ok (.ireturn, 1) := by decide +kernel
theorem dX4_clashes_54 : decode cX4_clashes 54 = .ok (.iinc 6 1, 3) := by decide +kernel
theorem dX4_clashes_57 : decode cX4_clashes 57 = .ok (.goto (-54), 3) := by decide +kernel
theorem dX4_clashes_60 : decode cX4_clashes 60 = .ok (.iconst 0, 1) := by decide +kernel
theorem dX4_clashes_61 : decode cX4_clashes 61 = .ok (.ireturn, 1) := by decide +kernel
theorem dX4_overloads_0 : decode cX4_overloads 0 = .ok (.iload_n 3, 1) := by decide +kernel
theorem dX4_overloads_1 : decode cX4_overloads 1 = .ok (.iload_n 2, 1) := by decide +kernel
theorem dX4_overloads_2 : decode cX4_overloads 2 = .ok (.isub, 1) := by decide +kernel
theorem dX4_overloads_3 : decode cX4_overloads 3 = .ok (.bipush 50, 2) := by decide +kernel
theorem dX4_overloads_5 : decode cX4_overloads 5 = .ok (.invokestatic 46, 3) := by decide +kernel
theorem dX4_overloads_8 : decode cX4_overloads 8 = .ok (.istore 5, 2) := by decide +kernel
theorem dX4_overloads_10 : decode cX4_overloads 10 = .ok (.iconst 0, 1) := by decide +kernel
theorem dX4_overloads_11 : decode cX4_overloads 11 = .ok (.istore 6, 2) := by decide +kernel
theorem dX4_overloads_13 : decode cX4_overloads 13 = .ok (.iload 6, 2) := by decide +kernel
theorem dX4_overloads_15 : decode cX4_overloads 15 = .ok (.iload 5, 2) := by decide +kernel
theorem dX4_overloads_17 : decode cX4_overloads 17 = .ok (.if_icmp .gt 17, 3) := by decide +kernel
theorem dX4_overloads_20 : decode cX4_overloads 20 = .ok (.aload_n 0, 1) := by decide +kernel
theorem dX4_overloads_21 : decode cX4_overloads 21 = .ok (.getfield 21, 3) := by decide +kernel
theorem dX4_overloads_24 : decode cX4_overloads 24 = .ok (.iload 6, 2) := by decide +kernel
theorem dX4_overloads_26 : decode cX4_overloads 26 = .ok (.iconst 0, 1) := by decide +kernel
theorem dX4_overloads_27 : decode cX4_overloads 27 = .ok (.iastore, 1) := by decide +kernel
theorem dX4_overloads_28 : decode cX4_overloads 28 = .ok (.iinc 6 1, 3) := by decide +kernel
theorem dX4_overloads_31 : decode cX4_overloads 31 = .ok (.goto (-18), 3) := by decide +kernel
theorem dX4_overloads_34 : decode cX4_overloads 34 = .ok (.iload_n 1, 1) := by decide +kernel
theorem dX4_overloads_35 : decode cX4_overloads 35 = .ok (.istore 6, 2) := by decide +kernel
theorem dX4_overloads_37 : decode cX4_overloads 37 = .ok (.iload 6, 2) := by decide +kernel
theorem dX4_overloads_39 : decode cX4_overloads 39 = .ok (.aload_n 0, 1) := by decide +kernel
theorem dX4_overloads_40 : decode cX4_overloads 40 = .ok (.getfield 24, 3) := by decide +kernel
theorem dX4_overloads_43 : decode cX4_overloads 43 = .ok (.if_icmp .ge 76, 3) := by decide +kernel
theorem dX4_overloads_46 : decode cX4_overloads 46 = .ok (.aload_n 0, 1) := by decide +kernel
theorem dX4_overloads_47 : decode cX4_overloads 47 = .ok (.getfield 15, 3) := by decide +kernel
theorem dX4_overloads_50 : decode cX4_overloads 50 = .ok (.iload 6, 2) := by decide +kernel
theorem dX4_overloads_52 : decode cX4_overloads 52 = .ok (.iaload, 1) := by decide +kernel
theorem dX4_overloads_53 : decode cX4_overloads 53 = .ok (.iload_n 3, 1) := by decide +kernel
theorem dX4_overloads_54 : decode cX4_overloads 54 = .ok (.if_icmp .ge 65, 3) := by decide +kernel
theorem dX4_overloads_57 : decode cX4_overloads 57 = .ok (.aload_n 0, 1) := by decide +kernel
theorem dX4_overloads_58 : decode cX4_overloads 58 = .ok (.getfield 18, 3) := by decide +kernel
theorem dX4_overloads_61 : decode cX4_overloads 61 = .ok (.iload 6, 2) := by decide +kernel
theorem dX4_overloads_63 : decode cX4_overloads 63 = .ok (.iaload, 1) := by decide +kernel
theorem dX4_overloads_64 : decode cX4_overloads 64 = .ok (.iload_n 2, 1) := by decide +kernel
theorem dX4_overloads_65 : decode cX4_overloads 65 = .ok (.if_icmp .le 48, 3) := by decide +kernel
theorem dX4_overloads_68 : decode cX4_overloads 68 = .ok (.aload_n 0, 1) := by decide +kernel
theorem dX4_overloads_69 : decode cX4_overloads 69 = .ok (.getfield 21, 3) := by decide +kernel
theorem dX4_overloads_72 : decode cX4_overloads 72 = .ok (.aload_n 0, 1) := by decide +kernel
theorem dX4_overloads_73 : decode cX4_overloads 73 = .ok (.getfield 15, 3) := by decide +kernel
theorem dX4_overloads_76 : decode cX4_overloads 76 = .ok (.iload 6, 2) := by decide +kernel
theorem dX4_overloads_78 : decode cX4_overloads 78 = .ok (.iaload, 1) := by decide +kernel
theorem dX4_overloads_79 : decode cX4_overloads 79 = .ok (.iload_n 2, 1) := by decide +kernel
theorem dX4_overloads_80 : decode cX4_overloads 80 = .ok (.isub, 1) := by decide +kernel
theorem dX4_overloads_81 : decode cX4_overloads 81 = .ok (.iconst 0, 1) := by decide +kernel
theorem dX4_overloads_82 : decode cX4_overloads 82 = .ok (.invokestatic 52, 3) := by decide +kernel
theorem dX4_overloads_85 : decode cX4_overloads 85 = .ok (.dup2, 1) := by decide +kernel
theorem dX4_overloads_86 : decode cX4_overloads 86 = .ok (.iaload, 1) := by decide +kernel
theorem dX4_overloads_87 : decode cX4_overloads 87 = .ok (.iconst 1, 1) := by decide +kernel
theorem dX4_overloads_88 : decode cX4_overloads 88 = .ok (.iadd, 1) := by decide +kernel
theorem dX4_overloads_89 : decode cX4_overloads 89 = .ok (.iastore, 1) := by decide +kernel
theorem dX4_overloads_90 : decode cX4_overloads 90 = .ok (.aload_n 0, 1) := by decide +kernel
theorem dX4_overloads_91 : decode cX4_overloads 91 = .ok (.getfield 21, 3) := by decide +kernel
theorem dX4_overloads_94 : decode cX4_overloads 94 = .ok (.aload_n 0, 1) := by decide +kernel
theorem dX4_overloads_95 : decode cX4_overloads 95 = .ok (.getfield 18, 3) := by decide +kernel
theorem dX4_overloads_98 : decode cX4_overloads 98 = .ok (.iload 6, 2) := by decide +kernel
theorem dX4_overloads_100 : decode cX4_overloads 100 = .ok (.iaload, 1) := by decide +kernel
theorem dX4_overloads_101 : decode cX4_overloads 101 = .ok (.iload_n 2, 1) := by decide +kernel
theorem dX4_overloads_102 : decode cX4_overloads 102 = .ok (.isub, 1) := by decide +kernel
theorem dX4_overloads_103 : decode cX4_overloads 103 = .ok (.iload 5, 2) := by decide +kernel
theorem dX4_overloads_105 : decode cX4_overloads 105 = .ok (.invokestatic 46, 3) := by decide +kernel
theorem dX4_overloads_108 : decode cX4_overloads 108 = .ok (.dup2, 1) := by decide +kernel
theorem dX4_overloads_109 : decode cX4_overloads 109 = .ok (.iaload, 1) := by decide +kernel
theorem dX4_overloads_110 : decode cX4_overloads 110 = .ok (.iconst 1, 1) := by decide +kernel
theorem dX4_overloads_111 : decode cX4_overloads 111 = .ok (.isub, 1) := by decide +kernel
theorem dX4_overloads_112 : decode cX4_overloads 112 = .ok (.iastore, 1) := by decide +kernel
theorem dX4_overloads_113 : decode cX4_overloads 113 = .ok (.iinc 6 1, 3) := by decide +kernel
theorem dX4_overloads_116 : decode cX4_overloads 116 = .ok (.goto (-79), 3) := by decide +kernel
theorem dX4_overloads_119 : decode cX4_overloads 119 = .ok (.iconst 1, 1) := by decide +kernel
theorem dX4_overloads_120 : decode cX4_overloads 120 = .ok (.istore 6, 2) := by decide +kernel
theorem dX4_overloads_122 : decode cX4_overloads 122 = .ok (.iconst 0, 1) := by decide +kernel
theorem dX4_overloads_123 : decode cX4_overloads 123 = .ok (.istore 7, 2) := by decide +kernel
theorem dX4_overloads_125 : decode cX4_overloads 125 = .ok (.iload 7, 2) := by decide +kernel
theorem dX4_overloads_127 : decode cX4_overloads 127 = .ok (.iload 5, 2) := by decide +kernel
theorem dX4_overloads_129 : decode cX4_overloads 129 = .ok (.if_icmp .ge 30, 3) := by decide +kernel
theorem dX4_overloads_132 : decode cX4_overloads 132 = .ok (.iload 6, 2) := by decide +kernel
theorem dX4_overloads_134 : decode cX4_overloads 134 = .ok (.aload_n 0, 1) := by decide +kernel
theorem dX4_overloads_135 : decode cX4_overloads 135 = .ok (.getfield 21, 3) := by decide +kernel
theorem dX4_overloads_138 : decode cX4_overloads 138 = .ok (.iload 7, 2) := by decide +kernel
theorem dX4_overloads_140 : decode cX4_overloads 140 = .ok (.iaload, 1) := by decide +kernel
theorem dX4_overloads_141 : decode cX4_overloads 141 = .ok (.iadd, 1) := by decide +kernel
theorem dX4_overloads_142 : decode cX4_overloads 142 = .ok (.istore 6, 2) := by decide +kernel
theorem dX4_overloads_144 : decode cX4_overloads 144 = .ok (.iload 6, 2) := by decide +kernel
theorem dX4_overloads_146 : decode cX4_overloads 146 = .ok (.iload 4, 2) := by decide +kernel
theorem dX4_overloads_148 : decode cX4_overloads 148 = .ok (.if_icmp .le 5, 3) := by decide +kernel
theorem dX4_overloads_151 : decode cX4_overloads 151 = .ok (.iconst 1, 1) := by decide +kernel
theorem dX4_overloads_152 : decode cX4_overloads 152 = .ok (.ireturn, 1) := by decide +kernel
theorem dX4_overloads_153 : decode cX4_overloads 153 = .ok (.iinc 7 1, 3) := by decide +kernel
theorem dX4_overloads_156 : decode cX4_overloads 156 = .ok (.goto (-31), 3) := by decide +kernel
theorem dX4_overloads_159 : decode cX4_overloads 159 = .ok (.iconst 0, 1) := by decide +kernel
theorem dX4_overloads_160 : decode cX4_overloads 160 = .ok (.ireturn, 1) := by decide +kernel
theorem dX5_init_0 : decode cX5_init 0 = .ok (.aload_n 0, 1) := by decide +kernel
theorem dX5_init_1 : decode cX5_init 1 = .ok (.invokespecial 3, 3) := by decide +kernel
theorem dX5_init_4 : decode cX5_init 4 = .ok (.aload_n 0, 1) := by decide +kernel
theorem dX5_init_5 : decode cX5_init 5 = .ok (.sipush 200, 3) := by decide +kernel
theorem dX5_init_8 : decode cX5_init 8 = .ok (.newarray .int, 2) := by decide +kernel
theorem dX5_init_10 : decode cX5_init 10 = .ok (.putfield 9, 3) := by decide +kernel
theorem dX5_init_13 : decode cX5_init 13 = .ok (.aload_n 0, 1) := by decide +kernel
theorem dX5_init_14 : decode cX5_init 14 = .ok (.sipush 200, 3) := by decide +kernel
theorem dX5_init_17 : decode cX5_init 17 = .ok (.newarray .int, 2) := by decide +kernel
theorem dX5_init_19 : decode cX5_init 19 = .ok (.putfield 15, 3) := by decide +kernel
theorem dX5_init_22 : decode cX5_init 22 = .ok (.aload_n 0, 1) := by decide +kernel
theorem dX5_init_23 : decode cX5_init 23 = .ok (.sipush 200, 3) := by decide +kernel
theorem dX5_init_26 : decode cX5_init 26 = .ok (.newarray .int, 2) := by decide +kernel
theorem dX5_init_28 : decode cX5_init 28 = .ok (.putfield 18, 3) := by decide +kernel
theorem dX5_init_31 : decode cX5_init 31 = .ok (.aload_n 0, 1) := by decide +kernel
theorem dX5_init_32 : decode cX5_init 32 = .ok (.iconst 0, 1) := by decide +kernel
theorem dX5_init_33 : decode cX5_init 33 = .ok (.putfield 21, 3) := by decide +kernel
theorem dX5_init_36 : decode cX5_init 36 = .ok (.aload_n 0, 1) := by decide +kernel
theorem dX5_init_37 : decode cX5_init 37 = .ok (.iconst 0, 1) := by decide +kernel
theorem dX5_init_38 : decode cX5_init 38 = .ok (.putfield 25, 3) := by decide +kernel
theorem dX5_init_41 : decode cX5_init 41 = .ok (.return_, 1) := by decide +kernel
theorem dX5_add_0 : decode cX5_add 0 = .ok (.aload_n 0, 1) := by decide +kernel
theorem dX5_add_1 : decode cX5_add 1 = .ok (.getfield 9, 3) := by decide +kernel
theorem dX5_add_4 : decode cX5_add 4 = .ok (.aload_n 0, 1) := by decide +kernel
theorem dX5_add_5 : decode cX5_add 5 = .ok (.getfield 25, 3) := by decide +kernel
theorem dX5_add_8 : decode cX5_add 8 = .ok (.iload_n 1, 1) := by decide +kernel
theorem dX5_add_9 : decode cX5_add 9 = .ok (.iastore, 1) := by decide +kernel
theorem dX5_add_10 : decode cX5_add 10 = .ok (.aload_n 0, 1) := by decide +kernel
theorem dX5_add_11 : decode cX5_add 11 = .ok (.getfield 15, 3) := by decide +kernel
theorem dX5_add_14 : decode cX5_add 14 = .ok (.aload_n 0, 1) := by decide +kernel
theorem dX5_add_15 : decode cX5_add 15 = .ok (.getfield 25, 3) := by decide +kernel
theorem dX5_add_18 : decode cX5_add 18 = .ok (.iload_n 2, 1) := by decide +kernel
theorem dX5_add_19 : decode cX5_add 19 = .ok (.iastore, 1) := by decide +kernel
theorem dX5_add_20 : decode cX5_add 20 = .ok (.aload_n 0, 1) := by decide +kernel
theorem dX5_add_21 : decode cX5_add 21 = .ok (.getfield 18, 3) := by decide +kernel
theorem dX5_add_24 : decode cX5_add 24 = .ok (.aload_n 0, 1) := by decide +kernel
theorem dX5_add_25 : decode cX5_add 25 = .ok (.getfield 25, 3) := by decide +kernel
theorem dX5_add_28 : decode cX5_add 28 = .ok (.iload_n 3, 1) := by decide +kernel
theorem dX5_add_29 : decode cX5_add 29 = .ok (.iastore, 1) := by decide +kernel
theorem dX5_add_30 : decode cX5_add 30 = .ok (.aload_n 0, 1) := by decide +kernel
theorem dX5_add_31 : decode cX5_add 31 = .ok (.aload_n 0, 1) := by decide +kernel
theorem dX5_add_32 : decode cX5_add 32 = .ok (.getfield 25, 3) := by decide +kernel
theorem dX5_add_35 : decode cX5_add 35 = .ok (.iconst 1, 1) := by decide +kernel
theorem dX5_add_36 : decode cX5_add 36 = .ok (.iadd, 1) := by decide +kernel
theorem dX5_add_37 : decode cX5_add 37 = .ok (.sipush 200, 3) := by decide +kernel
theorem dX5_add_40 : decode cX5_add 40 = .ok (.if_icmp .ge 12, 3) := by decide +kernel
theorem dX5_add_43 : decode cX5_add 43 = .ok (.aload_n 0, 1) := by decide +kernel
theorem dX5_add_44 : decode cX5_add 44 = .ok (.getfield 25, 3) := by decide +kernel
theorem dX5_add_47 : decode cX5_add 47 = .ok (.iconst 1, 1) := by decide +kernel
theorem dX5_add_48 : decode cX5_add 48 = .ok (.iadd, 1) := by decide +kernel
theorem dX5_add_49 : decode cX5_add 49 = .ok (.goto 4, 3) := by decide +kernel
theorem dX5_add_52 : decode cX5_add 52 = .ok (.iconst 0, 1) := by decide +kernel
theorem dX5_add_53 : decode cX5_add 53 = .ok (.putfield 25, 3) := by decide +kernel
theorem dX5_add_56 : decode cX5_add 56 = .ok (.aload_n 0, 1) := by decide +kernel
theorem dX5_add_57 : decode cX5_add 57 = .ok (.aload_n 0, 1) := by decide +kernel
theorem dX5_add_58 : decode cX5_add 58 = .ok (.getfield 21, 3) := by decide +kernel
theorem dX5_add_61 : decode cX5_add 61 = .ok (.iconst 1, 1) := by decide +kernel
theorem dX5_add_62 : decode cX5_add 62 = .ok (.iadd, 1) := by decide +kernel
theorem dX5_add_63 : decode cX5_add 63 = .ok (.sipush 200, 3) := by decide +kernel
theorem dX5_add_66 : decode cX5_add 66 = .ok (.invokestatic 28, 3) := by decide +kernel
theorem dX5_add_69 : decode cX5_add 69 = .ok (.putfield 21, 3) := by decide +kernel
theorem dX5_add_72 : decode cX5_add 72 = .ok (.return_, 1) := by decide +kernel
theorem dX5_slotOf_0 : decode cX5_slotOf 0 = .ok (.iload_n 1, 1) := by decide +kernel
theorem dX5_slotOf_1 : decode cX5_slotOf 1 = .ok (.ifCond .lt 11, 3) := by decide +kernel
theorem dX5_slotOf_4 : decode cX5_slotOf 4 = .ok (.iload_n 1, 1) := by decide +kernel
theorem dX5_slotOf_5 : decode cX5_slotOf 5 = .ok (.aload_n 0, 1) := by decide +kernel
theorem dX5_slotOf_6 : decode cX5_slotOf 6 = .ok (.getfield 21, 3) := by decide +kernel
theorem dX5_slotOf_9 : decode cX5_slotOf 9 = .ok (.if_icmp .lt 5, 3) := by decide +kernel
theorem dX5_slotOf_12 : decode cX5_slotOf 12 = .ok (.iconst (-1), 1) := by decide +kernel
theorem dX5_slotOf_13 : decode cX5_slotOf 13 = .ok (.ireturn, 1) := by decide +kernel
theorem dX5_slotOf_14 : decode cX5_slotOf 14 = .ok (.aload_n 0, 1) := by decide +kernel
theorem dX5_slotOf_15 : decode cX5_slotOf 15 = .ok (.getfield 25, 3) := by decide +kernel
theorem dX5_slotOf_18 : decode cX5_slotOf 18 = .ok (.iconst 1, 1) := by decide +kernel
theorem dX5_slotOf_19 : decode cX5_slotOf 19 = .ok (.isub, 1) := by decide +kernel
theorem dX5_slotOf_20 : decode cX5_slotOf 20 = .ok (.iload_n 1, 1) := by decide +kernel
theorem dX5_slotOf_21 : decode cX5_slotOf 21 = .ok (.isub, 1) := by decide +kernel
theorem dX5_slotOf_22 : decode cX5_slotOf 22 = .ok (.istore_n 2, 1) := by decide +kernel
theorem dX5_slotOf_23 : decode cX5_slotOf 23 = .ok (.iload_n 2, 1) := by decide +kernel
theorem dX5_slotOf_24 : decode cX5_slotOf 24 = .ok (.ifCond .ge 11, 3) := by decide +kernel
theorem dX5_slotOf_27 : decode cX5_slotOf 27 = .ok (.iload_n 2, 1) := by decide +kernel
theorem dX5_slotOf_28 : decode cX5_slotOf 28 = .ok (.sipush 200, 3) := by decide +kernel
theorem dX5_slotOf_31 : decode cX5_slotOf 31 = .ok (.iadd, 1) := by decide +kernel
theorem dX5_slotOf_32 : decode cX5_slotOf 32 = .ok (.goto 4, 3) := by decide +kernel
theorem dX5_slotOf_35 : decode cX5_slotOf 35 = .ok (.iload_n 2, 1) := by decide +kernel
theorem dX5_slotOf_36 : decode cX5_slotOf 36 = .ok (.ireturn, 1) := by decide +kernel
theorem dX6_init_0 : decode cX6_init 0 = .ok (.aload_n 0, 1) := by decide +kernel
theorem dX6_init_1 : decode cX6_init 1 = .ok (.invokespecial 3, 3) := by decide +kernel
theorem dX6_init_4 : decode cX6_init 4 = .ok (.aload_n 0, 1) := by decide +kernel
theorem dX6_init_5 : decode cX6_init 5 = .ok (.bipush 12, 2) := by decide +kernel
theorem dX6_init_7 : decode cX6_init 7 = .ok (.anewarray 9, 3) := by decide +kernel
theorem dX6_init_10 : decode cX6_init 10 = .ok (.putfield 11, 3) := by decide +kernel
theorem dX6_init_13 : decode cX6_init 13 = .ok (.aload_n 0, 1) := by decide +kernel
theorem dX6_init_14 : decode cX6_init 14 = .ok (.new 9, 3) := by decide +kernel
theorem dX6_init_17 : decode cX6_init 17 = .ok (.dup, 1) := by decide +kernel
theorem dX6_init_18 : decode cX6_init 18 = .ok (.invokespecial 15, 3) := by decide +kernel
theorem dX6_init_21 : decode cX6_init 21 = .ok (.putfield 16, 3) := by decide +kernel
theorem dX6_init_24 : decode cX6_init 24 = .ok (.aload_n 0, 1) := by decide +kernel
theorem dX6_init_25 : decode cX6_init 25 = .ok (.new 20, 3) := by decide +kernel
theorem dX6_init_28 : decode cX6_init 28 = .ok (.dup, 1) := by decide +kernel
theorem dX6_init_29 : decode cX6_init 29 = .ok (.invokespecial 22, 3) := by decide +kernel
theorem dX6_init_32 : decode cX6_init 32 = .ok (.putfield 23, 3) := by decide +kernel
theorem dX6_init_35 : decode cX6_init 35 = .ok (.aload_n 0, 1) := by decide +kernel
theorem dX6_init_36 : decode cX6_init 36 = .ok (.new 27, 3) := by decide +kernel
theorem dX6_init_39 : decode cX6_init 39 = .ok (.dup, 1) := by decide +kernel
theorem dX6_init_40 : decode cX6_init 40 = .ok (.invokespecial 29, 3) := by decide +kernel
theorem dX6_init_43 : decode cX6_init 43 = .ok (.putfield 30, 3) := by decide +kernel
theorem dX6_init_46 : decode cX6_init 46 = .ok (.aload_n 0, 1) := by decide +kernel
theorem dX6_init_47 : decode cX6_init 47 = .ok (.new 27, 3) := by decide +kernel
theorem dX6_init_50 : decode cX6_init 50 = .ok (.dup, 1) := by decide +kernel
theorem dX6_init_51 : decode cX6_init 51 = .ok (.invokespecial 29, 3) := by decide +kernel
theorem dX6_init_54 : decode cX6_init 54 = .ok (.putfield 34, 3) := by decide +kernel
theorem dX6_init_57 : decode cX6_init 57 = .ok (.aload_n 0, 1) := by decide +kernel
theorem dX6_init_58 : decode cX6_init 58 = .ok (.new 37, 3) := by decide +kernel
theorem dX6_init_61 : decode cX6_init 61 = .ok (.dup, 1) := by decide +kernel
theorem dX6_init_62 : decode cX6_init 62 = .ok (.invokespecial 39, 3) := by decide +kernel
theorem dX6_init_65 : decode cX6_init 65 = .ok (.putfield 40, 3) := by decide +kernel
theorem dX6_init_68 : decode cX6_init 68 = .ok (.aload_n 0, 1) := by decide +kernel
theorem dX6_init_69 : decode cX6_init 69 = .ok (.iconst 5, 1) := by decide +kernel
theorem dX6_init_70 : decode cX6_init 70 = .ok (.anewarray 44, 3) := by decide +kernel
theorem dX6_init_73 : decode cX6_init 73 = .ok (.putfield 46, 3) := by decide +kernel
theorem dX6_init_76 : decode cX6_init 76 = .ok (.aload_n 0, 1) := by decide +kernel
theorem dX6_init_77 : decode cX6_init 77 = .ok (.bipush 8, 2) := by decide +kernel
theorem dX6_init_79 : decode cX6_init 79 = .ok (.anewarray 50, 3) := by decide +kernel
theorem dX6_init_82 : decode cX6_init 82 = .ok (.putfield 52, 3) := by decide +kernel
theorem dX6_init_85 : decode cX6_init 85 = .ok (.aload_n 0, 1) := by decide +kernel
theorem dX6_init_86 : decode cX6_init 86 = .ok (.sipush 720, 3) := by decide +kernel
theorem dX6_init_89 : decode cX6_init 89 = .ok (.newarray .int, 2) := by decide +kernel
theorem dX6_init_91 : decode cX6_init 91 = .ok (.putfield 56, 3) := by decide +kernel
theorem dX6_init_94 : decode cX6_init 94 = .ok (.aload_n 0, 1) := by decide +kernel
theorem dX6_init_95 : decode cX6_init 95 = .ok (.sipush 601, 3) := by decide +kernel
theorem dX6_init_98 : decode cX6_init 98 = .ok (.newarray .int, 2) := by decide +kernel
theorem dX6_init_100 : decode cX6_init 100 = .ok (.putfield 60, 3) := by decide +kernel
theorem dX6_init_103 : decode cX6_init 103 = .ok (.aload_n 0, 1) := by decide +kernel
theorem dX6_init_104 : decode cX6_init 104 = .ok (.bipush 51, 2) := by decide +kernel
theorem dX6_init_106 : decode cX6_init 106 = .ok (.newarray .int, 2) := by decide +kernel
theorem dX6_init_108 : decode cX6_init 108 = .ok (.putfield 63, 3) := by decide +kernel
theorem dX6_init_111 : decode cX6_init 111 = .ok (.aload_n 0, 1) := by decide +kernel
theorem dX6_init_112 : decode cX6_init 112 = .ok (.iconst 0, 1) := by decide +kernel
theorem dX6_init_113 : decode cX6_init 113 = .ok (.putfield 66, 3) := by decide +kernel
theorem dX6_init_116 : decode cX6_init 116 = .ok (.aload_n 0, 1) := by decide +kernel
theorem dX6_init_117 : decode cX6_init 117 = .ok (.iconst 0, 1) := by decide +kernel
theorem dX6_init_118 : decode cX6_init 118 = .ok (.putfield 70, 3) := by decide +kernel
theorem dX6_init_121 : decode cX6_init 121 = .ok (.aload_n 0, 1) := by decide +kernel
theorem dX6_init_122 : decode cX6_init 122 = .ok (.iconst 0, 1) := by decide +kernel
theorem dX6_init_123 : decode cX6_init 123 = .ok (.putfield 73, 3) := by decide +kernel
theorem dX6_init_126 : decode cX6_init 126 = .ok (.aload_n 0, 1) := by decide +kernel
theorem dX6_init_127 : decode cX6_init 127 = .ok (.iconst 3, 1) := by decide +kernel
theorem dX6_init_128 : decode cX6_init 128 = .ok (.putfield 76, 3) := by decide +kernel
theorem dX6_init_131 : decode cX6_init 131 = .ok (.aload_n 0, 1) := by decide +kernel
theorem dX6_init_132 : decode cX6_init 132 = .ok (.sipush 2000, 3) := by decide +kernel
theorem dX6_init_135 : decode cX6_init 135 = .ok (.putfield 79, 3) := by decide +kernel
theorem dX6_init_138 : decode cX6_init 138 = .ok (.aload_n 0, 1) := by decide +kernel
theorem dX6_init_139 : decode cX6_init 139 = .ok (.iconst 0, 1) := by decide +kernel
theorem dX6_init_140 : decode cX6_init 140 = .ok (.putfield 82, 3) := by decide +kernel
theorem dX6_init_143 : decode cX6_init 143 = .ok (.iconst 0, 1) := by decide +kernel
theorem dX6_init_144 : decode cX6_init 144 = .ok (.istore_n 1, 1) := by decide +kernel
theorem dX6_init_145 : decode cX6_init 145 = .ok (.iload_n 1, 1) := by decide +kernel
theorem dX6_init_146 : decode cX6_init 146 = .ok (.bipush 12, 2) := by decide +kernel
theorem dX6_init_148 : decode cX6_init 148 = .ok (.if_icmp .ge 22, 3) := by decide +kernel
theorem dX6_init_151 : decode cX6_init 151 = .ok (.aload_n 0, 1) := by decide +kernel
theorem dX6_init_152 : decode cX6_init 152 = .ok (.getfield 11, 3) := by decide +kernel
theorem dX6_init_155 : decode cX6_init 155 = .ok (.iload_n 1, 1) := by decide +kernel
theorem dX6_init_156 : decode cX6_init 156 = .ok (.new 9, 3) := by decide +kernel
theorem dX6_init_159 : decode cX6_init 159 = .ok (.dup, 1) := by decide +kernel
theorem dX6_init_160 : decode cX6_init 160 = .ok (.invokespecial 15, 3) := by decide +kernel
theorem dX6_init_163 : decode cX6_init 163 = .ok (.aastore, 1) := by decide +kernel
theorem dX6_init_164 : decode cX6_init 164 = .ok (.iinc 1 1, 3) := by decide +kernel
theorem dX6_init_167 : decode cX6_init 167 = .ok (.goto (-22), 3) := by decide +kernel
theorem dX6_init_170 : decode cX6_init 170 = .ok (.iconst 0, 1) := by decide +kernel
theorem dX6_init_171 : decode cX6_init 171 = .ok (.istore_n 1, 1) := by decide +kernel
theorem dX6_init_172 : decode cX6_init 172 = .ok (.iload_n 1, 1) := by decide +kernel
theorem dX6_init_173 : decode cX6_init 173 = .ok (.iconst 5, 1) := by decide +kernel
theorem dX6_init_174 : decode cX6_init 174 = .ok (.if_icmp .ge 22, 3) := by decide +kernel
theorem dX6_init_177 : decode cX6_init 177 = .ok (.aload_n 0, 1) := by decide +kernel
theorem dX6_init_178 : decode cX6_init 178 = .ok (.getfield 46, 3) := by decide +kernel
theorem dX6_init_181 : decode cX6_init 181 = .ok (.iload_n 1, 1) := by decide +kernel
theorem dX6_init_182 : decode cX6_init 182 = .ok (.new 44, 3) := by decide +kernel
theorem dX6_init_185 : decode cX6_init 185 = .ok (.dup, 1) := by decide +kernel
theorem dX6_init_186 : decode cX6_init 186 = .ok (.invokespecial 85, 3) := by decide +kernel
theorem dX6_init_189 : decode cX6_init 189 = .ok (.aastore, 1) := by decide +kernel
theorem dX6_init_190 : decode cX6_init 190 = .ok (.iinc 1 1, 3) := by decide +kernel
theorem dX6_init_193 : decode cX6_init 193 = .ok (.goto (-21), 3) := by decide +kernel
theorem dX6_init_196 : decode cX6_init 196 = .ok (.iconst 0, 1) := by decide +kernel
theorem dX6_init_197 : decode cX6_init 197 = .ok (.istore_n 1, 1) := by decide +kernel
theorem dX6_init_198 : decode cX6_init 198 = .ok (.iload_n 1, 1) := by decide +kernel
theorem dX6_init_199 : decode cX6_init 199 = .ok (.bipush 8, 2) := by decide +kernel
theorem dX6_init_201 : decode cX6_init 201 = .ok (.if_icmp .ge 22, 3) := by decide +kernel
theorem dX6_init_204 : decode cX6_init 204 = .ok (.aload_n 0, 1) := by decide +kernel
theorem dX6_init_205 : decode cX6_init 205 = .ok (.getfield 52, 3) := by decide +kernel
theorem dX6_init_208 : decode cX6_init 208 = .ok (.iload_n 1, 1) := by decide +kernel
theorem dX6_init_209 : decode cX6_init 209 = .ok (.new 50, 3) := by decide +kernel
theorem dX6_init_212 : decode cX6_init 212 = .ok (.dup, 1) := by decide +kernel
theorem dX6_init_213 : decode cX6_init 213 = .ok (.invokespecial 86, 3) := by decide +kernel
theorem dX6_init_216 : decode cX6_init 216 = .ok (.aastore, 1) := by decide +kernel
theorem dX6_init_217 : decode cX6_init 217 = .ok (.iinc 1 1, 3) := by decide +kernel
theorem dX6_init_220 : decode cX6_init 220 = .ok (.goto (-22), 3) := by decide +kernel
theorem dX6_init_223 : decode cX6_init 223 = .ok (.return_, 1) := by decide +kernel
theorem dX6_addBell_0 : decode cX6_addBell 0 = .ok (.iload_n 1, 1) := by decide +kernel
theorem dX6_addBell_1 : decode cX6_addBell 1 = .ok (.iconst 1, 1) := by decide +kernel
theorem dX6_addBell_2 : decode cX6_addBell 2 = .ok (.bipush 50, 2) := by decide +kernel
theorem dX6_addBell_4 : decode cX6_addBell 4 = .ok (.invokestatic 87, 3) := by decide +kernel
theorem dX6_addBell_7 : decode cX6_addBell 7 = .ok (.ifCond .ne 35, 3) := by decide +kernel
theorem dX6_addBell_10 : decode cX6_addBell 10 = .ok (.iload_n 2, 1) := by decide +kernel
theorem dX6_addBell_11 : decode cX6_addBell 11 = .ok (.iconst 0, 1) := by decide +kernel
theorem dX6_addBell_12 : decode cX6_addBell 12 = .ok (.bipush 100, 2) := by decide +kernel
theorem dX6_addBell_14 : decode cX6_addBell 14 = .ok (.invokestatic 87, 3) := by decide +kernel
theorem dX6_addBell_17 : decode cX6_addBell 17 = .ok (.ifCond .ne 25, 3) := by decide +kernel
theorem dX6_addBell_20 : decode cX6_addBell 20 = .ok (.iload_n 3, 1) := by decide +kernel
theorem dX6_addBell_21 : decode cX6_addBell 21 = .ok (.iconst 1, 1) := by decide +kernel
theorem dX6_addBell_22 : decode cX6_addBell 22 = .ok (.bipush 99, 2) := by decide +kernel
theorem dX6_addBell_24 : decode cX6_addBell 24 = .ok (.invokestatic 87, 3) := by decide +kernel
theorem dX6_addBell_27 : decode cX6_addBell 27 = .ok (.ifCond .ne 15, 3) := by decide +kernel
theorem dX6_addBell_30 : decode cX6_addBell 30 = .ok (.iload 4, 2) := by decide +kernel
theorem dX6_addBell_32 : decode cX6_addBell 32 = .ok (.bipush 10, 2) := by decide +kernel
theorem dX6_addBell_34 : decode cX6_addBell 34 = .ok (.bipush 60, 2) := by decide +kernel
theorem dX6_addBell_36 : decode cX6_addBell 36 = .ok (.invokestatic 87, 3) := by decide +kernel
theorem dX6_addBell_39 : decode cX6_addBell 39 = .ok (.ifCond .eq 6, 3) := by decide +kernel
theorem dX6_addBell_42 : decode cX6_addBell 42 = .ok (.bipush (-3), 2) := by decide +kernel
theorem dX6_addBell_44 : decode cX6_addBell 44 = .ok (.ireturn, 1) := by decide +kernel
theorem dX6_addBell_45 : decode cX6_addBell 45 = .ok (.aload_n 0, 1) := by decide +kernel
theorem dX6_addBell_46 : decode cX6_addBell 46 = .ok (.getfield 66, 3) := by decide +kernel
theorem dX6_addBell_49 : decode cX6_addBell 49 = .ok (.bipush 12, 2) := by decide +kernel
theorem dX6_addBell_51 : decode cX6_addBell 51 = .ok (.if_icmp .lt 6, 3) := by decide +kernel
theorem dX6_addBell_54 : decode cX6_addBell 54 = .ok (.bipush (-4), 2) := by decide +kernel
theorem dX6_addBell_56 : decode cX6_addBell 56 = .ok (.ireturn, 1) := by decide +kernel
theorem dX6_addBell_57 : decode cX6_addBell 57 = .ok (.aload_n 0, 1) := by decide +kernel
theorem dX6_addBell_58 : decode cX6_addBell 58 = .ok (.getfield 11, 3) := by decide +kernel
theorem dX6_addBell_61 : decode cX6_addBell 61 = .ok (.aload_n 0, 1) := by decide +kernel
theorem dX6_addBell_62 : decode cX6_addBell 62 = .ok (.getfield 66, 3) := by decide +kernel
theorem dX6_addBell_65 : decode cX6_addBell 65 = .ok (.aaload, 1) := by decide +kernel
theorem dX6_addBell_66 : decode cX6_addBell 66 = .ok (.astore 5, 2) := by decide +kernel
theorem dX6_addBell_68 : decode cX6_addBell 68 = .ok (.aload 5, 2) := by decide +kernel
theorem dX6_addBell_70 : decode cX6_addBell 70 = .ok (.iload_n 1, 1) := by decide +kernel
theorem dX6_addBell_71 : decode cX6_addBell 71 = .ok (.putfield 91, 3) := by decide +kernel
theorem dX6_addBell_74 : decode cX6_addBell 74 = .ok (.aload 5, 2) := by decide +kernel
theorem dX6_addBell_76 : decode cX6_addBell 76 = .ok (.iload_n 2, 1) := by decide +kernel
theorem dX6_addBell_77 : decode cX6_addBell 77 = .ok (.putfield 94, 3) := by decide +kernel
theorem dX6_addBell_80 : decode cX6_addBell 80 = .ok (.aload 5, 2) := by decide +kernel
theorem dX6_addBell_82 : decode cX6_addBell 82 = .ok (.iload_n 3, 1) := by decide +kernel
theorem dX6_addBell_83 : decode cX6_addBell 83 = .ok (.putfield 97, 3) := by decide +kernel
theorem dX6_addBell_86 : decode cX6_addBell 86 = .ok (.aload 5, 2) := by decide +kernel
theorem dX6_addBell_88 : decode cX6_addBell 88 = .ok (.iload 4, 2) := by decide +kernel
theorem dX6_addBell_90 : decode cX6_addBell 90 = .ok (.putfield 100, 3) := by decide +kernel
theorem dX6_addBell_93 : decode cX6_addBell 93 = .ok (.aload_n 0, 1) := by decide +kernel
theorem dX6_addBell_94 : decode cX6_addBell 94 = .ok (.dup, 1) := by decide +kernel
theorem dX6_addBell_95 : decode cX6_addBell 95 = .ok (.getfield 66, 3) := by decide +kernel
theorem dX6_addBell_98 : decode cX6_addBell 98 = .ok (.iconst 1, 1) := by decide +kernel
theorem dX6_addBell_99 : decode cX6_addBell 99 = .ok (.iadd, 1) := by decide +kernel
theorem dX6_addBell_100 : decode cX6_addBell 100 = .ok (.putfield 66, 3) := by decide +kernel
theorem dX6_addBell_103 : decode cX6_addBell 103 = .ok (.aload_n 0, 1) := by decide +kernel
theorem dX6_addBell_104 : decode cX6_addBell 104 = .ok (.getfield 66, 3) := by decide +kernel
theorem dX6_addBell_107 : decode cX6_addBell 107 = .ok (.iconst 1, 1) := by decide +kernel
theorem dX6_addBell_108 : decode cX6_addBell 108 = .ok (.isub, 1) := by decide +kernel
theorem dX6_addBell_109 : decode cX6_addBell 109 = .ok (.ireturn, 1) := by decide +kernel
theorem dX6_bellCount_0 : decode cX6_bellCount 0 = .ok (.aload_n 0, 1) := by decide +kernel
theorem dX6_bellCount_1 : decode cX6_bellCount 1 = .ok (.getfield 66, 3) := by decide +kernel
theorem dX6_bellCount_4 : decode cX6_bellCount 4 = .ok (.ireturn, 1) := by decide +kernel
theorem dX6_delay_0 : decode cX6_delay 0 = .ok (.aload_n 0, 1) := by decide +kernel
theorem dX6_delay_1 : decode cX6_delay 1 = .ok (.iload_n 1, 1) := by decide +kernel
theorem dX6_delay_2 : decode cX6_delay 2 = .ok (.invokevirtual 103, 3) := by decide +kernel
theorem dX6_delay_5 : decode cX6_delay 5 = .ok (.ifCond .eq 15, 3) := by decide +kernel
theorem dX6_delay_8 : decode cX6_delay 8 = .ok (.aload_n 0, 1) := by decide +kernel
theorem dX6_delay_9 : decode cX6_delay 9 = .ok (.getfield 11, 3) := by decide +kernel
theorem dX6_delay_12 : decode cX6_delay 12 = .ok (.iload_n 1, 1) := by decide +kernel
theorem dX6_delay_13 : decode cX6_delay 13 = .ok (.aaload, 1) := by decide +kernel
theorem dX6_delay_14 : decode cX6_delay 14 = .ok (.getfield 91, 3) := by decide +kernel
theorem dX6_delay_17 : decode cX6_delay 17 = .ok (.goto 5, 3) := by decide +kernel
theorem dX6_delay_20 : decode cX6_delay 20 = .ok (.bipush (-2), 2) := by decide +kernel
theorem dX6_delay_22 : decode cX6_delay 22 = .ok (.ireturn, 1) := by decide +kernel
theorem dX6_calibrate_0 : decode cX6_calibrate 0 = .ok (.aload_n 0, 1) := by decide +kernel
theorem dX6_calibrate_1 : decode cX6_calibrate 1 = .ok (.iload_n 1, 1) := by decide +kernel
theorem dX6_calibrate_2 : decode cX6_calibrate 2 = .ok (.invokevirtual 103, 3) := by decide +kernel
theorem dX6_calibrate_5 : decode cX6_calibrate 5 = .ok (.ifCond .ne 6, 3) := by decide +kernel
theorem dX6_calibrate_8 : decode cX6_calibrate 8 = .ok (.bipush (-2), 2) := by decide +kernel
theorem dX6_calibrate_10 : decode cX6_calibrate 10 = .ok (.ireturn, 1) := by decide +kernel
theorem dX6_calibrate_11 : decode cX6_calibrate 11 = .ok (.iload_n 2, 1) := by decide +kernel
theorem dX6_calibrate_12 : decode cX6_calibrate 12 = .ok (.iconst 1, 1) := by decide +kernel
theorem dX6_calibrate_13 : decode cX6_calibrate 13 = .ok (.bipush 50, 2) := by decide +kernel
theorem dX6_calibrate_15 : decode cX6_calibrate 15 = .ok (.invokestatic 87, 3) := by decide +kernel
theorem dX6_calibrate_18 : decode cX6_calibrate 18 = .ok (.ifCond .eq 6, 3) := by decide +kernel
theorem dX6_calibrate_21 : decode cX6_calibrate 21 = .ok (.bipush (-3), 2) := by decide +kernel
theorem dX6_calibrate_23 : decode cX6_calibrate 23 = .ok (.ireturn, 1) := by decide +kernel
theorem dX6_calibrate_24 : decode cX6_calibrate 24 = .ok (.aload_n 0, 1) := by decide +kernel
theorem dX6_calibrate_25 : decode cX6_calibrate 25 = .ok (.getfield 11, 3) := by decide +kernel
theorem dX6_calibrate_28 : decode cX6_calibrate 28 = .ok (.iload_n 1, 1) := by decide +kernel
theorem dX6_calibrate_29 : decode cX6_calibrate 29 = .ok (.aaload, 1) := by decide +kernel
theorem dX6_calibrate_30 : decode cX6_calibrate 30 = .ok (.astore_n 3, 1) := by decide +kernel
theorem dX6_calibrate_31 : decode cX6_calibrate 31 = .ok (.aload_n 3, 1) := by decide +kernel
theorem dX6_calibrate_32 : decode cX6_calibrate 32 = .ok (.iconst 3, 1) := by decide +kernel
theorem dX6_calibrate_33 : decode cX6_calibrate 33 = .ok (.aload_n 3, 1) := by decide +kernel
theorem dX6_calibrate_34 : decode cX6_calibrate 34 = .ok (.getfield 91, 3) := by decide +kernel
theorem dX6_calibrate_37 : decode cX6_calibrate 37 = .ok (.imul, 1) := by decide +kernel
theorem dX6_calibrate_38 : decode cX6_calibrate 38 = .ok (.iload_n 2, 1) := by decide +kernel
theorem dX6_calibrate_39 : decode cX6_calibrate 39 = .ok (.iadd, 1) := by decide +kernel
theorem dX6_calibrate_40 : decode cX6_calibrate 40 = .ok (.iconst 2, 1) := by decide +kernel
theorem dX6_calibrate_41 : decode cX6_calibrate 41 = .ok (.iadd, 1) := by decide +kernel
theorem dX6_calibrate_42 : decode cX6_calibrate 42 = .ok (.iconst 4, 1) := by decide +kernel
theorem dX6_calibrate_43 : decode cX6_calibrate 43 = .ok (.idiv, 1) := by decide +kernel
theorem dX6_calibrate_44 : decode cX6_calibrate 44 = .ok (.putfield 91, 3) := by decide +kernel
theorem dX6_calibrate_47 : decode cX6_calibrate 47 = .ok (.aload_n 3, 1) := by decide +kernel
theorem dX6_calibrate_48 : decode cX6_calibrate 48 = .ok (.getfield 91, 3) := by decide +kernel
theorem dX6_calibrate_51 : decode cX6_calibrate 51 = .ok (.ireturn, 1) := by decide +kernel
theorem dX6_setPowerLimit_0 : decode cX6_setPowerLimit 0 = .ok (.iload_n 1, 1) := by decide +kernel
theorem dX6_setPowerLimit_1 : decode cX6_setPowerLimit 1 = .ok (.iconst 1, 1) := by decide +kernel
theorem dX6_setPowerLimit_2 : decode cX6_setPowerLimit 2 = .ok (.bipush 12, 2) := by decide +kernel
theorem dX6_setPowerLimit_4 : decode cX6_setPowerLimit 4 = .ok (.invokestatic 87, 3) := by decide +kernel
theorem dX6_setPowerLimit_7 : decode cX6_setPowerLimit 7 = .ok (.ifCond .eq 6, 3) := by decide +kernel
theorem dX6_setPowerLimit_10 : decode cX6_setPowerLimit 10 = .ok (.bipush (-3), 2) := by decide +kernel
theorem dX6_setPowerLimit_12 : decode cX6_setPowerLimit 12 = .ok (.ireturn, 1) := by decide +kernel
theorem dX6_setPowerLimit_13 : decode cX6_setPowerLimit 13 = .ok (.aload_n 0, 1) := by decide +kernel
theorem dX6_setPowerLimit_14 : decode cX6_setPowerLimit 14 = .ok (.getfield 76, 3) := by decide +kernel
theorem dX6_setPowerLimit_17 : decode cX6_setPowerLimit 17 = .ok (.istore_n 2, 1) := by decide +kernel
theorem dX6_setPowerLimit_18 : decode cX6_setPowerLimit 18 = .ok (.aload_n 0, 1) := by decide +kernel
theorem dX6_setPowerLimit_19 : decode cX6_setPowerLimit 19 = .ok (.iload_n 1, 1) := by decide +kernel
theorem dX6_setPowerLimit_20 : decode cX6_setPowerLimit 20 = .ok (.putfield 76, 3) := by decide +kernel
theorem dX6_setPowerLimit_23 : decode cX6_setPowerLimit 23 = .ok (.iload_n 2, 1) := by decide +kernel
theorem dX6_setPowerLimit_24 : decode cX6_setPowerLimit 24 = .ok (.ireturn, 1) := by decide +kernel
theorem dX6_currentTime_0 : decode cX6_currentTime 0 = .ok (.aload_n 0, 1) := by decide +kernel
theorem dX6_currentTime_1 : decode cX6_currentTime 1 = .ok (.getfield 73, 3) := by decide +kernel
theorem dX6_currentTime_4 : decode cX6_currentTime 4 = .ok (.ireturn, 1) := by decide +kernel
theorem dX6_advance_0 : decode cX6_advance 0 = .ok (.iload_n 1, 1) := by decide +kernel
theorem dX6_advance_1 : decode cX6_advance 1 = .ok (.iconst 0, 1) := by decide +kernel
theorem dX6_advance_2 : decode cX6_advance 2 = .ok (.sipush 2000, 3) := by decide +kernel
theorem dX6_advance_5 : decode cX6_advance 5 = .ok (.invokestatic 87, 3) := by decide +kernel
theorem dX6_advance_8 : decode cX6_advance 8 = .ok (.ifCond .eq 6, 3) := by decide +kernel
theorem dX6_advance_11 : decode cX6_advance 11 = .ok (.bipush (-3), 2) := by decide +kernel
theorem dX6_advance_13 : decode cX6_advance 13 = .ok (.ireturn, 1) := by decide +kernel
theorem dX6_advance_14 : decode cX6_advance 14 = .ok (.aload_n 0, 1) := by decide +kernel
theorem dX6_advance_15 : decode cX6_advance 15 = .ok (.getfield 73, 3) := by decide +kernel
theorem dX6_advance_18 : decode cX6_advance 18 = .ok (.iload_n 1, 1) := by decide +kernel
theorem dX6_advance_19 : decode cX6_advance 19 = .ok (.iadd, 1) := by decide +kernel
theorem dX6_advance_20 : decode cX6_advance 20 = .ok (.ldc 107, 2) := by decide +kernel
theorem dX6_advance_22 : decode cX6_advance 22 = .ok (.if_icmp .le 6, 3) := by decide +kernel
theorem dX6_advance_25 : decode cX6_advance 25 = .ok (.bipush (-4), 2) := by decide +kernel
theorem dX6_advance_27 : decode cX6_advance 27 = .ok (.ireturn, 1) := by decide +kernel
theorem dX6_advance_28 : decode cX6_advance 28 = .ok (.iconst 0, 1) := by decide +kernel
theorem dX6_advance_29 : decode cX6_advance 29 = .ok (.istore_n 2, 1) := by decide +kernel
theorem dX6_advance_30 : decode cX6_advance 30 = .ok (.iload_n 1, 1) := by decide +kernel
theorem dX6_advance_31 : decode cX6_advance 31 = .ok (.istore_n 3, 1) := by decide +kernel
theorem dX6_advance_32 : decode cX6_advance 32 = .ok (.iload_n 3, 1) := by decide +kernel
theorem dX6_advance_33 : decode cX6_advance 33 = .ok (.ifCond .le 37, 3) := by decide +kernel
theorem dX6_advance_36 : decode cX6_advance 36 = .ok (.aload_n 0, 1) := by decide +kernel
theorem dX6_advance_37 : decode cX6_advance 37 = .ok (.dup, 1) := by decide +kernel
theorem dX6_advance_38 : decode cX6_advance 38 = .ok (.getfield 73, 3) := by decide +kernel
theorem dX6_advance_41 : decode cX6_advance 41 = .ok (.iconst 1, 1) := by decide +kernel
theorem dX6_advance_42 : decode cX6_advance 42 = .ok (.iadd, 1) := by decide +kernel
theorem dX6_advance_43 : decode cX6_advance 43 = .ok (.putfield 73, 3) := by decide +kernel
theorem dX6_advance_46 : decode cX6_advance 46 = .ok (.iload_n 2, 1) := by decide +kernel
theorem dX6_advance_47 : decode cX6_advance 47 = .ok (.aload_n 0, 1) := by decide +kernel
theorem dX6_advance_48 : decode cX6_advance 48 = .ok (.invokevirtual 108, 3) := by decide +kernel
theorem dX6_advance_51 : decode cX6_advance 51 = .ok (.iadd, 1) := by decide +kernel
theorem dX6_advance_52 : decode cX6_advance 52 = .ok (.istore_n 2, 1) := by decide +kernel
theorem dX6_advance_53 : decode cX6_advance 53 = .ok (.iload_n 2, 1) := by decide +kernel
theorem dX6_advance_54 : decode cX6_advance 54 = .ok (.aload_n 0, 1) := by decide +kernel
theorem dX6_advance_55 : decode cX6_advance 55 = .ok (.invokevirtual 112, 3) := by decide +kernel
theorem dX6_advance_58 : decode cX6_advance 58 = .ok (.iadd, 1) := by decide +kernel
theorem dX6_advance_59 : decode cX6_advance 59 = .ok (.istore_n 2, 1) := by decide +kernel
theorem dX6_advance_60 : decode cX6_advance 60 = .ok (.aload_n 0, 1) := by decide +kernel
theorem dX6_advance_61 : decode cX6_advance 61 = .ok (.invokevirtual 115, 3) := by decide +kernel
theorem dX6_advance_64 : decode cX6_advance 64 = .ok (.iinc 3 (-1), 3) := by decide +kernel
theorem dX6_advance_67 : decode cX6_advance 67 = .ok (.goto (-35), 3) := by decide +kernel
theorem dX6_advance_70 : decode cX6_advance 70 = .ok (.iload_n 2, 1) := by decide +kernel
theorem dX6_advance_71 : decode cX6_advance 71 = .ok (.ireturn, 1) := by decide +kernel
theorem dX6_recordLength_0 : decode cX6_recordLength 0 = .ok (.aload_n 0, 1) := by decide +kernel
theorem dX6_recordLength_1 : decode cX6_recordLength 1 = .ok (.getfield 23, 3) := by decide +kernel
theorem dX6_recordLength_4 : decode cX6_recordLength 4 = .ok (.getfield 118, 3) := by decide +kernel
theorem dX6_recordLength_7 : decode cX6_recordLength 7 = .ok (.ireturn, 1) := by decide +kernel
theorem dX6_recordBell_0 : decode cX6_recordBell 0 = .ok (.iload_n 1, 1) := by decide +kernel
theorem dX6_recordBell_1 : decode cX6_recordBell 1 = .ok (.ifCond .ge 6, 3) := by decide +kernel
theorem dX6_recordBell_4 : decode cX6_recordBell 4 = .ok (.bipush (-3), 2) := by decide +kernel
theorem dX6_recordBell_6 : decode cX6_recordBell 6 = .ok (.ireturn, 1) := by decide +kernel
theorem dX6_recordBell_7 : decode cX6_recordBell 7 = .ok (.aload_n 0, 1) := by decide +kernel
theorem dX6_recordBell_8 : decode cX6_recordBell 8 = .ok (.getfield 23, 3) := by decide +kernel
theorem dX6_recordBell_11 : decode cX6_recordBell 11 = .ok (.iload_n 1, 1) := by decide +kernel
theorem dX6_recordBell_12 : decode cX6_recordBell 12 = .ok (.invokevirtual 121, 3) := by decide +kernel
theorem dX6_recordBell_15 : decode cX6_recordBell 15 = .ok (.istore_n 2, 1) := by decide +kernel
theorem dX6_recordBell_16 : decode cX6_recordBell 16 = .ok (.iload_n 2, 1) := by decide +kernel
theorem dX6_recordBell_17 : decode cX6_recordBell 17 = .ok (.ifCond .ge 7, 3) := by decide +kernel
theorem dX6_recordBell_20 : decode cX6_recordBell 20 = .ok (.iconst (-1), 1) := by decide +kernel
theorem dX6_recordBell_21 : decode cX6_recordBell 21 = .ok (.goto 12, 3) := by decide +kernel
theorem dX6_recordBell_24 : decode cX6_recordBell 24 = .ok (.aload_n 0, 1) := by decide +kernel
theorem dX6_recordBell_25 : decode cX6_recordBell 25 = .ok (.getfield 23, 3) := by decide +kernel
theorem dX6_recordBell_28 : decode cX6_recordBell 28 = .ok (.getfield 125, 3) := by decide +kernel
theorem dX6_recordBell_31 : decode cX6_recordBell 31 = .ok (.iload_n 2, 1) := by decide +kernel
theorem dX6_recordBell_32 : decode cX6_recordBell 32 = .ok (.iaload, 1) := by decide +kernel
theorem dX6_recordBell_33 : decode cX6_recordBell 33 = .ok (.ireturn, 1) := by decide +kernel
theorem dX6_recordTime_0 : decode cX6_recordTime 0 = .ok (.iload_n 1, 1) := by decide +kernel
theorem dX6_recordTime_1 : decode cX6_recordTime 1 = .ok (.ifCond .ge 6, 3) := by decide +kernel
theorem dX6_recordTime_4 : decode cX6_recordTime 4 = .ok (.bipush (-3), 2) := by decide +kernel
theorem dX6_recordTime_6 : decode cX6_recordTime 6 = .ok (.ireturn, 1) := by decide +kernel
theorem dX6_recordTime_7 : decode cX6_recordTime 7 = .ok (.aload_n 0, 1) := by decide +kernel
theorem dX6_recordTime_8 : decode cX6_recordTime 8 = .ok (.getfield 23, 3) := by decide +kernel
theorem dX6_recordTime_11 : decode cX6_recordTime 11 = .ok (.iload_n 1, 1) := by decide +kernel
theorem dX6_recordTime_12 : decode cX6_recordTime 12 = .ok (.invokevirtual 121, 3) := by decide +kernel
theorem dX6_recordTime_15 : decode cX6_recordTime 15 = .ok (.istore_n 2, 1) := by decide +kernel
theorem dX6_recordTime_16 : decode cX6_recordTime 16 = .ok (.iload_n 2, 1) := by decide +kernel
theorem dX6_recordTime_17 : decode cX6_recordTime 17 = .ok (.ifCond .ge 7, 3) := by decide +kernel
theorem dX6_recordTime_20 : decode cX6_recordTime 20 = .ok (.iconst (-1), 1) := by decide +kernel
theorem dX6_recordTime_21 : decode cX6_recordTime 21 = .ok (.goto 12, 3) := by decide +kernel
theorem dX6_recordTime_24 : decode cX6_recordTime 24 = .ok (.aload_n 0, 1) := by decide +kernel
theorem dX6_recordTime_25 : decode cX6_recordTime 25 = .ok (.getfield 23, 3) := by decide +kernel
theorem dX6_recordTime_28 : decode cX6_recordTime 28 = .ok (.getfield 127, 3) := by decide +kernel
theorem dX6_recordTime_31 : decode cX6_recordTime 31 = .ok (.iload_n 2, 1) := by decide +kernel
theorem dX6_recordTime_32 : decode cX6_recordTime 32 = .ok (.iaload, 1) := by decide +kernel
theorem dX6_recordTime_33 : decode cX6_recordTime 33 = .ok (.ireturn, 1) := by decide +kernel
theorem dX6_recordClapper_0 : decode cX6_recordClapper 0 = .ok (.iload_n 1, 1) := by decide +kernel
theorem dX6_recordClapper_1 : decode cX6_recordClapper 1 = .ok (.ifCond .ge 6, 3) := by decide +kernel
theorem dX6_recordClapper_4 : decode cX6_recordClapper 4 = .ok (.bipush (-3), 2) := by decide +kernel
theorem dX6_recordClapper_6 : decode cX6_recordClapper 6 = .ok (.ireturn, 1) := by decide +kernel
theorem dX6_recordClapper_7 : decode cX6_recordClapper 7 = .ok (.aload_n 0, 1) := by decide +kernel
theorem dX6_recordClapper_8 : decode cX6_recordClapper 8 = .ok (.getfield 23, 3) := by decide +kernel
theorem dX6_recordClapper_11 : decode cX6_recordClapper 11 = .ok (.iload_n 1, 1) := by decide +kernel
theorem dX6_recordClapper_12 : decode cX6_recordClapper 12 = .ok (.invokevirtual 121, 3) := by decide +kernel
theorem dX6_recordClapper_15 : decode cX6_recordClapper 15 = .ok (.istore_n 2, 1) := by decide +kernel
theorem dX6_recordClapper_16 : decode cX6_recordClapper 16 = .ok (.iload_n 2, 1) := by decide +kernel
theorem dX6_recordClapper_17 : decode cX6_recordClapper 17 = .ok (.ifCond .ge 7, 3) := by decide +kernel
theorem dX6_recordClapper_20 : decode cX6_recordClapper 20 = .ok (.iconst (-1), 1) := by decide +kernel
theorem dX6_recordClapper_21 : decode cX6_recordClapper 21 = .ok (.goto 12, 3) := by decide +kernel
theorem dX6_recordClapper_24 : decode cX6_recordClapper 24 = .ok (.aload_n 0, 1) := by decide +kernel
theorem dX6_recordClapper_25 : decode cX6_recordClapper 25 = .ok (.getfield 23, 3) := by decide +kernel
theorem dX6_recordClapper_28 : decode cX6_recordClapper 28 = .ok (.getfield 130, 3) := by decide +kernel
theorem dX6_recordClapper_31 : decode cX6_recordClapper 31 = .ok (.iload_n 2, 1) := by decide +kernel
theorem dX6_recordClapper_32 : decode cX6_recordClapper 32 = .ok (.iaload, 1) := by decide +kernel
theorem dX6_recordClapper_33 : decode cX6_recordClapper 33 = .ok (.ireturn, 1) := by decide +kernel
theorem dX6_scheduleStroke_0 : decode cX6_scheduleStroke 0 = .ok (.aload_n 0, 1) := by decide +kernel
theorem dX6_scheduleStroke_1 : decode cX6_scheduleStroke 1 = .ok (.iload_n 1, 1) := by decide +kernel
theorem dX6_scheduleStroke_2 : decode cX6_scheduleStroke 2 = .ok (.invokevirtual 103, 3) := by decide +kernel
theorem dX6_scheduleStroke_5 : decode cX6_scheduleStroke 5 = .ok (.ifCond .ne 6, 3) := by decide +kernel
theorem dX6_scheduleStroke_8 : decode cX6_scheduleStroke 8 = .ok (.bipush (-2), 2) := by decide +kernel
theorem dX6_scheduleStroke_10 : decode cX6_scheduleStroke 10 = .ok (.ireturn, 1) := by decide +kernel
theorem dX6_scheduleStroke_11 : decode cX6_scheduleStroke 11 = .ok (.iload_n 2, 1) := by decide +kernel
theorem dX6_scheduleStroke_12 : decode cX6_scheduleStroke 12 = .ok (.iconst 0, 1) := by decide +kernel
theorem dX6_scheduleStroke_13 : decode cX6_scheduleStroke 13 = .ok (.ldc 107, 2) := by decide +kernel
theorem dX6_scheduleStroke_15 : decode cX6_scheduleStroke 15 = .ok (.invokestatic 87, 3) := by decide +kernel
theorem dX6_scheduleStroke_18 : decode cX6_scheduleStroke 18 = .ok (.ifCond .eq 6, 3) := by decide +kernel
theorem dX6_scheduleStroke_21 : decode cX6_scheduleStroke 21 = .ok (.bipush (-3), 2) := by decide +kernel
theorem dX6_scheduleStroke_23 : decode cX6_scheduleStroke 23 = .ok (.ireturn, 1) := by decide +kernel
theorem dX6_scheduleStroke_24 : decode cX6_scheduleStroke 24 = .ok (.aload_n 0, 1) := by decide +kernel
theorem dX6_scheduleStroke_25 : decode cX6_scheduleStroke 25 = .ok (.aload_n 0, 1) := by decide +kernel
theorem dX6_scheduleStroke_26 : decode cX6_scheduleStroke 26 = .ok (.getfield 30, 3) := by decide +kernel
theorem dX6_scheduleStroke_29 : decode cX6_scheduleStroke 29 = .ok (.iload_n 1, 1) := by decide +kernel
theorem dX6_scheduleStroke_30 : decode cX6_scheduleStroke 30 = .ok (.iload_n 2, 1) := by decide +kernel
theorem dX6_scheduleStroke_31 : decode cX6_scheduleStroke 31 = .ok (.invokevirtual 133, 3) := by decide +kernel
theorem dX6_scheduleStroke_34 : decode cX6_scheduleStroke 34 = .ok (.istore_n 3, 1) := by decide +kernel
theorem dX6_scheduleStroke_35 : decode cX6_scheduleStroke 35 = .ok (.iload_n 3, 1) := by decide +kernel
theorem dX6_scheduleStroke_36 : decode cX6_scheduleStroke 36 = .ok (.ifCond .eq 5, 3) := by decide +kernel
theorem dX6_scheduleStroke_39 : decode cX6_scheduleStroke 39 = .ok (.iload_n 3, 1) := by decide +kernel
theorem dX6_scheduleStroke_40 : decode cX6_scheduleStroke 40 = .ok (.ireturn, 1) := by decide +kernel
theorem dX6_scheduleStroke_41 : decode cX6_scheduleStroke 41 = .ok (.iload_n 2, 1) := by decide +kernel
theorem dX6_scheduleStroke_42 : decode cX6_scheduleStroke 42 = .ok (.aload_n 0, 1) := by decide +kernel
theorem dX6_scheduleStroke_43 : decode cX6_scheduleStroke 43 = .ok (.getfield 11, 3) := by decide +kernel
theorem dX6_scheduleStroke_46 : decode cX6_scheduleStroke 46 = .ok (.iload_n 1, 1) := by decide +kernel
theorem dX6_scheduleStroke_47 : decode cX6_scheduleStroke 47 = .ok (.aaload, 1) := by decide +kernel
theorem dX6_scheduleStroke_48 : decode cX6_scheduleStroke 48 = .ok (.getfield 91, 3) := by decide +kernel
theorem dX6_scheduleStroke_51 : decode cX6_scheduleStroke 51 = .ok (.isub, 1) := by decide +kernel
theorem dX6_scheduleStroke_52 : decode cX6_scheduleStroke 52 = .ok (.istore 4, 2) := by decide +kernel
theorem dX6_scheduleStroke_54 : decode cX6_scheduleStroke 54 = .ok (.aload_n 0, 1) := by decide +kernel
theorem dX6_scheduleStroke_55 : decode cX6_scheduleStroke 55 = .ok (.getfield 30, 3) := by decide +kernel
theorem dX6_scheduleStroke_58 : decode cX6_scheduleStroke 58 = .ok (.iload_n 1, 1) := by decide +kernel
theorem dX6_scheduleStroke_59 : decode cX6_scheduleStroke 59 = .ok (.iload 4, 2) := by decide +kernel
theorem dX6_scheduleStroke_61 : decode cX6_scheduleStroke 61 = .ok (.iload_n 2, 1) := by decide +kernel
theorem dX6_scheduleStroke_62 : decode cX6_scheduleStroke 62 = .ok (.invokevirtual 137, 3) := by decide +kernel
theorem dX6_scheduleStroke_65 : decode cX6_scheduleStroke 65 = .ok (.iload 4, 2) := by decide +kernel
theorem dX6_scheduleStroke_67 : decode cX6_scheduleStroke 67 = .ok (.ireturn, 1) := by decide +kernel
theorem dX6_cancelStroke_0 : decode cX6_cancelStroke 0 = .ok (.aload_n 0, 1) := by decide +kernel
theorem dX6_cancelStroke_1 : decode cX6_cancelStroke 1 = .ok (.iload_n 1, 1) := by decide +kernel
theorem dX6_cancelStroke_2 : decode cX6_cancelStroke 2 = .ok (.invokevirtual 103, 3) := by decide +kernel
theorem dX6_cancelStroke_5 : decode cX6_cancelStroke 5 = .ok (.ifCond .ne 6, 3) := by decide +kernel
theorem dX6_cancelStroke_8 : decode cX6_cancelStroke 8 = .ok (.bipush (-2), 2) := by decide +kernel
theorem dX6_cancelStroke_10 : decode cX6_cancelStroke 10 = .ok (.ireturn, 1) := by decide +kernel
theorem dX6_cancelStroke_11 : decode cX6_cancelStroke 11 = .ok (.aload_n 0, 1) := by decide +kernel
theorem dX6_cancelStroke_12 : decode cX6_cancelStroke 12 = .ok (.getfield 30, 3) := by decide +kernel
theorem dX6_cancelStroke_15 : decode cX6_cancelStroke 15 = .ok (.iload_n 1, 1) := by decide +kernel
theorem dX6_cancelStroke_16 : decode cX6_cancelStroke 16 = .ok (.iload_n 2, 1) := by decide +kernel
theorem dX6_cancelStroke_17 : decode cX6_cancelStroke 17 = .ok (.invokevirtual 141, 3) := by decide +kernel
theorem dX6_cancelStroke_20 : decode cX6_cancelStroke 20 = .ok (.istore_n 3, 1) := by decide +kernel
theorem dX6_cancelStroke_21 : decode cX6_cancelStroke 21 = .ok (.iload_n 3, 1) := by decide +kernel
theorem dX6_cancelStroke_22 : decode cX6_cancelStroke 22 = .ok (.ifCond .ge 6, 3) := by decide +kernel
theorem dX6_cancelStroke_25 : decode cX6_cancelStroke 25 = .ok (.bipush (-2), 2) := by decide +kernel
theorem dX6_cancelStroke_27 : decode cX6_cancelStroke 27 = .ok (.ireturn, 1) := by decide +kernel
theorem dX6_cancelStroke_28 : decode cX6_cancelStroke 28 = .ok (.aload_n 0, 1) := by decide +kernel
theorem dX6_cancelStroke_29 : decode cX6_cancelStroke 29 = .ok (.getfield 30, 3) := by decide +kernel
theorem dX6_cancelStroke_32 : decode cX6_cancelStroke 32 = .ok (.getfield 145, 3) := by decide +kernel
theorem dX6_cancelStroke_35 : decode cX6_cancelStroke 35 = .ok (.iload_n 3, 1) := by decide +kernel
theorem dX6_cancelStroke_36 : decode cX6_cancelStroke 36 = .ok (.iaload, 1) := by decide +kernel
theorem dX6_cancelStroke_37 : decode cX6_cancelStroke 37 = .ok (.aload_n 0, 1) := by decide +kernel
theorem dX6_cancelStroke_38 : decode cX6_cancelStroke 38 = .ok (.getfield 73, 3) := by decide +kernel
theorem dX6_cancelStroke_41 : decode cX6_cancelStroke 41 = .ok (.if_icmp .gt 6, 3) := by decide +kernel
theorem dX6_cancelStroke_44 : decode cX6_cancelStroke 44 = .ok (.bipush (-5), 2) := by decide +kernel
theorem dX6_cancelStroke_46 : decode cX6_cancelStroke 46 = .ok (.ireturn, 1) := by decide +kernel
theorem dX6_cancelStroke_47 : decode cX6_cancelStroke 47 = .ok (.aload_n 0, 1) := by decide +kernel
theorem dX6_cancelStroke_48 : decode cX6_cancelStroke 48 = .ok (.getfield 30, 3) := by decide +kernel
theorem dX6_cancelStroke_51 : decode cX6_cancelStroke 51 = .ok (.iload_n 3, 1) := by decide +kernel
theorem dX6_cancelStroke_52 : decode cX6_cancelStroke 52 = .ok (.invokevirtual 148, 3) := by decide +kernel
theorem dX6_cancelStroke_55 : decode cX6_cancelStroke 55 = .ok (.aload_n 0, 1) := by decide +kernel
theorem dX6_cancelStroke_56 : decode cX6_cancelStroke 56 = .ok (.getfield 30, 3) := by decide +kernel
theorem dX6_cancelStroke_59 : decode cX6_cancelStroke 59 = .ok (.getfield 152, 3) := by decide +kernel
theorem dX6_cancelStroke_62 : decode cX6_cancelStroke 62 = .ok (.ireturn, 1) := by decide +kernel
theorem dX6_scheduledCount_0 : decode cX6_scheduledCount 0 = .ok (.aload_n 0, 1) := by decide +kernel
theorem dX6_scheduledCount_1 : decode cX6_scheduledCount 1 = .ok (.getfield 30, 3) := by decide +kernel
theorem dX6_scheduledCount_4 : decode cX6_scheduledCount 4 = .ok (.getfield 152, 3) := by decide +kernel
theorem dX6_scheduledCount_7 : decode cX6_scheduledCount 7 = .ok (.ireturn, 1) := by decide +kernel
theorem dX6_nextStroke_0 : decode cX6_nextStroke 0 = .ok (.aload_n 0, 1) := by decide +kernel
theorem dX6_nextStroke_1 : decode cX6_nextStroke 1 = .ok (.iload_n 1, 1) := by decide +kernel
theorem dX6_nextStroke_2 : decode cX6_nextStroke 2 = .ok (.invokevirtual 103, 3) := by decide +kernel
theorem dX6_nextStroke_5 : decode cX6_nextStroke 5 = .ok (.ifCond .eq 14, 3) := by decide +kernel
theorem dX6_nextStroke_8 : decode cX6_nextStroke 8 = .ok (.aload_n 0, 1) := by decide +kernel
theorem dX6_nextStroke_9 : decode cX6_nextStroke 9 = .ok (.getfield 30, 3) := by decide +kernel
theorem dX6_nextStroke_12 : decode cX6_nextStroke 12 = .ok (.iload_n 1, 1) := by decide +kernel
theorem dX6_nextStroke_13 : decode cX6_nextStroke 13 = .ok (.invokevirtual 155, 3) := by decide +kernel
theorem dX6_nextStroke_16 : decode cX6_nextStroke 16 = .ok (.goto 5, 3) := by decide +kernel
theorem dX6_nextStroke_19 : decode cX6_nextStroke 19 = .ok (.bipush (-2), 2) := by decide +kernel
theorem dX6_nextStroke_21 : decode cX6_nextStroke 21 = .ok (.ireturn, 1) := by decide +kernel
theorem dX6_commandTime_0 : decode cX6_commandTime 0 = .ok (.iload_n 1, 1) := by decide +kernel
theorem dX6_commandTime_1 : decode cX6_commandTime 1 = .ok (.ifCond .ge 6, 3) := by decide +kernel
theorem dX6_commandTime_4 : decode cX6_commandTime 4 = .ok (.bipush (-3), 2) := by decide +kernel
theorem dX6_commandTime_6 : decode cX6_commandTime 6 = .ok (.ireturn, 1) := by decide +kernel
theorem dX6_commandTime_7 : decode cX6_commandTime 7 = .ok (.iload_n 1, 1) := by decide +kernel
theorem dX6_commandTime_8 : decode cX6_commandTime 8 = .ok (.aload_n 0, 1) := by decide +kernel
theorem dX6_commandTime_9 : decode cX6_commandTime 9 = .ok (.getfield 30, 3) := by decide +kernel
theorem dX6_commandTime_12 : decode cX6_commandTime 12 = .ok (.getfield 152, 3) := by decide +kernel
theorem dX6_commandTime_15 : decode cX6_commandTime 15 = .ok (.if_icmp .ge 15, 3) := by decide +kernel
theorem dX6_commandTime_18 : decode cX6_commandTime 18 = .ok (.aload_n 0, 1) := by decide +kernel
theorem dX6_commandTime_19 : decode cX6_commandTime 19 = .ok (.getfield 30, 3) := by decide +kernel
theorem dX6_commandTime_22 : decode cX6_commandTime 22 = .ok (.getfield 145, 3) := by decide +kernel
theorem dX6_commandTime_25 : decode cX6_commandTime 25 = .ok (.iload_n 1, 1) := by decide +kernel
theorem dX6_commandTime_26 : decode cX6_commandTime 26 = .ok (.iaload, 1) := by decide +kernel
theorem dX6_commandTime_27 : decode cX6_commandTime 27 = .ok (.goto 4, 3) := by decide +kernel
theorem dX6_commandTime_30 : decode cX6_commandTime 30 = .ok (.iconst (-1), 1) := by decide +kernel
theorem dX6_commandTime_31 : decode cX6_commandTime 31 = .ok (.ireturn, 1) := by decide +kernel
theorem dX6_commandBell_0 : decode cX6_commandBell 0 = .ok (.iload_n 1, 1) := by decide +kernel
theorem dX6_commandBell_1 : decode cX6_commandBell 1 = .ok (.ifCond .ge 6, 3) := by decide +kernel
theorem dX6_commandBell_4 : decode cX6_commandBell 4 = .ok (.bipush (-3), 2) := by decide +kernel
theorem dX6_commandBell_6 : decode cX6_commandBell 6 = .ok (.ireturn, 1) := by decide +kernel
theorem dX6_commandBell_7 : decode cX6_commandBell 7 = .ok (.iload_n 1, 1) := by decide +kernel
theorem dX6_commandBell_8 : decode cX6_commandBell 8 = .ok (.aload_n 0, 1) := by decide +kernel
theorem dX6_commandBell_9 : decode cX6_commandBell 9 = .ok (.getfield 30, 3) := by decide +kernel
theorem dX6_commandBell_12 : decode cX6_commandBell 12 = .ok (.getfield 152, 3) := by decide +kernel
theorem dX6_commandBell_15 : decode cX6_commandBell 15 = .ok (.if_icmp .ge 15, 3) := by decide +kernel
theorem dX6_commandBell_18 : decode cX6_commandBell 18 = .ok (.aload_n 0, 1) := by decide +kernel
theorem dX6_commandBell_19 : decode cX6_commandBell 19 = .ok (.getfield 30, 3) := by decide +kernel
theorem dX6_commandBell_22 : decode cX6_commandBell 22 = .ok (.getfield 158, 3) := by decide +kernel
theorem dX6_commandBell_25 : decode cX6_commandBell 25 = .ok (.iload_n 1, 1) := by decide +kernel
theorem dX6_commandBell_26 : decode cX6_commandBell 26 = .ok (.iaload, 1) := by decide +kernel
theorem dX6_commandBell_27 : decode cX6_commandBell 27 = .ok (.goto 4, 3) := by decide +kernel
theorem dX6_commandBell_30 : decode cX6_commandBell 30 = .ok (.iconst (-1), 1) := by decide +kernel
theorem dX6_commandBell_31 : decode cX6_commandBell 31 = .ok (.ireturn, 1) := by decide +kernel
theorem dX6_movingHammers_0 : decode cX6_movingHammers 0 = .ok (.iload_n 1, 1) := by decide +kernel
theorem dX6_movingHammers_1 : decode cX6_movingHammers 1 = .ok (.aload_n 0, 1) := by decide +kernel
theorem dX6_movingHammers_2 : decode cX6_movingHammers 2 = .ok (.getfield 73, 3) := by decide +kernel
theorem dX6_movingHammers_5 : decode cX6_movingHammers 5 = .ok (.ldc 107, 2) := by decide +kernel
theorem dX6_movingHammers_7 : decode cX6_movingHammers 7 = .ok (.invokestatic 87, 3) := by decide +kernel
theorem dX6_movingHammers_10 : decode cX6_movingHammers 10 = .ok (.ifCond .eq 8, 3) := by decide +kernel
theorem dX6_movingHammers_13 : decode cX6_movingHammers 13 = .ok (.bipush (-3), 2) := by decide +kernel
theorem dX6_movingHammers_15 : decode cX6_movingHammers 15 = .ok (.goto 11, 3) := by decide +kernel
theorem dX6_movingHammers_18 : decode cX6_movingHammers 18 = .ok (.aload_n 0, 1) := by decide +kernel
theorem dX6_movingHammers_19 : decode cX6_movingHammers 19 = .ok (.getfield 30, 3) := by decide +kernel
theorem dX6_movingHammers_22 : decode cX6_movingHammers 22 = .ok (.iload_n 1, 1) := by decide +kernel
theorem dX6_movingHammers_23 : decode cX6_movingHammers 23 = .ok (.invokevirtual 159, 3) := by decide +kernel
theorem dX6_movingHammers_26 : decode cX6_movingHammers 26 = .ok (.ireturn, 1) := by decide +kernel
theorem dX6_earliestStroke_0 : decode cX6_earliestStroke 0 = .ok (.aload_n 0, 1) := by decide +kernel
theorem dX6_earliestStroke_1 : decode cX6_earliestStroke 1 = .ok (.iload_n 1, 1) := by decide +kernel
theorem dX6_earliestStroke_2 : decode cX6_earliestStroke 2 = .ok (.invokevirtual 103, 3) := by decide +kernel
theorem dX6_earliestStroke_5 : decode cX6_earliestStroke 5 = .ok (.ifCond .ne 6, 3) := by decide +kernel
theorem dX6_earliestStroke_8 : decode cX6_earliestStroke 8 = .ok (.bipush (-2), 2) := by decide +kernel
theorem dX6_earliestStroke_10 : decode cX6_earliestStroke 10 = .ok (.ireturn, 1) := by decide +kernel
theorem dX6_earliestStroke_11 : decode cX6_earliestStroke 11 = .ok (.iload_n 2, 1) := by decide +kernel
theorem dX6_earliestStroke_12 : decode cX6_earliestStroke 12 = .ok (.iconst 0, 1) := by decide +kernel
theorem dX6_earliestStroke_13 : decode cX6_earliestStroke 13 = .ok (.ldc 107, 2) := by decide +kernel
theorem dX6_earliestStroke_15 : decode cX6_earliestStroke 15 = .ok (.invokestatic 87, 3) := by decide +kernel
theorem dX6_earliestStroke_18 : decode cX6_earliestStroke 18 = .ok (.ifCond .eq 6, 3) := by decide +kernel
theorem dX6_earliestStroke_21 : decode cX6_earliestStroke 21 = .ok (.bipush (-3), 2) := by decide +kernel
theorem dX6_earliestStroke_23 : decode cX6_earliestStroke 23 = .ok (.ireturn, 1) := by decide +kernel
theorem dX6_earliestStroke_24 : decode cX6_earliestStroke 24 = .ok (.aload_n 0, 1) := by decide +kernel
theorem dX6_earliestStroke_25 : decode cX6_earliestStroke 25 = .ok (.getfield 11, 3) := by decide +kernel
theorem dX6_earliestStroke_28 : decode cX6_earliestStroke 28 = .ok (.iload_n 1, 1) := by decide +kernel
theorem dX6_earliestStroke_29 : decode cX6_earliestStroke 29 = .ok (.aaload, 1) := by decide +kernel
theorem dX6_earliestStroke_30 : decode cX6_earliestStroke 30 = .ok (.getfield 162, 3) := by decide +kernel
theorem dX6_earliestStroke_33 : decode cX6_earliestStroke 33 = .ok (.ifCond .eq 6, 3) := by decide +kernel
theorem dX6_earliestStroke_36 : decode cX6_earliestStroke 36 = .ok (.bipush (-6), 2) := by decide +kernel
theorem dX6_earliestStroke_38 : decode cX6_earliestStroke 38 = .ok (.ireturn, 1) := by decide +kernel
theorem dX6_earliestStroke_39 : decode cX6_earliestStroke 39 = .ok (.aload_n 0, 1) := by decide +kernel
theorem dX6_earliestStroke_40 : decode cX6_earliestStroke 40 = .ok (.getfield 30, 3) := by decide +kernel
theorem dX6_earliestStroke_43 : decode cX6_earliestStroke 43 = .ok (.invokevirtual 166, 3) := by decide +kernel
theorem dX6_earliestStroke_46 : decode cX6_earliestStroke 46 = .ok (.ifCond .eq 6, 3) := by decide +kernel
theorem dX6_earliestStroke_49 : decode cX6_earliestStroke 49 = .ok (.bipush (-4), 2) := by decide +kernel
theorem dX6_earliestStroke_51 : decode cX6_earliestStroke 51 = .ok (.ireturn, 1) := by decide +kernel
theorem dX6_earliestStroke_52 : decode cX6_earliestStroke 52 = .ok (.iload_n 2, 1) := by decide +kernel
theorem dX6_earliestStroke_53 : decode cX6_earliestStroke 53 = .ok (.sipush 2000, 3) := by decide +kernel
theorem dX6_earliestStroke_56 : decode cX6_earliestStroke 56 = .ok (.iadd, 1) := by decide +kernel
theorem dX6_earliestStroke_57 : decode cX6_earliestStroke 57 = .ok (.ldc 107, 2) := by decide +kernel
theorem dX6_earliestStroke_59 : decode cX6_earliestStroke 59 = .ok (.invokestatic 170, 3) := by decide +kernel
theorem dX6_earliestStroke_62 : decode cX6_earliestStroke 62 = .ok (.istore_n 3, 1) := by decide +kernel
theorem dX6_earliestStroke_63 : decode cX6_earliestStroke 63 = .ok (.iload_n 2, 1) := by decide +kernel
theorem dX6_earliestStroke_64 : decode cX6_earliestStroke 64 = .ok (.istore 4, 2) := by decide +kernel
theorem dX6_earliestStroke_66 : decode cX6_earliestStroke 66 = .ok (.iload 4, 2) := by decide +kernel
theorem dX6_earliestStroke_68 : decode cX6_earliestStroke 68 = .ok (.iload_n 3, 1) := by decide +kernel
theorem dX6_earliestStroke_69 : decode cX6_earliestStroke 69 = .ok (.if_icmp .gt 26, 3) := by decide +kernel
theorem dX6_earliestStroke_72 : decode cX6_earliestStroke 72 = .ok (.aload_n 0, 1) := by decide +kernel
theorem dX6_earliestStroke_73 : decode cX6_earliestStroke 73 = .ok (.aload_n 0, 1) := by decide +kernel
theorem dX6_earliestStroke_74 : decode cX6_earliestStroke 74 = .ok (.getfield 30, 3) := by decide +kernel
theorem dX6_earliestStroke_77 : decode cX6_earliestStroke 77 = .ok (.iload_n 1, 1) := by decide +kernel
theorem dX6_earliestStroke_78 : decode cX6_earliestStroke 78 = .ok (.iload 4, 2) := by decide +kernel
theorem dX6_earliestStroke_80 : decode cX6_earliestStroke 80 = .ok (.invokevirtual 133, 3) := by decide +kernel
theorem dX6_earliestStroke_83 : decode cX6_earliestStroke 83 = .ok (.ifCond .ne 6, 3) := by decide +kernel
theorem dX6_earliestStroke_86 : decode cX6_earliestStroke 86 = .ok (.iload 4, 2) := by decide +kernel
theorem dX6_earliestStroke_88 : decode cX6_earliestStroke 88 = .ok (.ireturn, 1) := by decide +kernel
theorem dX6_earliestStroke_89 : decode cX6_earliestStroke 89 = .ok (.iinc 4 1, 3) := by decide +kernel
theorem dX6_earliestStroke_92 : decode cX6_earliestStroke 92 = .ok (.goto (-26), 3) := by decide +kernel
theorem dX6_earliestStroke_95 : decode cX6_earliestStroke 95 = .ok (.iconst (-1), 1) := by decide +kernel
theorem dX6_earliestStroke_96 : decode cX6_earliestStroke 96 = .ok (.ireturn, 1) := by decide +kernel
theorem dX6_appendBytes_0 : decode cX6_appendBytes 0 = .ok (.aload_n 0, 1) := by decide +kernel
theorem dX6_appendBytes_1 : decode cX6_appendBytes 1 = .ok (.getfield 40, 3) := by decide +kernel
theorem dX6_appendBytes_4 : decode cX6_appendBytes 4 = .ok (.getfield 175, 3) := by decide +kernel
theorem dX6_appendBytes_7 : decode cX6_appendBytes 7 = .ok (.bipush 20, 2) := by decide +kernel
theorem dX6_appendBytes_9 : decode cX6_appendBytes 9 = .ok (.iadd, 1) := by decide +kernel
theorem dX6_appendBytes_10 : decode cX6_appendBytes 10 = .ok (.sipush 300, 3) := by decide +kernel
theorem dX6_appendBytes_13 : decode cX6_appendBytes 13 = .ok (.if_icmp .le 6, 3) := by decide +kernel
theorem dX6_appendBytes_16 : decode cX6_appendBytes 16 = .ok (.bipush (-4), 2) := by decide +kernel
theorem dX6_appendBytes_18 : decode cX6_appendBytes 18 = .ok (.ireturn, 1) := by decide +kernel
theorem dX6_appendBytes_19 : decode cX6_appendBytes 19 = .ok (.aload_n 0, 1) := by decide +kernel
theorem dX6_appendBytes_20 : decode cX6_appendBytes 20 = .ok (.getfield 40, 3) := by decide +kernel
theorem dX6_appendBytes_23 : decode cX6_appendBytes 23 = .ok (.iload_n 1, 1) := by decide +kernel
theorem dX6_appendBytes_24 : decode cX6_appendBytes 24 = .ok (.invokevirtual 178, 3) := by decide +kernel
theorem dX6_appendBytes_27 : decode cX6_appendBytes 27 = .ok (.aload_n 0, 1) := by decide +kernel
theorem dX6_appendBytes_28 : decode cX6_appendBytes 28 = .ok (.getfield 40, 3) := by decide +kernel
theorem dX6_appendBytes_31 : decode cX6_appendBytes 31 = .ok (.iload_n 2, 1) := by decide +kernel
theorem dX6_appendBytes_32 : decode cX6_appendBytes 32 = .ok (.invokevirtual 178, 3) := by decide +kernel
theorem dX6_appendBytes_35 : decode cX6_appendBytes 35 = .ok (.aload_n 0, 1) := by decide +kernel
theorem dX6_appendBytes_36 : decode cX6_appendBytes 36 = .ok (.getfield 40, 3) := by decide +kernel
theorem dX6_appendBytes_39 : decode cX6_appendBytes 39 = .ok (.iload_n 3, 1) := by decide +kernel
theorem dX6_appendBytes_40 : decode cX6_appendBytes 40 = .ok (.invokevirtual 178, 3) := by decide +kernel
theorem dX6_appendBytes_43 : decode cX6_appendBytes 43 = .ok (.aload_n 0, 1) := by decide +kernel
theorem dX6_appendBytes_44 : decode cX6_appendBytes 44 = .ok (.getfield 40, 3) := by decide +kernel
theorem dX6_appendBytes_47 : decode cX6_appendBytes 47 = .ok (.iload 4, 2) := by decide +kernel
theorem dX6_appendBytes_49 : decode cX6_appendBytes 49 = .ok (.invokevirtual 178, 3) := by decide +kernel
theorem dX6_appendBytes_52 : decode cX6_appendBytes 52 = .ok (.aload_n 0, 1) := by decide +kernel
theorem dX6_appendBytes_53 : decode cX6_appendBytes 53 = .ok (.getfield 40, 3) := by decide +kernel
theorem dX6_appendBytes_56 : decode cX6_appendBytes 56 = .ok (.iload 5, 2) := by decide +kernel
theorem dX6_appendBytes_58 : decode cX6_appendBytes 58 = .ok (.invokevirtual 178, 3) := by decide +kernel
theorem dX6_appendBytes_61 : decode cX6_appendBytes 61 = .ok (.aload_n 0, 1) := by decide +kernel
theorem dX6_appendBytes_62 : decode cX6_appendBytes 62 = .ok (.getfield 40, 3) := by decide +kernel
theorem dX6_appendBytes_65 : decode cX6_appendBytes 65 = .ok (.getfield 175, 3) := by decide +kernel
theorem dX6_appendBytes_68 : decode cX6_appendBytes 68 = .ok (.ireturn, 1) := by decide +kernel
theorem dX6_loadPattern_0 : decode cX6_loadPattern 0 = .ok (.iload_n 1, 1) := by decide +kernel
theorem dX6_loadPattern_1 : decode cX6_loadPattern 1 = .ok (.invokestatic 181, 3) := by decide +kernel
theorem dX6_loadPattern_4 : decode cX6_loadPattern 4 = .ok (.ifCond .ne 6, 3) := by decide +kernel
theorem dX6_loadPattern_7 : decode cX6_loadPattern 7 = .ok (.bipush (-2), 2) := by decide +kernel
theorem dX6_loadPattern_9 : decode cX6_loadPattern 9 = .ok (.ireturn, 1) := by decide +kernel
theorem dX6_loadPattern_10 : decode cX6_loadPattern 10 = .ok (.iload_n 2, 1) := by decide +kernel
theorem dX6_loadPattern_11 : decode cX6_loadPattern 11 = .ok (.iconst 0, 1) := by decide +kernel
theorem dX6_loadPattern_12 : decode cX6_loadPattern 12 = .ok (.aload_n 0, 1) := by decide +kernel
theorem dX6_loadPattern_13 : decode cX6_loadPattern 13 = .ok (.getfield 40, 3) := by decide +kernel
theorem dX6_loadPattern_16 : decode cX6_loadPattern 16 = .ok (.getfield 175, 3) := by decide +kernel
theorem dX6_loadPattern_19 : decode cX6_loadPattern 19 = .ok (.invokestatic 87, 3) := by decide +kernel
theorem dX6_loadPattern_22 : decode cX6_loadPattern 22 = .ok (.ifCond .eq 6, 3) := by decide +kernel
theorem dX6_loadPattern_25 : decode cX6_loadPattern 25 = .ok (.bipush (-3), 2) := by decide +kernel
theorem dX6_loadPattern_27 : decode cX6_loadPattern 27 = .ok (.ireturn, 1) := by decide +kernel
theorem dX6_loadPattern_28 : decode cX6_loadPattern 28 = .ok (.aload_n 0, 1) := by decide +kernel
theorem dX6_loadPattern_29 : decode cX6_loadPattern 29 = .ok (.getfield 40, 3) := by decide +kernel
theorem dX6_loadPattern_32 : decode cX6_loadPattern 32 = .ok (.iload_n 2, 1) := by decide +kernel
theorem dX6_loadPattern_33 : decode cX6_loadPattern 33 = .ok (.invokevirtual 184, 3) := by decide +kernel
theorem dX6_loadPattern_36 : decode cX6_loadPattern 36 = .ok (.aload_n 0, 1) := by decide +kernel
theorem dX6_loadPattern_37 : decode cX6_loadPattern 37 = .ok (.getfield 40, 3) := by decide +kernel
theorem dX6_loadPattern_40 : decode cX6_loadPattern 40 = .ok (.iconst 0, 1) := by decide +kernel
theorem dX6_loadPattern_41 : decode cX6_loadPattern 41 = .ok (.putfield 175, 3) := by decide +kernel
theorem dX6_loadPattern_44 : decode cX6_loadPattern 44 = .ok (.aload_n 0, 1) := by decide +kernel
theorem dX6_loadPattern_45 : decode cX6_loadPattern 45 = .ok (.getfield 40, 3) := by decide +kernel
theorem dX6_loadPattern_48 : decode cX6_loadPattern 48 = .ok (.getfield 187, 3) := by decide +kernel
theorem dX6_loadPattern_51 : decode cX6_loadPattern 51 = .ok (.ifCond .eq 14, 3) := by decide +kernel
theorem dX6_loadPattern_54 : decode cX6_loadPattern 54 = .ok (.bipush (-30), 2) := by decide +kernel
theorem dX6_loadPattern_56 : decode cX6_loadPattern 56 = .ok (.aload_n 0, 1) := by decide +kernel
theorem dX6_loadPattern_57 : decode cX6_loadPattern 57 = .ok (.getfield 40, 3) := by decide +kernel
theorem dX6_loadPattern_60 : decode cX6_loadPattern 60 = .ok (.getfield 187, 3) := by decide +kernel
theorem dX6_loadPattern_63 : decode cX6_loadPattern 63 = .ok (.isub, 1) := by decide +kernel
theorem dX6_loadPattern_64 : decode cX6_loadPattern 64 = .ok (.ireturn, 1) := by decide +kernel
theorem dX6_loadPattern_65 : decode cX6_loadPattern 65 = .ok (.aload_n 0, 1) := by decide +kernel
theorem dX6_loadPattern_66 : decode cX6_loadPattern 66 = .ok (.getfield 46, 3) := by decide +kernel
theorem dX6_loadPattern_69 : decode cX6_loadPattern 69 = .ok (.iload_n 1, 1) := by decide +kernel
theorem dX6_loadPattern_70 : decode cX6_loadPattern 70 = .ok (.aaload, 1) := by decide +kernel
theorem dX6_loadPattern_71 : decode cX6_loadPattern 71 = .ok (.astore_n 3, 1) := by decide +kernel
theorem dX6_loadPattern_72 : decode cX6_loadPattern 72 = .ok (.aload_n 0, 1) := by decide +kernel
theorem dX6_loadPattern_73 : decode cX6_loadPattern 73 = .ok (.getfield 40, 3) := by decide +kernel
theorem dX6_loadPattern_76 : decode cX6_loadPattern 76 = .ok (.getfield 190, 3) := by decide +kernel
theorem dX6_loadPattern_79 : decode cX6_loadPattern 79 = .ok (.iconst 0, 1) := by decide +kernel
theorem dX6_loadPattern_80 : decode cX6_loadPattern 80 = .ok (.aload_n 3, 1) := by decide +kernel
theorem dX6_loadPattern_81 : decode cX6_loadPattern 81 = .ok (.getfield 193, 3) := by decide +kernel
theorem dX6_loadPattern_84 : decode cX6_loadPattern 84 = .ok (.iconst 0, 1) := by decide +kernel
theorem dX6_loadPattern_85 : decode cX6_loadPattern 85 = .ok (.aload_n 0, 1) := by decide +kernel
theorem dX6_loadPattern_86 : decode cX6_loadPattern 86 = .ok (.getfield 40, 3) := by decide +kernel
theorem dX6_loadPattern_89 : decode cX6_loadPattern 89 = .ok (.getfield 194, 3) := by decide +kernel
theorem dX6_loadPattern_92 : decode cX6_loadPattern 92 = .ok (.invokestatic 195, 3) := by decide +kernel
theorem dX6_loadPattern_95 : decode cX6_loadPattern 95 = .ok (.aload_n 3, 1) := by decide +kernel
theorem dX6_loadPattern_96 : decode cX6_loadPattern 96 = .ok (.aload_n 0, 1) := by decide +kernel
theorem dX6_loadPattern_97 : decode cX6_loadPattern 97 = .ok (.getfield 40, 3) := by decide +kernel
theorem dX6_loadPattern_100 : decode cX6_loadPattern 100 = .ok (.getfield 194, 3) := by decide +kernel
theorem dX6_loadPattern_103 : decode cX6_loadPattern 103 = .ok (.putfield 201, 3) := by decide +kernel
theorem dX6_loadPattern_106 : decode cX6_loadPattern 106 = .ok (.aload_n 3, 1) := by decide +kernel
theorem dX6_loadPattern_107 : decode cX6_loadPattern 107 = .ok (.getfield 201, 3) := by decide +kernel
theorem dX6_loadPattern_110 : decode cX6_loadPattern 110 = .ok (.ireturn, 1) := by decide +kernel
theorem dX6_patternError_0 : decode cX6_patternError 0 = .ok (.aload_n 0, 1) := by decide +kernel
theorem dX6_patternError_1 : decode cX6_patternError 1 = .ok (.getfield 40, 3) := by decide +kernel
theorem dX6_patternError_4 : decode cX6_patternError 4 = .ok (.getfield 187, 3) := by decide +kernel
theorem dX6_patternError_7 : decode cX6_patternError 7 = .ok (.ireturn, 1) := by decide +kernel
theorem dX6_patternErrorPosition_0 : decode cX6_patternErrorPosition 0 = .ok (.aload_n 0, 1) := by decide +kernel
theorem dX6_patternErrorPosition_1 : decode cX6_patternErrorPosition 1 = .ok (.getfield 40, 3) := by decide +kernel
theorem dX6_patternErrorPosition_4 : decode cX6_patternErrorPosition 4 = .ok (.getfield 202, 3) := by decide +kernel
theorem dX6_patternErrorPosition_7 : decode cX6_patternErrorPosition 7 = .ok (.ireturn, 1) := by decide +kernel
theorem dX6_stepBells_0 : decode cX6_stepBells 0 = .ok (.iload_n 1, 1) := by decide +kernel
theorem dX6_stepBells_1 : decode cX6_stepBells 1 = .ok (.invokestatic 181, 3) := by decide +kernel
theorem dX6_stepBells_4 : decode cX6_stepBells 4 = .ok (.ifCond .ne 6, 3) := by decide +kernel
theorem dX6_stepBells_7 : decode cX6_stepBells 7 = .ok (.bipush (-2), 2) := by decide +kernel
theorem dX6_stepBells_9 : decode cX6_stepBells 9 = .ok (.ireturn, 1) := by decide +kernel
theorem dX6_stepBells_10 : decode cX6_stepBells 10 = .ok (.aload_n 0, 1) := by decide +kernel
theorem dX6_stepBells_11 : decode cX6_stepBells 11 = .ok (.getfield 46, 3) := by decide +kernel
theorem dX6_stepBells_14 : decode cX6_stepBells 14 = .ok (.iload_n 1, 1) := by decide +kernel
theorem dX6_stepBells_15 : decode cX6_stepBells 15 = .ok (.aaload, 1) := by decide +kernel
theorem dX6_stepBells_16 : decode cX6_stepBells 16 = .ok (.astore_n 3, 1) := by decide +kernel
theorem dX6_stepBells_17 : decode cX6_stepBells 17 = .ok (.aload_n 3, 1) := by decide +kernel
theorem dX6_stepBells_18 : decode cX6_stepBells 18 = .ok (.invokevirtual 205, 3) := by decide +kernel
theorem dX6_stepBells_21 : decode cX6_stepBells 21 = .ok (.ifCond .eq 6, 3) := by decide +kernel
theorem dX6_stepBells_24 : decode cX6_stepBells 24 = .ok (.bipush (-9), 2) := by decide +kernel
theorem dX6_stepBells_26 : decode cX6_stepBells 26 = .ok (.ireturn, 1) := by decide +kernel
theorem dX6_stepBells_27 : decode cX6_stepBells 27 = .ok (.iload_n 2, 1) := by decide +kernel
theorem dX6_stepBells_28 : decode cX6_stepBells 28 = .ok (.ifCond .lt 11, 3) := by decide +kernel
theorem dX6_stepBells_31 : decode cX6_stepBells 31 = .ok (.iload_n 2, 1) := by decide +kernel
theorem dX6_stepBells_32 : decode cX6_stepBells 32 = .ok (.aload_n 3, 1) := by decide +kernel
theorem dX6_stepBells_33 : decode cX6_stepBells 33 = .ok (.getfield 201, 3) := by decide +kernel
theorem dX6_stepBells_36 : decode cX6_stepBells 36 = .ok (.if_icmp .lt 7, 3) := by decide +kernel
theorem dX6_stepBells_39 : decode cX6_stepBells 39 = .ok (.iconst (-1), 1) := by decide +kernel
theorem dX6_stepBells_40 : decode cX6_stepBells 40 = .ok (.goto 9, 3) := by decide +kernel
theorem dX6_stepBells_43 : decode cX6_stepBells 43 = .ok (.aload_n 3, 1) := by decide +kernel
theorem dX6_stepBells_44 : decode cX6_stepBells 44 = .ok (.getfield 193, 3) := by decide +kernel
theorem dX6_stepBells_47 : decode cX6_stepBells 47 = .ok (.iload_n 2, 1) := by decide +kernel
theorem dX6_stepBells_48 : decode cX6_stepBells 48 = .ok (.iaload, 1) := by decide +kernel
theorem dX6_stepBells_49 : decode cX6_stepBells 49 = .ok (.ireturn, 1) := by decide +kernel
theorem dX6_patternStrokes_0 : decode cX6_patternStrokes 0 = .ok (.iload_n 1, 1) := by decide +kernel
theorem dX6_patternStrokes_1 : decode cX6_patternStrokes 1 = .ok (.invokestatic 181, 3) := by decide +kernel
theorem dX6_patternStrokes_4 : decode cX6_patternStrokes 4 = .ok (.ifCond .ne 6, 3) := by decide +kernel
theorem dX6_patternStrokes_7 : decode cX6_patternStrokes 7 = .ok (.bipush (-2), 2) := by decide +kernel
theorem dX6_patternStrokes_9 : decode cX6_patternStrokes 9 = .ok (.ireturn, 1) := by decide +kernel
theorem dX6_patternStrokes_10 : decode cX6_patternStrokes 10 = .ok (.aload_n 0, 1) := by decide +kernel
theorem dX6_patternStrokes_11 : decode cX6_patternStrokes 11 = .ok (.getfield 46, 3) := by decide +kernel
theorem dX6_patternStrokes_14 : decode cX6_patternStrokes 14 = .ok (.iload_n 1, 1) := by decide +kernel
theorem dX6_patternStrokes_15 : decode cX6_patternStrokes 15 = .ok (.aaload, 1) := by decide +kernel
theorem dX6_patternStrokes_16 : decode cX6_patternStrokes 16 = .ok (.astore_n 2, 1) := by decide +kernel
theorem dX6_patternStrokes_17 : decode cX6_patternStrokes 17 = .ok (.aload_n 2, 1) := by decide +kernel
theorem dX6_patternStrokes_18 : decode cX6_patternStrokes 18 = .ok (.invokevirtual 205, 3) := by decide +kernel
theorem dX6_patternStrokes_21 : decode cX6_patternStrokes 21 = .ok (.ifCond .eq 8, 3) := by decide +kernel
theorem dX6_patternStrokes_24 : decode cX6_patternStrokes 24 = .ok (.bipush (-9), 2) := by decide +kernel
theorem dX6_patternStrokes_26 : decode cX6_patternStrokes 26 = .ok (.goto 11, 3) := by decide +kernel
theorem dX6_patternStrokes_29 : decode cX6_patternStrokes 29 = .ok (.aload_n 2, 1) := by decide +kernel
theorem dX6_patternStrokes_30 : decode cX6_patternStrokes 30 = .ok (.aload_n 0, 1) := by decide +kernel
theorem dX6_patternStrokes_31 : decode cX6_patternStrokes 31 = .ok (.invokevirtual 208, 3) := by decide +kernel
theorem dX6_patternStrokes_34 : decode cX6_patternStrokes 34 = .ok (.invokevirtual 211, 3) := by decide +kernel
theorem dX6_patternStrokes_37 : decode cX6_patternStrokes 37 = .ok (.ireturn, 1) := by decide +kernel
theorem dX6_play_0 : decode cX6_play 0 = .ok (.iload_n 1, 1) := by decide +kernel
theorem dX6_play_1 : decode cX6_play 1 = .ok (.invokestatic 181, 3) := by decide +kernel
theorem dX6_play_4 : decode cX6_play 4 = .ok (.ifCond .ne 6, 3) := by decide +kernel
theorem dX6_play_7 : decode cX6_play 7 = .ok (.bipush (-2), 2) := by decide +kernel
theorem dX6_play_9 : decode cX6_play 9 = .ok (.ireturn, 1) := by decide +kernel
theorem dX6_play_10 : decode cX6_play 10 = .ok (.aload_n 0, 1) := by decide +kernel
theorem dX6_play_11 : decode cX6_play 11 = .ok (.getfield 46, 3) := by decide +kernel
theorem dX6_play_14 : decode cX6_play 14 = .ok (.iload_n 1, 1) := by decide +kernel
theorem dX6_play_15 : decode cX6_play 15 = .ok (.aaload, 1) := by decide +kernel
theorem dX6_play_16 : decode cX6_play 16 = .ok (.invokevirtual 205, 3) := by decide +kernel
theorem dX6_play_19 : decode cX6_play 19 = .ok (.ifCond .eq 6, 3) := by decide +kernel
theorem dX6_play_22 : decode cX6_play 22 = .ok (.bipush (-9), 2) := by decide +kernel
theorem dX6_play_24 : decode cX6_play 24 = .ok (.ireturn, 1) := by decide +kernel
theorem dX6_play_25 : decode cX6_play 25 = .ok (.iload_n 2, 1) := by decide +kernel
theorem dX6_play_26 : decode cX6_play 26 = .ok (.iconst 0, 1) := by decide +kernel
theorem dX6_play_27 : decode cX6_play 27 = .ok (.ldc 107, 2) := by decide +kernel
theorem dX6_play_29 : decode cX6_play 29 = .ok (.invokestatic 87, 3) := by decide +kernel
theorem dX6_play_32 : decode cX6_play 32 = .ok (.ifCond .ne 14, 3) := by decide +kernel
theorem dX6_play_35 : decode cX6_play 35 = .ok (.iload_n 3, 1) := by decide +kernel
theorem dX6_play_36 : decode cX6_play 36 = .ok (.iconst 1, 1) := by decide +kernel
theorem dX6_play_37 : decode cX6_play 37 = .ok (.sipush 200, 3) := by decide +kernel
theorem dX6_play_40 : decode cX6_play 40 = .ok (.invokestatic 87, 3) := by decide +kernel
theorem dX6_play_43 : decode cX6_play 43 = .ok (.ifCond .eq 6, 3) := by decide +kernel
theorem dX6_play_46 : decode cX6_play 46 = .ok (.bipush (-3), 2) := by decide +kernel
theorem dX6_play_48 : decode cX6_play 48 = .ok (.ireturn, 1) := by decide +kernel
theorem dX6_play_49 : decode cX6_play 49 = .ok (.aload_n 0, 1) := by decide +kernel
theorem dX6_play_50 : decode cX6_play 50 = .ok (.aload_n 0, 1) := by decide +kernel
theorem dX6_play_51 : decode cX6_play 51 = .ok (.getfield 46, 3) := by decide +kernel
theorem dX6_play_54 : decode cX6_play 54 = .ok (.iload_n 1, 1) := by decide +kernel
theorem dX6_play_55 : decode cX6_play 55 = .ok (.aaload, 1) := by decide +kernel
theorem dX6_play_56 : decode cX6_play 56 = .ok (.iload_n 2, 1) := by decide +kernel
theorem dX6_play_57 : decode cX6_play 57 = .ok (.iload_n 3, 1) := by decide +kernel
theorem dX6_play_58 : decode cX6_play 58 = .ok (.invokevirtual 214, 3) := by decide +kernel
theorem dX6_play_61 : decode cX6_play 61 = .ok (.istore 4, 2) := by decide +kernel
theorem dX6_play_63 : decode cX6_play 63 = .ok (.iload 4, 2) := by decide +kernel
theorem dX6_play_65 : decode cX6_play 65 = .ok (.ifCond .lt 14, 3) := by decide +kernel
theorem dX6_play_68 : decode cX6_play 68 = .ok (.aload_n 0, 1) := by decide +kernel
theorem dX6_play_69 : decode cX6_play 69 = .ok (.getfield 30, 3) := by decide +kernel
theorem dX6_play_72 : decode cX6_play 72 = .ok (.aload_n 0, 1) := by decide +kernel
theorem dX6_play_73 : decode cX6_play 73 = .ok (.getfield 34, 3) := by decide +kernel
theorem dX6_play_76 : decode cX6_play 76 = .ok (.invokevirtual 218, 3) := by decide +kernel
theorem dX6_play_79 : decode cX6_play 79 = .ok (.iload 4, 2) := by decide +kernel
theorem dX6_play_81 : decode cX6_play 81 = .ok (.ireturn, 1) := by decide +kernel
theorem dX6_weave_0 : decode cX6_weave 0 = .ok (.iload_n 1, 1) := by decide +kernel
theorem dX6_weave_1 : decode cX6_weave 1 = .ok (.invokestatic 181, 3) := by decide +kernel
theorem dX6_weave_4 : decode cX6_weave 4 = .ok (.ifCond .ne 6, 3) := by decide +kernel
theorem dX6_weave_7 : decode cX6_weave 7 = .ok (.bipush (-2), 2) := by decide +kernel
theorem dX6_weave_9 : decode cX6_weave 9 = .ok (.ireturn, 1) := by decide +kernel
theorem dX6_weave_10 : decode cX6_weave 10 = .ok (.aload_n 0, 1) := by decide +kernel
theorem dX6_weave_11 : decode cX6_weave 11 = .ok (.getfield 46, 3) := by decide +kernel
theorem dX6_weave_14 : decode cX6_weave 14 = .ok (.iload_n 1, 1) := by decide +kernel
theorem dX6_weave_15 : decode cX6_weave 15 = .ok (.aaload, 1) := by decide +kernel
theorem dX6_weave_16 : decode cX6_weave 16 = .ok (.invokevirtual 205, 3) := by decide +kernel
theorem dX6_weave_19 : decode cX6_weave 19 = .ok (.ifCond .eq 6, 3) := by decide +kernel
theorem dX6_weave_22 : decode cX6_weave 22 = .ok (.bipush (-9), 2) := by decide +kernel
theorem dX6_weave_24 : decode cX6_weave 24 = .ok (.ireturn, 1) := by decide +kernel
theorem dX6_weave_25 : decode cX6_weave 25 = .ok (.iload_n 2, 1) := by decide +kernel
theorem dX6_weave_26 : decode cX6_weave 26 = .ok (.iconst 0, 1) := by decide +kernel
theorem dX6_weave_27 : decode cX6_weave 27 = .ok (.ldc 107, 2) := by decide +kernel
theorem dX6_weave_29 : decode cX6_weave 29 = .ok (.invokestatic 87, 3) := by decide +kernel
theorem dX6_weave_32 : decode cX6_weave 32 = .ok (.ifCond .ne 26, 3) := by decide +kernel
theorem dX6_weave_35 : decode cX6_weave 35 = .ok (.iload_n 3, 1) := by decide +kernel
theorem dX6_weave_36 : decode cX6_weave 36 = .ok (.iconst 1, 1) := by decide +kernel
theorem dX6_weave_37 : decode cX6_weave 37 = .ok (.sipush 200, 3) := by decide +kernel
theorem dX6_weave_40 : decode cX6_weave 40 = .ok (.invokestatic 87, 3) := by decide +kernel
theorem dX6_weave_43 : decode cX6_weave 43 = .ok (.ifCond .ne 15, 3) := by decide +kernel
theorem dX6_weave_46 : decode cX6_weave 46 = .ok (.iload 4, 2) := by decide +kernel
theorem dX6_weave_48 : decode cX6_weave 48 = .ok (.iconst 0, 1) := by decide +kernel
theorem dX6_weave_49 : decode cX6_weave 49 = .ok (.sipush 500, 3) := by decide +kernel
theorem dX6_weave_52 : decode cX6_weave 52 = .ok (.invokestatic 87, 3) := by decide +kernel
theorem dX6_weave_55 : decode cX6_weave 55 = .ok (.ifCond .eq 6, 3) := by decide +kernel
theorem dX6_weave_58 : decode cX6_weave 58 = .ok (.bipush (-3), 2) := by decide +kernel
theorem dX6_weave_60 : decode cX6_weave 60 = .ok (.ireturn, 1) := by decide +kernel
theorem dX6_weave_61 : decode cX6_weave 61 = .ok (.aload_n 0, 1) := by decide +kernel
theorem dX6_weave_62 : decode cX6_weave 62 = .ok (.aload_n 0, 1) := by decide +kernel
theorem dX6_weave_63 : decode cX6_weave 63 = .ok (.getfield 46, 3) := by decide +kernel
theorem dX6_weave_66 : decode cX6_weave 66 = .ok (.iload_n 1, 1) := by decide +kernel
theorem dX6_weave_67 : decode cX6_weave 67 = .ok (.aaload, 1) := by decide +kernel
theorem dX6_weave_68 : decode cX6_weave 68 = .ok (.iload_n 2, 1) := by decide +kernel
theorem dX6_weave_69 : decode cX6_weave 69 = .ok (.iload_n 3, 1) := by decide +kernel
theorem dX6_weave_70 : decode cX6_weave 70 = .ok (.iload 4, 2) := by decide +kernel
theorem dX6_weave_72 : decode cX6_weave 72 = .ok (.invokevirtual 222, 3) := by decide +kernel
theorem dX6_weave_75 : decode cX6_weave 75 = .ok (.ireturn, 1) := by decide +kernel
theorem dX6_fastestTicks_0 : decode cX6_fastestTicks 0 = .ok (.iload_n 1, 1) := by decide +kernel
theorem dX6_fastestTicks_1 : decode cX6_fastestTicks 1 = .ok (.invokestatic 181, 3) := by decide +kernel
theorem dX6_fastestTicks_4 : decode cX6_fastestTicks 4 = .ok (.ifCond .ne 6, 3) := by decide +kernel
theorem dX6_fastestTicks_7 : decode cX6_fastestTicks 7 = .ok (.bipush (-2), 2) := by decide +kernel
theorem dX6_fastestTicks_9 : decode cX6_fastestTicks 9 = .ok (.ireturn, 1) := by decide +kernel
theorem dX6_fastestTicks_10 : decode cX6_fastestTicks 10 = .ok (.aload_n 0, 1) := by decide +kernel
theorem dX6_fastestTicks_11 : decode cX6_fastestTicks 11 = .ok (.getfield 46, 3) := by decide +kernel
theorem dX6_fastestTicks_14 : decode cX6_fastestTicks 14 = .ok (.iload_n 1, 1) := by decide +kernel
theorem dX6_fastestTicks_15 : decode cX6_fastestTicks 15 = .ok (.aaload, 1) := by decide +kernel
theorem dX6_fastestTicks_16 : decode cX6_fastestTicks 16 = .ok (.invokevirtual 205, 3) := by decide +kernel
theorem dX6_fastestTicks_19 : decode cX6_fastestTicks 19 = .ok (.ifCond .eq 6, 3) := by decide +kernel
theorem dX6_fastestTicks_22 : decode cX6_fastestTicks 22 = .ok (.bipush (-9), 2) := by decide +kernel
theorem dX6_fastestTicks_24 : decode cX6_fastestTicks 24 = .ok (.ireturn, 1) := by decide +kernel
theorem dX6_fastestTicks_25 : decode cX6_fastestTicks 25 = .ok (.iconst 1, 1) := by decide +kernel
theorem dX6_fastestTicks_26 : decode cX6_fastestTicks 26 = .ok (.istore_n 2, 1) := by decide +kernel
theorem dX6_fastestTicks_27 : decode cX6_fastestTicks 27 = .ok (.iload_n 2, 1) := by decide +kernel
theorem dX6_fastestTicks_28 : decode cX6_fastestTicks 28 = .ok (.sipush 200, 3) := by decide +kernel
theorem dX6_fastestTicks_31 : decode cX6_fastestTicks 31 = .ok (.if_icmp .gt 25, 3) := by decide +kernel
theorem dX6_fastestTicks_34 : decode cX6_fastestTicks 34 = .ok (.aload_n 0, 1) := by decide +kernel
theorem dX6_fastestTicks_35 : decode cX6_fastestTicks 35 = .ok (.aload_n 0, 1) := by decide +kernel
theorem dX6_fastestTicks_36 : decode cX6_fastestTicks 36 = .ok (.getfield 46, 3) := by decide +kernel
theorem dX6_fastestTicks_39 : decode cX6_fastestTicks 39 = .ok (.iload_n 1, 1) := by decide +kernel
theorem dX6_fastestTicks_40 : decode cX6_fastestTicks 40 = .ok (.aaload, 1) := by decide +kernel
theorem dX6_fastestTicks_41 : decode cX6_fastestTicks 41 = .ok (.iload_n 2, 1) := by decide +kernel
theorem dX6_fastestTicks_42 : decode cX6_fastestTicks 42 = .ok (.invokevirtual 226, 3) := by decide +kernel
theorem dX6_fastestTicks_45 : decode cX6_fastestTicks 45 = .ok (.ifCond .eq 5, 3) := by decide +kernel
theorem dX6_fastestTicks_48 : decode cX6_fastestTicks 48 = .ok (.iload_n 2, 1) := by decide +kernel
theorem dX6_fastestTicks_49 : decode cX6_fastestTicks 49 = .ok (.ireturn, 1) := by decide +kernel
theorem dX6_fastestTicks_50 : decode cX6_fastestTicks 50 = .ok (.iinc 2 1, 3) := by decide +kernel
theorem dX6_fastestTicks_53 : decode cX6_fastestTicks 53 = .ok (.goto (-26), 3) := by decide +kernel
theorem dX6_fastestTicks_56 : decode cX6_fastestTicks 56 = .ok (.iconst (-1), 1) := by decide +kernel
theorem dX6_fastestTicks_57 : decode cX6_fastestTicks 57 = .ok (.ireturn, 1) := by decide +kernel
theorem dX6_powerNeeded_0 : decode cX6_powerNeeded 0 = .ok (.iload_n 1, 1) := by decide +kernel
theorem dX6_powerNeeded_1 : decode cX6_powerNeeded 1 = .ok (.invokestatic 181, 3) := by decide +kernel
theorem dX6_powerNeeded_4 : decode cX6_powerNeeded 4 = .ok (.ifCond .ne 6, 3) := by decide +kernel
theorem dX6_powerNeeded_7 : decode cX6_powerNeeded 7 = .ok (.bipush (-2), 2) := by decide +kernel
theorem dX6_powerNeeded_9 : decode cX6_powerNeeded 9 = .ok (.ireturn, 1) := by decide +kernel
theorem dX6_powerNeeded_10 : decode cX6_powerNeeded 10 = .ok (.aload_n 0, 1) := by decide +kernel
theorem dX6_powerNeeded_11 : decode cX6_powerNeeded 11 = .ok (.getfield 46, 3) := by decide +kernel
theorem dX6_powerNeeded_14 : decode cX6_powerNeeded 14 = .ok (.iload_n 1, 1) := by decide +kernel
theorem dX6_powerNeeded_15 : decode cX6_powerNeeded 15 = .ok (.aaload, 1) := by decide +kernel
theorem dX6_powerNeeded_16 : decode cX6_powerNeeded 16 = .ok (.astore_n 3, 1) := by decide +kernel
theorem dX6_powerNeeded_17 : decode cX6_powerNeeded 17 = .ok (.aload_n 3, 1) := by decide +kernel
theorem dX6_powerNeeded_18 : decode cX6_powerNeeded 18 = .ok (.invokevirtual 205, 3) := by decide +kernel
theorem dX6_powerNeeded_21 : decode cX6_powerNeeded 21 = .ok (.ifCond .eq 6, 3) := by decide +kernel
theorem dX6_powerNeeded_24 : decode cX6_powerNeeded 24 = .ok (.bipush (-9), 2) := by decide +kernel
theorem dX6_powerNeeded_26 : decode cX6_powerNeeded 26 = .ok (.ireturn, 1) := by decide +kernel
theorem dX6_powerNeeded_27 : decode cX6_powerNeeded 27 = .ok (.iload_n 2, 1) := by decide +kernel
theorem dX6_powerNeeded_28 : decode cX6_powerNeeded 28 = .ok (.iconst 1, 1) := by decide +kernel
theorem dX6_powerNeeded_29 : decode cX6_powerNeeded 29 = .ok (.sipush 200, 3) := by decide +kernel
theorem dX6_powerNeeded_32 : decode cX6_powerNeeded 32 = .ok (.invokestatic 87, 3) := by decide +kernel
theorem dX6_powerNeeded_35 : decode cX6_powerNeeded 35 = .ok (.ifCond .eq 6, 3) := by decide +kernel
theorem dX6_powerNeeded_38 : decode cX6_powerNeeded 38 = .ok (.bipush (-3), 2) := by decide +kernel
theorem dX6_powerNeeded_40 : decode cX6_powerNeeded 40 = .ok (.ireturn, 1) := by decide +kernel
theorem dX6_powerNeeded_41 : decode cX6_powerNeeded 41 = .ok (.aload_n 0, 1) := by decide +kernel
theorem dX6_powerNeeded_42 : decode cX6_powerNeeded 42 = .ok (.invokevirtual 230, 3) := by decide +kernel
theorem dX6_powerNeeded_45 : decode cX6_powerNeeded 45 = .ok (.iconst 0, 1) := by decide +kernel
theorem dX6_powerNeeded_46 : decode cX6_powerNeeded 46 = .ok (.istore 4, 2) := by decide +kernel
theorem dX6_powerNeeded_48 : decode cX6_powerNeeded 48 = .ok (.iconst 0, 1) := by decide +kernel
theorem dX6_powerNeeded_49 : decode cX6_powerNeeded 49 = .ok (.istore 5, 2) := by decide +kernel
theorem dX6_powerNeeded_51 : decode cX6_powerNeeded 51 = .ok (.iload 5, 2) := by decide +kernel
theorem dX6_powerNeeded_53 : decode cX6_powerNeeded 53 = .ok (.aload_n 3, 1) := by decide +kernel
theorem dX6_powerNeeded_54 : decode cX6_powerNeeded 54 = .ok (.getfield 201, 3) := by decide +kernel
theorem dX6_powerNeeded_57 : decode cX6_powerNeeded 57 = .ok (.if_icmp .ge 24, 3) := by decide +kernel
theorem dX6_powerNeeded_60 : decode cX6_powerNeeded 60 = .ok (.iload 4, 2) := by decide +kernel
theorem dX6_powerNeeded_62 : decode cX6_powerNeeded 62 = .ok (.aload_n 0, 1) := by decide +kernel
theorem dX6_powerNeeded_63 : decode cX6_powerNeeded 63 = .ok (.aload_n 3, 1) := by decide +kernel
theorem dX6_powerNeeded_64 : decode cX6_powerNeeded 64 = .ok (.iload_n 2, 1) := by decide +kernel
theorem dX6_powerNeeded_65 : decode cX6_powerNeeded 65 = .ok (.iload 5, 2) := by decide +kernel
theorem dX6_powerNeeded_67 : decode cX6_powerNeeded 67 = .ok (.invokevirtual 233, 3) := by decide +kernel
theorem dX6_powerNeeded_70 : decode cX6_powerNeeded 70 = .ok (.invokestatic 236, 3) := by decide +kernel
theorem dX6_powerNeeded_73 : decode cX6_powerNeeded 73 = .ok (.istore 4, 2) := by decide +kernel
theorem dX6_powerNeeded_75 : decode cX6_powerNeeded 75 = .ok (.iinc 5 1, 3) := by decide +kernel
theorem dX6_powerNeeded_78 : decode cX6_powerNeeded 78 = .ok (.goto (-27), 3) := by decide +kernel
theorem dX6_powerNeeded_81 : decode cX6_powerNeeded 81 = .ok (.iload 4, 2) := by decide +kernel
theorem dX6_powerNeeded_83 : decode cX6_powerNeeded 83 = .ok (.ireturn, 1) := by decide +kernel
theorem dX6_addEntry_0 : decode cX6_addEntry 0 = .ok (.iload_n 1, 1) := by decide +kernel
theorem dX6_addEntry_1 : decode cX6_addEntry 1 = .ok (.invokestatic 181, 3) := by decide +kernel
theorem dX6_addEntry_4 : decode cX6_addEntry 4 = .ok (.ifCond .ne 6, 3) := by decide +kernel
theorem dX6_addEntry_7 : decode cX6_addEntry 7 = .ok (.bipush (-2), 2) := by decide +kernel
theorem dX6_addEntry_9 : decode cX6_addEntry 9 = .ok (.ireturn, 1) := by decide +kernel
theorem dX6_addEntry_10 : decode cX6_addEntry 10 = .ok (.iload_n 2, 1) := by decide +kernel
theorem dX6_addEntry_11 : decode cX6_addEntry 11 = .ok (.iconst 0, 1) := by decide +kernel
theorem dX6_addEntry_12 : decode cX6_addEntry 12 = .ok (.ldc 107, 2) := by decide +kernel
theorem dX6_addEntry_14 : decode cX6_addEntry 14 = .ok (.invokestatic 87, 3) := by decide +kernel
theorem dX6_addEntry_17 : decode cX6_addEntry 17 = .ok (.ifCond .ne 43, 3) := by decide +kernel
theorem dX6_addEntry_20 : decode cX6_addEntry 20 = .ok (.iload_n 3, 1) := by decide +kernel
theorem dX6_addEntry_21 : decode cX6_addEntry 21 = .ok (.ifCond .eq 15, 3) := by decide +kernel
theorem dX6_addEntry_24 : decode cX6_addEntry 24 = .ok (.iload_n 3, 1) := by decide +kernel
theorem dX6_addEntry_25 : decode cX6_addEntry 25 = .ok (.sipush 200, 3) := by decide +kernel
theorem dX6_addEntry_28 : decode cX6_addEntry 28 = .ok (.ldc 239, 2) := by decide +kernel
theorem dX6_addEntry_30 : decode cX6_addEntry 30 = .ok (.invokestatic 87, 3) := by decide +kernel
theorem dX6_addEntry_33 : decode cX6_addEntry 33 = .ok (.ifCond .ne 27, 3) := by decide +kernel
theorem dX6_addEntry_36 : decode cX6_addEntry 36 = .ok (.iload 4, 2) := by decide +kernel
theorem dX6_addEntry_38 : decode cX6_addEntry 38 = .ok (.iconst 1, 1) := by decide +kernel
theorem dX6_addEntry_39 : decode cX6_addEntry 39 = .ok (.sipush 200, 3) := by decide +kernel
theorem dX6_addEntry_42 : decode cX6_addEntry 42 = .ok (.invokestatic 87, 3) := by decide +kernel
theorem dX6_addEntry_45 : decode cX6_addEntry 45 = .ok (.ifCond .ne 15, 3) := by decide +kernel
theorem dX6_addEntry_48 : decode cX6_addEntry 48 = .ok (.iload 5, 2) := by decide +kernel
theorem dX6_addEntry_50 : decode cX6_addEntry 50 = .ok (.iconst 0, 1) := by decide +kernel
theorem dX6_addEntry_51 : decode cX6_addEntry 51 = .ok (.sipush 500, 3) := by decide +kernel
theorem dX6_addEntry_54 : decode cX6_addEntry 54 = .ok (.invokestatic 87, 3) := by decide +kernel
theorem dX6_addEntry_57 : decode cX6_addEntry 57 = .ok (.ifCond .eq 6, 3) := by decide +kernel
theorem dX6_addEntry_60 : decode cX6_addEntry 60 = .ok (.bipush (-3), 2) := by decide +kernel
theorem dX6_addEntry_62 : decode cX6_addEntry 62 = .ok (.ireturn, 1) := by decide +kernel
theorem dX6_addEntry_63 : decode cX6_addEntry 63 = .ok (.aload_n 0, 1) := by decide +kernel
theorem dX6_addEntry_64 : decode cX6_addEntry 64 = .ok (.getfield 70, 3) := by decide +kernel
theorem dX6_addEntry_67 : decode cX6_addEntry 67 = .ok (.bipush 8, 2) := by decide +kernel
theorem dX6_addEntry_69 : decode cX6_addEntry 69 = .ok (.if_icmp .lt 6, 3) := by decide +kernel
theorem dX6_addEntry_72 : decode cX6_addEntry 72 = .ok (.bipush (-4), 2) := by decide +kernel
theorem dX6_addEntry_74 : decode cX6_addEntry 74 = .ok (.ireturn, 1) := by decide +kernel
theorem dX6_addEntry_75 : decode cX6_addEntry 75 = .ok (.aload_n 0, 1) := by decide +kernel
theorem dX6_addEntry_76 : decode cX6_addEntry 76 = .ok (.getfield 52, 3) := by decide +kernel
theorem dX6_addEntry_79 : decode cX6_addEntry 79 = .ok (.aload_n 0, 1) := by decide +kernel
theorem dX6_addEntry_80 : decode cX6_addEntry 80 = .ok (.getfield 70, 3) := by decide +kernel
theorem dX6_addEntry_83 : decode cX6_addEntry 83 = .ok (.aaload, 1) := by decide +kernel
theorem dX6_addEntry_84 : decode cX6_addEntry 84 = .ok (.astore 6, 2) := by decide +kernel
theorem dX6_addEntry_86 : decode cX6_addEntry 86 = .ok (.aload 6, 2) := by decide +kernel
theorem dX6_addEntry_88 : decode cX6_addEntry 88 = .ok (.iload_n 1, 1) := by decide +kernel
theorem dX6_addEntry_89 : decode cX6_addEntry 89 = .ok (.putfield 240, 3) := by decide +kernel
theorem dX6_addEntry_92 : decode cX6_addEntry 92 = .ok (.aload 6, 2) := by decide +kernel
theorem dX6_addEntry_94 : decode cX6_addEntry 94 = .ok (.iload_n 2, 1) := by decide +kernel
theorem dX6_addEntry_95 : decode cX6_addEntry 95 = .ok (.putfield 243, 3) := by decide +kernel
theorem dX6_addEntry_98 : decode cX6_addEntry 98 = .ok (.aload 6, 2) := by decide +kernel
theorem dX6_addEntry_100 : decode cX6_addEntry 100 = .ok (.iload_n 3, 1) := by decide +kernel
theorem dX6_addEntry_101 : decode cX6_addEntry 101 = .ok (.putfield 246, 3) := by decide +kernel
theorem dX6_addEntry_104 : decode cX6_addEntry 104 = .ok (.aload 6, 2) := by decide +kernel
theorem dX6_addEntry_106 : decode cX6_addEntry 106 = .ok (.iload 4, 2) := by decide +kernel
theorem dX6_addEntry_108 : decode cX6_addEntry 108 = .ok (.putfield 249, 3) := by decide +kernel
theorem dX6_addEntry_111 : decode cX6_addEntry 111 = .ok (.aload 6, 2) := by decide +kernel
theorem dX6_addEntry_113 : decode cX6_addEntry 113 = .ok (.iload 5, 2) := by decide +kernel
theorem dX6_addEntry_115 : decode cX6_addEntry 115 = .ok (.putfield 252, 3) := by decide +kernel
theorem dX6_addEntry_118 : decode cX6_addEntry 118 = .ok (.aload 6, 2) := by decide +kernel
theorem dX6_addEntry_120 : decode cX6_addEntry 120 = .ok (.iconst (-1), 1) := by decide +kernel
theorem dX6_addEntry_121 : decode cX6_addEntry 121 = .ok (.putfield 255, 3) := by decide +kernel
theorem dX6_addEntry_124 : decode cX6_addEntry 124 = .ok (.aload_n 0, 1) := by decide +kernel
theorem dX6_addEntry_125 : decode cX6_addEntry 125 = .ok (.dup, 1) := by decide +kernel
theorem dX6_addEntry_126 : decode cX6_addEntry 126 = .ok (.getfield 70, 3) := by decide +kernel
theorem dX6_addEntry_129 : decode cX6_addEntry 129 = .ok (.iconst 1, 1) := by decide +kernel
theorem dX6_addEntry_130 : decode cX6_addEntry 130 = .ok (.iadd, 1) := by decide +kernel
theorem dX6_addEntry_131 : decode cX6_addEntry 131 = .ok (.putfield 70, 3) := by decide +kernel
theorem dX6_addEntry_134 : decode cX6_addEntry 134 = .ok (.aload_n 0, 1) := by decide +kernel
theorem dX6_addEntry_135 : decode cX6_addEntry 135 = .ok (.getfield 70, 3) := by decide +kernel
theorem dX6_addEntry_138 : decode cX6_addEntry 138 = .ok (.iconst 1, 1) := by decide +kernel
theorem dX6_addEntry_139 : decode cX6_addEntry 139 = .ok (.isub, 1) := by decide +kernel
theorem dX6_addEntry_140 : decode cX6_addEntry 140 = .ok (.ireturn, 1) := by decide +kernel
theorem dX6_removeEntry_0 : decode cX6_removeEntry 0 = .ok (.aload_n 0, 1) := by decide +kernel
theorem dX6_removeEntry_1 : decode cX6_removeEntry 1 = .ok (.iload_n 1, 1) := by decide +kernel
theorem dX6_removeEntry_2 : decode cX6_removeEntry 2 = .ok (.invokevirtual 258, 3) := by decide +kernel
theorem dX6_removeEntry_5 : decode cX6_removeEntry 5 = .ok (.ifCond .ne 6, 3) := by decide +kernel
theorem dX6_removeEntry_8 : decode cX6_removeEntry 8 = .ok (.bipush (-2), 2) := by decide +kernel
theorem dX6_removeEntry_10 : decode cX6_removeEntry 10 = .ok (.ireturn, 1) := by decide +kernel
theorem dX6_removeEntry_11 : decode cX6_removeEntry 11 = .ok (.aload_n 0, 1) := by decide +kernel
theorem dX6_removeEntry_12 : decode cX6_removeEntry 12 = .ok (.iload_n 1, 1) := by decide +kernel
theorem dX6_removeEntry_13 : decode cX6_removeEntry 13 = .ok (.invokevirtual 261, 3) := by decide +kernel
theorem dX6_removeEntry_16 : decode cX6_removeEntry 16 = .ok (.aload_n 0, 1) := by decide +kernel
theorem dX6_removeEntry_17 : decode cX6_removeEntry 17 = .ok (.getfield 70, 3) := by decide +kernel
theorem dX6_removeEntry_20 : decode cX6_removeEntry 20 = .ok (.ireturn, 1) := by decide +kernel
theorem dX6_entryCount_0 : decode cX6_entryCount 0 = .ok (.aload_n 0, 1) := by decide +kernel
theorem dX6_entryCount_1 : decode cX6_entryCount 1 = .ok (.getfield 70, 3) := by decide +kernel
theorem dX6_entryCount_4 : decode cX6_entryCount 4 = .ok (.ireturn, 1) := by decide +kernel
theorem dX6_dueTime_0 : decode cX6_dueTime 0 = .ok (.aload_n 0, 1) := by decide +kernel
theorem dX6_dueTime_1 : decode cX6_dueTime 1 = .ok (.iload_n 1, 1) := by decide +kernel
theorem dX6_dueTime_2 : decode cX6_dueTime 2 = .ok (.invokevirtual 258, 3) := by decide +kernel
theorem dX6_dueTime_5 : decode cX6_dueTime 5 = .ok (.ifCond .eq 15, 3) := by decide +kernel
theorem dX6_dueTime_8 : decode cX6_dueTime 8 = .ok (.aload_n 0, 1) := by decide +kernel
theorem dX6_dueTime_9 : decode cX6_dueTime 9 = .ok (.getfield 52, 3) := by decide +kernel
theorem dX6_dueTime_12 : decode cX6_dueTime 12 = .ok (.iload_n 1, 1) := by decide +kernel
theorem dX6_dueTime_13 : decode cX6_dueTime 13 = .ok (.aaload, 1) := by decide +kernel
theorem dX6_dueTime_14 : decode cX6_dueTime 14 = .ok (.getfield 243, 3) := by decide +kernel
theorem dX6_dueTime_17 : decode cX6_dueTime 17 = .ok (.goto 5, 3) := by decide +kernel
theorem dX6_dueTime_20 : decode cX6_dueTime 20 = .ok (.bipush (-2), 2) := by decide +kernel
theorem dX6_dueTime_22 : decode cX6_dueTime 22 = .ok (.ireturn, 1) := by decide +kernel
theorem dX6_lastShift_0 : decode cX6_lastShift 0 = .ok (.aload_n 0, 1) := by decide +kernel
theorem dX6_lastShift_1 : decode cX6_lastShift 1 = .ok (.iload_n 1, 1) := by decide +kernel
theorem dX6_lastShift_2 : decode cX6_lastShift 2 = .ok (.invokevirtual 258, 3) := by decide +kernel
theorem dX6_lastShift_5 : decode cX6_lastShift 5 = .ok (.ifCond .eq 15, 3) := by decide +kernel
theorem dX6_lastShift_8 : decode cX6_lastShift 8 = .ok (.aload_n 0, 1) := by decide +kernel
theorem dX6_lastShift_9 : decode cX6_lastShift 9 = .ok (.getfield 52, 3) := by decide +kernel
theorem dX6_lastShift_12 : decode cX6_lastShift 12 = .ok (.iload_n 1, 1) := by decide +kernel
theorem dX6_lastShift_13 : decode cX6_lastShift 13 = .ok (.aaload, 1) := by decide +kernel
theorem dX6_lastShift_14 : decode cX6_lastShift 14 = .ok (.getfield 255, 3) := by decide +kernel
theorem dX6_lastShift_17 : decode cX6_lastShift 17 = .ok (.goto 5, 3) := by decide +kernel
theorem dX6_lastShift_20 : decode cX6_lastShift 20 = .ok (.bipush (-2), 2) := by decide +kernel
theorem dX6_lastShift_22 : decode cX6_lastShift 22 = .ok (.ireturn, 1) := by decide +kernel
theorem dX6_failureCount_0 : decode cX6_failureCount 0 = .ok (.aload_n 0, 1) := by decide +kernel
theorem dX6_failureCount_1 : decode cX6_failureCount 1 = .ok (.getfield 82, 3) := by decide +kernel
theorem dX6_failureCount_4 : decode cX6_failureCount 4 = .ok (.ireturn, 1) := by decide +kernel
theorem dX6_startSwing_0 : decode cX6_startSwing 0 = .ok (.aload_n 0, 1) := by decide +kernel
theorem dX6_startSwing_1 : decode cX6_startSwing 1 = .ok (.iload_n 1, 1) := by decide +kernel
theorem dX6_startSwing_2 : decode cX6_startSwing 2 = .ok (.invokevirtual 103, 3) := by decide +kernel
theorem dX6_startSwing_5 : decode cX6_startSwing 5 = .ok (.ifCond .ne 6, 3) := by decide +kernel
theorem dX6_startSwing_8 : decode cX6_startSwing 8 = .ok (.bipush (-2), 2) := by decide +kernel
theorem dX6_startSwing_10 : decode cX6_startSwing 10 = .ok (.ireturn, 1) := by decide +kernel
theorem dX6_startSwing_11 : decode cX6_startSwing 11 = .ok (.iload_n 2, 1) := by decide +kernel
theorem dX6_startSwing_12 : decode cX6_startSwing 12 = .ok (.iconst 1, 1) := by decide +kernel
theorem dX6_startSwing_13 : decode cX6_startSwing 13 = .ok (.sipush 1000, 3) := by decide +kernel
theorem dX6_startSwing_16 : decode cX6_startSwing 16 = .ok (.invokestatic 87, 3) := by decide +kernel
theorem dX6_startSwing_19 : decode cX6_startSwing 19 = .ok (.ifCond .eq 6, 3) := by decide +kernel
theorem dX6_startSwing_22 : decode cX6_startSwing 22 = .ok (.bipush (-3), 2) := by decide +kernel
theorem dX6_startSwing_24 : decode cX6_startSwing 24 = .ok (.ireturn, 1) := by decide +kernel
theorem dX6_startSwing_25 : decode cX6_startSwing 25 = .ok (.aload_n 0, 1) := by decide +kernel
theorem dX6_startSwing_26 : decode cX6_startSwing 26 = .ok (.getfield 11, 3) := by decide +kernel
theorem dX6_startSwing_29 : decode cX6_startSwing 29 = .ok (.iload_n 1, 1) := by decide +kernel
theorem dX6_startSwing_30 : decode cX6_startSwing 30 = .ok (.aaload, 1) := by decide +kernel
theorem dX6_startSwing_31 : decode cX6_startSwing 31 = .ok (.getfield 162, 3) := by decide +kernel
theorem dX6_startSwing_34 : decode cX6_startSwing 34 = .ok (.ifCond .eq 6, 3) := by decide +kernel
theorem dX6_startSwing_37 : decode cX6_startSwing 37 = .ok (.bipush (-6), 2) := by decide +kernel
theorem dX6_startSwing_39 : decode cX6_startSwing 39 = .ok (.ireturn, 1) := by decide +kernel
theorem dX6_startSwing_40 : decode cX6_startSwing 40 = .ok (.aload_n 0, 1) := by decide +kernel
theorem dX6_startSwing_41 : decode cX6_startSwing 41 = .ok (.getfield 30, 3) := by decide +kernel
theorem dX6_startSwing_44 : decode cX6_startSwing 44 = .ok (.iload_n 1, 1) := by decide +kernel
theorem dX6_startSwing_45 : decode cX6_startSwing 45 = .ok (.invokevirtual 155, 3) := by decide +kernel
theorem dX6_startSwing_48 : decode cX6_startSwing 48 = .ok (.iconst (-1), 1) := by decide +kernel
theorem dX6_startSwing_49 : decode cX6_startSwing 49 = .ok (.if_icmp .eq 6, 3) := by decide +kernel
theorem dX6_startSwing_52 : decode cX6_startSwing 52 = .ok (.bipush (-10), 2) := by decide +kernel
theorem dX6_startSwing_54 : decode cX6_startSwing 54 = .ok (.ireturn, 1) := by decide +kernel
theorem dX6_startSwing_55 : decode cX6_startSwing 55 = .ok (.aload_n 0, 1) := by decide +kernel
theorem dX6_startSwing_56 : decode cX6_startSwing 56 = .ok (.sipush 600, 3) := by decide +kernel
theorem dX6_startSwing_59 : decode cX6_startSwing 59 = .ok (.invokevirtual 264, 3) := by decide +kernel
theorem dX6_startSwing_62 : decode cX6_startSwing 62 = .ok (.aload_n 0, 1) := by decide +kernel
theorem dX6_startSwing_63 : decode cX6_startSwing 63 = .ok (.getfield 16, 3) := by decide +kernel
theorem dX6_startSwing_66 : decode cX6_startSwing 66 = .ok (.aload_n 0, 1) := by decide +kernel
theorem dX6_startSwing_67 : decode cX6_startSwing 67 = .ok (.getfield 11, 3) := by decide +kernel
theorem dX6_startSwing_70 : decode cX6_startSwing 70 = .ok (.iload_n 1, 1) := by decide +kernel
theorem dX6_startSwing_71 : decode cX6_startSwing 71 = .ok (.aaload, 1) := by decide +kernel
theorem dX6_startSwing_72 : decode cX6_startSwing 72 = .ok (.invokevirtual 267, 3) := by decide +kernel
theorem dX6_startSwing_75 : decode cX6_startSwing 75 = .ok (.aload_n 0, 1) := by decide +kernel
theorem dX6_startSwing_76 : decode cX6_startSwing 76 = .ok (.getfield 16, 3) := by decide +kernel
theorem dX6_startSwing_79 : decode cX6_startSwing 79 = .ok (.aload_n 0, 1) := by decide +kernel
theorem dX6_startSwing_80 : decode cX6_startSwing 80 = .ok (.getfield 73, 3) := by decide +kernel
theorem dX6_startSwing_83 : decode cX6_startSwing 83 = .ok (.iload_n 2, 1) := by decide +kernel
theorem dX6_startSwing_84 : decode cX6_startSwing 84 = .ok (.invokevirtual 270, 3) := by decide +kernel
theorem dX6_startSwing_87 : decode cX6_startSwing 87 = .ok (.aload_n 0, 1) := by decide +kernel
theorem dX6_startSwing_88 : decode cX6_startSwing 88 = .ok (.getfield 16, 3) := by decide +kernel
theorem dX6_startSwing_91 : decode cX6_startSwing 91 = .ok (.aload_n 0, 1) := by decide +kernel
theorem dX6_startSwing_92 : decode cX6_startSwing 92 = .ok (.getfield 56, 3) := by decide +kernel
theorem dX6_startSwing_95 : decode cX6_startSwing 95 = .ok (.aload_n 0, 1) := by decide +kernel
theorem dX6_startSwing_96 : decode cX6_startSwing 96 = .ok (.getfield 73, 3) := by decide +kernel
theorem dX6_startSwing_99 : decode cX6_startSwing 99 = .ok (.sipush 600, 3) := by decide +kernel
theorem dX6_startSwing_102 : decode cX6_startSwing 102 = .ok (.invokevirtual 274, 3) := by decide +kernel
theorem dX6_startSwing_105 : decode cX6_startSwing 105 = .ok (.aload_n 0, 1) := by decide +kernel
theorem dX6_startSwing_106 : decode cX6_startSwing 106 = .ok (.sipush 600, 3) := by decide +kernel
theorem dX6_startSwing_109 : decode cX6_startSwing 109 = .ok (.invokevirtual 278, 3) := by decide +kernel
theorem dX6_startSwing_112 : decode cX6_startSwing 112 = .ok (.aload_n 0, 1) := by decide +kernel
theorem dX6_startSwing_113 : decode cX6_startSwing 113 = .ok (.getfield 79, 3) := by decide +kernel
theorem dX6_startSwing_116 : decode cX6_startSwing 116 = .ok (.if_icmp .le 6, 3) := by decide +kernel
theorem dX6_startSwing_119 : decode cX6_startSwing 119 = .ok (.bipush (-11), 2) := by decide +kernel
theorem dX6_startSwing_121 : decode cX6_startSwing 121 = .ok (.ireturn, 1) := by decide +kernel
theorem dX6_startSwing_122 : decode cX6_startSwing 122 = .ok (.aload_n 0, 1) := by decide +kernel
theorem dX6_startSwing_123 : decode cX6_startSwing 123 = .ok (.getfield 11, 3) := by decide +kernel
theorem dX6_startSwing_126 : decode cX6_startSwing 126 = .ok (.iload_n 1, 1) := by decide +kernel
theorem dX6_startSwing_127 : decode cX6_startSwing 127 = .ok (.aaload, 1) := by decide +kernel
theorem dX6_startSwing_128 : decode cX6_startSwing 128 = .ok (.aload_n 0, 1) := by decide +kernel
theorem dX6_startSwing_129 : decode cX6_startSwing 129 = .ok (.getfield 73, 3) := by decide +kernel
theorem dX6_startSwing_132 : decode cX6_startSwing 132 = .ok (.iload_n 2, 1) := by decide +kernel
theorem dX6_startSwing_133 : decode cX6_startSwing 133 = .ok (.invokevirtual 270, 3) := by decide +kernel
theorem dX6_startSwing_136 : decode cX6_startSwing 136 = .ok (.aload_n 0, 1) := by decide +kernel
theorem dX6_startSwing_137 : decode cX6_startSwing 137 = .ok (.getfield 11, 3) := by decide +kernel
theorem dX6_startSwing_140 : decode cX6_startSwing 140 = .ok (.iload_n 1, 1) := by decide +kernel
theorem dX6_startSwing_141 : decode cX6_startSwing 141 = .ok (.aaload, 1) := by decide +kernel
theorem dX6_startSwing_142 : decode cX6_startSwing 142 = .ok (.invokevirtual 281, 3) := by decide +kernel
theorem dX6_startSwing_145 : decode cX6_startSwing 145 = .ok (.ireturn, 1) := by decide +kernel
theorem dX6_stopMotor_0 : decode cX6_stopMotor 0 = .ok (.aload_n 0, 1) := by decide +kernel
theorem dX6_stopMotor_1 : decode cX6_stopMotor 1 = .ok (.iload_n 1, 1) := by decide +kernel
theorem dX6_stopMotor_2 : decode cX6_stopMotor 2 = .ok (.invokevirtual 103, 3) := by decide +kernel
theorem dX6_stopMotor_5 : decode cX6_stopMotor 5 = .ok (.ifCond .ne 6, 3) := by decide +kernel
theorem dX6_stopMotor_8 : decode cX6_stopMotor 8 = .ok (.bipush (-2), 2) := by decide +kernel
theorem dX6_stopMotor_10 : decode cX6_stopMotor 10 = .ok (.ireturn, 1) := by decide +kernel
theorem dX6_stopMotor_11 : decode cX6_stopMotor 11 = .ok (.aload_n 0, 1) := by decide +kernel
theorem dX6_stopMotor_12 : decode cX6_stopMotor 12 = .ok (.getfield 11, 3) := by decide +kernel
theorem dX6_stopMotor_15 : decode cX6_stopMotor 15 = .ok (.iload_n 1, 1) := by decide +kernel
theorem dX6_stopMotor_16 : decode cX6_stopMotor 16 = .ok (.aaload, 1) := by decide +kernel
theorem dX6_stopMotor_17 : decode cX6_stopMotor 17 = .ok (.getfield 162, 3) := by decide +kernel
theorem dX6_stopMotor_20 : decode cX6_stopMotor 20 = .ok (.ifCond .ne 5, 3) := by decide +kernel
theorem dX6_stopMotor_23 : decode cX6_stopMotor 23 = .ok (.iconst (-1), 1) := by decide +kernel
theorem dX6_stopMotor_24 : decode cX6_stopMotor 24 = .ok (.ireturn, 1) := by decide +kernel
theorem dX6_stopMotor_25 : decode cX6_stopMotor 25 = .ok (.aload_n 0, 1) := by decide +kernel
theorem dX6_stopMotor_26 : decode cX6_stopMotor 26 = .ok (.getfield 11, 3) := by decide +kernel
theorem dX6_stopMotor_29 : decode cX6_stopMotor 29 = .ok (.iload_n 1, 1) := by decide +kernel
theorem dX6_stopMotor_30 : decode cX6_stopMotor 30 = .ok (.aaload, 1) := by decide +kernel
theorem dX6_stopMotor_31 : decode cX6_stopMotor 31 = .ok (.iconst 0, 1) := by decide +kernel
theorem dX6_stopMotor_32 : decode cX6_stopMotor 32 = .ok (.putfield 284, 3) := by decide +kernel
theorem dX6_stopMotor_35 : decode cX6_stopMotor 35 = .ok (.aload_n 0, 1) := by decide +kernel
theorem dX6_stopMotor_36 : decode cX6_stopMotor 36 = .ok (.getfield 11, 3) := by decide +kernel
theorem dX6_stopMotor_39 : decode cX6_stopMotor 39 = .ok (.iload_n 1, 1) := by decide +kernel
theorem dX6_stopMotor_40 : decode cX6_stopMotor 40 = .ok (.aaload, 1) := by decide +kernel
theorem dX6_stopMotor_41 : decode cX6_stopMotor 41 = .ok (.getfield 287, 3) := by decide +kernel
theorem dX6_stopMotor_44 : decode cX6_stopMotor 44 = .ok (.ireturn, 1) := by decide +kernel
theorem dX6_holdClapper_0 : decode cX6_holdClapper 0 = .ok (.aload_n 0, 1) := by decide +kernel
theorem dX6_holdClapper_1 : decode cX6_holdClapper 1 = .ok (.iload_n 1, 1) := by decide +kernel
theorem dX6_holdClapper_2 : decode cX6_holdClapper 2 = .ok (.invokevirtual 103, 3) := by decide +kernel
theorem dX6_holdClapper_5 : decode cX6_holdClapper 5 = .ok (.ifCond .ne 6, 3) := by decide +kernel
theorem dX6_holdClapper_8 : decode cX6_holdClapper 8 = .ok (.bipush (-2), 2) := by decide +kernel
theorem dX6_holdClapper_10 : decode cX6_holdClapper 10 = .ok (.ireturn, 1) := by decide +kernel
theorem dX6_holdClapper_11 : decode cX6_holdClapper 11 = .ok (.aload_n 0, 1) := by decide +kernel
theorem dX6_holdClapper_12 : decode cX6_holdClapper 12 = .ok (.getfield 11, 3) := by decide +kernel
theorem dX6_holdClapper_15 : decode cX6_holdClapper 15 = .ok (.iload_n 1, 1) := by decide +kernel
theorem dX6_holdClapper_16 : decode cX6_holdClapper 16 = .ok (.aaload, 1) := by decide +kernel
theorem dX6_holdClapper_17 : decode cX6_holdClapper 17 = .ok (.getfield 290, 3) := by decide +kernel
theorem dX6_holdClapper_20 : decode cX6_holdClapper 20 = .ok (.ifCond .eq 7, 3) := by decide +kernel
theorem dX6_holdClapper_23 : decode cX6_holdClapper 23 = .ok (.iconst 1, 1) := by decide +kernel
theorem dX6_holdClapper_24 : decode cX6_holdClapper 24 = .ok (.goto 4, 3) := by decide +kernel
theorem dX6_holdClapper_27 : decode cX6_holdClapper 27 = .ok (.iconst 0, 1) := by decide +kernel
theorem dX6_holdClapper_28 : decode cX6_holdClapper 28 = .ok (.istore_n 3, 1) := by decide +kernel
theorem dX6_holdClapper_29 : decode cX6_holdClapper 29 = .ok (.aload_n 0, 1) := by decide +kernel
theorem dX6_holdClapper_30 : decode cX6_holdClapper 30 = .ok (.getfield 11, 3) := by decide +kernel
theorem dX6_holdClapper_33 : decode cX6_holdClapper 33 = .ok (.iload_n 1, 1) := by decide +kernel
theorem dX6_holdClapper_34 : decode cX6_holdClapper 34 = .ok (.aaload, 1) := by decide +kernel
theorem dX6_holdClapper_35 : decode cX6_holdClapper 35 = .ok (.iload_n 2, 1) := by decide +kernel
theorem dX6_holdClapper_36 : decode cX6_holdClapper 36 = .ok (.putfield 290, 3) := by decide +kernel
theorem dX6_holdClapper_39 : decode cX6_holdClapper 39 = .ok (.iload_n 3, 1) := by decide +kernel
theorem dX6_holdClapper_40 : decode cX6_holdClapper 40 = .ok (.ireturn, 1) := by decide +kernel
theorem dX6_amplitude_0 : decode cX6_amplitude 0 = .ok (.aload_n 0, 1) := by decide +kernel
theorem dX6_amplitude_1 : decode cX6_amplitude 1 = .ok (.iload_n 1, 1) := by decide +kernel
theorem dX6_amplitude_2 : decode cX6_amplitude 2 = .ok (.invokevirtual 103, 3) := by decide +kernel
theorem dX6_amplitude_5 : decode cX6_amplitude 5 = .ok (.ifCond .ne 6, 3) := by decide +kernel
theorem dX6_amplitude_8 : decode cX6_amplitude 8 = .ok (.bipush (-2), 2) := by decide +kernel
theorem dX6_amplitude_10 : decode cX6_amplitude 10 = .ok (.ireturn, 1) := by decide +kernel
theorem dX6_amplitude_11 : decode cX6_amplitude 11 = .ok (.aload_n 0, 1) := by decide +kernel
theorem dX6_amplitude_12 : decode cX6_amplitude 12 = .ok (.getfield 11, 3) := by decide +kernel
theorem dX6_amplitude_15 : decode cX6_amplitude 15 = .ok (.iload_n 1, 1) := by decide +kernel
theorem dX6_amplitude_16 : decode cX6_amplitude 16 = .ok (.aaload, 1) := by decide +kernel
theorem dX6_amplitude_17 : decode cX6_amplitude 17 = .ok (.getfield 162, 3) := by decide +kernel
theorem dX6_amplitude_20 : decode cX6_amplitude 20 = .ok (.ifCond .eq 15, 3) := by decide +kernel
theorem dX6_amplitude_23 : decode cX6_amplitude 23 = .ok (.aload_n 0, 1) := by decide +kernel
theorem dX6_amplitude_24 : decode cX6_amplitude 24 = .ok (.getfield 11, 3) := by decide +kernel
theorem dX6_amplitude_27 : decode cX6_amplitude 27 = .ok (.iload_n 1, 1) := by decide +kernel
theorem dX6_amplitude_28 : decode cX6_amplitude 28 = .ok (.aaload, 1) := by decide +kernel
theorem dX6_amplitude_29 : decode cX6_amplitude 29 = .ok (.getfield 287, 3) := by decide +kernel
theorem dX6_amplitude_32 : decode cX6_amplitude 32 = .ok (.goto 4, 3) := by decide +kernel
theorem dX6_amplitude_35 : decode cX6_amplitude 35 = .ok (.iconst (-1), 1) := by decide +kernel
theorem dX6_amplitude_36 : decode cX6_amplitude 36 = .ok (.ireturn, 1) := by decide +kernel
theorem dX6_nextTurn_0 : decode cX6_nextTurn 0 = .ok (.aload_n 0, 1) := by decide +kernel
theorem dX6_nextTurn_1 : decode cX6_nextTurn 1 = .ok (.iload_n 1, 1) := by decide +kernel
theorem dX6_nextTurn_2 : decode cX6_nextTurn 2 = .ok (.invokevirtual 103, 3) := by decide +kernel
theorem dX6_nextTurn_5 : decode cX6_nextTurn 5 = .ok (.ifCond .ne 6, 3) := by decide +kernel
theorem dX6_nextTurn_8 : decode cX6_nextTurn 8 = .ok (.bipush (-2), 2) := by decide +kernel
theorem dX6_nextTurn_10 : decode cX6_nextTurn 10 = .ok (.ireturn, 1) := by decide +kernel
theorem dX6_nextTurn_11 : decode cX6_nextTurn 11 = .ok (.aload_n 0, 1) := by decide +kernel
theorem dX6_nextTurn_12 : decode cX6_nextTurn 12 = .ok (.getfield 11, 3) := by decide +kernel
theorem dX6_nextTurn_15 : decode cX6_nextTurn 15 = .ok (.iload_n 1, 1) := by decide +kernel
theorem dX6_nextTurn_16 : decode cX6_nextTurn 16 = .ok (.aaload, 1) := by decide +kernel
theorem dX6_nextTurn_17 : decode cX6_nextTurn 17 = .ok (.getfield 162, 3) := by decide +kernel
theorem dX6_nextTurn_20 : decode cX6_nextTurn 20 = .ok (.ifCond .eq 15, 3) := by decide +kernel
theorem dX6_nextTurn_23 : decode cX6_nextTurn 23 = .ok (.aload_n 0, 1) := by decide +kernel
theorem dX6_nextTurn_24 : decode cX6_nextTurn 24 = .ok (.getfield 11, 3) := by decide +kernel
theorem dX6_nextTurn_27 : decode cX6_nextTurn 27 = .ok (.iload_n 1, 1) := by decide +kernel
theorem dX6_nextTurn_28 : decode cX6_nextTurn 28 = .ok (.aaload, 1) := by decide +kernel
theorem dX6_nextTurn_29 : decode cX6_nextTurn 29 = .ok (.invokevirtual 281, 3) := by decide +kernel
theorem dX6_nextTurn_32 : decode cX6_nextTurn 32 = .ok (.goto 4, 3) := by decide +kernel
theorem dX6_nextTurn_35 : decode cX6_nextTurn 35 = .ok (.iconst (-1), 1) := by decide +kernel
theorem dX6_nextTurn_36 : decode cX6_nextTurn 36 = .ok (.ireturn, 1) := by decide +kernel
theorem dX6_amplitudeAfter_0 : decode cX6_amplitudeAfter 0 = .ok (.aload_n 0, 1) := by decide +kernel
theorem dX6_amplitudeAfter_1 : decode cX6_amplitudeAfter 1 = .ok (.iload_n 1, 1) := by decide +kernel
theorem dX6_amplitudeAfter_2 : decode cX6_amplitudeAfter 2 = .ok (.invokevirtual 103, 3) := by decide +kernel
theorem dX6_amplitudeAfter_5 : decode cX6_amplitudeAfter 5 = .ok (.ifCond .ne 6, 3) := by decide +kernel
theorem dX6_amplitudeAfter_8 : decode cX6_amplitudeAfter 8 = .ok (.bipush (-2), 2) := by decide +kernel
theorem dX6_amplitudeAfter_10 : decode cX6_amplitudeAfter 10 = .ok (.ireturn, 1) := by decide +kernel
theorem dX6_amplitudeAfter_11 : decode cX6_amplitudeAfter 11 = .ok (.iload_n 2, 1) := by decide +kernel
theorem dX6_amplitudeAfter_12 : decode cX6_amplitudeAfter 12 = .ok (.iconst 0, 1) := by decide +kernel
theorem dX6_amplitudeAfter_13 : decode cX6_amplitudeAfter 13 = .ok (.sipush 200, 3) := by decide +kernel
theorem dX6_amplitudeAfter_16 : decode cX6_amplitudeAfter 16 = .ok (.invokestatic 87, 3) := by decide +kernel
theorem dX6_amplitudeAfter_19 : decode cX6_amplitudeAfter 19 = .ok (.ifCond .eq 6, 3) := by decide +kernel
theorem dX6_amplitudeAfter_22 : decode cX6_amplitudeAfter 22 = .ok (.bipush (-3), 2) := by decide +kernel
theorem dX6_amplitudeAfter_24 : decode cX6_amplitudeAfter 24 = .ok (.ireturn, 1) := by decide +kernel
theorem dX6_amplitudeAfter_25 : decode cX6_amplitudeAfter 25 = .ok (.aload_n 0, 1) := by decide +kernel
theorem dX6_amplitudeAfter_26 : decode cX6_amplitudeAfter 26 = .ok (.getfield 11, 3) := by decide +kernel
theorem dX6_amplitudeAfter_29 : decode cX6_amplitudeAfter 29 = .ok (.iload_n 1, 1) := by decide +kernel
theorem dX6_amplitudeAfter_30 : decode cX6_amplitudeAfter 30 = .ok (.aaload, 1) := by decide +kernel
theorem dX6_amplitudeAfter_31 : decode cX6_amplitudeAfter 31 = .ok (.getfield 162, 3) := by decide +kernel
theorem dX6_amplitudeAfter_34 : decode cX6_amplitudeAfter 34 = .ok (.ifCond .ne 5, 3) := by decide +kernel
theorem dX6_amplitudeAfter_37 : decode cX6_amplitudeAfter 37 = .ok (.iconst (-1), 1) := by decide +kernel
theorem dX6_amplitudeAfter_38 : decode cX6_amplitudeAfter 38 = .ok (.ireturn, 1) := by decide +kernel
theorem dX6_amplitudeAfter_39 : decode cX6_amplitudeAfter 39 = .ok (.aload_n 0, 1) := by decide +kernel
theorem dX6_amplitudeAfter_40 : decode cX6_amplitudeAfter 40 = .ok (.getfield 16, 3) := by decide +kernel
theorem dX6_amplitudeAfter_43 : decode cX6_amplitudeAfter 43 = .ok (.aload_n 0, 1) := by decide +kernel
theorem dX6_amplitudeAfter_44 : decode cX6_amplitudeAfter 44 = .ok (.getfield 11, 3) := by decide +kernel
theorem dX6_amplitudeAfter_47 : decode cX6_amplitudeAfter 47 = .ok (.iload_n 1, 1) := by decide +kernel
theorem dX6_amplitudeAfter_48 : decode cX6_amplitudeAfter 48 = .ok (.aaload, 1) := by decide +kernel
theorem dX6_amplitudeAfter_49 : decode cX6_amplitudeAfter 49 = .ok (.invokevirtual 267, 3) := by decide +kernel
theorem dX6_amplitudeAfter_52 : decode cX6_amplitudeAfter 52 = .ok (.iconst 1, 1) := by decide +kernel
theorem dX6_amplitudeAfter_53 : decode cX6_amplitudeAfter 53 = .ok (.istore_n 3, 1) := by decide +kernel
theorem dX6_amplitudeAfter_54 : decode cX6_amplitudeAfter 54 = .ok (.iload_n 3, 1) := by decide +kernel
theorem dX6_amplitudeAfter_55 : decode cX6_amplitudeAfter 55 = .ok (.iload_n 2, 1) := by decide +kernel
theorem dX6_amplitudeAfter_56 : decode cX6_amplitudeAfter 56 = .ok (.if_icmp .gt 16, 3) := by decide +kernel
theorem dX6_amplitudeAfter_59 : decode cX6_amplitudeAfter 59 = .ok (.aload_n 0, 1) := by decide +kernel
theorem dX6_amplitudeAfter_60 : decode cX6_amplitudeAfter 60 = .ok (.getfield 16, 3) := by decide +kernel
theorem dX6_amplitudeAfter_63 : decode cX6_amplitudeAfter 63 = .ok (.invokevirtual 293, 3) := by decide +kernel
theorem dX6_amplitudeAfter_66 : decode cX6_amplitudeAfter 66 = .ok (.iinc 3 1, 3) := by decide +kernel
theorem dX6_amplitudeAfter_69 : decode cX6_amplitudeAfter 69 = .ok (.goto (-15), 3) := by decide +kernel
theorem dX6_amplitudeAfter_72 : decode cX6_amplitudeAfter 72 = .ok (.aload_n 0, 1) := by decide +kernel
theorem dX6_amplitudeAfter_73 : decode cX6_amplitudeAfter 73 = .ok (.getfield 16, 3) := by decide +kernel
theorem dX6_amplitudeAfter_76 : decode cX6_amplitudeAfter 76 = .ok (.getfield 287, 3) := by decide +kernel
theorem dX6_amplitudeAfter_79 : decode cX6_amplitudeAfter 79 = .ok (.ireturn, 1) := by decide +kernel
theorem dX6_turnsUntilLoud_0 : decode cX6_turnsUntilLoud 0 = .ok (.aload_n 0, 1) := by decide +kernel
theorem dX6_turnsUntilLoud_1 : decode cX6_turnsUntilLoud 1 = .ok (.iload_n 1, 1) := by decide +kernel
theorem dX6_turnsUntilLoud_2 : decode cX6_turnsUntilLoud 2 = .ok (.invokevirtual 103, 3) := by decide +kernel
theorem dX6_turnsUntilLoud_5 : decode cX6_turnsUntilLoud 5 = .ok (.ifCond .ne 6, 3) := by decide +kernel
theorem dX6_turnsUntilLoud_8 : decode cX6_turnsUntilLoud 8 = .ok (.bipush (-2), 2) := by decide +kernel
theorem dX6_turnsUntilLoud_10 : decode cX6_turnsUntilLoud 10 = .ok (.ireturn, 1) := by decide +kernel
theorem dX6_turnsUntilLoud_11 : decode cX6_turnsUntilLoud 11 = .ok (.aload_n 0, 1) := by decide +kernel
theorem dX6_turnsUntilLoud_12 : decode cX6_turnsUntilLoud 12 = .ok (.getfield 11, 3) := by decide +kernel
theorem dX6_turnsUntilLoud_15 : decode cX6_turnsUntilLoud 15 = .ok (.iload_n 1, 1) := by decide +kernel
theorem dX6_turnsUntilLoud_16 : decode cX6_turnsUntilLoud 16 = .ok (.aaload, 1) := by decide +kernel
theorem dX6_turnsUntilLoud_17 : decode cX6_turnsUntilLoud 17 = .ok (.getfield 162, 3) := by decide +kernel
theorem dX6_turnsUntilLoud_20 : decode cX6_turnsUntilLoud 20 = .ok (.ifCond .ne 5, 3) := by decide +kernel
theorem dX6_turnsUntilLoud_23 : decode cX6_turnsUntilLoud 23 = .ok (.iconst (-1), 1) := by decide +kernel
theorem dX6_turnsUntilLoud_24 : decode cX6_turnsUntilLoud 24 = .ok (.ireturn, 1) := by decide +kernel
theorem dX6_turnsUntilLoud_25 : decode cX6_turnsUntilLoud 25 = .ok (.aload_n 0, 1) := by decide +kernel
theorem dX6_turnsUntilLoud_26 : decode cX6_turnsUntilLoud 26 = .ok (.getfield 16, 3) := by decide +kernel
theorem dX6_turnsUntilLoud_29 : decode cX6_turnsUntilLoud 29 = .ok (.aload_n 0, 1) := by decide +kernel
theorem dX6_turnsUntilLoud_30 : decode cX6_turnsUntilLoud 30 = .ok (.getfield 11, 3) := by decide +kernel
theorem dX6_turnsUntilLoud_33 : decode cX6_turnsUntilLoud 33 = .ok (.iload_n 1, 1) := by decide +kernel
theorem dX6_turnsUntilLoud_34 : decode cX6_turnsUntilLoud 34 = .ok (.aaload, 1) := by decide +kernel
theorem dX6_turnsUntilLoud_35 : decode cX6_turnsUntilLoud 35 = .ok (.invokevirtual 267, 3) := by decide +kernel
theorem dX6_turnsUntilLoud_38 : decode cX6_turnsUntilLoud 38 = .ok (.iconst 1, 1) := by decide +kernel
theorem dX6_turnsUntilLoud_39 : decode cX6_turnsUntilLoud 39 = .ok (.istore_n 2, 1) := by decide +kernel
theorem dX6_turnsUntilLoud_40 : decode cX6_turnsUntilLoud 40 = .ok (.iload_n 2, 1) := by decide +kernel
theorem dX6_turnsUntilLoud_41 : decode cX6_turnsUntilLoud 41 = .ok (.sipush 200, 3) := by decide +kernel
theorem dX6_turnsUntilLoud_44 : decode cX6_turnsUntilLoud 44 = .ok (.if_icmp .gt 31, 3) := by decide +kernel
theorem dX6_turnsUntilLoud_47 : decode cX6_turnsUntilLoud 47 = .ok (.aload_n 0, 1) := by decide +kernel
theorem dX6_turnsUntilLoud_48 : decode cX6_turnsUntilLoud 48 = .ok (.getfield 16, 3) := by decide +kernel
theorem dX6_turnsUntilLoud_51 : decode cX6_turnsUntilLoud 51 = .ok (.invokevirtual 293, 3) := by decide +kernel
theorem dX6_turnsUntilLoud_54 : decode cX6_turnsUntilLoud 54 = .ok (.aload_n 0, 1) := by decide +kernel
theorem dX6_turnsUntilLoud_55 : decode cX6_turnsUntilLoud 55 = .ok (.getfield 16, 3) := by decide +kernel
theorem dX6_turnsUntilLoud_58 : decode cX6_turnsUntilLoud 58 = .ok (.getfield 287, 3) := by decide +kernel
theorem dX6_turnsUntilLoud_61 : decode cX6_turnsUntilLoud 61 = .ok (.sipush 400, 3) := by decide +kernel
theorem dX6_turnsUntilLoud_64 : decode cX6_turnsUntilLoud 64 = .ok (.if_icmp .lt 5, 3) := by decide +kernel
theorem dX6_turnsUntilLoud_67 : decode cX6_turnsUntilLoud 67 = .ok (.iload_n 2, 1) := by decide +kernel
theorem dX6_turnsUntilLoud_68 : decode cX6_turnsUntilLoud 68 = .ok (.ireturn, 1) := by decide +kernel
theorem dX6_turnsUntilLoud_69 : decode cX6_turnsUntilLoud 69 = .ok (.iinc 2 1, 3) := by decide +kernel
theorem dX6_turnsUntilLoud_72 : decode cX6_turnsUntilLoud 72 = .ok (.goto (-32), 3) := by decide +kernel
theorem dX6_turnsUntilLoud_75 : decode cX6_turnsUntilLoud 75 = .ok (.iconst (-1), 1) := by decide +kernel
theorem dX6_turnsUntilLoud_76 : decode cX6_turnsUntilLoud 76 = .ok (.ireturn, 1) := by decide +kernel
theorem dX6_force_0 : decode cX6_force 0 = .ok (.aload_n 0, 1) := by decide +kernel
theorem dX6_force_1 : decode cX6_force 1 = .ok (.iload_n 1, 1) := by decide +kernel
theorem dX6_force_2 : decode cX6_force 2 = .ok (.invokevirtual 103, 3) := by decide +kernel
theorem dX6_force_5 : decode cX6_force 5 = .ok (.ifCond .eq 22, 3) := by decide +kernel
theorem dX6_force_8 : decode cX6_force 8 = .ok (.aload_n 0, 1) := by decide +kernel
theorem dX6_force_9 : decode cX6_force 9 = .ok (.getfield 11, 3) := by decide +kernel
theorem dX6_force_12 : decode cX6_force 12 = .ok (.iload_n 1, 1) := by decide +kernel
theorem dX6_force_13 : decode cX6_force 13 = .ok (.aaload, 1) := by decide +kernel
theorem dX6_force_14 : decode cX6_force 14 = .ok (.aload_n 0, 1) := by decide +kernel
theorem dX6_force_15 : decode cX6_force 15 = .ok (.getfield 73, 3) := by decide +kernel
theorem dX6_force_18 : decode cX6_force 18 = .ok (.invokevirtual 296, 3) := by decide +kernel
theorem dX6_force_21 : decode cX6_force 21 = .ok (.ldc 107, 2) := by decide +kernel
theorem dX6_force_23 : decode cX6_force 23 = .ok (.iadd, 1) := by decide +kernel
theorem dX6_force_24 : decode cX6_force 24 = .ok (.goto 5, 3) := by decide +kernel
theorem dX6_force_27 : decode cX6_force 27 = .ok (.bipush (-2), 2) := by decide +kernel
theorem dX6_force_29 : decode cX6_force 29 = .ok (.ireturn, 1) := by decide +kernel
theorem dX6_shake_0 : decode cX6_shake 0 = .ok (.iload_n 1, 1) := by decide +kernel
theorem dX6_shake_1 : decode cX6_shake 1 = .ok (.iconst 0, 1) := by decide +kernel
theorem dX6_shake_2 : decode cX6_shake 2 = .ok (.sipush 600, 3) := by decide +kernel
theorem dX6_shake_5 : decode cX6_shake 5 = .ok (.invokestatic 87, 3) := by decide +kernel
theorem dX6_shake_8 : decode cX6_shake 8 = .ok (.ifCond .eq 6, 3) := by decide +kernel
theorem dX6_shake_11 : decode cX6_shake 11 = .ok (.bipush (-3), 2) := by decide +kernel
theorem dX6_shake_13 : decode cX6_shake 13 = .ok (.ireturn, 1) := by decide +kernel
theorem dX6_shake_14 : decode cX6_shake 14 = .ok (.aload_n 0, 1) := by decide +kernel
theorem dX6_shake_15 : decode cX6_shake 15 = .ok (.iload_n 1, 1) := by decide +kernel
theorem dX6_shake_16 : decode cX6_shake 16 = .ok (.invokevirtual 264, 3) := by decide +kernel
theorem dX6_shake_19 : decode cX6_shake 19 = .ok (.aload_n 0, 1) := by decide +kernel
theorem dX6_shake_20 : decode cX6_shake 20 = .ok (.getfield 56, 3) := by decide +kernel
theorem dX6_shake_23 : decode cX6_shake 23 = .ok (.iload_n 1, 1) := by decide +kernel
theorem dX6_shake_24 : decode cX6_shake 24 = .ok (.iaload, 1) := by decide +kernel
theorem dX6_shake_25 : decode cX6_shake 25 = .ok (.ldc 107, 2) := by decide +kernel
theorem dX6_shake_27 : decode cX6_shake 27 = .ok (.iadd, 1) := by decide +kernel
theorem dX6_shake_28 : decode cX6_shake 28 = .ok (.ireturn, 1) := by decide +kernel
theorem dX6_greatestShake_0 : decode cX6_greatestShake 0 = .ok (.iload_n 1, 1) := by decide +kernel
theorem dX6_greatestShake_1 : decode cX6_greatestShake 1 = .ok (.iconst 0, 1) := by decide +kernel
theorem dX6_greatestShake_2 : decode cX6_greatestShake 2 = .ok (.sipush 600, 3) := by decide +kernel
theorem dX6_greatestShake_5 : decode cX6_greatestShake 5 = .ok (.invokestatic 87, 3) := by decide +kernel
theorem dX6_greatestShake_8 : decode cX6_greatestShake 8 = .ok (.ifCond .eq 6, 3) := by decide +kernel
theorem dX6_greatestShake_11 : decode cX6_greatestShake 11 = .ok (.bipush (-3), 2) := by decide +kernel
theorem dX6_greatestShake_13 : decode cX6_greatestShake 13 = .ok (.ireturn, 1) := by decide +kernel
theorem dX6_greatestShake_14 : decode cX6_greatestShake 14 = .ok (.aload_n 0, 1) := by decide +kernel
theorem dX6_greatestShake_15 : decode cX6_greatestShake 15 = .ok (.iload_n 1, 1) := by decide +kernel
theorem dX6_greatestShake_16 : decode cX6_greatestShake 16 = .ok (.invokevirtual 264, 3) := by decide +kernel
theorem dX6_greatestShake_19 : decode cX6_greatestShake 19 = .ok (.aload_n 0, 1) := by decide +kernel
theorem dX6_greatestShake_20 : decode cX6_greatestShake 20 = .ok (.iload_n 1, 1) := by decide +kernel
theorem dX6_greatestShake_21 : decode cX6_greatestShake 21 = .ok (.invokevirtual 278, 3) := by decide +kernel
theorem dX6_greatestShake_24 : decode cX6_greatestShake 24 = .ok (.ireturn, 1) := by decide +kernel
theorem dX6_setShakeLimit_0 : decode cX6_setShakeLimit 0 = .ok (.iload_n 1, 1) := by decide +kernel
theorem dX6_setShakeLimit_1 : decode cX6_setShakeLimit 1 = .ok (.iconst 0, 1) := by decide +kernel
theorem dX6_setShakeLimit_2 : decode cX6_setShakeLimit 2 = .ok (.ldc 107, 2) := by decide +kernel
theorem dX6_setShakeLimit_4 : decode cX6_setShakeLimit 4 = .ok (.invokestatic 87, 3) := by decide +kernel
theorem dX6_setShakeLimit_7 : decode cX6_setShakeLimit 7 = .ok (.ifCond .eq 6, 3) := by decide +kernel
theorem dX6_setShakeLimit_10 : decode cX6_setShakeLimit 10 = .ok (.bipush (-3), 2) := by decide +kernel
theorem dX6_setShakeLimit_12 : decode cX6_setShakeLimit 12 = .ok (.ireturn, 1) := by decide +kernel
theorem dX6_setShakeLimit_13 : decode cX6_setShakeLimit 13 = .ok (.aload_n 0, 1) := by decide +kernel
theorem dX6_setShakeLimit_14 : decode cX6_setShakeLimit 14 = .ok (.getfield 79, 3) := by decide +kernel
theorem dX6_setShakeLimit_17 : decode cX6_setShakeLimit 17 = .ok (.istore_n 2, 1) := by decide +kernel
theorem dX6_setShakeLimit_18 : decode cX6_setShakeLimit 18 = .ok (.aload_n 0, 1) := by decide +kernel
theorem dX6_setShakeLimit_19 : decode cX6_setShakeLimit 19 = .ok (.iload_n 1, 1) := by decide +kernel
theorem dX6_setShakeLimit_20 : decode cX6_setShakeLimit 20 = .ok (.putfield 79, 3) := by decide +kernel
theorem dX6_setShakeLimit_23 : decode cX6_setShakeLimit 23 = .ok (.iload_n 2, 1) := by decide +kernel
theorem dX6_setShakeLimit_24 : decode cX6_setShakeLimit 24 = .ok (.ireturn, 1) := by decide +kernel
theorem dX6_calmestWait_0 : decode cX6_calmestWait 0 = .ok (.aload_n 0, 1) := by decide +kernel
theorem dX6_calmestWait_1 : decode cX6_calmestWait 1 = .ok (.iload_n 1, 1) := by decide +kernel
theorem dX6_calmestWait_2 : decode cX6_calmestWait 2 = .ok (.invokevirtual 103, 3) := by decide +kernel
theorem dX6_calmestWait_5 : decode cX6_calmestWait 5 = .ok (.ifCond .ne 6, 3) := by decide +kernel
theorem dX6_calmestWait_8 : decode cX6_calmestWait 8 = .ok (.bipush (-2), 2) := by decide +kernel
theorem dX6_calmestWait_10 : decode cX6_calmestWait 10 = .ok (.ireturn, 1) := by decide +kernel
theorem dX6_calmestWait_11 : decode cX6_calmestWait 11 = .ok (.iload_n 2, 1) := by decide +kernel
theorem dX6_calmestWait_12 : decode cX6_calmestWait 12 = .ok (.iconst 1, 1) := by decide +kernel
theorem dX6_calmestWait_13 : decode cX6_calmestWait 13 = .ok (.sipush 1000, 3) := by decide +kernel
theorem dX6_calmestWait_16 : decode cX6_calmestWait 16 = .ok (.invokestatic 87, 3) := by decide +kernel
theorem dX6_calmestWait_19 : decode cX6_calmestWait 19 = .ok (.ifCond .eq 6, 3) := by decide +kernel
theorem dX6_calmestWait_22 : decode cX6_calmestWait 22 = .ok (.bipush (-3), 2) := by decide +kernel
theorem dX6_calmestWait_24 : decode cX6_calmestWait 24 = .ok (.ireturn, 1) := by decide +kernel
theorem dX6_calmestWait_25 : decode cX6_calmestWait 25 = .ok (.aload_n 0, 1) := by decide +kernel
theorem dX6_calmestWait_26 : decode cX6_calmestWait 26 = .ok (.getfield 11, 3) := by decide +kernel
theorem dX6_calmestWait_29 : decode cX6_calmestWait 29 = .ok (.iload_n 1, 1) := by decide +kernel
theorem dX6_calmestWait_30 : decode cX6_calmestWait 30 = .ok (.aaload, 1) := by decide +kernel
theorem dX6_calmestWait_31 : decode cX6_calmestWait 31 = .ok (.getfield 162, 3) := by decide +kernel
theorem dX6_calmestWait_34 : decode cX6_calmestWait 34 = .ok (.ifCond .eq 6, 3) := by decide +kernel
theorem dX6_calmestWait_37 : decode cX6_calmestWait 37 = .ok (.bipush (-6), 2) := by decide +kernel
theorem dX6_calmestWait_39 : decode cX6_calmestWait 39 = .ok (.ireturn, 1) := by decide +kernel
theorem dX6_calmestWait_40 : decode cX6_calmestWait 40 = .ok (.iconst 2, 1) := by decide +kernel
theorem dX6_calmestWait_41 : decode cX6_calmestWait 41 = .ok (.aload_n 0, 1) := by decide +kernel
theorem dX6_calmestWait_42 : decode cX6_calmestWait 42 = .ok (.getfield 11, 3) := by decide +kernel
theorem dX6_calmestWait_45 : decode cX6_calmestWait 45 = .ok (.iload_n 1, 1) := by decide +kernel
theorem dX6_calmestWait_46 : decode cX6_calmestWait 46 = .ok (.aaload, 1) := by decide +kernel
theorem dX6_calmestWait_47 : decode cX6_calmestWait 47 = .ok (.getfield 100, 3) := by decide +kernel
theorem dX6_calmestWait_50 : decode cX6_calmestWait 50 = .ok (.imul, 1) := by decide +kernel
theorem dX6_calmestWait_51 : decode cX6_calmestWait 51 = .ok (.iconst 1, 1) := by decide +kernel
theorem dX6_calmestWait_52 : decode cX6_calmestWait 52 = .ok (.isub, 1) := by decide +kernel
theorem dX6_calmestWait_53 : decode cX6_calmestWait 53 = .ok (.istore_n 3, 1) := by decide +kernel
theorem dX6_calmestWait_54 : decode cX6_calmestWait 54 = .ok (.aload_n 0, 1) := by decide +kernel
theorem dX6_calmestWait_55 : decode cX6_calmestWait 55 = .ok (.sipush 600, 3) := by decide +kernel
theorem dX6_calmestWait_58 : decode cX6_calmestWait 58 = .ok (.iload_n 3, 1) := by decide +kernel
theorem dX6_calmestWait_59 : decode cX6_calmestWait 59 = .ok (.iadd, 1) := by decide +kernel
theorem dX6_calmestWait_60 : decode cX6_calmestWait 60 = .ok (.invokevirtual 264, 3) := by decide +kernel
theorem dX6_calmestWait_63 : decode cX6_calmestWait 63 = .ok (.aload_n 0, 1) := by decide +kernel
theorem dX6_calmestWait_64 : decode cX6_calmestWait 64 = .ok (.getfield 16, 3) := by decide +kernel
theorem dX6_calmestWait_67 : decode cX6_calmestWait 67 = .ok (.aload_n 0, 1) := by decide +kernel
theorem dX6_calmestWait_68 : decode cX6_calmestWait 68 = .ok (.getfield 11, 3) := by decide +kernel
theorem dX6_calmestWait_71 : decode cX6_calmestWait 71 = .ok (.iload_n 1, 1) := by decide +kernel
theorem dX6_calmestWait_72 : decode cX6_calmestWait 72 = .ok (.aaload, 1) := by decide +kernel
theorem dX6_calmestWait_73 : decode cX6_calmestWait 73 = .ok (.invokevirtual 267, 3) := by decide +kernel
theorem dX6_calmestWait_76 : decode cX6_calmestWait 76 = .ok (.aload_n 0, 1) := by decide +kernel
theorem dX6_calmestWait_77 : decode cX6_calmestWait 77 = .ok (.getfield 16, 3) := by decide +kernel
theorem dX6_calmestWait_80 : decode cX6_calmestWait 80 = .ok (.aload_n 0, 1) := by decide +kernel
theorem dX6_calmestWait_81 : decode cX6_calmestWait 81 = .ok (.getfield 73, 3) := by decide +kernel
theorem dX6_calmestWait_84 : decode cX6_calmestWait 84 = .ok (.iload_n 2, 1) := by decide +kernel
theorem dX6_calmestWait_85 : decode cX6_calmestWait 85 = .ok (.invokevirtual 270, 3) := by decide +kernel
theorem dX6_calmestWait_88 : decode cX6_calmestWait 88 = .ok (.aload_n 0, 1) := by decide +kernel
theorem dX6_calmestWait_89 : decode cX6_calmestWait 89 = .ok (.getfield 60, 3) := by decide +kernel
theorem dX6_calmestWait_92 : decode cX6_calmestWait 92 = .ok (.invokestatic 299, 3) := by decide +kernel
theorem dX6_calmestWait_95 : decode cX6_calmestWait 95 = .ok (.aload_n 0, 1) := by decide +kernel
theorem dX6_calmestWait_96 : decode cX6_calmestWait 96 = .ok (.getfield 16, 3) := by decide +kernel
theorem dX6_calmestWait_99 : decode cX6_calmestWait 99 = .ok (.aload_n 0, 1) := by decide +kernel
theorem dX6_calmestWait_100 : decode cX6_calmestWait 100 = .ok (.getfield 60, 3) := by decide +kernel
theorem dX6_calmestWait_103 : decode cX6_calmestWait 103 = .ok (.aload_n 0, 1) := by decide +kernel
theorem dX6_calmestWait_104 : decode cX6_calmestWait 104 = .ok (.getfield 73, 3) := by decide +kernel
theorem dX6_calmestWait_107 : decode cX6_calmestWait 107 = .ok (.sipush 600, 3) := by decide +kernel
theorem dX6_calmestWait_110 : decode cX6_calmestWait 110 = .ok (.invokevirtual 274, 3) := by decide +kernel
theorem dX6_calmestWait_113 : decode cX6_calmestWait 113 = .ok (.iconst 0, 1) := by decide +kernel
theorem dX6_calmestWait_114 : decode cX6_calmestWait 114 = .ok (.istore 4, 2) := by decide +kernel
theorem dX6_calmestWait_116 : decode cX6_calmestWait 116 = .ok (.ldc_w 303, 3) := by decide +kernel
theorem dX6_calmestWait_119 : decode cX6_calmestWait 119 = .ok (.istore 5, 2) := by decide +kernel
theorem dX6_calmestWait_121 : decode cX6_calmestWait 121 = .ok (.iconst 0, 1) := by decide +kernel
theorem dX6_calmestWait_122 : decode cX6_calmestWait 122 = .ok (.istore 6, 2) := by decide +kernel
theorem dX6_calmestWait_124 : decode cX6_calmestWait 124 = .ok (.iload 6, 2) := by decide +kernel
theorem dX6_calmestWait_126 : decode cX6_calmestWait 126 = .ok (.iload_n 3, 1) := by decide +kernel
theorem dX6_calmestWait_127 : decode cX6_calmestWait 127 = .ok (.if_icmp .gt 34, 3) := by decide +kernel
theorem dX6_calmestWait_130 : decode cX6_calmestWait 130 = .ok (.aload_n 0, 1) := by decide +kernel
theorem dX6_calmestWait_131 : decode cX6_calmestWait 131 = .ok (.iload 6, 2) := by decide +kernel
theorem dX6_calmestWait_133 : decode cX6_calmestWait 133 = .ok (.iload 5, 2) := by decide +kernel
theorem dX6_calmestWait_135 : decode cX6_calmestWait 135 = .ok (.invokevirtual 304, 3) := by decide +kernel
theorem dX6_calmestWait_138 : decode cX6_calmestWait 138 = .ok (.istore 7, 2) := by decide +kernel
theorem dX6_calmestWait_140 : decode cX6_calmestWait 140 = .ok (.iload 7, 2) := by decide +kernel
theorem dX6_calmestWait_142 : decode cX6_calmestWait 142 = .ok (.iload 5, 2) := by decide +kernel
theorem dX6_calmestWait_144 : decode cX6_calmestWait 144 = .ok (.if_icmp .ge 11, 3) := by decide +kernel
theorem dX6_calmestWait_147 : decode cX6_calmestWait 147 = .ok (.iload 7, 2) := by decide +kernel
theorem dX6_calmestWait_149 : decode cX6_calmestWait 149 = .ok (.istore 5, 2) := by decide +kernel
theorem dX6_calmestWait_151 : decode cX6_calmestWait 151 = .ok (.iload 6, 2) := by decide +kernel
theorem dX6_calmestWait_153 : decode cX6_calmestWait 153 = .ok (.istore 4, 2) := by decide +kernel
theorem dX6_calmestWait_155 : decode cX6_calmestWait 155 = .ok (.iinc 6 1, 3) := by decide +kernel
theorem dX6_calmestWait_158 : decode cX6_calmestWait 158 = .ok (.goto (-34), 3) := by decide +kernel
theorem dX6_calmestWait_161 : decode cX6_calmestWait 161 = .ok (.iload 4, 2) := by decide +kernel
theorem dX6_calmestWait_163 : decode cX6_calmestWait 163 = .ok (.ireturn, 1) := by decide +kernel
theorem dX6_outside_0 : decode cX6_outside 0 = .ok (.iload_n 0, 1) := by decide +kernel
theorem dX6_outside_1 : decode cX6_outside 1 = .ok (.iload_n 1, 1) := by decide +kernel
theorem dX6_outside_2 : decode cX6_outside 2 = .ok (.if_icmp .lt 8, 3) := by decide +kernel
theorem dX6_outside_5 : decode cX6_outside 5 = .ok (.iload_n 0, 1) := by decide +kernel
theorem dX6_outside_6 : decode cX6_outside 6 = .ok (.iload_n 2, 1) := by decide +kernel
theorem dX6_outside_7 : decode cX6_outside 7 = .ok (.if_icmp .le 7, 3) := by decide +kernel
theorem dX6_outside_10 : decode cX6_outside 10 = .ok (.iconst 1, 1) := by decide +kernel
theorem dX6_outside_11 : decode cX6_outside 11 = .ok (.goto 4, 3) := by decide +kernel
theorem dX6_outside_14 : decode cX6_outside 14 = .ok (.iconst 0, 1) := by decide +kernel
theorem dX6_outside_15 : decode cX6_outside 15 = .ok (.ireturn, 1) := by decide +kernel
theorem dX6_clear_0 : decode cX6_clear 0 = .ok (.iconst 0, 1) := by decide +kernel
theorem dX6_clear_1 : decode cX6_clear 1 = .ok (.istore_n 1, 1) := by decide +kernel
theorem dX6_clear_2 : decode cX6_clear 2 = .ok (.iload_n 1, 1) := by decide +kernel
theorem dX6_clear_3 : decode cX6_clear 3 = .ok (.aload_n 0, 1) := by decide +kernel
theorem dX6_clear_4 : decode cX6_clear 4 = .ok (.arraylength, 1) := by decide +kernel
theorem dX6_clear_5 : decode cX6_clear 5 = .ok (.if_icmp .ge 13, 3) := by decide +kernel
theorem dX6_clear_8 : decode cX6_clear 8 = .ok (.aload_n 0, 1) := by decide +kernel
theorem dX6_clear_9 : decode cX6_clear 9 = .ok (.iload_n 1, 1) := by decide +kernel
theorem dX6_clear_10 : decode cX6_clear 10 = .ok (.iconst 0, 1) := by decide +kernel
theorem dX6_clear_11 : decode cX6_clear 11 = .ok (.iastore, 1) := by decide +kernel
theorem dX6_clear_12 : decode cX6_clear 12 = .ok (.iinc 1 1, 3) := by decide +kernel
theorem dX6_clear_15 : decode cX6_clear 15 = .ok (.goto (-13), 3) := by decide +kernel
theorem dX6_clear_18 : decode cX6_clear 18 = .ok (.return_, 1) := by decide +kernel
theorem dX6_isBell_0 : decode cX6_isBell 0 = .ok (.iload_n 1, 1) := by decide +kernel
theorem dX6_isBell_1 : decode cX6_isBell 1 = .ok (.ifCond .lt 15, 3) := by decide +kernel
theorem dX6_isBell_4 : decode cX6_isBell 4 = .ok (.iload_n 1, 1) := by decide +kernel
theorem dX6_isBell_5 : decode cX6_isBell 5 = .ok (.aload_n 0, 1) := by decide +kernel
theorem dX6_isBell_6 : decode cX6_isBell 6 = .ok (.getfield 66, 3) := by decide +kernel
theorem dX6_isBell_9 : decode cX6_isBell 9 = .ok (.if_icmp .ge 7, 3) := by decide +kernel
theorem dX6_isBell_12 : decode cX6_isBell 12 = .ok (.iconst 1, 1) := by decide +kernel
theorem dX6_isBell_13 : decode cX6_isBell 13 = .ok (.goto 4, 3) := by decide +kernel
theorem dX6_isBell_16 : decode cX6_isBell 16 = .ok (.iconst 0, 1) := by decide +kernel
theorem dX6_isBell_17 : decode cX6_isBell 17 = .ok (.ireturn, 1) := by decide +kernel
theorem dX6_isPattern_0 : decode cX6_isPattern 0 = .ok (.iload_n 0, 1) := by decide +kernel
theorem dX6_isPattern_1 : decode cX6_isPattern 1 = .ok (.ifCond .lt 12, 3) := by decide +kernel
theorem dX6_isPattern_4 : decode cX6_isPattern 4 = .ok (.iload_n 0, 1) := by decide +kernel
theorem dX6_isPattern_5 : decode cX6_isPattern 5 = .ok (.iconst 5, 1) := by decide +kernel
theorem dX6_isPattern_6 : decode cX6_isPattern 6 = .ok (.if_icmp .ge 7, 3) := by decide +kernel
theorem dX6_isPattern_9 : decode cX6_isPattern 9 = .ok (.iconst 1, 1) := by decide +kernel
theorem dX6_isPattern_10 : decode cX6_isPattern 10 = .ok (.goto 4, 3) := by decide +kernel
theorem dX6_isPattern_13 : decode cX6_isPattern 13 = .ok (.iconst 0, 1) := by decide +kernel
theorem dX6_isPattern_14 : decode cX6_isPattern 14 = .ok (.ireturn, 1) := by decide +kernel
theorem dX6_isEntry_0 : decode cX6_isEntry 0 = .ok (.iload_n 1, 1) := by decide +kernel
theorem dX6_isEntry_1 : decode cX6_isEntry 1 = .ok (.ifCond .lt 15, 3) := by decide +kernel
theorem dX6_isEntry_4 : decode cX6_isEntry 4 = .ok (.iload_n 1, 1) := by decide +kernel
theorem dX6_isEntry_5 : decode cX6_isEntry 5 = .ok (.aload_n 0, 1) := by decide +kernel
theorem dX6_isEntry_6 : decode cX6_isEntry 6 = .ok (.getfield 70, 3) := by decide +kernel
theorem dX6_isEntry_9 : decode cX6_isEntry 9 = .ok (.if_icmp .ge 7, 3) := by decide +kernel
theorem dX6_isEntry_12 : decode cX6_isEntry 12 = .ok (.iconst 1, 1) := by decide +kernel
theorem dX6_isEntry_13 : decode cX6_isEntry 13 = .ok (.goto 4, 3) := by decide +kernel
theorem dX6_isEntry_16 : decode cX6_isEntry 16 = .ok (.iconst 0, 1) := by decide +kernel
theorem dX6_isEntry_17 : decode cX6_isEntry 17 = .ok (.ireturn, 1) := by decide +kernel
theorem dX6_existingBells_0 : decode cX6_existingBells 0 = .ok (.iconst 1, 1) := by decide +kernel
theorem dX6_existingBells_1 : decode cX6_existingBells 1 = .ok (.aload_n 0, 1) := by decide +kernel
theorem dX6_existingBells_2 : decode cX6_existingBells 2 = .ok (.getfield 66, 3) := by decide +kernel
theorem dX6_existingBells_5 : decode cX6_existingBells 5 = .ok (.ishl, 1) := by decide +kernel
theorem dX6_existingBells_6 : decode cX6_existingBells 6 = .ok (.iconst 1, 1) := by decide +kernel
theorem dX6_existingBells_7 : decode cX6_existingBells 7 = .ok (.isub, 1) := by decide +kernel
theorem dX6_existingBells_8 : decode cX6_existingBells 8 = .ok (.ireturn, 1) := by decide +kernel
theorem dX6_soundHammers_0 : decode cX6_soundHammers 0 = .ok (.aload_n 0, 1) := by decide +kernel
theorem dX6_soundHammers_1 : decode cX6_soundHammers 1 = .ok (.getfield 30, 3) := by decide +kernel
theorem dX6_soundHammers_4 : decode cX6_soundHammers 4 = .ok (.aload_n 0, 1) := by decide +kernel
theorem dX6_soundHammers_5 : decode cX6_soundHammers 5 = .ok (.getfield 73, 3) := by decide +kernel
theorem dX6_soundHammers_8 : decode cX6_soundHammers 8 = .ok (.invokevirtual 307, 3) := by decide +kernel
theorem dX6_soundHammers_11 : decode cX6_soundHammers 11 = .ok (.istore_n 1, 1) := by decide +kernel
theorem dX6_soundHammers_12 : decode cX6_soundHammers 12 = .ok (.iconst 0, 1) := by decide +kernel
theorem dX6_soundHammers_13 : decode cX6_soundHammers 13 = .ok (.istore_n 2, 1) := by decide +kernel
theorem dX6_soundHammers_14 : decode cX6_soundHammers 14 = .ok (.iconst 0, 1) := by decide +kernel
theorem dX6_soundHammers_15 : decode cX6_soundHammers 15 = .ok (.istore_n 3, 1) := by decide +kernel
theorem dX6_soundHammers_16 : decode cX6_soundHammers 16 = .ok (.iload_n 3, 1) := by decide +kernel
theorem dX6_soundHammers_17 : decode cX6_soundHammers 17 = .ok (.aload_n 0, 1) := by decide +kernel
theorem dX6_soundHammers_18 : decode cX6_soundHammers 18 = .ok (.getfield 66, 3) := by decide +kernel
theorem dX6_soundHammers_21 : decode cX6_soundHammers 21 = .ok (.if_icmp .ge 60, 3) := by decide +kernel
theorem dX6_soundHammers_24 : decode cX6_soundHammers 24 = .ok (.iload_n 1, 1) := by decide +kernel
theorem dX6_soundHammers_25 : decode cX6_soundHammers 25 = .ok (.ifCond .eq 56, 3) := by decide +kernel
theorem dX6_soundHammers_28 : decode cX6_soundHammers 28 = .ok (.iload_n 1, 1) := by decide +kernel
theorem dX6_soundHammers_29 : decode cX6_soundHammers 29 = .ok (.iload_n 3, 1) := by decide +kernel
theorem dX6_soundHammers_30 : decode cX6_soundHammers 30 = .ok (.ishr, 1) := by decide +kernel
theorem dX6_soundHammers_31 : decode cX6_soundHammers 31 = .ok (.iconst 1, 1) := by decide +kernel
theorem dX6_soundHammers_32 : decode cX6_soundHammers 32 = .ok (.iand, 1) := by decide +kernel
theorem dX6_soundHammers_33 : decode cX6_soundHammers 33 = .ok (.ifCond .eq 42, 3) := by decide +kernel
theorem dX6_soundHammers_36 : decode cX6_soundHammers 36 = .ok (.aload_n 0, 1) := by decide +kernel
theorem dX6_soundHammers_37 : decode cX6_soundHammers 37 = .ok (.getfield 11, 3) := by decide +kernel
theorem dX6_soundHammers_40 : decode cX6_soundHammers 40 = .ok (.iload_n 3, 1) := by decide +kernel
theorem dX6_soundHammers_41 : decode cX6_soundHammers 41 = .ok (.aaload, 1) := by decide +kernel
theorem dX6_soundHammers_42 : decode cX6_soundHammers 42 = .ok (.aload_n 0, 1) := by decide +kernel
theorem dX6_soundHammers_43 : decode cX6_soundHammers 43 = .ok (.getfield 73, 3) := by decide +kernel
theorem dX6_soundHammers_46 : decode cX6_soundHammers 46 = .ok (.aload_n 0, 1) := by decide +kernel
theorem dX6_soundHammers_47 : decode cX6_soundHammers 47 = .ok (.getfield 11, 3) := by decide +kernel
theorem dX6_soundHammers_50 : decode cX6_soundHammers 50 = .ok (.iload_n 3, 1) := by decide +kernel
theorem dX6_soundHammers_51 : decode cX6_soundHammers 51 = .ok (.aaload, 1) := by decide +kernel
theorem dX6_soundHammers_52 : decode cX6_soundHammers 52 = .ok (.getfield 94, 3) := by decide +kernel
theorem dX6_soundHammers_55 : decode cX6_soundHammers 55 = .ok (.iadd, 1) := by decide +kernel
theorem dX6_soundHammers_56 : decode cX6_soundHammers 56 = .ok (.putfield 310, 3) := by decide +kernel
theorem dX6_soundHammers_59 : decode cX6_soundHammers 59 = .ok (.aload_n 0, 1) := by decide +kernel
theorem dX6_soundHammers_60 : decode cX6_soundHammers 60 = .ok (.getfield 23, 3) := by decide +kernel
theorem dX6_soundHammers_63 : decode cX6_soundHammers 63 = .ok (.iload_n 3, 1) := by decide +kernel
theorem dX6_soundHammers_64 : decode cX6_soundHammers 64 = .ok (.aload_n 0, 1) := by decide +kernel
theorem dX6_soundHammers_65 : decode cX6_soundHammers 65 = .ok (.getfield 73, 3) := by decide +kernel
theorem dX6_soundHammers_68 : decode cX6_soundHammers 68 = .ok (.iconst 0, 1) := by decide +kernel
theorem dX6_soundHammers_69 : decode cX6_soundHammers 69 = .ok (.invokevirtual 313, 3) := by decide +kernel
theorem dX6_soundHammers_72 : decode cX6_soundHammers 72 = .ok (.iinc 2 1, 3) := by decide +kernel
theorem dX6_soundHammers_75 : decode cX6_soundHammers 75 = .ok (.iinc 3 1, 3) := by decide +kernel
theorem dX6_soundHammers_78 : decode cX6_soundHammers 78 = .ok (.goto (-62), 3) := by decide +kernel
theorem dX6_soundHammers_81 : decode cX6_soundHammers 81 = .ok (.iload_n 2, 1) := by decide +kernel
theorem dX6_soundHammers_82 : decode cX6_soundHammers 82 = .ok (.ireturn, 1) := by decide +kernel
theorem dX6_turnBells_0 : decode cX6_turnBells 0 = .ok (.iconst 0, 1) := by decide +kernel
theorem dX6_turnBells_1 : decode cX6_turnBells 1 = .ok (.istore_n 1, 1) := by decide +kernel
theorem dX6_turnBells_2 : decode cX6_turnBells 2 = .ok (.iconst 0, 1) := by decide +kernel
theorem dX6_turnBells_3 : decode cX6_turnBells 3 = .ok (.istore_n 2, 1) := by decide +kernel
theorem dX6_turnBells_4 : decode cX6_turnBells 4 = .ok (.iload_n 2, 1) := by decide +kernel
theorem dX6_turnBells_5 : decode cX6_turnBells 5 = .ok (.aload_n 0, 1) := by decide +kernel
theorem dX6_turnBells_6 : decode cX6_turnBells 6 = .ok (.getfield 66, 3) := by decide +kernel
theorem dX6_turnBells_9 : decode cX6_turnBells 9 = .ok (.if_icmp .ge 64, 3) := by decide +kernel
theorem dX6_turnBells_12 : decode cX6_turnBells 12 = .ok (.aload_n 0, 1) := by decide +kernel
theorem dX6_turnBells_13 : decode cX6_turnBells 13 = .ok (.getfield 11, 3) := by decide +kernel
theorem dX6_turnBells_16 : decode cX6_turnBells 16 = .ok (.iload_n 2, 1) := by decide +kernel
theorem dX6_turnBells_17 : decode cX6_turnBells 17 = .ok (.aaload, 1) := by decide +kernel
theorem dX6_turnBells_18 : decode cX6_turnBells 18 = .ok (.astore_n 3, 1) := by decide +kernel
theorem dX6_turnBells_19 : decode cX6_turnBells 19 = .ok (.aload_n 3, 1) := by decide +kernel
theorem dX6_turnBells_20 : decode cX6_turnBells 20 = .ok (.aload_n 0, 1) := by decide +kernel
theorem dX6_turnBells_21 : decode cX6_turnBells 21 = .ok (.getfield 73, 3) := by decide +kernel
theorem dX6_turnBells_24 : decode cX6_turnBells 24 = .ok (.invokevirtual 316, 3) := by decide +kernel
theorem dX6_turnBells_27 : decode cX6_turnBells 27 = .ok (.ifCond .eq 40, 3) := by decide +kernel
theorem dX6_turnBells_30 : decode cX6_turnBells 30 = .ok (.aload_n 3, 1) := by decide +kernel
theorem dX6_turnBells_31 : decode cX6_turnBells 31 = .ok (.invokevirtual 293, 3) := by decide +kernel
theorem dX6_turnBells_34 : decode cX6_turnBells 34 = .ok (.aload_n 3, 1) := by decide +kernel
theorem dX6_turnBells_35 : decode cX6_turnBells 35 = .ok (.getfield 287, 3) := by decide +kernel
theorem dX6_turnBells_38 : decode cX6_turnBells 38 = .ok (.sipush 400, 3) := by decide +kernel
theorem dX6_turnBells_41 : decode cX6_turnBells 41 = .ok (.if_icmp .lt 26, 3) := by decide +kernel
theorem dX6_turnBells_44 : decode cX6_turnBells 44 = .ok (.aload_n 3, 1) := by decide +kernel
theorem dX6_turnBells_45 : decode cX6_turnBells 45 = .ok (.getfield 290, 3) := by decide +kernel
theorem dX6_turnBells_48 : decode cX6_turnBells 48 = .ok (.ifCond .ne 19, 3) := by decide +kernel
theorem dX6_turnBells_51 : decode cX6_turnBells 51 = .ok (.aload_n 0, 1) := by decide +kernel
theorem dX6_turnBells_52 : decode cX6_turnBells 52 = .ok (.getfield 23, 3) := by decide +kernel
theorem dX6_turnBells_55 : decode cX6_turnBells 55 = .ok (.iload_n 2, 1) := by decide +kernel
theorem dX6_turnBells_56 : decode cX6_turnBells 56 = .ok (.aload_n 0, 1) := by decide +kernel
theorem dX6_turnBells_57 : decode cX6_turnBells 57 = .ok (.getfield 73, 3) := by decide +kernel
theorem dX6_turnBells_60 : decode cX6_turnBells 60 = .ok (.iconst 1, 1) := by decide +kernel
theorem dX6_turnBells_61 : decode cX6_turnBells 61 = .ok (.invokevirtual 313, 3) := by decide +kernel
theorem dX6_turnBells_64 : decode cX6_turnBells 64 = .ok (.iinc 1 1, 3) := by decide +kernel
theorem dX6_turnBells_67 : decode cX6_turnBells 67 = .ok (.iinc 2 1, 3) := by decide +kernel
theorem dX6_turnBells_70 : decode cX6_turnBells 70 = .ok (.goto (-66), 3) := by decide +kernel
theorem dX6_turnBells_73 : decode cX6_turnBells 73 = .ok (.iload_n 1, 1) := by decide +kernel
theorem dX6_turnBells_74 : decode cX6_turnBells 74 = .ok (.ireturn, 1) := by decide +kernel
theorem dX6_runProgramme_0 : decode cX6_runProgramme 0 = .ok (.iconst 0, 1) := by decide +kernel
theorem dX6_runProgramme_1 : decode cX6_runProgramme 1 = .ok (.istore_n 1, 1) := by decide +kernel
theorem dX6_runProgramme_2 : decode cX6_runProgramme 2 = .ok (.aload_n 0, 1) := by decide +kernel
theorem dX6_runProgramme_3 : decode cX6_runProgramme 3 = .ok (.getfield 70, 3) := by decide +kernel
theorem dX6_runProgramme_6 : decode cX6_runProgramme 6 = .ok (.istore_n 2, 1) := by decide +kernel
theorem dX6_runProgramme_7 : decode cX6_runProgramme 7 = .ok (.iload_n 2, 1) := by decide +kernel
theorem dX6_runProgramme_8 : decode cX6_runProgramme 8 = .ok (.ifCond .le 52, 3) := by decide +kernel
theorem dX6_runProgramme_11 : decode cX6_runProgramme 11 = .ok (.aload_n 0, 1) := by decide +kernel
theorem dX6_runProgramme_12 : decode cX6_runProgramme 12 = .ok (.getfield 52, 3) := by decide +kernel
theorem dX6_runProgramme_15 : decode cX6_runProgramme 15 = .ok (.iload_n 1, 1) := by decide +kernel
theorem dX6_runProgramme_16 : decode cX6_runProgramme 16 = .ok (.aaload, 1) := by decide +kernel
theorem dX6_runProgramme_17 : decode cX6_runProgramme 17 = .ok (.getfield 243, 3) := by decide +kernel
theorem dX6_runProgramme_20 : decode cX6_runProgramme 20 = .ok (.aload_n 0, 1) := by decide +kernel
theorem dX6_runProgramme_21 : decode cX6_runProgramme 21 = .ok (.getfield 73, 3) := by decide +kernel
theorem dX6_runProgramme_24 : decode cX6_runProgramme 24 = .ok (.bipush 100, 2) := by decide +kernel
theorem dX6_runProgramme_26 : decode cX6_runProgramme 26 = .ok (.iadd, 1) := by decide +kernel
theorem dX6_runProgramme_27 : decode cX6_runProgramme 27 = .ok (.if_icmp .gt 16, 3) := by decide +kernel
theorem dX6_runProgramme_30 : decode cX6_runProgramme 30 = .ok (.aload_n 0, 1) := by decide +kernel
theorem dX6_runProgramme_31 : decode cX6_runProgramme 31 = .ok (.aload_n 0, 1) := by decide +kernel
theorem dX6_runProgramme_32 : decode cX6_runProgramme 32 = .ok (.getfield 52, 3) := by decide +kernel
theorem dX6_runProgramme_35 : decode cX6_runProgramme 35 = .ok (.iload_n 1, 1) := by decide +kernel
theorem dX6_runProgramme_36 : decode cX6_runProgramme 36 = .ok (.aaload, 1) := by decide +kernel
theorem dX6_runProgramme_37 : decode cX6_runProgramme 37 = .ok (.invokevirtual 319, 3) := by decide +kernel
theorem dX6_runProgramme_40 : decode cX6_runProgramme 40 = .ok (.ifCond .eq 9, 3) := by decide +kernel
theorem dX6_runProgramme_43 : decode cX6_runProgramme 43 = .ok (.iinc 1 1, 3) := by decide +kernel
theorem dX6_runProgramme_46 : decode cX6_runProgramme 46 = .ok (.goto 8, 3) := by decide +kernel
theorem dX6_runProgramme_49 : decode cX6_runProgramme 49 = .ok (.aload_n 0, 1) := by decide +kernel
theorem dX6_runProgramme_50 : decode cX6_runProgramme 50 = .ok (.iload_n 1, 1) := by decide +kernel
theorem dX6_runProgramme_51 : decode cX6_runProgramme 51 = .ok (.invokevirtual 261, 3) := by decide +kernel
theorem dX6_runProgramme_54 : decode cX6_runProgramme 54 = .ok (.iinc 2 (-1), 3) := by decide +kernel
theorem dX6_runProgramme_57 : decode cX6_runProgramme 57 = .ok (.goto (-50), 3) := by decide +kernel
theorem dX6_runProgramme_60 : decode cX6_runProgramme 60 = .ok (.return_, 1) := by decide +kernel
theorem dX6_carryOut_0 : decode cX6_carryOut 0 = .ok (.aload_n 0, 1) := by decide +kernel
theorem dX6_carryOut_1 : decode cX6_carryOut 1 = .ok (.getfield 46, 3) := by decide +kernel
theorem dX6_carryOut_4 : decode cX6_carryOut 4 = .ok (.aload_n 1, 1) := by decide +kernel
theorem dX6_carryOut_5 : decode cX6_carryOut 5 = .ok (.getfield 240, 3) := by decide +kernel
theorem dX6_carryOut_8 : decode cX6_carryOut 8 = .ok (.aaload, 1) := by decide +kernel
theorem dX6_carryOut_9 : decode cX6_carryOut 9 = .ok (.astore_n 2, 1) := by decide +kernel
theorem dX6_carryOut_10 : decode cX6_carryOut 10 = .ok (.aload_n 1, 1) := by decide +kernel
theorem dX6_carryOut_11 : decode cX6_carryOut 11 = .ok (.aload_n 2, 1) := by decide +kernel
theorem dX6_carryOut_12 : decode cX6_carryOut 12 = .ok (.invokevirtual 205, 3) := by decide +kernel
theorem dX6_carryOut_15 : decode cX6_carryOut 15 = .ok (.ifCond .eq 7, 3) := by decide +kernel
theorem dX6_carryOut_18 : decode cX6_carryOut 18 = .ok (.iconst (-1), 1) := by decide +kernel
theorem dX6_carryOut_19 : decode cX6_carryOut 19 = .ok (.goto 20, 3) := by decide +kernel
theorem dX6_carryOut_22 : decode cX6_carryOut 22 = .ok (.aload_n 0, 1) := by decide +kernel
theorem dX6_carryOut_23 : decode cX6_carryOut 23 = .ok (.aload_n 2, 1) := by decide +kernel
theorem dX6_carryOut_24 : decode cX6_carryOut 24 = .ok (.aload_n 1, 1) := by decide +kernel
theorem dX6_carryOut_25 : decode cX6_carryOut 25 = .ok (.getfield 243, 3) := by decide +kernel
theorem dX6_carryOut_28 : decode cX6_carryOut 28 = .ok (.aload_n 1, 1) := by decide +kernel
theorem dX6_carryOut_29 : decode cX6_carryOut 29 = .ok (.getfield 249, 3) := by decide +kernel
theorem dX6_carryOut_32 : decode cX6_carryOut 32 = .ok (.aload_n 1, 1) := by decide +kernel
theorem dX6_carryOut_33 : decode cX6_carryOut 33 = .ok (.getfield 252, 3) := by decide +kernel
theorem dX6_carryOut_36 : decode cX6_carryOut 36 = .ok (.invokevirtual 222, 3) := by decide +kernel
theorem dX6_carryOut_39 : decode cX6_carryOut 39 = .ok (.putfield 255, 3) := by decide +kernel
theorem dX6_carryOut_42 : decode cX6_carryOut 42 = .ok (.aload_n 1, 1) := by decide +kernel
theorem dX6_carryOut_43 : decode cX6_carryOut 43 = .ok (.getfield 255, 3) := by decide +kernel
theorem dX6_carryOut_46 : decode cX6_carryOut 46 = .ok (.iconst (-1), 1) := by decide +kernel
theorem dX6_carryOut_47 : decode cX6_carryOut 47 = .ok (.if_icmp .ne 13, 3) := by decide +kernel
theorem dX6_carryOut_50 : decode cX6_carryOut 50 = .ok (.aload_n 0, 1) := by decide +kernel
theorem dX6_carryOut_51 : decode cX6_carryOut 51 = .ok (.dup, 1) := by decide +kernel
theorem dX6_carryOut_52 : decode cX6_carryOut 52 = .ok (.getfield 82, 3) := by decide +kernel
theorem dX6_carryOut_55 : decode cX6_carryOut 55 = .ok (.iconst 1, 1) := by decide +kernel
theorem dX6_carryOut_56 : decode cX6_carryOut 56 = .ok (.iadd, 1) := by decide +kernel
theorem dX6_carryOut_57 : decode cX6_carryOut 57 = .ok (.putfield 82, 3) := by decide +kernel
theorem dX6_carryOut_60 : decode cX6_carryOut 60 = .ok (.aload_n 1, 1) := by decide +kernel
theorem dX6_carryOut_61 : decode cX6_carryOut 61 = .ok (.getfield 246, 3) := by decide +kernel
theorem dX6_carryOut_64 : decode cX6_carryOut 64 = .ok (.ifCond .eq 17, 3) := by decide +kernel
theorem dX6_carryOut_67 : decode cX6_carryOut 67 = .ok (.aload_n 1, 1) := by decide +kernel
theorem dX6_carryOut_68 : decode cX6_carryOut 68 = .ok (.getfield 243, 3) := by decide +kernel
theorem dX6_carryOut_71 : decode cX6_carryOut 71 = .ok (.aload_n 1, 1) := by decide +kernel
theorem dX6_carryOut_72 : decode cX6_carryOut 72 = .ok (.getfield 246, 3) := by decide +kernel
theorem dX6_carryOut_75 : decode cX6_carryOut 75 = .ok (.iadd, 1) := by decide +kernel
theorem dX6_carryOut_76 : decode cX6_carryOut 76 = .ok (.ldc 107, 2) := by decide +kernel
theorem dX6_carryOut_78 : decode cX6_carryOut 78 = .ok (.if_icmp .le 5, 3) := by decide +kernel
theorem dX6_carryOut_81 : decode cX6_carryOut 81 = .ok (.iconst 0, 1) := by decide +kernel
theorem dX6_carryOut_82 : decode cX6_carryOut 82 = .ok (.ireturn, 1) := by decide +kernel
theorem dX6_carryOut_83 : decode cX6_carryOut 83 = .ok (.aload_n 1, 1) := by decide +kernel
theorem dX6_carryOut_84 : decode cX6_carryOut 84 = .ok (.dup, 1) := by decide +kernel
theorem dX6_carryOut_85 : decode cX6_carryOut 85 = .ok (.getfield 243, 3) := by decide +kernel
theorem dX6_carryOut_88 : decode cX6_carryOut 88 = .ok (.aload_n 1, 1) := by decide +kernel
theorem dX6_carryOut_89 : decode cX6_carryOut 89 = .ok (.getfield 246, 3) := by decide +kernel
theorem dX6_carryOut_92 : decode cX6_carryOut 92 = .ok (.iadd, 1) := by decide +kernel
theorem dX6_carryOut_93 : decode cX6_carryOut 93 = .ok (.putfield 243, 3) := by decide +kernel
theorem dX6_carryOut_96 : decode cX6_carryOut 96 = .ok (.iconst 1, 1) := by decide +kernel
theorem dX6_carryOut_97 : decode cX6_carryOut 97 = .ok (.ireturn, 1) := by decide +kernel
theorem dX6_dropEntry_0 : decode cX6_dropEntry 0 = .ok (.aload_n 0, 1) := by decide +kernel
theorem dX6_dropEntry_1 : decode cX6_dropEntry 1 = .ok (.getfield 52, 3) := by decide +kernel
theorem dX6_dropEntry_4 : decode cX6_dropEntry 4 = .ok (.iload_n 1, 1) := by decide +kernel
theorem dX6_dropEntry_5 : decode cX6_dropEntry 5 = .ok (.aaload, 1) := by decide +kernel
theorem dX6_dropEntry_6 : decode cX6_dropEntry 6 = .ok (.astore_n 2, 1) := by decide +kernel
theorem dX6_dropEntry_7 : decode cX6_dropEntry 7 = .ok (.iload_n 1, 1) := by decide +kernel
theorem dX6_dropEntry_8 : decode cX6_dropEntry 8 = .ok (.iconst 1, 1) := by decide +kernel
theorem dX6_dropEntry_9 : decode cX6_dropEntry 9 = .ok (.iadd, 1) := by decide +kernel
theorem dX6_dropEntry_10 : decode cX6_dropEntry 10 = .ok (.istore_n 3, 1) := by decide +kernel
theorem dX6_dropEntry_11 : decode cX6_dropEntry 11 = .ok (.iload_n 3, 1) := by decide +kernel
theorem dX6_dropEntry_12 : decode cX6_dropEntry 12 = .ok (.aload_n 0, 1) := by decide +kernel
theorem dX6_dropEntry_13 : decode cX6_dropEntry 13 = .ok (.getfield 70, 3) := by decide +kernel
theorem dX6_dropEntry_16 : decode cX6_dropEntry 16 = .ok (.if_icmp .ge 23, 3) := by decide +kernel
theorem dX6_dropEntry_19 : decode cX6_dropEntry 19 = .ok (.aload_n 0, 1) := by decide +kernel
theorem dX6_dropEntry_20 : decode cX6_dropEntry 20 = .ok (.getfield 52, 3) := by decide +kernel
theorem dX6_dropEntry_23 : decode cX6_dropEntry 23 = .ok (.iload_n 3, 1) := by decide +kernel
theorem dX6_dropEntry_24 : decode cX6_dropEntry 24 = .ok (.iconst 1, 1) := by decide +kernel
theorem dX6_dropEntry_25 : decode cX6_dropEntry 25 = .ok (.isub, 1) := by decide +kernel
theorem dX6_dropEntry_26 : decode cX6_dropEntry 26 = .ok (.aload_n 0, 1) := by decide +kernel
theorem dX6_dropEntry_27 : decode cX6_dropEntry 27 = .ok (.getfield 52, 3) := by decide +kernel
theorem dX6_dropEntry_30 : decode cX6_dropEntry 30 = .ok (.iload_n 3, 1) := by decide +kernel
theorem dX6_dropEntry_31 : decode cX6_dropEntry 31 = .ok (.aaload, 1) := by decide +kernel
theorem dX6_dropEntry_32 : decode cX6_dropEntry 32 = .ok (.aastore, 1) := by decide +kernel
theorem dX6_dropEntry_33 : decode cX6_dropEntry 33 = .ok (.iinc 3 1, 3) := by decide +kernel
theorem dX6_dropEntry_36 : decode cX6_dropEntry 36 = .ok (.goto (-25), 3) := by decide +kernel
theorem dX6_dropEntry_39 : decode cX6_dropEntry 39 = .ok (.aload_n 0, 1) := by decide +kernel
theorem dX6_dropEntry_40 : decode cX6_dropEntry 40 = .ok (.dup, 1) := by decide +kernel
theorem dX6_dropEntry_41 : decode cX6_dropEntry 41 = .ok (.getfield 70, 3) := by decide +kernel
theorem dX6_dropEntry_44 : decode cX6_dropEntry 44 = .ok (.iconst 1, 1) := by decide +kernel
theorem dX6_dropEntry_45 : decode cX6_dropEntry 45 = .ok (.isub, 1) := by decide +kernel
theorem dX6_dropEntry_46 : decode cX6_dropEntry 46 = .ok (.putfield 70, 3) := by decide +kernel
theorem dX6_dropEntry_49 : decode cX6_dropEntry 49 = .ok (.aload_n 0, 1) := by decide +kernel
theorem dX6_dropEntry_50 : decode cX6_dropEntry 50 = .ok (.getfield 52, 3) := by decide +kernel
theorem dX6_dropEntry_53 : decode cX6_dropEntry 53 = .ok (.aload_n 0, 1) := by decide +kernel
theorem dX6_dropEntry_54 : decode cX6_dropEntry 54 = .ok (.getfield 70, 3) := by decide +kernel
theorem dX6_dropEntry_57 : decode cX6_dropEntry 57 = .ok (.aload_n 2, 1) := by decide +kernel
theorem dX6_dropEntry_58 : decode cX6_dropEntry 58 = .ok (.aastore, 1) := by decide +kernel
theorem dX6_dropEntry_59 : decode cX6_dropEntry 59 = .ok (.return_, 1) := by decide +kernel
theorem dX6_examine_0 : decode cX6_examine 0 = .ok (.aload_n 0, 1) := by decide +kernel
theorem dX6_examine_1 : decode cX6_examine 1 = .ok (.getfield 11, 3) := by decide +kernel
theorem dX6_examine_4 : decode cX6_examine 4 = .ok (.iload_n 2, 1) := by decide +kernel
theorem dX6_examine_5 : decode cX6_examine 5 = .ok (.aaload, 1) := by decide +kernel
theorem dX6_examine_6 : decode cX6_examine 6 = .ok (.astore 4, 2) := by decide +kernel
theorem dX6_examine_8 : decode cX6_examine 8 = .ok (.iload_n 3, 1) := by decide +kernel
theorem dX6_examine_9 : decode cX6_examine 9 = .ok (.aload 4, 2) := by decide +kernel
theorem dX6_examine_11 : decode cX6_examine 11 = .ok (.getfield 91, 3) := by decide +kernel
theorem dX6_examine_14 : decode cX6_examine 14 = .ok (.isub, 1) := by decide +kernel
theorem dX6_examine_15 : decode cX6_examine 15 = .ok (.istore 5, 2) := by decide +kernel
theorem dX6_examine_17 : decode cX6_examine 17 = .ok (.iload_n 3, 1) := by decide +kernel
theorem dX6_examine_18 : decode cX6_examine 18 = .ok (.ldc 107, 2) := by decide +kernel
theorem dX6_examine_20 : decode cX6_examine 20 = .ok (.if_icmp .le 6, 3) := by decide +kernel
theorem dX6_examine_23 : decode cX6_examine 23 = .ok (.bipush (-3), 2) := by decide +kernel
theorem dX6_examine_25 : decode cX6_examine 25 = .ok (.ireturn, 1) := by decide +kernel
theorem dX6_examine_26 : decode cX6_examine 26 = .ok (.aload 4, 2) := by decide +kernel
theorem dX6_examine_28 : decode cX6_examine 28 = .ok (.getfield 162, 3) := by decide +kernel
theorem dX6_examine_31 : decode cX6_examine 31 = .ok (.ifCond .eq 6, 3) := by decide +kernel
theorem dX6_examine_34 : decode cX6_examine 34 = .ok (.bipush (-6), 2) := by decide +kernel
theorem dX6_examine_36 : decode cX6_examine 36 = .ok (.ireturn, 1) := by decide +kernel
theorem dX6_examine_37 : decode cX6_examine 37 = .ok (.iload 5, 2) := by decide +kernel
theorem dX6_examine_39 : decode cX6_examine 39 = .ok (.aload_n 0, 1) := by decide +kernel
theorem dX6_examine_40 : decode cX6_examine 40 = .ok (.getfield 73, 3) := by decide +kernel
theorem dX6_examine_43 : decode cX6_examine 43 = .ok (.if_icmp .ge 6, 3) := by decide +kernel
theorem dX6_examine_46 : decode cX6_examine 46 = .ok (.bipush (-5), 2) := by decide +kernel
theorem dX6_examine_48 : decode cX6_examine 48 = .ok (.ireturn, 1) := by decide +kernel
theorem dX6_examine_49 : decode cX6_examine 49 = .ok (.aload_n 1, 1) := by decide +kernel
theorem dX6_examine_50 : decode cX6_examine 50 = .ok (.invokevirtual 166, 3) := by decide +kernel
theorem dX6_examine_53 : decode cX6_examine 53 = .ok (.ifCond .eq 6, 3) := by decide +kernel
theorem dX6_examine_56 : decode cX6_examine 56 = .ok (.bipush (-4), 2) := by decide +kernel
theorem dX6_examine_58 : decode cX6_examine 58 = .ok (.ireturn, 1) := by decide +kernel
theorem dX6_examine_59 : decode cX6_examine 59 = .ok (.aload_n 1, 1) := by decide +kernel
theorem dX6_examine_60 : decode cX6_examine 60 = .ok (.iload 5, 2) := by decide +kernel
theorem dX6_examine_62 : decode cX6_examine 62 = .ok (.sipush 150, 3) := by decide +kernel
theorem dX6_examine_65 : decode cX6_examine 65 = .ok (.isub, 1) := by decide +kernel
theorem dX6_examine_66 : decode cX6_examine 66 = .ok (.invokevirtual 323, 3) := by decide +kernel
theorem dX6_examine_69 : decode cX6_examine 69 = .ok (.istore 6, 2) := by decide +kernel
theorem dX6_examine_71 : decode cX6_examine 71 = .ok (.iload 5, 2) := by decide +kernel
theorem dX6_examine_73 : decode cX6_examine 73 = .ok (.aload 4, 2) := by decide +kernel
theorem dX6_examine_75 : decode cX6_examine 75 = .ok (.getfield 310, 3) := by decide +kernel
theorem dX6_examine_78 : decode cX6_examine 78 = .ok (.if_icmp .lt 21, 3) := by decide +kernel
theorem dX6_examine_81 : decode cX6_examine 81 = .ok (.aload_n 1, 1) := by decide +kernel
theorem dX6_examine_82 : decode cX6_examine 82 = .ok (.iload 6, 2) := by decide +kernel
theorem dX6_examine_84 : decode cX6_examine 84 = .ok (.iload_n 2, 1) := by decide +kernel
theorem dX6_examine_85 : decode cX6_examine 85 = .ok (.iload 5, 2) := by decide +kernel
theorem dX6_examine_87 : decode cX6_examine 87 = .ok (.iload_n 3, 1) := by decide +kernel
theorem dX6_examine_88 : decode cX6_examine 88 = .ok (.aload 4, 2) := by decide +kernel
theorem dX6_examine_90 : decode cX6_examine 90 = .ok (.getfield 94, 3) := by decide +kernel
theorem dX6_examine_93 : decode cX6_examine 93 = .ok (.invokevirtual 326, 3) := by decide +kernel
theorem dX6_examine_96 : decode cX6_examine 96 = .ok (.ifCond .eq 6, 3) := by decide +kernel
theorem dX6_examine_99 : decode cX6_examine 99 = .ok (.bipush (-7), 2) := by decide +kernel
theorem dX6_examine_101 : decode cX6_examine 101 = .ok (.ireturn, 1) := by decide +kernel
theorem dX6_examine_102 : decode cX6_examine 102 = .ok (.aload_n 1, 1) := by decide +kernel
theorem dX6_examine_103 : decode cX6_examine 103 = .ok (.iload 6, 2) := by decide +kernel
theorem dX6_examine_105 : decode cX6_examine 105 = .ok (.iload 5, 2) := by decide +kernel
theorem dX6_examine_107 : decode cX6_examine 107 = .ok (.iload_n 3, 1) := by decide +kernel
theorem dX6_examine_108 : decode cX6_examine 108 = .ok (.aload_n 0, 1) := by decide +kernel
theorem dX6_examine_109 : decode cX6_examine 109 = .ok (.getfield 76, 3) := by decide +kernel
theorem dX6_examine_112 : decode cX6_examine 112 = .ok (.invokevirtual 330, 3) := by decide +kernel
theorem dX6_examine_115 : decode cX6_examine 115 = .ok (.ifCond .eq 8, 3) := by decide +kernel
theorem dX6_examine_118 : decode cX6_examine 118 = .ok (.bipush (-8), 2) := by decide +kernel
theorem dX6_examine_120 : decode cX6_examine 120 = .ok (.goto 4, 3) := by decide +kernel
theorem dX6_examine_123 : decode cX6_examine 123 = .ok (.iconst 0, 1) := by decide +kernel
theorem dX6_examine_124 : decode cX6_examine 124 = .ok (.ireturn, 1) := by decide +kernel
theorem dX6_draftPattern_0 : decode cX6_draftPattern 0 = .ok (.aload_n 0, 1) := by decide +kernel
theorem dX6_draftPattern_1 : decode cX6_draftPattern 1 = .ok (.getfield 34, 3) := by decide +kernel
theorem dX6_draftPattern_4 : decode cX6_draftPattern 4 = .ok (.aload_n 0, 1) := by decide +kernel
theorem dX6_draftPattern_5 : decode cX6_draftPattern 5 = .ok (.getfield 30, 3) := by decide +kernel
theorem dX6_draftPattern_8 : decode cX6_draftPattern 8 = .ok (.invokevirtual 218, 3) := by decide +kernel
theorem dX6_draftPattern_11 : decode cX6_draftPattern 11 = .ok (.aload_n 0, 1) := by decide +kernel
theorem dX6_draftPattern_12 : decode cX6_draftPattern 12 = .ok (.invokevirtual 208, 3) := by decide +kernel
theorem dX6_draftPattern_15 : decode cX6_draftPattern 15 = .ok (.istore 4, 2) := by decide +kernel
theorem dX6_draftPattern_17 : decode cX6_draftPattern 17 = .ok (.iconst 0, 1) := by decide +kernel
theorem dX6_draftPattern_18 : decode cX6_draftPattern 18 = .ok (.istore 5, 2) := by decide +kernel
theorem dX6_draftPattern_20 : decode cX6_draftPattern 20 = .ok (.iconst 0, 1) := by decide +kernel
theorem dX6_draftPattern_21 : decode cX6_draftPattern 21 = .ok (.istore 6, 2) := by decide +kernel
theorem dX6_draftPattern_23 : decode cX6_draftPattern 23 = .ok (.iload 6, 2) := by decide +kernel
theorem dX6_draftPattern_25 : decode cX6_draftPattern 25 = .ok (.aload_n 1, 1) := by decide +kernel
theorem dX6_draftPattern_26 : decode cX6_draftPattern 26 = .ok (.getfield 201, 3) := by decide +kernel
theorem dX6_draftPattern_29 : decode cX6_draftPattern 29 = .ok (.if_icmp .ge 111, 3) := by decide +kernel
theorem dX6_draftPattern_32 : decode cX6_draftPattern 32 = .ok (.aload_n 1, 1) := by decide +kernel
theorem dX6_draftPattern_33 : decode cX6_draftPattern 33 = .ok (.getfield 193, 3) := by decide +kernel
theorem dX6_draftPattern_36 : decode cX6_draftPattern 36 = .ok (.iload 6, 2) := by decide +kernel
theorem dX6_draftPattern_38 : decode cX6_draftPattern 38 = .ok (.iaload, 1) := by decide +kernel
theorem dX6_draftPattern_39 : decode cX6_draftPattern 39 = .ok (.iload 4, 2) := by decide +kernel
theorem dX6_draftPattern_41 : decode cX6_draftPattern 41 = .ok (.iand, 1) := by decide +kernel
theorem dX6_draftPattern_42 : decode cX6_draftPattern 42 = .ok (.istore 7, 2) := by decide +kernel
theorem dX6_draftPattern_44 : decode cX6_draftPattern 44 = .ok (.iload_n 2, 1) := by decide +kernel
theorem dX6_draftPattern_45 : decode cX6_draftPattern 45 = .ok (.iload 6, 2) := by decide +kernel
theorem dX6_draftPattern_47 : decode cX6_draftPattern 47 = .ok (.iload_n 3, 1) := by decide +kernel
theorem dX6_draftPattern_48 : decode cX6_draftPattern 48 = .ok (.imul, 1) := by decide +kernel
theorem dX6_draftPattern_49 : decode cX6_draftPattern 49 = .ok (.iadd, 1) := by decide +kernel
theorem dX6_draftPattern_50 : decode cX6_draftPattern 50 = .ok (.istore 8, 2) := by decide +kernel
theorem dX6_draftPattern_52 : decode cX6_draftPattern 52 = .ok (.iconst 0, 1) := by decide +kernel
theorem dX6_draftPattern_53 : decode cX6_draftPattern 53 = .ok (.istore 9, 2) := by decide +kernel
theorem dX6_draftPattern_55 : decode cX6_draftPattern 55 = .ok (.iload 9, 2) := by decide +kernel
theorem dX6_draftPattern_57 : decode cX6_draftPattern 57 = .ok (.aload_n 0, 1) := by decide +kernel
theorem dX6_draftPattern_58 : decode cX6_draftPattern 58 = .ok (.getfield 66, 3) := by decide +kernel
theorem dX6_draftPattern_61 : decode cX6_draftPattern 61 = .ok (.if_icmp .ge 73, 3) := by decide +kernel
theorem dX6_draftPattern_64 : decode cX6_draftPattern 64 = .ok (.iload 7, 2) := by decide +kernel
theorem dX6_draftPattern_66 : decode cX6_draftPattern 66 = .ok (.ifCond .eq 68, 3) := by decide +kernel
theorem dX6_draftPattern_69 : decode cX6_draftPattern 69 = .ok (.iload 7, 2) := by decide +kernel
theorem dX6_draftPattern_71 : decode cX6_draftPattern 71 = .ok (.iload 9, 2) := by decide +kernel
theorem dX6_draftPattern_73 : decode cX6_draftPattern 73 = .ok (.ishr, 1) := by decide +kernel
theorem dX6_draftPattern_74 : decode cX6_draftPattern 74 = .ok (.iconst 1, 1) := by decide +kernel
theorem dX6_draftPattern_75 : decode cX6_draftPattern 75 = .ok (.iand, 1) := by decide +kernel
theorem dX6_draftPattern_76 : decode cX6_draftPattern 76 = .ok (.ifCond .eq 52, 3) := by decide +kernel
theorem dX6_draftPattern_79 : decode cX6_draftPattern 79 = .ok (.aload_n 0, 1) := by decide +kernel
theorem dX6_draftPattern_80 : decode cX6_draftPattern 80 = .ok (.aload_n 0, 1) := by decide +kernel
theorem dX6_draftPattern_81 : decode cX6_draftPattern 81 = .ok (.getfield 34, 3) := by decide +kernel
theorem dX6_draftPattern_84 : decode cX6_draftPattern 84 = .ok (.iload 9, 2) := by decide +kernel
theorem dX6_draftPattern_86 : decode cX6_draftPattern 86 = .ok (.iload 8, 2) := by decide +kernel
theorem dX6_draftPattern_88 : decode cX6_draftPattern 88 = .ok (.invokevirtual 133, 3) := by decide +kernel
theorem dX6_draftPattern_91 : decode cX6_draftPattern 91 = .ok (.istore 10, 2) := by decide +kernel
theorem dX6_draftPattern_93 : decode cX6_draftPattern 93 = .ok (.iload 10, 2) := by decide +kernel
theorem dX6_draftPattern_95 : decode cX6_draftPattern 95 = .ok (.ifCond .eq 6, 3) := by decide +kernel
theorem dX6_draftPattern_98 : decode cX6_draftPattern 98 = .ok (.iload 10, 2) := by decide +kernel
theorem dX6_draftPattern_100 : decode cX6_draftPattern 100 = .ok (.ireturn, 1) := by decide +kernel
theorem dX6_draftPattern_101 : decode cX6_draftPattern 101 = .ok (.aload_n 0, 1) := by decide +kernel
theorem dX6_draftPattern_102 : decode cX6_draftPattern 102 = .ok (.getfield 34, 3) := by decide +kernel
theorem dX6_draftPattern_105 : decode cX6_draftPattern 105 = .ok (.iload 9, 2) := by decide +kernel
theorem dX6_draftPattern_107 : decode cX6_draftPattern 107 = .ok (.iload 8, 2) := by decide +kernel
theorem dX6_draftPattern_109 : decode cX6_draftPattern 109 = .ok (.aload_n 0, 1) := by decide +kernel
theorem dX6_draftPattern_110 : decode cX6_draftPattern 110 = .ok (.getfield 11, 3) := by decide +kernel
theorem dX6_draftPattern_113 : decode cX6_draftPattern 113 = .ok (.iload 9, 2) := by decide +kernel
theorem dX6_draftPattern_115 : decode cX6_draftPattern 115 = .ok (.aaload, 1) := by decide +kernel
theorem dX6_draftPattern_116 : decode cX6_draftPattern 116 = .ok (.getfield 91, 3) := by decide +kernel
theorem dX6_draftPattern_119 : decode cX6_draftPattern 119 = .ok (.isub, 1) := by decide +kernel
theorem dX6_draftPattern_120 : decode cX6_draftPattern 120 = .ok (.iload 8, 2) := by decide +kernel
theorem dX6_draftPattern_122 : decode cX6_draftPattern 122 = .ok (.invokevirtual 137, 3) := by decide +kernel
theorem dX6_draftPattern_125 : decode cX6_draftPattern 125 = .ok (.iinc 5 1, 3) := by decide +kernel
theorem dX6_draftPattern_128 : decode cX6_draftPattern 128 = .ok (.iinc 9 1, 3) := by decide +kernel
theorem dX6_draftPattern_131 : decode cX6_draftPattern 131 = .ok (.goto (-76), 3) := by decide +kernel
theorem dX6_draftPattern_134 : decode cX6_draftPattern 134 = .ok (.iinc 6 1, 3) := by decide +kernel
theorem dX6_draftPattern_137 : decode cX6_draftPattern 137 = .ok (.goto (-114), 3) := by decide +kernel
theorem dX6_draftPattern_140 : decode cX6_draftPattern 140 = .ok (.iload 5, 2) := by decide +kernel
theorem dX6_draftPattern_142 : decode cX6_draftPattern 142 = .ok (.ireturn, 1) := by decide +kernel
theorem dX6_weaveFrom_0 : decode cX6_weaveFrom 0 = .ok (.iload_n 2, 1) := by decide +kernel
theorem dX6_weaveFrom_1 : decode cX6_weaveFrom 1 = .ok (.aload_n 0, 1) := by decide +kernel
theorem dX6_weaveFrom_2 : decode cX6_weaveFrom 2 = .ok (.aload_n 1, 1) := by decide +kernel
theorem dX6_weaveFrom_3 : decode cX6_weaveFrom 3 = .ok (.iload_n 3, 1) := by decide +kernel
theorem dX6_weaveFrom_4 : decode cX6_weaveFrom 4 = .ok (.invokevirtual 334, 3) := by decide +kernel
theorem dX6_weaveFrom_7 : decode cX6_weaveFrom 7 = .ok (.invokestatic 236, 3) := by decide +kernel
theorem dX6_weaveFrom_10 : decode cX6_weaveFrom 10 = .ok (.istore 5, 2) := by decide +kernel
theorem dX6_weaveFrom_12 : decode cX6_weaveFrom 12 = .ok (.aload_n 1, 1) := by decide +kernel
theorem dX6_weaveFrom_13 : decode cX6_weaveFrom 13 = .ok (.aload_n 0, 1) := by decide +kernel
theorem dX6_weaveFrom_14 : decode cX6_weaveFrom 14 = .ok (.invokevirtual 208, 3) := by decide +kernel
theorem dX6_weaveFrom_17 : decode cX6_weaveFrom 17 = .ok (.invokevirtual 211, 3) := by decide +kernel
theorem dX6_weaveFrom_20 : decode cX6_weaveFrom 20 = .ok (.istore 6, 2) := by decide +kernel
theorem dX6_weaveFrom_22 : decode cX6_weaveFrom 22 = .ok (.iload 5, 2) := by decide +kernel
theorem dX6_weaveFrom_24 : decode cX6_weaveFrom 24 = .ok (.iload_n 2, 1) := by decide +kernel
theorem dX6_weaveFrom_25 : decode cX6_weaveFrom 25 = .ok (.iload 4, 2) := by decide +kernel
theorem dX6_weaveFrom_27 : decode cX6_weaveFrom 27 = .ok (.iadd, 1) := by decide +kernel
theorem dX6_weaveFrom_28 : decode cX6_weaveFrom 28 = .ok (.if_icmp .gt 36, 3) := by decide +kernel
theorem dX6_weaveFrom_31 : decode cX6_weaveFrom 31 = .ok (.aload_n 0, 1) := by decide +kernel
theorem dX6_weaveFrom_32 : decode cX6_weaveFrom 32 = .ok (.getfield 30, 3) := by decide +kernel
theorem dX6_weaveFrom_35 : decode cX6_weaveFrom 35 = .ok (.getfield 152, 3) := by decide +kernel
theorem dX6_weaveFrom_38 : decode cX6_weaveFrom 38 = .ok (.iload 6, 2) := by decide +kernel
theorem dX6_weaveFrom_40 : decode cX6_weaveFrom 40 = .ok (.iadd, 1) := by decide +kernel
theorem dX6_weaveFrom_41 : decode cX6_weaveFrom 41 = .ok (.sipush 300, 3) := by decide +kernel
theorem dX6_weaveFrom_44 : decode cX6_weaveFrom 44 = .ok (.if_icmp .gt 20, 3) := by decide +kernel
theorem dX6_weaveFrom_47 : decode cX6_weaveFrom 47 = .ok (.aload_n 0, 1) := by decide +kernel
theorem dX6_weaveFrom_48 : decode cX6_weaveFrom 48 = .ok (.aload_n 1, 1) := by decide +kernel
theorem dX6_weaveFrom_49 : decode cX6_weaveFrom 49 = .ok (.invokevirtual 338, 3) := by decide +kernel
theorem dX6_weaveFrom_52 : decode cX6_weaveFrom 52 = .ok (.ifCond .ne 12, 3) := by decide +kernel
theorem dX6_weaveFrom_55 : decode cX6_weaveFrom 55 = .ok (.aload_n 0, 1) := by decide +kernel
theorem dX6_weaveFrom_56 : decode cX6_weaveFrom 56 = .ok (.aload_n 1, 1) := by decide +kernel
theorem dX6_weaveFrom_57 : decode cX6_weaveFrom 57 = .ok (.iload_n 3, 1) := by decide +kernel
theorem dX6_weaveFrom_58 : decode cX6_weaveFrom 58 = .ok (.invokevirtual 226, 3) := by decide +kernel
theorem dX6_weaveFrom_61 : decode cX6_weaveFrom 61 = .ok (.ifCond .ne 5, 3) := by decide +kernel
theorem dX6_weaveFrom_64 : decode cX6_weaveFrom 64 = .ok (.iconst (-1), 1) := by decide +kernel
theorem dX6_weaveFrom_65 : decode cX6_weaveFrom 65 = .ok (.ireturn, 1) := by decide +kernel
theorem dX6_weaveFrom_66 : decode cX6_weaveFrom 66 = .ok (.iload 5, 2) := by decide +kernel
theorem dX6_weaveFrom_68 : decode cX6_weaveFrom 68 = .ok (.istore 7, 2) := by decide +kernel
theorem dX6_weaveFrom_70 : decode cX6_weaveFrom 70 = .ok (.iload 7, 2) := by decide +kernel
theorem dX6_weaveFrom_72 : decode cX6_weaveFrom 72 = .ok (.iload_n 2, 1) := by decide +kernel
theorem dX6_weaveFrom_73 : decode cX6_weaveFrom 73 = .ok (.iload 4, 2) := by decide +kernel
theorem dX6_weaveFrom_75 : decode cX6_weaveFrom 75 = .ok (.iadd, 1) := by decide +kernel
theorem dX6_weaveFrom_76 : decode cX6_weaveFrom 76 = .ok (.if_icmp .gt 36, 3) := by decide +kernel
theorem dX6_weaveFrom_79 : decode cX6_weaveFrom 79 = .ok (.aload_n 0, 1) := by decide +kernel
theorem dX6_weaveFrom_80 : decode cX6_weaveFrom 80 = .ok (.aload_n 1, 1) := by decide +kernel
theorem dX6_weaveFrom_81 : decode cX6_weaveFrom 81 = .ok (.iload 7, 2) := by decide +kernel
theorem dX6_weaveFrom_83 : decode cX6_weaveFrom 83 = .ok (.iload_n 3, 1) := by decide +kernel
theorem dX6_weaveFrom_84 : decode cX6_weaveFrom 84 = .ok (.invokevirtual 214, 3) := by decide +kernel
theorem dX6_weaveFrom_87 : decode cX6_weaveFrom 87 = .ok (.ifCond .lt 19, 3) := by decide +kernel
theorem dX6_weaveFrom_90 : decode cX6_weaveFrom 90 = .ok (.aload_n 0, 1) := by decide +kernel
theorem dX6_weaveFrom_91 : decode cX6_weaveFrom 91 = .ok (.getfield 30, 3) := by decide +kernel
theorem dX6_weaveFrom_94 : decode cX6_weaveFrom 94 = .ok (.aload_n 0, 1) := by decide +kernel
theorem dX6_weaveFrom_95 : decode cX6_weaveFrom 95 = .ok (.getfield 34, 3) := by decide +kernel
theorem dX6_weaveFrom_98 : decode cX6_weaveFrom 98 = .ok (.invokevirtual 218, 3) := by decide +kernel
theorem dX6_weaveFrom_101 : decode cX6_weaveFrom 101 = .ok (.iload 7, 2) := by decide +kernel
theorem dX6_weaveFrom_103 : decode cX6_weaveFrom 103 = .ok (.iload_n 2, 1) := by decide +kernel
theorem dX6_weaveFrom_104 : decode cX6_weaveFrom 104 = .ok (.isub, 1) := by decide +kernel
theorem dX6_weaveFrom_105 : decode cX6_weaveFrom 105 = .ok (.ireturn, 1) := by decide +kernel
theorem dX6_weaveFrom_106 : decode cX6_weaveFrom 106 = .ok (.iinc 7 1, 3) := by decide +kernel
theorem dX6_weaveFrom_109 : decode cX6_weaveFrom 109 = .ok (.goto (-39), 3) := by decide +kernel
theorem dX6_weaveFrom_112 : decode cX6_weaveFrom 112 = .ok (.iconst (-1), 1) := by decide +kernel
theorem dX6_weaveFrom_113 : decode cX6_weaveFrom 113 = .ok (.ireturn, 1) := by decide +kernel
theorem dX6_readyTime_0 : decode cX6_readyTime 0 = .ok (.iconst 0, 1) := by decide +kernel
theorem dX6_readyTime_1 : decode cX6_readyTime 1 = .ok (.istore_n 3, 1) := by decide +kernel
theorem dX6_readyTime_2 : decode cX6_readyTime 2 = .ok (.iconst 0, 1) := by decide +kernel
theorem dX6_readyTime_3 : decode cX6_readyTime 3 = .ok (.istore 4, 2) := by decide +kernel
theorem dX6_readyTime_5 : decode cX6_readyTime 5 = .ok (.iload 4, 2) := by decide +kernel
theorem dX6_readyTime_7 : decode cX6_readyTime 7 = .ok (.aload_n 1, 1) := by decide +kernel
theorem dX6_readyTime_8 : decode cX6_readyTime 8 = .ok (.getfield 201, 3) := by decide +kernel
theorem dX6_readyTime_11 : decode cX6_readyTime 11 = .ok (.if_icmp .ge 97, 3) := by decide +kernel
theorem dX6_readyTime_14 : decode cX6_readyTime 14 = .ok (.aload_n 1, 1) := by decide +kernel
theorem dX6_readyTime_15 : decode cX6_readyTime 15 = .ok (.getfield 193, 3) := by decide +kernel
theorem dX6_readyTime_18 : decode cX6_readyTime 18 = .ok (.iload 4, 2) := by decide +kernel
theorem dX6_readyTime_20 : decode cX6_readyTime 20 = .ok (.iaload, 1) := by decide +kernel
theorem dX6_readyTime_21 : decode cX6_readyTime 21 = .ok (.aload_n 0, 1) := by decide +kernel
theorem dX6_readyTime_22 : decode cX6_readyTime 22 = .ok (.invokevirtual 208, 3) := by decide +kernel
theorem dX6_readyTime_25 : decode cX6_readyTime 25 = .ok (.iand, 1) := by decide +kernel
theorem dX6_readyTime_26 : decode cX6_readyTime 26 = .ok (.istore 5, 2) := by decide +kernel
theorem dX6_readyTime_28 : decode cX6_readyTime 28 = .ok (.iconst 0, 1) := by decide +kernel
theorem dX6_readyTime_29 : decode cX6_readyTime 29 = .ok (.istore 6, 2) := by decide +kernel
theorem dX6_readyTime_31 : decode cX6_readyTime 31 = .ok (.iload 6, 2) := by decide +kernel
theorem dX6_readyTime_33 : decode cX6_readyTime 33 = .ok (.aload_n 0, 1) := by decide +kernel
theorem dX6_readyTime_34 : decode cX6_readyTime 34 = .ok (.getfield 66, 3) := by decide +kernel
theorem dX6_readyTime_37 : decode cX6_readyTime 37 = .ok (.if_icmp .ge 65, 3) := by decide +kernel
theorem dX6_readyTime_40 : decode cX6_readyTime 40 = .ok (.iload 5, 2) := by decide +kernel
theorem dX6_readyTime_42 : decode cX6_readyTime 42 = .ok (.ifCond .eq 60, 3) := by decide +kernel
theorem dX6_readyTime_45 : decode cX6_readyTime 45 = .ok (.iload 5, 2) := by decide +kernel
theorem dX6_readyTime_47 : decode cX6_readyTime 47 = .ok (.iload 6, 2) := by decide +kernel
theorem dX6_readyTime_49 : decode cX6_readyTime 49 = .ok (.ishr, 1) := by decide +kernel
theorem dX6_readyTime_50 : decode cX6_readyTime 50 = .ok (.iconst 1, 1) := by decide +kernel
theorem dX6_readyTime_51 : decode cX6_readyTime 51 = .ok (.iand, 1) := by decide +kernel
theorem dX6_readyTime_52 : decode cX6_readyTime 52 = .ok (.ifCond .eq 44, 3) := by decide +kernel
theorem dX6_readyTime_55 : decode cX6_readyTime 55 = .ok (.aload_n 0, 1) := by decide +kernel
theorem dX6_readyTime_56 : decode cX6_readyTime 56 = .ok (.getfield 11, 3) := by decide +kernel
theorem dX6_readyTime_59 : decode cX6_readyTime 59 = .ok (.iload 6, 2) := by decide +kernel
theorem dX6_readyTime_61 : decode cX6_readyTime 61 = .ok (.aaload, 1) := by decide +kernel
theorem dX6_readyTime_62 : decode cX6_readyTime 62 = .ok (.astore 7, 2) := by decide +kernel
theorem dX6_readyTime_64 : decode cX6_readyTime 64 = .ok (.aload_n 0, 1) := by decide +kernel
theorem dX6_readyTime_65 : decode cX6_readyTime 65 = .ok (.getfield 73, 3) := by decide +kernel
theorem dX6_readyTime_68 : decode cX6_readyTime 68 = .ok (.aload 7, 2) := by decide +kernel
theorem dX6_readyTime_70 : decode cX6_readyTime 70 = .ok (.getfield 310, 3) := by decide +kernel
theorem dX6_readyTime_73 : decode cX6_readyTime 73 = .ok (.invokestatic 236, 3) := by decide +kernel
theorem dX6_readyTime_76 : decode cX6_readyTime 76 = .ok (.aload 7, 2) := by decide +kernel
theorem dX6_readyTime_78 : decode cX6_readyTime 78 = .ok (.getfield 91, 3) := by decide +kernel
theorem dX6_readyTime_81 : decode cX6_readyTime 81 = .ok (.iadd, 1) := by decide +kernel
theorem dX6_readyTime_82 : decode cX6_readyTime 82 = .ok (.istore 8, 2) := by decide +kernel
theorem dX6_readyTime_84 : decode cX6_readyTime 84 = .ok (.iload_n 3, 1) := by decide +kernel
theorem dX6_readyTime_85 : decode cX6_readyTime 85 = .ok (.iload 8, 2) := by decide +kernel
theorem dX6_readyTime_87 : decode cX6_readyTime 87 = .ok (.iload 4, 2) := by decide +kernel
theorem dX6_readyTime_89 : decode cX6_readyTime 89 = .ok (.iload_n 2, 1) := by decide +kernel
theorem dX6_readyTime_90 : decode cX6_readyTime 90 = .ok (.imul, 1) := by decide +kernel
theorem dX6_readyTime_91 : decode cX6_readyTime 91 = .ok (.isub, 1) := by decide +kernel
theorem dX6_readyTime_92 : decode cX6_readyTime 92 = .ok (.invokestatic 236, 3) := by decide +kernel
theorem dX6_readyTime_95 : decode cX6_readyTime 95 = .ok (.istore_n 3, 1) := by decide +kernel
theorem dX6_readyTime_96 : decode cX6_readyTime 96 = .ok (.iinc 6 1, 3) := by decide +kernel
theorem dX6_readyTime_99 : decode cX6_readyTime 99 = .ok (.goto (-68), 3) := by decide +kernel
theorem dX6_readyTime_102 : decode cX6_readyTime 102 = .ok (.iinc 4 1, 3) := by decide +kernel
theorem dX6_readyTime_105 : decode cX6_readyTime 105 = .ok (.goto (-100), 3) := by decide +kernel
theorem dX6_readyTime_108 : decode cX6_readyTime 108 = .ok (.iload_n 3, 1) := by decide +kernel
theorem dX6_readyTime_109 : decode cX6_readyTime 109 = .ok (.ireturn, 1) := by decide +kernel
theorem dX6_swingsIn_0 : decode cX6_swingsIn 0 = .ok (.iconst 0, 1) := by decide +kernel
theorem dX6_swingsIn_1 : decode cX6_swingsIn 1 = .ok (.istore_n 2, 1) := by decide +kernel
theorem dX6_swingsIn_2 : decode cX6_swingsIn 2 = .ok (.iload_n 2, 1) := by decide +kernel
theorem dX6_swingsIn_3 : decode cX6_swingsIn 3 = .ok (.aload_n 0, 1) := by decide +kernel
theorem dX6_swingsIn_4 : decode cX6_swingsIn 4 = .ok (.getfield 66, 3) := by decide +kernel
theorem dX6_swingsIn_7 : decode cX6_swingsIn 7 = .ok (.if_icmp .ge 33, 3) := by decide +kernel
theorem dX6_swingsIn_10 : decode cX6_swingsIn 10 = .ok (.aload_n 0, 1) := by decide +kernel
theorem dX6_swingsIn_11 : decode cX6_swingsIn 11 = .ok (.getfield 11, 3) := by decide +kernel
theorem dX6_swingsIn_14 : decode cX6_swingsIn 14 = .ok (.iload_n 2, 1) := by decide +kernel
theorem dX6_swingsIn_15 : decode cX6_swingsIn 15 = .ok (.aaload, 1) := by decide +kernel
theorem dX6_swingsIn_16 : decode cX6_swingsIn 16 = .ok (.getfield 162, 3) := by decide +kernel
theorem dX6_swingsIn_19 : decode cX6_swingsIn 19 = .ok (.ifCond .eq 15, 3) := by decide +kernel
theorem dX6_swingsIn_22 : decode cX6_swingsIn 22 = .ok (.aload_n 1, 1) := by decide +kernel
theorem dX6_swingsIn_23 : decode cX6_swingsIn 23 = .ok (.iconst 1, 1) := by decide +kernel
theorem dX6_swingsIn_24 : decode cX6_swingsIn 24 = .ok (.iload_n 2, 1) := by decide +kernel
theorem dX6_swingsIn_25 : decode cX6_swingsIn 25 = .ok (.ishl, 1) := by decide +kernel
theorem dX6_swingsIn_26 : decode cX6_swingsIn 26 = .ok (.invokevirtual 211, 3) := by decide +kernel
theorem dX6_swingsIn_29 : decode cX6_swingsIn 29 = .ok (.ifCond .le 5, 3) := by decide +kernel
theorem dX6_swingsIn_32 : decode cX6_swingsIn 32 = .ok (.iconst 1, 1) := by decide +kernel
theorem dX6_swingsIn_33 : decode cX6_swingsIn 33 = .ok (.ireturn, 1) := by decide +kernel
theorem dX6_swingsIn_34 : decode cX6_swingsIn 34 = .ok (.iinc 2 1, 3) := by decide +kernel
theorem dX6_swingsIn_37 : decode cX6_swingsIn 37 = .ok (.goto (-35), 3) := by decide +kernel
theorem dX6_swingsIn_40 : decode cX6_swingsIn 40 = .ok (.iconst 0, 1) := by decide +kernel
theorem dX6_swingsIn_41 : decode cX6_swingsIn 41 = .ok (.ireturn, 1) := by decide +kernel
theorem dX6_fitsAlone_0 : decode cX6_fitsAlone 0 = .ok (.aload_n 0, 1) := by decide +kernel
theorem dX6_fitsAlone_1 : decode cX6_fitsAlone 1 = .ok (.getfield 34, 3) := by decide +kernel
theorem dX6_fitsAlone_4 : decode cX6_fitsAlone 4 = .ok (.iconst 0, 1) := by decide +kernel
theorem dX6_fitsAlone_5 : decode cX6_fitsAlone 5 = .ok (.putfield 152, 3) := by decide +kernel
theorem dX6_fitsAlone_8 : decode cX6_fitsAlone 8 = .ok (.iconst 0, 1) := by decide +kernel
theorem dX6_fitsAlone_9 : decode cX6_fitsAlone 9 = .ok (.istore_n 3, 1) := by decide +kernel
theorem dX6_fitsAlone_10 : decode cX6_fitsAlone 10 = .ok (.iload_n 3, 1) := by decide +kernel
theorem dX6_fitsAlone_11 : decode cX6_fitsAlone 11 = .ok (.aload_n 1, 1) := by decide +kernel
theorem dX6_fitsAlone_12 : decode cX6_fitsAlone 12 = .ok (.getfield 201, 3) := by decide +kernel
theorem dX6_fitsAlone_15 : decode cX6_fitsAlone 15 = .ok (.if_icmp .ge 162, 3) := by decide +kernel
theorem dX6_fitsAlone_18 : decode cX6_fitsAlone 18 = .ok (.aload_n 1, 1) := by decide +kernel
theorem dX6_fitsAlone_19 : decode cX6_fitsAlone 19 = .ok (.getfield 193, 3) := by decide +kernel
theorem dX6_fitsAlone_22 : decode cX6_fitsAlone 22 = .ok (.iload_n 3, 1) := by decide +kernel
theorem dX6_fitsAlone_23 : decode cX6_fitsAlone 23 = .ok (.iaload, 1) := by decide +kernel
theorem dX6_fitsAlone_24 : decode cX6_fitsAlone 24 = .ok (.aload_n 0, 1) := by decide +kernel
theorem dX6_fitsAlone_25 : decode cX6_fitsAlone 25 = .ok (.invokevirtual 208, 3) := by decide +kernel
theorem dX6_fitsAlone_28 : decode cX6_fitsAlone 28 = .ok (.iand, 1) := by decide +kernel
theorem dX6_fitsAlone_29 : decode cX6_fitsAlone 29 = .ok (.istore 4, 2) := by decide +kernel
theorem dX6_fitsAlone_31 : decode cX6_fitsAlone 31 = .ok (.iload_n 3, 1) := by decide +kernel
theorem dX6_fitsAlone_32 : decode cX6_fitsAlone 32 = .ok (.iload_n 2, 1) := by decide +kernel
theorem dX6_fitsAlone_33 : decode cX6_fitsAlone 33 = .ok (.imul, 1) := by decide +kernel
theorem dX6_fitsAlone_34 : decode cX6_fitsAlone 34 = .ok (.istore 5, 2) := by decide +kernel
theorem dX6_fitsAlone_36 : decode cX6_fitsAlone 36 = .ok (.iconst 0, 1) := by decide +kernel
theorem dX6_fitsAlone_37 : decode cX6_fitsAlone 37 = .ok (.istore 6, 2) := by decide +kernel
theorem dX6_fitsAlone_39 : decode cX6_fitsAlone 39 = .ok (.iload 6, 2) := by decide +kernel
theorem dX6_fitsAlone_41 : decode cX6_fitsAlone 41 = .ok (.aload_n 0, 1) := by decide +kernel
theorem dX6_fitsAlone_42 : decode cX6_fitsAlone 42 = .ok (.getfield 66, 3) := by decide +kernel
theorem dX6_fitsAlone_45 : decode cX6_fitsAlone 45 = .ok (.if_icmp .ge 126, 3) := by decide +kernel
theorem dX6_fitsAlone_48 : decode cX6_fitsAlone 48 = .ok (.iload 4, 2) := by decide +kernel
theorem dX6_fitsAlone_50 : decode cX6_fitsAlone 50 = .ok (.ifCond .eq 121, 3) := by decide +kernel
theorem dX6_fitsAlone_53 : decode cX6_fitsAlone 53 = .ok (.iload 4, 2) := by decide +kernel
theorem dX6_fitsAlone_55 : decode cX6_fitsAlone 55 = .ok (.iload 6, 2) := by decide +kernel
theorem dX6_fitsAlone_57 : decode cX6_fitsAlone 57 = .ok (.ishr, 1) := by decide +kernel
theorem dX6_fitsAlone_58 : decode cX6_fitsAlone 58 = .ok (.iconst 1, 1) := by decide +kernel
theorem dX6_fitsAlone_59 : decode cX6_fitsAlone 59 = .ok (.iand, 1) := by decide +kernel
theorem dX6_fitsAlone_60 : decode cX6_fitsAlone 60 = .ok (.ifCond .eq 105, 3) := by decide +kernel
theorem dX6_fitsAlone_63 : decode cX6_fitsAlone 63 = .ok (.aload_n 0, 1) := by decide +kernel
theorem dX6_fitsAlone_64 : decode cX6_fitsAlone 64 = .ok (.getfield 11, 3) := by decide +kernel
theorem dX6_fitsAlone_67 : decode cX6_fitsAlone 67 = .ok (.iload 6, 2) := by decide +kernel
theorem dX6_fitsAlone_69 : decode cX6_fitsAlone 69 = .ok (.aaload, 1) := by decide +kernel
theorem dX6_fitsAlone_70 : decode cX6_fitsAlone 70 = .ok (.astore 7, 2) := by decide +kernel
theorem dX6_fitsAlone_72 : decode cX6_fitsAlone 72 = .ok (.iload 5, 2) := by decide +kernel
theorem dX6_fitsAlone_74 : decode cX6_fitsAlone 74 = .ok (.aload 7, 2) := by decide +kernel
theorem dX6_fitsAlone_76 : decode cX6_fitsAlone 76 = .ok (.getfield 91, 3) := by decide +kernel
theorem dX6_fitsAlone_79 : decode cX6_fitsAlone 79 = .ok (.isub, 1) := by decide +kernel
theorem dX6_fitsAlone_80 : decode cX6_fitsAlone 80 = .ok (.istore 8, 2) := by decide +kernel
theorem dX6_fitsAlone_82 : decode cX6_fitsAlone 82 = .ok (.aload_n 0, 1) := by decide +kernel
theorem dX6_fitsAlone_83 : decode cX6_fitsAlone 83 = .ok (.getfield 34, 3) := by decide +kernel
theorem dX6_fitsAlone_86 : decode cX6_fitsAlone 86 = .ok (.iload 8, 2) := by decide +kernel
theorem dX6_fitsAlone_88 : decode cX6_fitsAlone 88 = .ok (.sipush 150, 3) := by decide +kernel
theorem dX6_fitsAlone_91 : decode cX6_fitsAlone 91 = .ok (.isub, 1) := by decide +kernel
theorem dX6_fitsAlone_92 : decode cX6_fitsAlone 92 = .ok (.invokevirtual 323, 3) := by decide +kernel
theorem dX6_fitsAlone_95 : decode cX6_fitsAlone 95 = .ok (.istore 9, 2) := by decide +kernel
theorem dX6_fitsAlone_97 : decode cX6_fitsAlone 97 = .ok (.aload_n 0, 1) := by decide +kernel
theorem dX6_fitsAlone_98 : decode cX6_fitsAlone 98 = .ok (.getfield 34, 3) := by decide +kernel
theorem dX6_fitsAlone_101 : decode cX6_fitsAlone 101 = .ok (.invokevirtual 166, 3) := by decide +kernel
theorem dX6_fitsAlone_104 : decode cX6_fitsAlone 104 = .ok (.ifCond .ne 46, 3) := by decide +kernel
theorem dX6_fitsAlone_107 : decode cX6_fitsAlone 107 = .ok (.aload_n 0, 1) := by decide +kernel
theorem dX6_fitsAlone_108 : decode cX6_fitsAlone 108 = .ok (.getfield 34, 3) := by decide +kernel
theorem dX6_fitsAlone_111 : decode cX6_fitsAlone 111 = .ok (.iload 9, 2) := by decide +kernel
theorem dX6_fitsAlone_113 : decode cX6_fitsAlone 113 = .ok (.iload 6, 2) := by decide +kernel
theorem dX6_fitsAlone_115 : decode cX6_fitsAlone 115 = .ok (.iload 8, 2) := by decide +kernel
theorem dX6_fitsAlone_117 : decode cX6_fitsAlone 117 = .ok (.iload 5, 2) := by decide +kernel
theorem dX6_fitsAlone_119 : decode cX6_fitsAlone 119 = .ok (.aload 7, 2) := by decide +kernel
theorem dX6_fitsAlone_121 : decode cX6_fitsAlone 121 = .ok (.getfield 94, 3) := by decide +kernel
theorem dX6_fitsAlone_124 : decode cX6_fitsAlone 124 = .ok (.invokevirtual 326, 3) := by decide +kernel
theorem dX6_fitsAlone_127 : decode cX6_fitsAlone 127 = .ok (.ifCond .ne 23, 3) := by decide +kernel
theorem dX6_fitsAlone_130 : decode cX6_fitsAlone 130 = .ok (.aload_n 0, 1) := by decide +kernel
theorem dX6_fitsAlone_131 : decode cX6_fitsAlone 131 = .ok (.getfield 34, 3) := by decide +kernel
theorem dX6_fitsAlone_134 : decode cX6_fitsAlone 134 = .ok (.iload 9, 2) := by decide +kernel
theorem dX6_fitsAlone_136 : decode cX6_fitsAlone 136 = .ok (.iload 8, 2) := by decide +kernel
theorem dX6_fitsAlone_138 : decode cX6_fitsAlone 138 = .ok (.iload 5, 2) := by decide +kernel
theorem dX6_fitsAlone_140 : decode cX6_fitsAlone 140 = .ok (.aload_n 0, 1) := by decide +kernel
theorem dX6_fitsAlone_141 : decode cX6_fitsAlone 141 = .ok (.getfield 76, 3) := by decide +kernel
theorem dX6_fitsAlone_144 : decode cX6_fitsAlone 144 = .ok (.invokevirtual 330, 3) := by decide +kernel
theorem dX6_fitsAlone_147 : decode cX6_fitsAlone 147 = .ok (.ifCond .eq 5, 3) := by decide +kernel
theorem dX6_fitsAlone_150 : decode cX6_fitsAlone 150 = .ok (.iconst 0, 1) := by decide +kernel
theorem dX6_fitsAlone_151 : decode cX6_fitsAlone 151 = .ok (.ireturn, 1) := by decide +kernel
theorem dX6_fitsAlone_152 : decode cX6_fitsAlone 152 = .ok (.aload_n 0, 1) := by decide +kernel
theorem dX6_fitsAlone_153 : decode cX6_fitsAlone 153 = .ok (.getfield 34, 3) := by decide +kernel
theorem dX6_fitsAlone_156 : decode cX6_fitsAlone 156 = .ok (.iload 6, 2) := by decide +kernel
theorem dX6_fitsAlone_158 : decode cX6_fitsAlone 158 = .ok (.iload 8, 2) := by decide +kernel
theorem dX6_fitsAlone_160 : decode cX6_fitsAlone 160 = .ok (.iload 5, 2) := by decide +kernel
theorem dX6_fitsAlone_162 : decode cX6_fitsAlone 162 = .ok (.invokevirtual 137, 3) := by decide +kernel
theorem dX6_fitsAlone_165 : decode cX6_fitsAlone 165 = .ok (.iinc 6 1, 3) := by decide +kernel
theorem dX6_fitsAlone_168 : decode cX6_fitsAlone 168 = .ok (.goto (-129), 3) := by decide +kernel
theorem dX6_fitsAlone_171 : decode cX6_fitsAlone 171 = .ok (.iinc 3 1, 3) := by decide +kernel
theorem dX6_fitsAlone_174 : decode cX6_fitsAlone 174 = .ok (.goto (-164), 3) := by decide +kernel
theorem dX6_fitsAlone_177 : decode cX6_fitsAlone 177 = .ok (.iconst 1, 1) := by decide +kernel
theorem dX6_fitsAlone_178 : decode cX6_fitsAlone 178 = .ok (.ireturn, 1) := by decide +kernel
theorem dX6_listMovingBells_0 : decode cX6_listMovingBells 0 = .ok (.iconst 1, 1) := by decide +kernel
theorem dX6_listMovingBells_1 : decode cX6_listMovingBells 1 = .ok (.istore_n 1, 1) := by decide +kernel
theorem dX6_listMovingBells_2 : decode cX6_listMovingBells 2 = .ok (.iload_n 1, 1) := by decide +kernel
theorem dX6_listMovingBells_3 : decode cX6_listMovingBells 3 = .ok (.bipush 50, 2) := by decide +kernel
theorem dX6_listMovingBells_5 : decode cX6_listMovingBells 5 = .ok (.if_icmp .gt 53, 3) := by decide +kernel
theorem dX6_listMovingBells_8 : decode cX6_listMovingBells 8 = .ok (.iconst 0, 1) := by decide +kernel
theorem dX6_listMovingBells_9 : decode cX6_listMovingBells 9 = .ok (.istore_n 2, 1) := by decide +kernel
theorem dX6_listMovingBells_10 : decode cX6_listMovingBells 10 = .ok (.iconst 0, 1) := by decide +kernel
theorem dX6_listMovingBells_11 : decode cX6_listMovingBells 11 = .ok (.istore_n 3, 1) := by decide +kernel
theorem dX6_listMovingBells_12 : decode cX6_listMovingBells 12 = .ok (.iload_n 3, 1) := by decide +kernel
theorem dX6_listMovingBells_13 : decode cX6_listMovingBells 13 = .ok (.aload_n 0, 1) := by decide +kernel
theorem dX6_listMovingBells_14 : decode cX6_listMovingBells 14 = .ok (.getfield 66, 3) := by decide +kernel
theorem dX6_listMovingBells_17 : decode cX6_listMovingBells 17 = .ok (.if_icmp .ge 28, 3) := by decide +kernel
theorem dX6_listMovingBells_20 : decode cX6_listMovingBells 20 = .ok (.aload_n 0, 1) := by decide +kernel
theorem dX6_listMovingBells_21 : decode cX6_listMovingBells 21 = .ok (.getfield 11, 3) := by decide +kernel
theorem dX6_listMovingBells_24 : decode cX6_listMovingBells 24 = .ok (.iload_n 3, 1) := by decide +kernel
theorem dX6_listMovingBells_25 : decode cX6_listMovingBells 25 = .ok (.aaload, 1) := by decide +kernel
theorem dX6_listMovingBells_26 : decode cX6_listMovingBells 26 = .ok (.getfield 91, 3) := by decide +kernel
theorem dX6_listMovingBells_29 : decode cX6_listMovingBells 29 = .ok (.iload_n 1, 1) := by decide +kernel
theorem dX6_listMovingBells_30 : decode cX6_listMovingBells 30 = .ok (.if_icmp .lt 9, 3) := by decide +kernel
theorem dX6_listMovingBells_33 : decode cX6_listMovingBells 33 = .ok (.iload_n 2, 1) := by decide +kernel
theorem dX6_listMovingBells_34 : decode cX6_listMovingBells 34 = .ok (.iconst 1, 1) := by decide +kernel
theorem dX6_listMovingBells_35 : decode cX6_listMovingBells 35 = .ok (.iload_n 3, 1) := by decide +kernel
theorem dX6_listMovingBells_36 : decode cX6_listMovingBells 36 = .ok (.ishl, 1) := by decide +kernel
theorem dX6_listMovingBells_37 : decode cX6_listMovingBells 37 = .ok (.ior, 1) := by decide +kernel
theorem dX6_listMovingBells_38 : decode cX6_listMovingBells 38 = .ok (.istore_n 2, 1) := by decide +kernel
theorem dX6_listMovingBells_39 : decode cX6_listMovingBells 39 = .ok (.iinc 3 1, 3) := by decide +kernel
theorem dX6_listMovingBells_42 : decode cX6_listMovingBells 42 = .ok (.goto (-30), 3) := by decide +kernel
theorem dX6_listMovingBells_45 : decode cX6_listMovingBells 45 = .ok (.aload_n 0, 1) := by decide +kernel
theorem dX6_listMovingBells_46 : decode cX6_listMovingBells 46 = .ok (.getfield 63, 3) := by decide +kernel
theorem dX6_listMovingBells_49 : decode cX6_listMovingBells 49 = .ok (.iload_n 1, 1) := by decide +kernel
theorem dX6_listMovingBells_50 : decode cX6_listMovingBells 50 = .ok (.iload_n 2, 1) := by decide +kernel
theorem dX6_listMovingBells_51 : decode cX6_listMovingBells 51 = .ok (.iastore, 1) := by decide +kernel
theorem dX6_listMovingBells_52 : decode cX6_listMovingBells 52 = .ok (.iinc 1 1, 3) := by decide +kernel
theorem dX6_listMovingBells_55 : decode cX6_listMovingBells 55 = .ok (.goto (-53), 3) := by decide +kernel
theorem dX6_listMovingBells_58 : decode cX6_listMovingBells 58 = .ok (.return_, 1) := by decide +kernel
theorem dX6_movingBefore_0 : decode cX6_movingBefore 0 = .ok (.iconst 0, 1) := by decide +kernel
theorem dX6_movingBefore_1 : decode cX6_movingBefore 1 = .ok (.istore 4, 2) := by decide +kernel
theorem dX6_movingBefore_3 : decode cX6_movingBefore 3 = .ok (.iload_n 3, 1) := by decide +kernel
theorem dX6_movingBefore_4 : decode cX6_movingBefore 4 = .ok (.istore 5, 2) := by decide +kernel
theorem dX6_movingBefore_6 : decode cX6_movingBefore 6 = .ok (.iload 5, 2) := by decide +kernel
theorem dX6_movingBefore_8 : decode cX6_movingBefore 8 = .ok (.aload_n 1, 1) := by decide +kernel
theorem dX6_movingBefore_9 : decode cX6_movingBefore 9 = .ok (.getfield 201, 3) := by decide +kernel
theorem dX6_movingBefore_12 : decode cX6_movingBefore 12 = .ok (.if_icmp .ge 52, 3) := by decide +kernel
theorem dX6_movingBefore_15 : decode cX6_movingBefore 15 = .ok (.iload 5, 2) := by decide +kernel
theorem dX6_movingBefore_17 : decode cX6_movingBefore 17 = .ok (.iload_n 3, 1) := by decide +kernel
theorem dX6_movingBefore_18 : decode cX6_movingBefore 18 = .ok (.isub, 1) := by decide +kernel
theorem dX6_movingBefore_19 : decode cX6_movingBefore 19 = .ok (.iload_n 2, 1) := by decide +kernel
theorem dX6_movingBefore_20 : decode cX6_movingBefore 20 = .ok (.imul, 1) := by decide +kernel
theorem dX6_movingBefore_21 : decode cX6_movingBefore 21 = .ok (.iconst 1, 1) := by decide +kernel
theorem dX6_movingBefore_22 : decode cX6_movingBefore 22 = .ok (.iadd, 1) := by decide +kernel
theorem dX6_movingBefore_23 : decode cX6_movingBefore 23 = .ok (.istore 6, 2) := by decide +kernel
theorem dX6_movingBefore_25 : decode cX6_movingBefore 25 = .ok (.iload 6, 2) := by decide +kernel
theorem dX6_movingBefore_27 : decode cX6_movingBefore 27 = .ok (.bipush 50, 2) := by decide +kernel
theorem dX6_movingBefore_29 : decode cX6_movingBefore 29 = .ok (.if_icmp .le 6, 3) := by decide +kernel
theorem dX6_movingBefore_32 : decode cX6_movingBefore 32 = .ok (.iload 4, 2) := by decide +kernel
theorem dX6_movingBefore_34 : decode cX6_movingBefore 34 = .ok (.ireturn, 1) := by decide +kernel
theorem dX6_movingBefore_35 : decode cX6_movingBefore 35 = .ok (.iload 4, 2) := by decide +kernel
theorem dX6_movingBefore_37 : decode cX6_movingBefore 37 = .ok (.aload_n 1, 1) := by decide +kernel
theorem dX6_movingBefore_38 : decode cX6_movingBefore 38 = .ok (.getfield 193, 3) := by decide +kernel
theorem dX6_movingBefore_41 : decode cX6_movingBefore 41 = .ok (.iload 5, 2) := by decide +kernel
theorem dX6_movingBefore_43 : decode cX6_movingBefore 43 = .ok (.iaload, 1) := by decide +kernel
theorem dX6_movingBefore_44 : decode cX6_movingBefore 44 = .ok (.aload_n 0, 1) := by decide +kernel
theorem dX6_movingBefore_45 : decode cX6_movingBefore 45 = .ok (.getfield 63, 3) := by decide +kernel
theorem dX6_movingBefore_48 : decode cX6_movingBefore 48 = .ok (.iload 6, 2) := by decide +kernel
theorem dX6_movingBefore_50 : decode cX6_movingBefore 50 = .ok (.iaload, 1) := by decide +kernel
theorem dX6_movingBefore_51 : decode cX6_movingBefore 51 = .ok (.iand, 1) := by decide +kernel
theorem dX6_movingBefore_52 : decode cX6_movingBefore 52 = .ok (.invokestatic 342, 3) := by decide +kernel
theorem dX6_movingBefore_55 : decode cX6_movingBefore 55 = .ok (.iadd, 1) := by decide +kernel
theorem dX6_movingBefore_56 : decode cX6_movingBefore 56 = .ok (.istore 4, 2) := by decide +kernel
theorem dX6_movingBefore_58 : decode cX6_movingBefore 58 = .ok (.iinc 5 1, 3) := by decide +kernel
theorem dX6_movingBefore_61 : decode cX6_movingBefore 61 = .ok (.goto (-55), 3) := by decide +kernel
theorem dX6_movingBefore_64 : decode cX6_movingBefore 64 = .ok (.iload 4, 2) := by decide +kernel
theorem dX6_movingBefore_66 : decode cX6_movingBefore 66 = .ok (.ireturn, 1) := by decide +kernel
theorem dX6_foreseeShakes_0 : decode cX6_foreseeShakes 0 = .ok (.aload_n 0, 1) := by decide +kernel
theorem dX6_foreseeShakes_1 : decode cX6_foreseeShakes 1 = .ok (.getfield 56, 3) := by decide +kernel
theorem dX6_foreseeShakes_4 : decode cX6_foreseeShakes 4 = .ok (.invokestatic 299, 3) := by decide +kernel
theorem dX6_foreseeShakes_7 : decode cX6_foreseeShakes 7 = .ok (.iconst 0, 1) := by decide +kernel
theorem dX6_foreseeShakes_8 : decode cX6_foreseeShakes 8 = .ok (.istore_n 2, 1) := by decide +kernel
theorem dX6_foreseeShakes_9 : decode cX6_foreseeShakes 9 = .ok (.iload_n 2, 1) := by decide +kernel
theorem dX6_foreseeShakes_10 : decode cX6_foreseeShakes 10 = .ok (.aload_n 0, 1) := by decide +kernel
theorem dX6_foreseeShakes_11 : decode cX6_foreseeShakes 11 = .ok (.getfield 66, 3) := by decide +kernel
theorem dX6_foreseeShakes_14 : decode cX6_foreseeShakes 14 = .ok (.if_icmp .ge 50, 3) := by decide +kernel
theorem dX6_foreseeShakes_17 : decode cX6_foreseeShakes 17 = .ok (.aload_n 0, 1) := by decide +kernel
theorem dX6_foreseeShakes_18 : decode cX6_foreseeShakes 18 = .ok (.getfield 11, 3) := by decide +kernel
theorem dX6_foreseeShakes_21 : decode cX6_foreseeShakes 21 = .ok (.iload_n 2, 1) := by decide +kernel
theorem dX6_foreseeShakes_22 : decode cX6_foreseeShakes 22 = .ok (.aaload, 1) := by decide +kernel
theorem dX6_foreseeShakes_23 : decode cX6_foreseeShakes 23 = .ok (.getfield 162, 3) := by decide +kernel
theorem dX6_foreseeShakes_26 : decode cX6_foreseeShakes 26 = .ok (.ifCond .eq 32, 3) := by decide +kernel
theorem dX6_foreseeShakes_29 : decode cX6_foreseeShakes 29 = .ok (.aload_n 0, 1) := by decide +kernel
theorem dX6_foreseeShakes_30 : decode cX6_foreseeShakes 30 = .ok (.getfield 16, 3) := by decide +kernel
theorem dX6_foreseeShakes_33 : decode cX6_foreseeShakes 33 = .ok (.aload_n 0, 1) := by decide +kernel
theorem dX6_foreseeShakes_34 : decode cX6_foreseeShakes 34 = .ok (.getfield 11, 3) := by decide +kernel
theorem dX6_foreseeShakes_37 : decode cX6_foreseeShakes 37 = .ok (.iload_n 2, 1) := by decide +kernel
theorem dX6_foreseeShakes_38 : decode cX6_foreseeShakes 38 = .ok (.aaload, 1) := by decide +kernel
theorem dX6_foreseeShakes_39 : decode cX6_foreseeShakes 39 = .ok (.invokevirtual 267, 3) := by decide +kernel
theorem dX6_foreseeShakes_42 : decode cX6_foreseeShakes 42 = .ok (.aload_n 0, 1) := by decide +kernel
theorem dX6_foreseeShakes_43 : decode cX6_foreseeShakes 43 = .ok (.getfield 16, 3) := by decide +kernel
theorem dX6_foreseeShakes_46 : decode cX6_foreseeShakes 46 = .ok (.aload_n 0, 1) := by decide +kernel
theorem dX6_foreseeShakes_47 : decode cX6_foreseeShakes 47 = .ok (.getfield 56, 3) := by decide +kernel
theorem dX6_foreseeShakes_50 : decode cX6_foreseeShakes 50 = .ok (.aload_n 0, 1) := by decide +kernel
theorem dX6_foreseeShakes_51 : decode cX6_foreseeShakes 51 = .ok (.getfield 73, 3) := by decide +kernel
theorem dX6_foreseeShakes_54 : decode cX6_foreseeShakes 54 = .ok (.iload_n 1, 1) := by decide +kernel
theorem dX6_foreseeShakes_55 : decode cX6_foreseeShakes 55 = .ok (.invokevirtual 274, 3) := by decide +kernel
theorem dX6_foreseeShakes_58 : decode cX6_foreseeShakes 58 = .ok (.iinc 2 1, 3) := by decide +kernel
theorem dX6_foreseeShakes_61 : decode cX6_foreseeShakes 61 = .ok (.goto (-52), 3) := by decide +kernel
theorem dX6_foreseeShakes_64 : decode cX6_foreseeShakes 64 = .ok (.return_, 1) := by decide +kernel
theorem dX6_greatestUpTo_0 : decode cX6_greatestUpTo 0 = .ok (.iconst 0, 1) := by decide +kernel
theorem dX6_greatestUpTo_1 : decode cX6_greatestUpTo 1 = .ok (.istore_n 2, 1) := by decide +kernel
theorem dX6_greatestUpTo_2 : decode cX6_greatestUpTo 2 = .ok (.iconst 0, 1) := by decide +kernel
theorem dX6_greatestUpTo_3 : decode cX6_greatestUpTo 3 = .ok (.istore_n 3, 1) := by decide +kernel
theorem dX6_greatestUpTo_4 : decode cX6_greatestUpTo 4 = .ok (.iload_n 3, 1) := by decide +kernel
theorem dX6_greatestUpTo_5 : decode cX6_greatestUpTo 5 = .ok (.iload_n 1, 1) := by decide +kernel
theorem dX6_greatestUpTo_6 : decode cX6_greatestUpTo 6 = .ok (.if_icmp .gt 32, 3) := by decide +kernel
theorem dX6_greatestUpTo_9 : decode cX6_greatestUpTo 9 = .ok (.iload_n 3, 1) := by decide +kernel
theorem dX6_greatestUpTo_10 : decode cX6_greatestUpTo 10 = .ok (.aload_n 0, 1) := by decide +kernel
theorem dX6_greatestUpTo_11 : decode cX6_greatestUpTo 11 = .ok (.getfield 56, 3) := by decide +kernel
theorem dX6_greatestUpTo_14 : decode cX6_greatestUpTo 14 = .ok (.arraylength, 1) := by decide +kernel
theorem dX6_greatestUpTo_15 : decode cX6_greatestUpTo 15 = .ok (.if_icmp .ge 23, 3) := by decide +kernel
theorem dX6_greatestUpTo_18 : decode cX6_greatestUpTo 18 = .ok (.iload_n 2, 1) := by decide +kernel
theorem dX6_greatestUpTo_19 : decode cX6_greatestUpTo 19 = .ok (.aload_n 0, 1) := by decide +kernel
theorem dX6_greatestUpTo_20 : decode cX6_greatestUpTo 20 = .ok (.getfield 56, 3) := by decide +kernel
theorem dX6_greatestUpTo_23 : decode cX6_greatestUpTo 23 = .ok (.iload_n 3, 1) := by decide +kernel
theorem dX6_greatestUpTo_24 : decode cX6_greatestUpTo 24 = .ok (.iaload, 1) := by decide +kernel
theorem dX6_greatestUpTo_25 : decode cX6_greatestUpTo 25 = .ok (.invokestatic 347, 3) := by decide +kernel
theorem dX6_greatestUpTo_28 : decode cX6_greatestUpTo 28 = .ok (.invokestatic 236, 3) := by decide +kernel
theorem dX6_greatestUpTo_31 : decode cX6_greatestUpTo 31 = .ok (.istore_n 2, 1) := by decide +kernel
theorem dX6_greatestUpTo_32 : decode cX6_greatestUpTo 32 = .ok (.iinc 3 1, 3) := by decide +kernel
theorem dX6_greatestUpTo_35 : decode cX6_greatestUpTo 35 = .ok (.goto (-31), 3) := by decide +kernel
theorem dX6_greatestUpTo_38 : decode cX6_greatestUpTo 38 = .ok (.iload_n 2, 1) := by decide +kernel
theorem dX6_greatestUpTo_39 : decode cX6_greatestUpTo 39 = .ok (.ireturn, 1) := by decide +kernel
theorem dX6_greatestIfStartedAfter_0 : decode cX6_greatestIfStartedAfter 0 = .ok (.iconst 0, 1) := by decide +kernel
theorem dX6_greatestIfStartedAfter_1 : decode cX6_greatestIfStartedAfter 1 = .ok (.istore_n 3, 1) := by decide +kernel
theorem dX6_greatestIfStartedAfter_2 : decode cX6_greatestIfStartedAfter 2 = .ok (.aload_n 0, 1) := by decide +kernel
theorem dX6_greatestIfStartedAfter_3 : decode cX6_greatestIfStartedAfter 3 = .ok (.getfield 60, 3) := by decide +kernel
theorem dX6_greatestIfStartedAfter_6 : decode cX6_greatestIfStartedAfter 6 = .ok (.arraylength, 1) := by decide +kernel
theorem dX6_greatestIfStartedAfter_7 : decode cX6_greatestIfStartedAfter 7 = .ok (.aload_n 0, 1) := by decide +kernel
theorem dX6_greatestIfStartedAfter_8 : decode cX6_greatestIfStartedAfter 8 = .ok (.getfield 56, 3) := by decide +kernel
theorem dX6_greatestIfStartedAfter_11 : decode cX6_greatestIfStartedAfter 11 = .ok (.arraylength, 1) := by decide +kernel
theorem dX6_greatestIfStartedAfter_12 : decode cX6_greatestIfStartedAfter 12 = .ok (.iload_n 1, 1) := by decide +kernel
theorem dX6_greatestIfStartedAfter_13 : decode cX6_greatestIfStartedAfter 13 = .ok (.isub, 1) := by decide +kernel
theorem dX6_greatestIfStartedAfter_14 : decode cX6_greatestIfStartedAfter 14 = .ok (.invokestatic 170, 3) := by decide +kernel
theorem dX6_greatestIfStartedAfter_17 : decode cX6_greatestIfStartedAfter 17 = .ok (.istore 4, 2) := by decide +kernel
theorem dX6_greatestIfStartedAfter_19 : decode cX6_greatestIfStartedAfter 19 = .ok (.iconst 0, 1) := by decide +kernel
theorem dX6_greatestIfStartedAfter_20 : decode cX6_greatestIfStartedAfter 20 = .ok (.istore 5, 2) := by decide +kernel
theorem dX6_greatestIfStartedAfter_22 : decode cX6_greatestIfStartedAfter 22 = .ok (.iload 5, 2) := by decide +kernel
theorem dX6_greatestIfStartedAfter_24 : decode cX6_greatestIfStartedAfter 24 = .ok (.iload 4, 2) := by decide +kernel
theorem dX6_greatestIfStartedAfter_26 : decode cX6_greatestIfStartedAfter 26 = .ok (.if_icmp .ge 39, 3) := by decide +kernel
theorem dX6_greatestIfStartedAfter_29 : decode cX6_greatestIfStartedAfter 29 = .ok (.iload_n 3, 1) := by decide +kernel
theorem dX6_greatestIfStartedAfter_30 : decode cX6_greatestIfStartedAfter 30 = .ok (.iload_n 2, 1) := by decide +kernel
theorem dX6_greatestIfStartedAfter_31 : decode cX6_greatestIfStartedAfter 31 = .ok (.if_icmp .ge 34, 3) := by decide +kernel
theorem dX6_greatestIfStartedAfter_34 : decode cX6_greatestIfStartedAfter 34 = .ok (.iload_n 3, 1) := by decide +kernel
theorem dX6_greatestIfStartedAfter_35 : decode cX6_greatestIfStartedAfter 35 = .ok (.aload_n 0, 1) := by decide +kernel
theorem dX6_greatestIfStartedAfter_36 : decode cX6_greatestIfStartedAfter 36 = .ok (.getfield 56, 3) := by decide +kernel
theorem dX6_greatestIfStartedAfter_39 : decode cX6_greatestIfStartedAfter 39 = .ok (.iload_n 1, 1) := by decide +kernel
theorem dX6_greatestIfStartedAfter_40 : decode cX6_greatestIfStartedAfter 40 = .ok (.iload 5, 2) := by decide +kernel
theorem dX6_greatestIfStartedAfter_42 : decode cX6_greatestIfStartedAfter 42 = .ok (.iadd, 1) := by decide +kernel
theorem dX6_greatestIfStartedAfter_43 : decode cX6_greatestIfStartedAfter 43 = .ok (.iaload, 1) := by decide +kernel
theorem dX6_greatestIfStartedAfter_44 : decode cX6_greatestIfStartedAfter 44 = .ok (.aload_n 0, 1) := by decide +kernel
theorem dX6_greatestIfStartedAfter_45 : decode cX6_greatestIfStartedAfter 45 = .ok (.getfield 60, 3) := by decide +kernel
theorem dX6_greatestIfStartedAfter_48 : decode cX6_greatestIfStartedAfter 48 = .ok (.iload 5, 2) := by decide +kernel
theorem dX6_greatestIfStartedAfter_50 : decode cX6_greatestIfStartedAfter 50 = .ok (.iaload, 1) := by decide +kernel
theorem dX6_greatestIfStartedAfter_51 : decode cX6_greatestIfStartedAfter 51 = .ok (.iadd, 1) := by decide +kernel
theorem dX6_greatestIfStartedAfter_52 : decode cX6_greatestIfStartedAfter 52 = .ok (.invokestatic 347, 3) := by decide +kernel
theorem dX6_greatestIfStartedAfter_55 : decode cX6_greatestIfStartedAfter 55 = .ok (.invokestatic 236, 3) := by decide +kernel
theorem dX6_greatestIfStartedAfter_58 : decode cX6_greatestIfStartedAfter 58 = .ok (.istore_n 3, 1) := by decide +kernel
theorem dX6_greatestIfStartedAfter_59 : decode cX6_greatestIfStartedAfter 59 = .ok (.iinc 5 1, 3) := by decide +kernel
theorem dX6_greatestIfStartedAfter_62 : decode cX6_greatestIfStartedAfter 62 = .ok (.goto (-40), 3) := by decide +kernel
theorem dX6_greatestIfStartedAfter_65 : decode cX6_greatestIfStartedAfter 65 = .ok (.iload_n 3, 1) := by decide +kernel
theorem dX6_greatestIfStartedAfter_66 : decode cX6_greatestIfStartedAfter 66 = .ok (.ireturn, 1) := by decide +kernel
theorem dJ6_bitCount_0f7a4_0 : decode cJ6_bitCount_0f7a4 0 = .ok (.iload_n 0, 1) := by decide +kernel
theorem dJ6_bitCount_0f7a4_1 : decode cJ6_bitCount_0f7a4 1 = .ok (.iload_n 0, 1) := by decide +kernel
theorem dJ6_bitCount_0f7a4_2 : decode cJ6_bitCount_0f7a4 2 = .ok (.iconst 1, 1) := by decide +kernel
theorem dJ6_bitCount_0f7a4_3 : decode cJ6_bitCount_0f7a4 3 = .ok (.iushr, 1) := by decide +kernel
theorem dJ6_bitCount_0f7a4_4 : decode cJ6_bitCount_0f7a4 4 = .ok (.ldc_w 265, 3) := by decide +kernel
theorem dJ6_bitCount_0f7a4_7 : decode cJ6_bitCount_0f7a4 7 = .ok (.iand, 1) := by decide +kernel
theorem dJ6_bitCount_0f7a4_8 : decode cJ6_bitCount_0f7a4 8 = .ok (.isub, 1) := by decide +kernel
theorem dJ6_bitCount_0f7a4_9 : decode cJ6_bitCount_0f7a4 9 = .ok (.istore_n 0, 1) := by decide +kernel
theorem dJ6_bitCount_0f7a4_10 : decode cJ6_bitCount_0f7a4 10 = .ok (.iload_n 0, 1) := by decide +kernel
theorem dJ6_bitCount_0f7a4_11 : decode cJ6_bitCount_0f7a4 11 = .ok (.ldc_w 266, 3) := by decide +kernel
theorem dJ6_bitCount_0f7a4_14 : decode cJ6_bitCount_0f7a4 14 = .ok (.iand, 1) := by decide +kernel
theorem dJ6_bitCount_0f7a4_15 : decode cJ6_bitCount_0f7a4 15 = .ok (.iload_n 0, 1) := by decide +kernel
theorem dJ6_bitCount_0f7a4_16 : decode cJ6_bitCount_0f7a4 16 = .ok (.iconst 2, 1) := by decide +kernel
theorem dJ6_bitCount_0f7a4_17 : decode cJ6_bitCount_0f7a4 17 = .ok (.iushr, 1) := by decide +kernel
theorem dJ6_bitCount_0f7a4_18 : decode cJ6_bitCount_0f7a4 18 = .ok (.ldc_w 266, 3) := by decide +kernel
theorem dJ6_bitCount_0f7a4_21 : decode cJ6_bitCount_0f7a4 21 = .ok (.iand, 1) := by decide +kernel
theorem dJ6_bitCount_0f7a4_22 : decode cJ6_bitCount_0f7a4 22 = .ok (.iadd, 1) := by decide +kernel
theorem dJ6_bitCount_0f7a4_23 : decode cJ6_bitCount_0f7a4 23 = .ok (.istore_n 0, 1) := by decide +kernel
theorem dJ6_bitCount_0f7a4_24 : decode cJ6_bitCount_0f7a4 24 = .ok (.iload_n 0, 1) := by decide +kernel
theorem dJ6_bitCount_0f7a4_25 : decode cJ6_bitCount_0f7a4 25 = .ok (.iload_n 0, 1) := by decide +kernel
theorem dJ6_bitCount_0f7a4_26 : decode cJ6_bitCount_0f7a4 26 = .ok (.iconst 4, 1) := by decide +kernel
theorem dJ6_bitCount_0f7a4_27 : decode cJ6_bitCount_0f7a4 27 = .ok (.iushr, 1) := by decide +kernel
theorem dJ6_bitCount_0f7a4_28 : decode cJ6_bitCount_0f7a4 28 = .ok (.iadd, 1) := by decide +kernel
theorem dJ6_bitCount_0f7a4_29 : decode cJ6_bitCount_0f7a4 29 = .ok (.ldc_w 267, 3) := by decide +kernel
theorem dJ6_bitCount_0f7a4_32 : decode cJ6_bitCount_0f7a4 32 = .ok (.iand, 1) := by decide +kernel
theorem dJ6_bitCount_0f7a4_33 : decode cJ6_bitCount_0f7a4 33 = .ok (.istore_n 0, 1) := by decide +kernel
theorem dJ6_bitCount_0f7a4_34 : decode cJ6_bitCount_0f7a4 34 = .ok (.iload_n 0, 1) := by decide +kernel
theorem dJ6_bitCount_0f7a4_35 : decode cJ6_bitCount_0f7a4 35 = .ok (.iload_n 0, 1) := by decide +kernel
theorem dJ6_bitCount_0f7a4_36 : decode cJ6_bitCount_0f7a4 36 = .ok (.bipush 8, 2) := by decide +kernel
theorem dJ6_bitCount_0f7a4_38 : decode cJ6_bitCount_0f7a4 38 = .ok (.iushr, 1) := by decide +kernel
theorem dJ6_bitCount_0f7a4_39 : decode cJ6_bitCount_0f7a4 39 = .ok (.iadd, 1) := by decide +kernel
theorem dJ6_bitCount_0f7a4_40 : decode cJ6_bitCount_0f7a4 40 = .ok (.istore_n 0, 1) := by decide +kernel
theorem dJ6_bitCount_0f7a4_41 : decode cJ6_bitCount_0f7a4 41 = .ok (.iload_n 0, 1) := by decide +kernel
theorem dJ6_bitCount_0f7a4_42 : decode cJ6_bitCount_0f7a4 42 = .ok (.iload_n 0, 1) := by decide +kernel
theorem dJ6_bitCount_0f7a4_43 : decode cJ6_bitCount_0f7a4 43 = .ok (.bipush 16, 2) := by decide +kernel
theorem dJ6_bitCount_0f7a4_45 : decode cJ6_bitCount_0f7a4 45 = .ok (.iushr, 1) := by decide +kernel
theorem dJ6_bitCount_0f7a4_46 : decode cJ6_bitCount_0f7a4 46 = .ok (.iadd, 1) := by decide +kernel
theorem dJ6_bitCount_0f7a4_47 : decode cJ6_bitCount_0f7a4 47 = .ok (.istore_n 0, 1) := by decide +kernel
theorem dJ6_bitCount_0f7a4_48 : decode cJ6_bitCount_0f7a4 48 = .ok (.iload_n 0, 1) := by decide +kernel
theorem dJ6_bitCount_0f7a4_49 : decode cJ6_bitCount_0f7a4 49 = .ok (.bipush 63, 2) := by decide +kernel
theorem dJ6_bitCount_0f7a4_51 : decode cJ6_bitCount_0f7a4 51 = .ok (.iand, 1) := by decide +kernel
theorem dJ6_bitCount_0f7a4_52 : decode cJ6_bitCount_0f7a4 52 = .ok (.ireturn, 1) := by decide +kernel
theorem dJ9_abs_0f7a4_0 : decode cJ9_abs_0f7a4 0 = .ok (.iload_n 0, 1) := by decide +kernel
theorem dJ9_abs_0f7a4_1 : decode cJ9_abs_0f7a4 1 = .ok (.ifCond .ge 8, 3) := by decide +kernel
theorem dJ9_abs_0f7a4_4 : decode cJ9_abs_0f7a4 4 = .ok (.iload_n 0, 1) := by decide +kernel
theorem dJ9_abs_0f7a4_5 : decode cJ9_abs_0f7a4 5 = .ok (.ineg, 1) := by decide +kernel
theorem dJ9_abs_0f7a4_6 : decode cJ9_abs_0f7a4 6 = .ok (.goto 4, 3) := by decide +kernel
theorem dJ9_abs_0f7a4_9 : decode cJ9_abs_0f7a4 9 = .ok (.iload_n 0, 1) := by decide +kernel
theorem dJ9_abs_0f7a4_10 : decode cJ9_abs_0f7a4 10 = .ok (.ireturn, 1) := by decide +kernel
theorem dJ9_max_7cf53_0 : decode cJ9_max_7cf53 0 = .ok (.iload_n 0, 1) := by decide +kernel
theorem dJ9_max_7cf53_1 : decode cJ9_max_7cf53 1 = .ok (.iload_n 1, 1) := by decide +kernel
theorem dJ9_max_7cf53_2 : decode cJ9_max_7cf53 2 = .ok (.if_icmp .lt 7, 3) := by decide +kernel
theorem dJ9_max_7cf53_5 : decode cJ9_max_7cf53 5 = .ok (.iload_n 0, 1) := by decide +kernel
theorem dJ9_max_7cf53_6 : decode cJ9_max_7cf53 6 = .ok (.goto 4, 3) := by decide +kernel
theorem dJ9_max_7cf53_9 : decode cJ9_max_7cf53 9 = .ok (.iload_n 1, 1) := by decide +kernel
theorem dJ9_max_7cf53_10 : decode cJ9_max_7cf53 10 = .ok (.ireturn, 1) := by decide +kernel
theorem dJ9_min_7cf53_0 : decode cJ9_min_7cf53 0 = .ok (.iload_n 0, 1) := by decide +kernel
theorem dJ9_min_7cf53_1 : decode cJ9_min_7cf53 1 = .ok (.iload_n 1, 1) := by decide +kernel
theorem dJ9_min_7cf53_2 : decode cJ9_min_7cf53 2 = .ok (.if_icmp .gt 7, 3) := by decide +kernel
theorem dJ9_min_7cf53_5 : decode cJ9_min_7cf53 5 = .ok (.iload_n 0, 1) := by decide +kernel
theorem dJ9_min_7cf53_6 : decode cJ9_min_7cf53 6 = .ok (.goto 4, 3) := by decide +kernel
theorem dJ9_min_7cf53_9 : decode cJ9_min_7cf53 9 = .ok (.iload_n 1, 1) := by decide +kernel
theorem dJ9_min_7cf53_10 : decode cJ9_min_7cf53 10 = .ok (.ireturn, 1) := by decide +kernel

theorem dX12_lead_2 : decode cX12_lead 2 = .ok (.invokevirtual 358, 3) := by decide +kernel
theorem dX12_lead_5 : decode cX12_lead 5 = .ok (.aload_n 0, 1) := by decide +kernel
theorem dX12_lead_6 : decode cX12_lead 6 = .ok (.iload_n 2, 1) := by decide +kernel
theorem dX12_lead_7 : decode cX12_lead 7 = .ok (.invokevirtual 361, 3) := by decide +kernel
theorem dX12_lead_10 : decode cX12_lead 10 = .ok (.iconst 0, 1) := by decide +kernel
theorem dX12_lead_11 : decode cX12_lead 11 = .ok (.istore 4, 2) := by decide +kernel
theorem dX12_lead_13 : decode cX12_lead 13 = .ok (.iload 4, 2) := by decide +kernel
theorem dX12_lead_15 : decode cX12_lead 15 = .ok (.iload_n 3, 1) := by decide +kernel
theorem dX12_lead_16 : decode cX12_lead 16 = .ok (.if_icmp .ge 14, 3) := by decide +kernel
theorem dX12_lead_19 : decode cX12_lead 19 = .ok (.aload_n 0, 1) := by decide +kernel
theorem dX12_lead_20 : decode cX12_lead 20 = .ok (.iload_n 1, 1) := by decide +kernel
theorem dX12_lead_21 : decode cX12_lead 21 = .ok (.invokevirtual 364, 3) := by decide +kernel
theorem dX12_lead_24 : decode cX12_lead 24 = .ok (.iinc 4 1, 3) := by decide +kernel
theorem dX12_lead_27 : decode cX12_lead 27 = .ok (.goto (-14), 3) := by decide +kernel
theorem dX12_lead_30 : decode cX12_lead 30 = .ok (.return_, 1) := by decide +kernel
theorem dX12_coinOf_0 : decode cX12_coinOf 0 = .ok (.aload_n 0, 1) := by decide +kernel
theorem dX12_coinOf_1 : decode cX12_coinOf 1 = .ok (.iload_n 1, 1) := by decide +kernel
theorem dX12_coinOf_2 : decode cX12_coinOf 2 = .ok (.iload_n 2, 1) := by decide +kernel
theorem dX12_coinOf_3 : decode cX12_coinOf 3 = .ok (.iload_n 3, 1) := by decide +kernel
theorem dX12_coinOf_4 : decode cX12_coinOf 4 = .ok (.invokevirtual 367, 3) := by decide +kernel
theorem dX12_coinOf_7 : decode cX12_coinOf 7 = .ok (.aload_n 0, 1) := by decide +kernel
theorem dX12_coinOf_8 : decode cX12_coinOf 8 = .ok (.getfield 345, 3) := by decide +kernel
theorem dX12_coinOf_11 : decode cX12_coinOf 11 = .ok (.ldc2_w 371, 3) := by decide +kernel
theorem dX12_coinOf_14 : decode cX12_coinOf 14 = .ok (.ldiv, 1) := by decide +kernel
theorem dX12_coinOf_15 : decode cX12_coinOf 15 = .ok (.l2i, 1) := by decide +kernel
theorem dX12_coinOf_16 : decode cX12_coinOf 16 = .ok (.ireturn, 1) := by decide +kernel
theorem dX12_coin_0 : decode cX12_coin 0 = .ok (.aload_n 0, 1) := by decide +kernel
theorem dX12_coin_1 : decode cX12_coin 1 = .ok (.iconst 0, 1) := by decide +kernel
theorem dX12_coin_2 : decode cX12_coin 2 = .ok (.putfield 159, 3) := by decide +kernel
theorem dX12_coin_5 : decode cX12_coin 5 = .ok (.iload_n 1, 1) := by decide +kernel
theorem dX12_coin_6 : decode cX12_coin 6 = .ok (.invokestatic 166, 3) := by decide +kernel
theorem dX12_coin_9 : decode cX12_coin 9 = .ok (.ifCond .eq 12, 3) := by decide +kernel
theorem dX12_coin_12 : decode cX12_coin 12 = .ok (.iload_n 3, 1) := by decide +kernel
theorem dX12_coin_13 : decode cX12_coin 13 = .ok (.ifCond .lt 8, 3) := by decide +kernel
theorem dX12_coin_16 : decode cX12_coin 16 = .ok (.iload_n 3, 1) := by decide +kernel
theorem dX12_coin_17 : decode cX12_coin 17 = .ok (.iconst 1, 1) := by decide +kernel
theorem dX12_coin_18 : decode cX12_coin 18 = .ok (.if_icmp .le 9, 3) := by decide +kernel
theorem dX12_coin_21 : decode cX12_coin 21 = .ok (.aload_n 0, 1) := by decide +kernel
theorem dX12_coin_22 : decode cX12_coin 22 = .ok (.iconst 1, 1) := by decide +kernel
theorem dX12_coin_23 : decode cX12_coin 23 = .ok (.invokevirtual 289, 3) := by decide +kernel
theorem dX12_coin_26 : decode cX12_coin 26 = .ok (.ireturn, 1) := by decide +kernel
theorem dX12_coin_27 : decode cX12_coin 27 = .ok (.iload_n 2, 1) := by decide +kernel
theorem dX12_coin_28 : decode cX12_coin 28 = .ok (.iconst 0, 1) := by decide +kernel
theorem dX12_coin_29 : decode cX12_coin 29 = .ok (.sipush 400, 3) := by decide +kernel
theorem dX12_coin_32 : decode cX12_coin 32 = .ok (.invokestatic 162, 3) := by decide +kernel
theorem dX12_coin_35 : decode cX12_coin 35 = .ok (.ifCond .ne 9, 3) := by decide +kernel
theorem dX12_coin_38 : decode cX12_coin 38 = .ok (.aload_n 0, 1) := by decide +kernel
theorem dX12_coin_39 : decode cX12_coin 39 = .ok (.iconst 2, 1) := by decide +kernel
theorem dX12_coin_40 : decode cX12_coin 40 = .ok (.invokevirtual 289, 3) := by decide +kernel
theorem dX12_coin_43 : decode cX12_coin 43 = .ok (.ireturn, 1) := by decide +kernel
theorem dX12_coin_44 : decode cX12_coin 44 = .ok (.aload_n 0, 1) := by decide +kernel
theorem dX12_coin_45 : decode cX12_coin 45 = .ok (.iload_n 1, 1) := by decide +kernel
theorem dX12_coin_46 : decode cX12_coin 46 = .ok (.aload_n 0, 1) := by decide +kernel
theorem dX12_coin_47 : decode cX12_coin 47 = .ok (.getfield 65, 3) := by decide +kernel
theorem dX12_coin_50 : decode cX12_coin 50 = .ok (.iload_n 1, 1) := by decide +kernel
theorem dX12_coin_51 : decode cX12_coin 51 = .ok (.iaload, 1) := by decide +kernel
theorem dX12_coin_52 : decode cX12_coin 52 = .ok (.iload_n 2, 1) := by decide +kernel
theorem dX12_coin_53 : decode cX12_coin 53 = .ok (.invokevirtual 367, 3) := by decide +kernel
theorem dX12_coin_56 : decode cX12_coin 56 = .ok (.iload_n 3, 1) := by decide +kernel
theorem dX12_coin_57 : decode cX12_coin 57 = .ok (.ifCond .ne 10, 3) := by decide +kernel
theorem dX12_coin_60 : decode cX12_coin 60 = .ok (.aload_n 0, 1) := by decide +kernel
theorem dX12_coin_61 : decode cX12_coin 61 = .ok (.getfield 345, 3) := by decide +kernel
theorem dX12_coin_64 : decode cX12_coin 64 = .ok (.goto 7, 3) := by decide +kernel
theorem dX12_coin_67 : decode cX12_coin 67 = .ok (.aload_n 0, 1) := by decide +kernel
theorem dX12_coin_68 : decode cX12_coin 68 = .ok (.getfield 349, 3) := by decide +kernel
theorem dX12_coin_71 : decode cX12_coin 71 = .ok (.ldc2_w 371, 3) := by decide +kernel
theorem dX12_coin_74 : decode cX12_coin 74 = .ok (.ldiv, 1) := by decide +kernel
theorem dX12_coin_75 : decode cX12_coin 75 = .ok (.l2i, 1) := by decide +kernel
theorem dX12_coin_76 : decode cX12_coin 76 = .ok (.ireturn, 1) := by decide +kernel
theorem dX12_cases_0 : decode cX12_cases 0 = .ok (.aload_n 0, 1) := by decide +kernel
theorem dX12_cases_1 : decode cX12_cases 1 = .ok (.iconst 0, 1) := by decide +kernel
theorem dX12_cases_2 : decode cX12_cases 2 = .ok (.putfield 159, 3) := by decide +kernel
theorem dX12_cases_5 : decode cX12_cases 5 = .ok (.iload_n 1, 1) := by decide +kernel
theorem dX12_cases_6 : decode cX12_cases 6 = .ok (.invokestatic 166, 3) := by decide +kernel
theorem dX12_cases_9 : decode cX12_cases 9 = .ok (.ifCond .eq 12, 3) := by decide +kernel
theorem dX12_cases_12 : decode cX12_cases 12 = .ok (.aload_n 0, 1) := by decide +kernel
theorem dX12_cases_13 : decode cX12_cases 13 = .ok (.iload_n 1, 1) := by decide +kernel
theorem dX12_cases_14 : decode cX12_cases 14 = .ok (.iload_n 3, 1) := by decide +kernel
theorem dX12_cases_15 : decode cX12_cases 15 = .ok (.invokevirtual 327, 3) := by decide +kernel
theorem dX12_cases_18 : decode cX12_cases 18 = .ok (.ifCond .ne 9, 3) := by decide +kernel
theorem dX12_cases_21 : decode cX12_cases 21 = .ok (.aload_n 0, 1) := by decide +kernel
theorem dX12_cases_22 : decode cX12_cases 22 = .ok (.iconst 1, 1) := by decide +kernel
theorem dX12_cases_23 : decode cX12_cases 23 = .ok (.invokevirtual 289, 3) := by decide +kernel
theorem dX12_cases_26 : decode cX12_cases 26 = .ok (.ireturn, 1) := by decide +kernel
theorem dX12_cases_27 : decode cX12_cases 27 = .ok (.iload_n 2, 1) := by decide +kernel
theorem dX12_cases_28 : decode cX12_cases 28 = .ok (.iconst 0, 1) := by decide +kernel
theorem dX12_cases_29 : decode cX12_cases 29 = .ok (.sipush 400, 3) := by decide +kernel
theorem dX12_cases_32 : decode cX12_cases 32 = .ok (.invokestatic 162, 3) := by decide +kernel
theorem dX12_cases_35 : decode cX12_cases 35 = .ok (.ifCond .ne 9, 3) := by decide +kernel
theorem dX12_cases_38 : decode cX12_cases 38 = .ok (.aload_n 0, 1) := by decide +kernel
theorem dX12_cases_39 : decode cX12_cases 39 = .ok (.iconst 2, 1) := by decide +kernel
theorem dX12_cases_40 : decode cX12_cases 40 = .ok (.invokevirtual 289, 3) := by decide +kernel
theorem dX12_cases_43 : decode cX12_cases 43 = .ok (.ireturn, 1) := by decide +kernel
theorem dX12_cases_44 : decode cX12_cases 44 = .ok (.aload_n 0, 1) := by decide +kernel
theorem dX12_cases_45 : decode cX12_cases 45 = .ok (.iload_n 1, 1) := by decide +kernel
theorem dX12_cases_46 : decode cX12_cases 46 = .ok (.aload_n 0, 1) := by decide +kernel
theorem dX12_cases_47 : decode cX12_cases 47 = .ok (.getfield 65, 3) := by decide +kernel
theorem dX12_cases_50 : decode cX12_cases 50 = .ok (.iload_n 1, 1) := by decide +kernel
theorem dX12_cases_51 : decode cX12_cases 51 = .ok (.iaload, 1) := by decide +kernel
theorem dX12_cases_52 : decode cX12_cases 52 = .ok (.iload_n 2, 1) := by decide +kernel
theorem dX12_cases_53 : decode cX12_cases 53 = .ok (.invokevirtual 367, 3) := by decide +kernel
theorem dX12_cases_56 : decode cX12_cases 56 = .ok (.aload_n 0, 1) := by decide +kernel
theorem dX12_cases_57 : decode cX12_cases 57 = .ok (.getfield 99, 3) := by decide +kernel
theorem dX12_cases_60 : decode cX12_cases 60 = .ok (.iload_n 3, 1) := by decide +kernel
theorem dX12_cases_61 : decode cX12_cases 61 = .ok (.laload, 1) := by decide +kernel
theorem dX12_cases_62 : decode cX12_cases 62 = .ok (.l2i, 1) := by decide +kernel
theorem dX12_cases_63 : decode cX12_cases 63 = .ok (.ireturn, 1) := by decide +kernel
theorem dX12_drift_0 : decode cX12_drift 0 = .ok (.aload_n 0, 1) := by decide +kernel
theorem dX12_drift_1 : decode cX12_drift 1 = .ok (.iconst 0, 1) := by decide +kernel
theorem dX12_drift_2 : decode cX12_drift 2 = .ok (.putfield 159, 3) := by decide +kernel
theorem dX12_drift_5 : decode cX12_drift 5 = .ok (.iload_n 1, 1) := by decide +kernel
theorem dX12_drift_6 : decode cX12_drift 6 = .ok (.invokestatic 166, 3) := by decide +kernel
theorem dX12_drift_9 : decode cX12_drift 9 = .ok (.ifCond .ne 9, 3) := by decide +kernel
theorem dX12_drift_12 : decode cX12_drift 12 = .ok (.aload_n 0, 1) := by decide +kernel
theorem dX12_drift_13 : decode cX12_drift 13 = .ok (.iconst 1, 1) := by decide +kernel
theorem dX12_drift_14 : decode cX12_drift 14 = .ok (.invokevirtual 289, 3) := by decide +kernel
theorem dX12_drift_17 : decode cX12_drift 17 = .ok (.ireturn, 1) := by decide +kernel
theorem dX12_drift_18 : decode cX12_drift 18 = .ok (.iload_n 2, 1) := by decide +kernel
theorem dX12_drift_19 : decode cX12_drift 19 = .ok (.iconst 1, 1) := by decide +kernel
theorem dX12_drift_20 : decode cX12_drift 20 = .ok (.sipush 400, 3) := by decide +kernel
theorem dX12_drift_23 : decode cX12_drift 23 = .ok (.invokestatic 162, 3) := by decide +kernel
theorem dX12_drift_26 : decode cX12_drift 26 = .ok (.ifCond .ne 9, 3) := by decide +kernel
theorem dX12_drift_29 : decode cX12_drift 29 = .ok (.aload_n 0, 1) := by decide +kernel
theorem dX12_drift_30 : decode cX12_drift 30 = .ok (.iconst 2, 1) := by decide +kernel
theorem dX12_drift_31 : decode cX12_drift 31 = .ok (.invokevirtual 289, 3) := by decide +kernel
theorem dX12_drift_34 : decode cX12_drift 34 = .ok (.ireturn, 1) := by decide +kernel
theorem dX12_drift_35 : decode cX12_drift 35 = .ok (.aload_n 0, 1) := by decide +kernel
theorem dX12_drift_36 : decode cX12_drift 36 = .ok (.iload_n 1, 1) := by decide +kernel
theorem dX12_drift_37 : decode cX12_drift 37 = .ok (.aload_n 0, 1) := by decide +kernel
theorem dX12_drift_38 : decode cX12_drift 38 = .ok (.getfield 65, 3) := by decide +kernel
theorem dX12_drift_41 : decode cX12_drift 41 = .ok (.iload_n 1, 1) := by decide +kernel
theorem dX12_drift_42 : decode cX12_drift 42 = .ok (.iaload, 1) := by decide +kernel
theorem dX12_drift_43 : decode cX12_drift 43 = .ok (.iload_n 2, 1) := by decide +kernel
theorem dX12_drift_44 : decode cX12_drift 44 = .ok (.invokevirtual 367, 3) := by decide +kernel
theorem dX12_drift_47 : decode cX12_drift 47 = .ok (.aload_n 0, 1) := by decide +kernel
theorem dX12_drift_48 : decode cX12_drift 48 = .ok (.getfield 352, 3) := by decide +kernel
theorem dX12_drift_51 : decode cX12_drift 51 = .ok (.ldc2_w 371, 3) := by decide +kernel
theorem dX12_drift_54 : decode cX12_drift 54 = .ok (.ldiv, 1) := by decide +kernel
theorem dX12_drift_55 : decode cX12_drift 55 = .ok (.l2i, 1) := by decide +kernel
theorem dX12_drift_56 : decode cX12_drift 56 = .ok (.ireturn, 1) := by decide +kernel
theorem dX12_turn_0 : decode cX12_turn 0 = .ok (.aload_n 0, 1) := by decide +kernel
theorem dX12_turn_1 : decode cX12_turn 1 = .ok (.iconst 0, 1) := by decide +kernel
theorem dX12_turn_2 : decode cX12_turn 2 = .ok (.putfield 159, 3) := by decide +kernel
theorem dX12_turn_5 : decode cX12_turn 5 = .ok (.iload_n 1, 1) := by decide +kernel
theorem dX12_turn_6 : decode cX12_turn 6 = .ok (.invokestatic 166, 3) := by decide +kernel
theorem dX12_turn_9 : decode cX12_turn 9 = .ok (.ifCond .ne 9, 3) := by decide +kernel
theorem dX12_turn_12 : decode cX12_turn 12 = .ok (.aload_n 0, 1) := by decide +kernel
theorem dX12_turn_13 : decode cX12_turn 13 = .ok (.iconst 1, 1) := by decide +kernel
theorem dX12_turn_14 : decode cX12_turn 14 = .ok (.invokevirtual 289, 3) := by decide +kernel
theorem dX12_turn_17 : decode cX12_turn 17 = .ok (.ireturn, 1) := by decide +kernel
theorem dX12_turn_18 : decode cX12_turn 18 = .ok (.aload_n 0, 1) := by decide +kernel
theorem dX12_turn_19 : decode cX12_turn 19 = .ok (.iload_n 1, 1) := by decide +kernel
theorem dX12_turn_20 : decode cX12_turn 20 = .ok (.invokevirtual 358, 3) := by decide +kernel
theorem dX12_turn_23 : decode cX12_turn 23 = .ok (.aload_n 0, 1) := by decide +kernel
theorem dX12_turn_24 : decode cX12_turn 24 = .ok (.aload_n 0, 1) := by decide +kernel
theorem dX12_turn_25 : decode cX12_turn 25 = .ok (.getfield 65, 3) := by decide +kernel
theorem dX12_turn_28 : decode cX12_turn 28 = .ok (.iload_n 1, 1) := by decide +kernel
theorem dX12_turn_29 : decode cX12_turn 29 = .ok (.iaload, 1) := by decide +kernel
theorem dX12_turn_30 : decode cX12_turn 30 = .ok (.invokevirtual 361, 3) := by decide +kernel
theorem dX12_turn_33 : decode cX12_turn 33 = .ok (.iconst 1, 1) := by decide +kernel
theorem dX12_turn_34 : decode cX12_turn 34 = .ok (.istore_n 3, 1) := by decide +kernel
theorem dX12_turn_35 : decode cX12_turn 35 = .ok (.iload_n 3, 1) := by decide +kernel
theorem dX12_turn_36 : decode cX12_turn 36 = .ok (.sipush 400, 3) := by decide +kernel
theorem dX12_turn_39 : decode cX12_turn 39 = .ok (.if_icmp .gt 30, 3) := by decide +kernel
theorem dX12_turn_42 : decode cX12_turn 42 = .ok (.aload_n 0, 1) := by decide +kernel
theorem dX12_turn_43 : decode cX12_turn 43 = .ok (.iload_n 1, 1) := by decide +kernel
theorem dX12_turn_44 : decode cX12_turn 44 = .ok (.invokevirtual 364, 3) := by decide +kernel
theorem dX12_turn_47 : decode cX12_turn 47 = .ok (.aload_n 0, 1) := by decide +kernel
theorem dX12_turn_48 : decode cX12_turn 48 = .ok (.getfield 352, 3) := by decide +kernel
theorem dX12_turn_51 : decode cX12_turn 51 = .ok (.ldc2_w 371, 3) := by decide +kernel
theorem dX12_turn_54 : decode cX12_turn 54 = .ok (.ldiv, 1) := by decide +kernel
theorem dX12_turn_55 : decode cX12_turn 55 = .ok (.iload_n 2, 1) := by decide +kernel
theorem dX12_turn_56 : decode cX12_turn 56 = .ok (.i2l, 1) := by decide +kernel
theorem dX12_turn_57 : decode cX12_turn 57 = .ok (.lcmp, 1) := by decide +kernel
theorem dX12_turn_58 : decode cX12_turn 58 = .ok (.ifCond .ge 5, 3) := by decide +kernel
theorem dX12_turn_61 : decode cX12_turn 61 = .ok (.iload_n 3, 1) := by decide +kernel
theorem dX12_turn_62 : decode cX12_turn 62 = .ok (.ireturn, 1) := by decide +kernel
theorem dX12_turn_63 : decode cX12_turn 63 = .ok (.iinc 3 1, 3) := by decide +kernel
theorem dX12_turn_66 : decode cX12_turn 66 = .ok (.goto (-31), 3) := by decide +kernel
theorem dX12_turn_69 : decode cX12_turn 69 = .ok (.iconst (-1), 1) := by decide +kernel
theorem dX12_turn_70 : decode cX12_turn 70 = .ok (.ireturn, 1) := by decide +kernel
theorem dX12_tellComes_0 : decode cX12_tellComes 0 = .ok (.aload_n 0, 1) := by decide +kernel
theorem dX12_tellComes_1 : decode cX12_tellComes 1 = .ok (.iload_n 1, 1) := by decide +kernel
theorem dX12_tellComes_2 : decode cX12_tellComes 2 = .ok (.invokevirtual 170, 3) := by decide +kernel
theorem dX12_tellComes_5 : decode cX12_tellComes 5 = .ok (.istore_n 2, 1) := by decide +kernel
theorem dX12_tellComes_6 : decode cX12_tellComes 6 = .ok (.aload_n 0, 1) := by decide +kernel
theorem dX12_tellComes_7 : decode cX12_tellComes 7 = .ok (.iload_n 1, 1) := by decide +kernel
theorem dX12_tellComes_8 : decode cX12_tellComes 8 = .ok (.invokevirtual 358, 3) := by decide +kernel
theorem dX12_tellComes_11 : decode cX12_tellComes 11 = .ok (.iconst 0, 1) := by decide +kernel
theorem dX12_tellComes_12 : decode cX12_tellComes 12 = .ok (.istore_n 3, 1) := by decide +kernel
theorem dX12_tellComes_13 : decode cX12_tellComes 13 = .ok (.iload_n 3, 1) := by decide +kernel
theorem dX12_tellComes_14 : decode cX12_tellComes 14 = .ok (.sipush 10000, 3) := by decide +kernel
theorem dX12_tellComes_17 : decode cX12_tellComes 17 = .ok (.if_icmp .ge 16, 3) := by decide +kernel
theorem dX12_tellComes_20 : decode cX12_tellComes 20 = .ok (.aload_n 0, 1) := by decide +kernel
theorem dX12_tellComes_21 : decode cX12_tellComes 21 = .ok (.getfield 109, 3) := by decide +kernel
theorem dX12_tellComes_24 : decode cX12_tellComes 24 = .ok (.iload_n 3, 1) := by decide +kernel
theorem dX12_tellComes_25 : decode cX12_tellComes 25 = .ok (.iconst 0, 1) := by decide +kernel
theorem dX12_tellComes_26 : decode cX12_tellComes 26 = .ok (.bastore, 1) := by decide +kernel
theorem dX12_tellComes_27 : decode cX12_tellComes 27 = .ok (.iinc 3 1, 3) := by decide +kernel
theorem dX12_tellComes_30 : decode cX12_tellComes 30 = .ok (.goto (-17), 3) := by decide +kernel
theorem dX12_tellComes_33 : decode cX12_tellComes 33 = .ok (.iconst 0, 1) := by decide +kernel
theorem dX12_tellComes_34 : decode cX12_tellComes 34 = .ok (.istore_n 3, 1) := by decide +kernel
theorem dX12_tellComes_35 : decode cX12_tellComes 35 = .ok (.iload_n 3, 1) := by decide +kernel
theorem dX12_tellComes_36 : decode cX12_tellComes 36 = .ok (.iload_n 2, 1) := by decide +kernel
theorem dX12_tellComes_37 : decode cX12_tellComes 37 = .ok (.if_icmp .ge 70, 3) := by decide +kernel
theorem dX12_tellComes_40 : decode cX12_tellComes 40 = .ok (.aload_n 0, 1) := by decide +kernel
theorem dX12_tellComes_41 : decode cX12_tellComes 41 = .ok (.getfield 109, 3) := by decide +kernel
theorem dX12_tellComes_44 : decode cX12_tellComes 44 = .ok (.bipush 100, 2) := by decide +kernel
theorem dX12_tellComes_46 : decode cX12_tellComes 46 = .ok (.iload_n 3, 1) := by decide +kernel
theorem dX12_tellComes_47 : decode cX12_tellComes 47 = .ok (.imul, 1) := by decide +kernel
theorem dX12_tellComes_48 : decode cX12_tellComes 48 = .ok (.iload_n 3, 1) := by decide +kernel
theorem dX12_tellComes_49 : decode cX12_tellComes 49 = .ok (.iadd, 1) := by decide +kernel
theorem dX12_tellComes_50 : decode cX12_tellComes 50 = .ok (.iconst 1, 1) := by decide +kernel
theorem dX12_tellComes_51 : decode cX12_tellComes 51 = .ok (.bastore, 1) := by decide +kernel
theorem dX12_tellComes_52 : decode cX12_tellComes 52 = .ok (.iconst 0, 1) := by decide +kernel
theorem dX12_tellComes_53 : decode cX12_tellComes 53 = .ok (.istore 4, 2) := by decide +kernel
theorem dX12_tellComes_55 : decode cX12_tellComes 55 = .ok (.iload 4, 2) := by decide +kernel
theorem dX12_tellComes_57 : decode cX12_tellComes 57 = .ok (.aload_n 0, 1) := by decide +kernel
theorem dX12_tellComes_58 : decode cX12_tellComes 58 = .ok (.getfield 42, 3) := by decide +kernel
theorem dX12_tellComes_61 : decode cX12_tellComes 61 = .ok (.iload_n 1, 1) := by decide +kernel
theorem dX12_tellComes_62 : decode cX12_tellComes 62 = .ok (.iaload, 1) := by decide +kernel
theorem dX12_tellComes_63 : decode cX12_tellComes 63 = .ok (.if_icmp .ge 38, 3) := by decide +kernel
theorem dX12_tellComes_66 : decode cX12_tellComes 66 = .ok (.aload_n 0, 1) := by decide +kernel
theorem dX12_tellComes_67 : decode cX12_tellComes 67 = .ok (.getfield 109, 3) := by decide +kernel
theorem dX12_tellComes_70 : decode cX12_tellComes 70 = .ok (.bipush 100, 2) := by decide +kernel
theorem dX12_tellComes_72 : decode cX12_tellComes 72 = .ok (.iload_n 3, 1) := by decide +kernel
theorem dX12_tellComes_73 : decode cX12_tellComes 73 = .ok (.imul, 1) := by decide +kernel
theorem dX12_tellComes_74 : decode cX12_tellComes 74 = .ok (.aload_n 0, 1) := by decide +kernel
theorem dX12_tellComes_75 : decode cX12_tellComes 75 = .ok (.iload_n 1, 1) := by decide +kernel
theorem dX12_tellComes_76 : decode cX12_tellComes 76 = .ok (.iload_n 3, 1) := by decide +kernel
theorem dX12_tellComes_77 : decode cX12_tellComes 77 = .ok (.aload_n 0, 1) := by decide +kernel
theorem dX12_tellComes_78 : decode cX12_tellComes 78 = .ok (.getfield 106, 3) := by decide +kernel
theorem dX12_tellComes_81 : decode cX12_tellComes 81 = .ok (.bipush 8, 2) := by decide +kernel
theorem dX12_tellComes_83 : decode cX12_tellComes 83 = .ok (.iload_n 3, 1) := by decide +kernel
theorem dX12_tellComes_84 : decode cX12_tellComes 84 = .ok (.imul, 1) := by decide +kernel
theorem dX12_tellComes_85 : decode cX12_tellComes 85 = .ok (.iload 4, 2) := by decide +kernel
theorem dX12_tellComes_87 : decode cX12_tellComes 87 = .ok (.iadd, 1) := by decide +kernel
theorem dX12_tellComes_88 : decode cX12_tellComes 88 = .ok (.iaload, 1) := by decide +kernel
theorem dX12_tellComes_89 : decode cX12_tellComes 89 = .ok (.invokevirtual 355, 3) := by decide +kernel
theorem dX12_tellComes_92 : decode cX12_tellComes 92 = .ok (.iadd, 1) := by decide +kernel
theorem dX12_tellComes_93 : decode cX12_tellComes 93 = .ok (.iconst 1, 1) := by decide +kernel
theorem dX12_tellComes_94 : decode cX12_tellComes 94 = .ok (.bastore, 1) := by decide +kernel
theorem dX12_tellComes_95 : decode cX12_tellComes 95 = .ok (.iinc 4 1, 3) := by decide +kernel
theorem dX12_tellComes_98 : decode cX12_tellComes 98 = .ok (.goto (-43), 3) := by decide +kernel
theorem dX12_tellComes_101 : decode cX12_tellComes 101 = .ok (.iinc 3 1, 3) := by decide +kernel
theorem dX12_tellComes_104 : decode cX12_tellComes 104 = .ok (.goto (-69), 3) := by decide +kernel
theorem dX12_tellComes_107 : decode cX12_tellComes 107 = .ok (.iconst 0, 1) := by decide +kernel
theorem dX12_tellComes_108 : decode cX12_tellComes 108 = .ok (.istore_n 3, 1) := by decide +kernel
theorem dX12_tellComes_109 : decode cX12_tellComes 109 = .ok (.iload_n 3, 1) := by decide +kernel
theorem dX12_tellComes_110 : decode cX12_tellComes 110 = .ok (.iload_n 2, 1) := by decide +kernel
theorem dX12_tellComes_111 : decode cX12_tellComes 111 = .ok (.if_icmp .ge 82, 3) := by decide +kernel
theorem dX12_tellComes_114 : decode cX12_tellComes 114 = .ok (.iconst 0, 1) := by decide +kernel
theorem dX12_tellComes_115 : decode cX12_tellComes 115 = .ok (.istore 4, 2) := by decide +kernel
theorem dX12_tellComes_117 : decode cX12_tellComes 117 = .ok (.iload 4, 2) := by decide +kernel
theorem dX12_tellComes_119 : decode cX12_tellComes 119 = .ok (.iload_n 2, 1) := by decide +kernel
theorem dX12_tellComes_120 : decode cX12_tellComes 120 = .ok (.if_icmp .ge 67, 3) := by decide +kernel
theorem dX12_tellComes_123 : decode cX12_tellComes 123 = .ok (.aload_n 0, 1) := by decide +kernel
theorem dX12_tellComes_124 : decode cX12_tellComes 124 = .ok (.getfield 109, 3) := by decide +kernel
theorem dX12_tellComes_127 : decode cX12_tellComes 127 = .ok (.bipush 100, 2) := by decide +kernel
theorem dX12_tellComes_129 : decode cX12_tellComes 129 = .ok (.iload 4, 2) := by decide +kernel
theorem dX12_tellComes_131 : decode cX12_tellComes 131 = .ok (.imul, 1) := by decide +kernel
theorem dX12_tellComes_132 : decode cX12_tellComes 132 = .ok (.iload_n 3, 1) := by decide +kernel
theorem dX12_tellComes_133 : decode cX12_tellComes 133 = .ok (.iadd, 1) := by decide +kernel
theorem dX12_tellComes_134 : decode cX12_tellComes 134 = .ok (.baload, 1) := by decide +kernel
theorem dX12_tellComes_135 : decode cX12_tellComes 135 = .ok (.ifCond .eq 46, 3) := by decide +kernel
theorem dX12_tellComes_138 : decode cX12_tellComes 138 = .ok (.iconst 0, 1) := by decide +kernel
theorem dX12_tellComes_139 : decode cX12_tellComes 139 = .ok (.istore 5, 2) := by decide +kernel
theorem dX12_tellComes_141 : decode cX12_tellComes 141 = .ok (.iload 5, 2) := by decide +kernel
theorem dX12_tellComes_143 : decode cX12_tellComes 143 = .ok (.iload_n 2, 1) := by decide +kernel
theorem dX12_tellComes_144 : decode cX12_tellComes 144 = .ok (.if_icmp .ge 37, 3) := by decide +kernel
theorem dX12_tellComes_147 : decode cX12_tellComes 147 = .ok (.aload_n 0, 1) := by decide +kernel
theorem dX12_tellComes_148 : decode cX12_tellComes 148 = .ok (.getfield 109, 3) := by decide +kernel
theorem dX12_tellComes_151 : decode cX12_tellComes 151 = .ok (.bipush 100, 2) := by decide +kernel
theorem dX12_tellComes_153 : decode cX12_tellComes 153 = .ok (.iload 4, 2) := by decide +kernel
theorem dX12_tellComes_155 : decode cX12_tellComes 155 = .ok (.imul, 1) := by decide +kernel
theorem dX12_tellComes_156 : decode cX12_tellComes 156 = .ok (.iload 5, 2) := by decide +kernel
theorem dX12_tellComes_158 : decode cX12_tellComes 158 = .ok (.iadd, 1) := by decide +kernel
theorem dX12_tellComes_159 : decode cX12_tellComes 159 = .ok (.dup2, 1) := by decide +kernel
theorem dX12_tellComes_160 : decode cX12_tellComes 160 = .ok (.baload, 1) := by decide +kernel
theorem dX12_tellComes_161 : decode cX12_tellComes 161 = .ok (.aload_n 0, 1) := by decide +kernel
theorem dX12_tellComes_162 : decode cX12_tellComes 162 = .ok (.getfield 109, 3) := by decide +kernel
theorem dX12_tellComes_165 : decode cX12_tellComes 165 = .ok (.bipush 100, 2) := by decide +kernel
theorem dX12_tellComes_167 : decode cX12_tellComes 167 = .ok (.iload_n 3, 1) := by decide +kernel
theorem dX12_tellComes_168 : decode cX12_tellComes 168 = .ok (.imul, 1) := by decide +kernel
theorem dX12_tellComes_169 : decode cX12_tellComes 169 = .ok (.iload 5, 2) := by decide +kernel
theorem dX12_tellComes_171 : decode cX12_tellComes 171 = .ok (.iadd, 1) := by decide +kernel
theorem dX12_tellComes_172 : decode cX12_tellComes 172 = .ok (.baload, 1) := by decide +kernel
theorem dX12_tellComes_173 : decode cX12_tellComes 173 = .ok (.ior, 1) := by decide +kernel
theorem dX12_tellComes_174 : decode cX12_tellComes 174 = .ok (.bastore, 1) := by decide +kernel
theorem dX12_tellComes_175 : decode cX12_tellComes 175 = .ok (.iinc 5 1, 3) := by decide +kernel
theorem dX12_tellComes_178 : decode cX12_tellComes 178 = .ok (.goto (-37), 3) := by decide +kernel
theorem dX12_tellComes_181 : decode cX12_tellComes 181 = .ok (.iinc 4 1, 3) := by decide +kernel
theorem dX12_tellComes_184 : decode cX12_tellComes 184 = .ok (.goto (-67), 3) := by decide +kernel
theorem dX12_tellComes_187 : decode cX12_tellComes 187 = .ok (.iinc 3 1, 3) := by decide +kernel
theorem dX12_tellComes_190 : decode cX12_tellComes 190 = .ok (.goto (-81), 3) := by decide +kernel
theorem dX12_tellComes_193 : decode cX12_tellComes 193 = .ok (.return_, 1) := by decide +kernel
theorem dX12_isRest_0 : decode cX12_isRest 0 = .ok (.aload_n 0, 1) := by decide +kernel
theorem dX12_isRest_1 : decode cX12_isRest 1 = .ok (.getfield 109, 3) := by decide +kernel
theorem dX12_isRest_4 : decode cX12_isRest 4 = .ok (.bipush 100, 2) := by decide +kernel
theorem dX12_isRest_6 : decode cX12_isRest 6 = .ok (.aload_n 0, 1) := by decide +kernel
theorem dX12_isRest_7 : decode cX12_isRest 7 = .ok (.getfield 65, 3) := by decide +kernel
theorem dX12_isRest_10 : decode cX12_isRest 10 = .ok (.iload_n 1, 1) := by decide +kernel
theorem dX12_isRest_11 : decode cX12_isRest 11 = .ok (.iaload, 1) := by decide +kernel
theorem dX12_isRest_12 : decode cX12_isRest 12 = .ok (.imul, 1) := by decide +kernel
theorem dX12_isRest_13 : decode cX12_isRest 13 = .ok (.iload_n 2, 1) := by decide +kernel
theorem dX12_isRest_14 : decode cX12_isRest 14 = .ok (.iadd, 1) := by decide +kernel
theorem dX12_isRest_15 : decode cX12_isRest 15 = .ok (.baload, 1) := by decide +kernel
theorem dX12_isRest_16 : decode cX12_isRest 16 = .ok (.ifCond .ne 5, 3) := by decide +kernel
theorem dX12_isRest_19 : decode cX12_isRest 19 = .ok (.iconst 0, 1) := by decide +kernel
theorem dX12_isRest_20 : decode cX12_isRest 20 = .ok (.ireturn, 1) := by decide +kernel
theorem dX12_isRest_21 : decode cX12_isRest 21 = .ok (.iconst 0, 1) := by decide +kernel
theorem dX12_isRest_22 : decode cX12_isRest 22 = .ok (.istore_n 3, 1) := by decide +kernel
theorem dX12_isRest_23 : decode cX12_isRest 23 = .ok (.iload_n 3, 1) := by decide +kernel
theorem dX12_isRest_24 : decode cX12_isRest 24 = .ok (.aload_n 0, 1) := by decide +kernel
theorem dX12_isRest_25 : decode cX12_isRest 25 = .ok (.iload_n 1, 1) := by decide +kernel
theorem dX12_isRest_26 : decode cX12_isRest 26 = .ok (.invokevirtual 170, 3) := by decide +kernel
theorem dX12_isRest_29 : decode cX12_isRest 29 = .ok (.if_icmp .ge 47, 3) := by decide +kernel
theorem dX12_isRest_32 : decode cX12_isRest 32 = .ok (.aload_n 0, 1) := by decide +kernel
theorem dX12_isRest_33 : decode cX12_isRest 33 = .ok (.getfield 109, 3) := by decide +kernel
theorem dX12_isRest_36 : decode cX12_isRest 36 = .ok (.bipush 100, 2) := by decide +kernel
theorem dX12_isRest_38 : decode cX12_isRest 38 = .ok (.iload_n 2, 1) := by decide +kernel
theorem dX12_isRest_39 : decode cX12_isRest 39 = .ok (.imul, 1) := by decide +kernel
theorem dX12_isRest_40 : decode cX12_isRest 40 = .ok (.iload_n 3, 1) := by decide +kernel
theorem dX12_isRest_41 : decode cX12_isRest 41 = .ok (.iadd, 1) := by decide +kernel
theorem dX12_isRest_42 : decode cX12_isRest 42 = .ok (.baload, 1) := by decide +kernel
theorem dX12_isRest_43 : decode cX12_isRest 43 = .ok (.ifCond .ne 6, 3) := by decide +kernel
theorem dX12_isRest_46 : decode cX12_isRest 46 = .ok (.goto 24, 3) := by decide +kernel
theorem dX12_isRest_49 : decode cX12_isRest 49 = .ok (.aload_n 0, 1) := by decide +kernel
theorem dX12_isRest_50 : decode cX12_isRest 50 = .ok (.getfield 109, 3) := by decide +kernel
theorem dX12_isRest_53 : decode cX12_isRest 53 = .ok (.bipush 100, 2) := by decide +kernel
theorem dX12_isRest_55 : decode cX12_isRest 55 = .ok (.iload_n 3, 1) := by decide +kernel
theorem dX12_isRest_56 : decode cX12_isRest 56 = .ok (.imul, 1) := by decide +kernel
theorem dX12_isRest_57 : decode cX12_isRest 57 = .ok (.iload_n 2, 1) := by decide +kernel
theorem dX12_isRest_58 : decode cX12_isRest 58 = .ok (.iadd, 1) := by decide +kernel
theorem dX12_isRest_59 : decode cX12_isRest 59 = .ok (.baload, 1) := by decide +kernel
theorem dX12_isRest_60 : decode cX12_isRest 60 = .ok (.ifCond .eq 8, 3) := by decide +kernel
theorem dX12_isRest_63 : decode cX12_isRest 63 = .ok (.iload_n 3, 1) := by decide +kernel
theorem dX12_isRest_64 : decode cX12_isRest 64 = .ok (.iload_n 2, 1) := by decide +kernel
theorem dX12_isRest_65 : decode cX12_isRest 65 = .ok (.if_icmp .ge 5, 3) := by decide +kernel
theorem dX12_isRest_68 : decode cX12_isRest 68 = .ok (.iconst 0, 1) := by decide +kernel
theorem dX12_isRest_69 : decode cX12_isRest 69 = .ok (.ireturn, 1) := by decide +kernel
theorem dX12_isRest_70 : decode cX12_isRest 70 = .ok (.iinc 3 1, 3) := by decide +kernel
theorem dX12_isRest_73 : decode cX12_isRest 73 = .ok (.goto (-50), 3) := by decide +kernel
theorem dX12_isRest_76 : decode cX12_isRest 76 = .ok (.iconst 1, 1) := by decide +kernel
theorem dX12_isRest_77 : decode cX12_isRest 77 = .ok (.ireturn, 1) := by decide +kernel
theorem dX12_rest_0 : decode cX12_rest 0 = .ok (.aload_n 0, 1) := by decide +kernel
theorem dX12_rest_1 : decode cX12_rest 1 = .ok (.iconst 0, 1) := by decide +kernel
theorem dX12_rest_2 : decode cX12_rest 2 = .ok (.putfield 159, 3) := by decide +kernel
theorem dX12_rest_5 : decode cX12_rest 5 = .ok (.iload_n 1, 1) := by decide +kernel
theorem dX12_rest_6 : decode cX12_rest 6 = .ok (.invokestatic 166, 3) := by decide +kernel
theorem dX12_rest_9 : decode cX12_rest 9 = .ok (.ifCond .eq 17, 3) := by decide +kernel
theorem dX12_rest_12 : decode cX12_rest 12 = .ok (.iload_n 3, 1) := by decide +kernel
theorem dX12_rest_13 : decode cX12_rest 13 = .ok (.iconst 0, 1) := by decide +kernel
theorem dX12_rest_14 : decode cX12_rest 14 = .ok (.iconst 2, 1) := by decide +kernel
theorem dX12_rest_15 : decode cX12_rest 15 = .ok (.invokestatic 162, 3) := by decide +kernel
theorem dX12_rest_18 : decode cX12_rest 18 = .ok (.ifCond .eq 8, 3) := by decide +kernel
theorem dX12_rest_21 : decode cX12_rest 21 = .ok (.iload_n 2, 1) := by decide +kernel
theorem dX12_rest_22 : decode cX12_rest 22 = .ok (.iconst (-1), 1) := by decide +kernel
theorem dX12_rest_23 : decode cX12_rest 23 = .ok (.if_icmp .ge 9, 3) := by decide +kernel
theorem dX12_rest_26 : decode cX12_rest 26 = .ok (.aload_n 0, 1) := by decide +kernel
theorem dX12_rest_27 : decode cX12_rest 27 = .ok (.iconst 1, 1) := by decide +kernel
theorem dX12_rest_28 : decode cX12_rest 28 = .ok (.invokevirtual 289, 3) := by decide +kernel
theorem dX12_rest_31 : decode cX12_rest 31 = .ok (.ireturn, 1) := by decide +kernel
theorem dX12_rest_32 : decode cX12_rest 32 = .ok (.aload_n 0, 1) := by decide +kernel
theorem dX12_rest_33 : decode cX12_rest 33 = .ok (.iload_n 1, 1) := by decide +kernel
theorem dX12_rest_34 : decode cX12_rest 34 = .ok (.invokevirtual 373, 3) := by decide +kernel
theorem dX12_rest_37 : decode cX12_rest 37 = .ok (.iconst 0, 1) := by decide +kernel
theorem dX12_rest_38 : decode cX12_rest 38 = .ok (.istore 4, 2) := by decide +kernel
theorem dX12_rest_40 : decode cX12_rest 40 = .ok (.iconst (-1), 1) := by decide +kernel
theorem dX12_rest_41 : decode cX12_rest 41 = .ok (.istore 5, 2) := by decide +kernel
theorem dX12_rest_43 : decode cX12_rest 43 = .ok (.iconst 0, 1) := by decide +kernel
theorem dX12_rest_44 : decode cX12_rest 44 = .ok (.istore 6, 2) := by decide +kernel
theorem dX12_rest_46 : decode cX12_rest 46 = .ok (.iload 6, 2) := by decide +kernel
theorem dX12_rest_48 : decode cX12_rest 48 = .ok (.aload_n 0, 1) := by decide +kernel
theorem dX12_rest_49 : decode cX12_rest 49 = .ok (.iload_n 1, 1) := by decide +kernel
theorem dX12_rest_50 : decode cX12_rest 50 = .ok (.invokevirtual 170, 3) := by decide +kernel
theorem dX12_rest_53 : decode cX12_rest 53 = .ok (.if_icmp .ge 35, 3) := by decide +kernel
theorem dX12_rest_56 : decode cX12_rest 56 = .ok (.aload_n 0, 1) := by decide +kernel
theorem dX12_rest_57 : decode cX12_rest 57 = .ok (.iload_n 1, 1) := by decide +kernel
theorem dX12_rest_58 : decode cX12_rest 58 = .ok (.iload 6, 2) := by decide +kernel
theorem dX12_rest_60 : decode cX12_rest 60 = .ok (.invokevirtual 376, 3) := by decide +kernel
theorem dX12_rest_63 : decode cX12_rest 63 = .ok (.ifCond .ne 6, 3) := by decide +kernel
theorem dX12_rest_66 : decode cX12_rest 66 = .ok (.goto 16, 3) := by decide +kernel
theorem dX12_rest_69 : decode cX12_rest 69 = .ok (.iload 4, 2) := by decide +kernel
theorem dX12_rest_71 : decode cX12_rest 71 = .ok (.iload_n 2, 1) := by decide +kernel
theorem dX12_rest_72 : decode cX12_rest 72 = .ok (.if_icmp .ne 7, 3) := by decide +kernel
theorem dX12_rest_75 : decode cX12_rest 75 = .ok (.iload 6, 2) := by decide +kernel
theorem dX12_rest_77 : decode cX12_rest 77 = .ok (.istore 5, 2) := by decide +kernel
theorem dX12_rest_79 : decode cX12_rest 79 = .ok (.iinc 4 1, 3) := by decide +kernel
theorem dX12_rest_82 : decode cX12_rest 82 = .ok (.iinc 6 1, 3) := by decide +kernel
theorem dX12_rest_85 : decode cX12_rest 85 = .ok (.goto (-39), 3) := by decide +kernel
theorem dX12_rest_88 : decode cX12_rest 88 = .ok (.iload_n 2, 1) := by decide +kernel
theorem dX12_rest_89 : decode cX12_rest 89 = .ok (.iconst (-1), 1) := by decide +kernel
theorem dX12_rest_90 : decode cX12_rest 90 = .ok (.if_icmp .ne 6, 3) := by decide +kernel
theorem dX12_rest_93 : decode cX12_rest 93 = .ok (.iload 4, 2) := by decide +kernel
theorem dX12_rest_95 : decode cX12_rest 95 = .ok (.ireturn, 1) := by decide +kernel
theorem dX12_rest_96 : decode cX12_rest 96 = .ok (.iload 5, 2) := by decide +kernel
theorem dX12_rest_98 : decode cX12_rest 98 = .ok (.iconst (-1), 1) := by decide +kernel
theorem dX12_rest_99 : decode cX12_rest 99 = .ok (.if_icmp .ne 9, 3) := by decide +kernel
theorem dX12_rest_102 : decode cX12_rest 102 = .ok (.aload_n 0, 1) := by decide +kernel
theorem dX12_rest_103 : decode cX12_rest 103 = .ok (.iconst 1, 1) := by decide +kernel
theorem dX12_rest_104 : decode cX12_rest 104 = .ok (.invokevirtual 289, 3) := by decide +kernel
theorem dX12_rest_107 : decode cX12_rest 107 = .ok (.ireturn, 1) := by decide +kernel
theorem dX12_rest_108 : decode cX12_rest 108 = .ok (.iload_n 3, 1) := by decide +kernel
theorem dX12_rest_109 : decode cX12_rest 109 = .ok (.iconst 2, 1) := by decide +kernel
theorem dX12_rest_110 : decode cX12_rest 110 = .ok (.if_icmp .ne 29, 3) := by decide +kernel
theorem dX12_rest_113 : decode cX12_rest 113 = .ok (.aload_n 0, 1) := by decide +kernel
theorem dX12_rest_114 : decode cX12_rest 114 = .ok (.iload_n 1, 1) := by decide +kernel
theorem dX12_rest_115 : decode cX12_rest 115 = .ok (.iload 5, 2) := by decide +kernel
theorem dX12_rest_117 : decode cX12_rest 117 = .ok (.sipush 400, 3) := by decide +kernel
theorem dX12_rest_120 : decode cX12_rest 120 = .ok (.invokevirtual 379, 3) := by decide +kernel
theorem dX12_rest_123 : decode cX12_rest 123 = .ok (.aload_n 0, 1) := by decide +kernel
theorem dX12_rest_124 : decode cX12_rest 124 = .ok (.iload_n 1, 1) := by decide +kernel
theorem dX12_rest_125 : decode cX12_rest 125 = .ok (.iload 5, 2) := by decide +kernel
theorem dX12_rest_127 : decode cX12_rest 127 = .ok (.sipush 200, 3) := by decide +kernel
theorem dX12_rest_130 : decode cX12_rest 130 = .ok (.invokevirtual 379, 3) := by decide +kernel
theorem dX12_rest_133 : decode cX12_rest 133 = .ok (.isub, 1) := by decide +kernel
theorem dX12_rest_134 : decode cX12_rest 134 = .ok (.sipush 200, 3) := by decide +kernel
theorem dX12_rest_137 : decode cX12_rest 137 = .ok (.idiv, 1) := by decide +kernel
theorem dX12_rest_138 : decode cX12_rest 138 = .ok (.ireturn, 1) := by decide +kernel
theorem dX12_rest_139 : decode cX12_rest 139 = .ok (.iconst 0, 1) := by decide +kernel
theorem dX12_rest_140 : decode cX12_rest 140 = .ok (.istore 6, 2) := by decide +kernel
theorem dX12_rest_142 : decode cX12_rest 142 = .ok (.iconst 0, 1) := by decide +kernel
theorem dX12_rest_143 : decode cX12_rest 143 = .ok (.istore 7, 2) := by decide +kernel
theorem dX12_rest_145 : decode cX12_rest 145 = .ok (.iload 7, 2) := by decide +kernel
theorem dX12_rest_147 : decode cX12_rest 147 = .ok (.aload_n 0, 1) := by decide +kernel
theorem dX12_rest_148 : decode cX12_rest 148 = .ok (.iload_n 1, 1) := by decide +kernel
theorem dX12_rest_149 : decode cX12_rest 149 = .ok (.invokevirtual 170, 3) := by decide +kernel
theorem dX12_rest_152 : decode cX12_rest 152 = .ok (.if_icmp .ge 35, 3) := by decide +kernel
theorem dX12_rest_155 : decode cX12_rest 155 = .ok (.iload 6, 2) := by decide +kernel
theorem dX12_rest_157 : decode cX12_rest 157 = .ok (.aload_n 0, 1) := by decide +kernel
theorem dX12_rest_158 : decode cX12_rest 158 = .ok (.getfield 109, 3) := by decide +kernel
theorem dX12_rest_161 : decode cX12_rest 161 = .ok (.bipush 100, 2) := by decide +kernel
theorem dX12_rest_163 : decode cX12_rest 163 = .ok (.iload 5, 2) := by decide +kernel
theorem dX12_rest_165 : decode cX12_rest 165 = .ok (.imul, 1) := by decide +kernel
theorem dX12_rest_166 : decode cX12_rest 166 = .ok (.iload 7, 2) := by decide +kernel
theorem dX12_rest_168 : decode cX12_rest 168 = .ok (.iadd, 1) := by decide +kernel
theorem dX12_rest_169 : decode cX12_rest 169 = .ok (.baload, 1) := by decide +kernel
theorem dX12_rest_170 : decode cX12_rest 170 = .ok (.ifCond .eq 7, 3) := by decide +kernel
theorem dX12_rest_173 : decode cX12_rest 173 = .ok (.iconst 1, 1) := by decide +kernel
theorem dX12_rest_174 : decode cX12_rest 174 = .ok (.goto 4, 3) := by decide +kernel
theorem dX12_rest_177 : decode cX12_rest 177 = .ok (.iconst 0, 1) := by decide +kernel
theorem dX12_rest_178 : decode cX12_rest 178 = .ok (.iadd, 1) := by decide +kernel
theorem dX12_rest_179 : decode cX12_rest 179 = .ok (.istore 6, 2) := by decide +kernel
theorem dX12_rest_181 : decode cX12_rest 181 = .ok (.iinc 7 1, 3) := by decide +kernel
theorem dX12_rest_184 : decode cX12_rest 184 = .ok (.goto (-39), 3) := by decide +kernel
theorem dX12_rest_187 : decode cX12_rest 187 = .ok (.iload_n 3, 1) := by decide +kernel
theorem dX12_rest_188 : decode cX12_rest 188 = .ok (.ifCond .ne 8, 3) := by decide +kernel
theorem dX12_rest_191 : decode cX12_rest 191 = .ok (.iload 5, 2) := by decide +kernel
theorem dX12_rest_193 : decode cX12_rest 193 = .ok (.goto 5, 3) := by decide +kernel
theorem dX12_rest_196 : decode cX12_rest 196 = .ok (.iload 6, 2) := by decide +kernel
theorem dX12_rest_198 : decode cX12_rest 198 = .ok (.ireturn, 1) := by decide +kernel
theorem dX12_keepRule_0 : decode cX12_keepRule 0 = .ok (.iconst 0, 1) := by decide +kernel
theorem dX12_keepRule_1 : decode cX12_keepRule 1 = .ok (.istore_n 2, 1) := by decide +kernel
theorem dX12_keepRule_2 : decode cX12_keepRule 2 = .ok (.iload_n 2, 1) := by decide +kernel
theorem dX12_keepRule_3 : decode cX12_keepRule 3 = .ok (.bipush 7, 2) := by decide +kernel
theorem dX12_keepRule_5 : decode cX12_keepRule 5 = .ok (.if_icmp .ge 26, 3) := by decide +kernel
theorem dX12_keepRule_8 : decode cX12_keepRule 8 = .ok (.aload_n 0, 1) := by decide +kernel
theorem dX12_keepRule_9 : decode cX12_keepRule 9 = .ok (.getfield 113, 3) := by decide +kernel
theorem dX12_keepRule_12 : decode cX12_keepRule 12 = .ok (.iload_n 2, 1) := by decide +kernel
theorem dX12_keepRule_13 : decode cX12_keepRule 13 = .ok (.aload_n 0, 1) := by decide +kernel
theorem dX12_keepRule_14 : decode cX12_keepRule 14 = .ok (.getfield 46, 3) := by decide +kernel
theorem dX12_keepRule_17 : decode cX12_keepRule 17 = .ok (.bipush 7, 2) := by decide +kernel
theorem dX12_keepRule_19 : decode cX12_keepRule 19 = .ok (.iload_n 1, 1) := by decide +kernel
theorem dX12_keepRule_20 : decode cX12_keepRule 20 = .ok (.imul, 1) := by decide +kernel
theorem dX12_keepRule_21 : decode cX12_keepRule 21 = .ok (.iload_n 2, 1) := by decide +kernel
theorem dX12_keepRule_22 : decode cX12_keepRule 22 = .ok (.iadd, 1) := by decide +kernel
theorem dX12_keepRule_23 : decode cX12_keepRule 23 = .ok (.iaload, 1) := by decide +kernel
theorem dX12_keepRule_24 : decode cX12_keepRule 24 = .ok (.iastore, 1) := by decide +kernel
theorem dX12_keepRule_25 : decode cX12_keepRule 25 = .ok (.iinc 2 1, 3) := by decide +kernel
theorem dX12_keepRule_28 : decode cX12_keepRule 28 = .ok (.goto (-26), 3) := by decide +kernel
theorem dX12_keepRule_31 : decode cX12_keepRule 31 = .ok (.return_, 1) := by decide +kernel
theorem dX12_backRule_0 : decode cX12_backRule 0 = .ok (.iconst 0, 1) := by decide +kernel
theorem dX12_backRule_1 : decode cX12_backRule 1 = .ok (.istore_n 2, 1) := by decide +kernel
theorem dX12_backRule_2 : decode cX12_backRule 2 = .ok (.iload_n 2, 1) := by decide +kernel
theorem dX12_backRule_3 : decode cX12_backRule 3 = .ok (.bipush 7, 2) := by decide +kernel
theorem dX12_backRule_5 : decode cX12_backRule 5 = .ok (.if_icmp .ge 26, 3) := by decide +kernel
theorem dX12_backRule_8 : decode cX12_backRule 8 = .ok (.aload_n 0, 1) := by decide +kernel
theorem dX12_backRule_9 : decode cX12_backRule 9 = .ok (.getfield 46, 3) := by decide +kernel
theorem dX12_backRule_12 : decode cX12_backRule 12 = .ok (.bipush 7, 2) := by decide +kernel
theorem dX12_backRule_14 : decode cX12_backRule 14 = .ok (.iload_n 1, 1) := by decide +kernel
theorem dX12_backRule_15 : decode cX12_backRule 15 = .ok (.imul, 1) := by decide +kernel
theorem dX12_backRule_16 : decode cX12_backRule 16 = .ok (.iload_n 2, 1) := by decide +kernel
theorem dX12_backRule_17 : decode cX12_backRule 17 = .ok (.iadd, 1) := by decide +kernel
theorem dX12_backRule_18 : decode cX12_backRule 18 = .ok (.aload_n 0, 1) := by decide +kernel
theorem dX12_backRule_19 : decode cX12_backRule 19 = .ok (.getfield 113, 3) := by decide +kernel
theorem dX12_backRule_22 : decode cX12_backRule 22 = .ok (.iload_n 2, 1) := by decide +kernel
theorem dX12_backRule_23 : decode cX12_backRule 23 = .ok (.iaload, 1) := by decide +kernel
theorem dX12_backRule_24 : decode cX12_backRule 24 = .ok (.iastore, 1) := by decide +kernel
theorem dX12_backRule_25 : decode cX12_backRule 25 = .ok (.iinc 2 1, 3) := by decide +kernel
theorem dX12_backRule_28 : decode cX12_backRule 28 = .ok (.goto (-26), 3) := by decide +kernel
theorem dX12_backRule_31 : decode cX12_backRule 31 = .ok (.return_, 1) := by decide +kernel
theorem dX12_best_0 : decode cX12_best 0 = .ok (.aload_n 0, 1) := by decide +kernel
theorem dX12_best_1 : decode cX12_best 1 = .ok (.iconst 0, 1) := by decide +kernel
theorem dX12_best_2 : decode cX12_best 2 = .ok (.putfield 159, 3) := by decide +kernel
theorem dX12_best_5 : decode cX12_best 5 = .ok (.iload_n 1, 1) := by decide +kernel
theorem dX12_best_6 : decode cX12_best 6 = .ok (.invokestatic 166, 3) := by decide +kernel
theorem dX12_best_9 : decode cX12_best 9 = .ok (.ifCond .eq 14, 3) := by decide +kernel
theorem dX12_best_12 : decode cX12_best 12 = .ok (.iload 4, 2) := by decide +kernel
theorem dX12_best_14 : decode cX12_best 14 = .ok (.ifCond .lt 9, 3) := by decide +kernel
theorem dX12_best_17 : decode cX12_best 17 = .ok (.iload 4, 2) := by decide +kernel
theorem dX12_best_19 : decode cX12_best 19 = .ok (.iconst 1, 1) := by decide +kernel
theorem dX12_best_20 : decode cX12_best 20 = .ok (.if_icmp .le 9, 3) := by decide +kernel
theorem dX12_best_23 : decode cX12_best 23 = .ok (.aload_n 0, 1) := by decide +kernel
theorem dX12_best_24 : decode cX12_best 24 = .ok (.iconst 1, 1) := by decide +kernel
theorem dX12_best_25 : decode cX12_best 25 = .ok (.invokevirtual 289, 3) := by decide +kernel
theorem dX12_best_28 : decode cX12_best 28 = .ok (.ireturn, 1) := by decide +kernel
theorem dX12_best_29 : decode cX12_best 29 = .ok (.iload_n 2, 1) := by decide +kernel
theorem dX12_best_30 : decode cX12_best 30 = .ok (.iconst 0, 1) := by decide +kernel
theorem dX12_best_31 : decode cX12_best 31 = .ok (.bipush 60, 2) := by decide +kernel
theorem dX12_best_33 : decode cX12_best 33 = .ok (.invokestatic 162, 3) := by decide +kernel
theorem dX12_best_36 : decode cX12_best 36 = .ok (.ifCond .ne 9, 3) := by decide +kernel
theorem dX12_best_39 : decode cX12_best 39 = .ok (.aload_n 0, 1) := by decide +kernel
theorem dX12_best_40 : decode cX12_best 40 = .ok (.iconst 2, 1) := by decide +kernel
theorem dX12_best_41 : decode cX12_best 41 = .ok (.invokevirtual 289, 3) := by decide +kernel
theorem dX12_best_44 : decode cX12_best 44 = .ok (.ireturn, 1) := by decide +kernel
theorem dX12_best_45 : decode cX12_best 45 = .ok (.aload_n 0, 1) := by decide +kernel
theorem dX12_best_46 : decode cX12_best 46 = .ok (.iload_n 1, 1) := by decide +kernel
theorem dX12_best_47 : decode cX12_best 47 = .ok (.invokevirtual 382, 3) := by decide +kernel
theorem dX12_best_50 : decode cX12_best 50 = .ok (.iconst (-1), 1) := by decide +kernel
theorem dX12_best_51 : decode cX12_best 51 = .ok (.istore 5, 2) := by decide +kernel
theorem dX12_best_53 : decode cX12_best 53 = .ok (.iconst (-1), 1) := by decide +kernel
theorem dX12_best_54 : decode cX12_best 54 = .ok (.istore 6, 2) := by decide +kernel
theorem dX12_best_56 : decode cX12_best 56 = .ok (.iconst 0, 1) := by decide +kernel
theorem dX12_best_57 : decode cX12_best 57 = .ok (.istore 7, 2) := by decide +kernel
theorem dX12_best_59 : decode cX12_best 59 = .ok (.iload 7, 2) := by decide +kernel
theorem dX12_best_61 : decode cX12_best 61 = .ok (.sipush 176, 3) := by decide +kernel
theorem dX12_best_64 : decode cX12_best 64 = .ok (.if_icmp .ge 62, 3) := by decide +kernel
theorem dX12_best_67 : decode cX12_best 67 = .ok (.aload_n 0, 1) := by decide +kernel
theorem dX12_best_68 : decode cX12_best 68 = .ok (.iload_n 1, 1) := by decide +kernel
theorem dX12_best_69 : decode cX12_best 69 = .ok (.iload 7, 2) := by decide +kernel
theorem dX12_best_71 : decode cX12_best 71 = .ok (.invokevirtual 339, 3) := by decide +kernel
theorem dX12_best_74 : decode cX12_best 74 = .ok (.aload_n 0, 1) := by decide +kernel
theorem dX12_best_75 : decode cX12_best 75 = .ok (.iload_n 1, 1) := by decide +kernel
theorem dX12_best_76 : decode cX12_best 76 = .ok (.aload_n 0, 1) := by decide +kernel
theorem dX12_best_77 : decode cX12_best 77 = .ok (.getfield 65, 3) := by decide +kernel
theorem dX12_best_80 : decode cX12_best 80 = .ok (.iload_n 1, 1) := by decide +kernel
theorem dX12_best_81 : decode cX12_best 81 = .ok (.iaload, 1) := by decide +kernel
theorem dX12_best_82 : decode cX12_best 82 = .ok (.iload_n 2, 1) := by decide +kernel
theorem dX12_best_83 : decode cX12_best 83 = .ok (.invokevirtual 379, 3) := by decide +kernel
theorem dX12_best_86 : decode cX12_best 86 = .ok (.istore 8, 2) := by decide +kernel
theorem dX12_best_88 : decode cX12_best 88 = .ok (.aload_n 0, 1) := by decide +kernel
theorem dX12_best_89 : decode cX12_best 89 = .ok (.getfield 349, 3) := by decide +kernel
theorem dX12_best_92 : decode cX12_best 92 = .ok (.ldc2_w 371, 3) := by decide +kernel
theorem dX12_best_95 : decode cX12_best 95 = .ok (.ldiv, 1) := by decide +kernel
theorem dX12_best_96 : decode cX12_best 96 = .ok (.iload_n 3, 1) := by decide +kernel
theorem dX12_best_97 : decode cX12_best 97 = .ok (.i2l, 1) := by decide +kernel
theorem dX12_best_98 : decode cX12_best 98 = .ok (.lcmp, 1) := by decide +kernel
theorem dX12_best_99 : decode cX12_best 99 = .ok (.ifCond .gt 21, 3) := by decide +kernel
theorem dX12_best_102 : decode cX12_best 102 = .ok (.iload 8, 2) := by decide +kernel
theorem dX12_best_104 : decode cX12_best 104 = .ok (.iload 6, 2) := by decide +kernel
theorem dX12_best_106 : decode cX12_best 106 = .ok (.if_icmp .gt 6, 3) := by decide +kernel
theorem dX12_best_109 : decode cX12_best 109 = .ok (.goto 11, 3) := by decide +kernel
theorem dX12_best_112 : decode cX12_best 112 = .ok (.iload 7, 2) := by decide +kernel
theorem dX12_best_114 : decode cX12_best 114 = .ok (.istore 5, 2) := by decide +kernel
theorem dX12_best_116 : decode cX12_best 116 = .ok (.iload 8, 2) := by decide +kernel
theorem dX12_best_118 : decode cX12_best 118 = .ok (.istore 6, 2) := by decide +kernel
theorem dX12_best_120 : decode cX12_best 120 = .ok (.iinc 7 1, 3) := by decide +kernel
theorem dX12_best_123 : decode cX12_best 123 = .ok (.goto (-64), 3) := by decide +kernel
theorem dX12_best_126 : decode cX12_best 126 = .ok (.aload_n 0, 1) := by decide +kernel
theorem dX12_best_127 : decode cX12_best 127 = .ok (.iload_n 1, 1) := by decide +kernel
theorem dX12_best_128 : decode cX12_best 128 = .ok (.invokevirtual 385, 3) := by decide +kernel
theorem dX12_best_131 : decode cX12_best 131 = .ok (.iload 4, 2) := by decide +kernel
theorem dX12_best_133 : decode cX12_best 133 = .ok (.ifCond .ne 8, 3) := by decide +kernel
theorem dX12_best_136 : decode cX12_best 136 = .ok (.iload 5, 2) := by decide +kernel
theorem dX12_best_138 : decode cX12_best 138 = .ok (.goto 5, 3) := by decide +kernel
theorem dX12_best_141 : decode cX12_best 141 = .ok (.iload 6, 2) := by decide +kernel
theorem dX12_best_143 : decode cX12_best 143 = .ok (.ireturn, 1) := by decide +kernel
theorem dX12_would_0 : decode cX12_would 0 = .ok (.aload_n 0, 1) := by decide +kernel
theorem dX12_would_1 : decode cX12_would 1 = .ok (.iconst 0, 1) := by decide +kernel
theorem dX12_would_2 : decode cX12_would 2 = .ok (.putfield 159, 3) := by decide +kernel
theorem dX12_would_5 : decode cX12_would 5 = .ok (.iload_n 1, 1) := by decide +kernel
theorem dX12_would_6 : decode cX12_would 6 = .ok (.invokestatic 166, 3) := by decide +kernel
theorem dX12_would_9 : decode cX12_would 9 = .ok (.ifCond .eq 10, 3) := by decide +kernel
theorem dX12_would_12 : decode cX12_would 12 = .ok (.iload_n 2, 1) := by decide +kernel
theorem dX12_would_13 : decode cX12_would 13 = .ok (.invokestatic 336, 3) := by decide +kernel
theorem dX12_would_16 : decode cX12_would 16 = .ok (.ifCond .ne 9, 3) := by decide +kernel
theorem dX12_would_19 : decode cX12_would 19 = .ok (.aload_n 0, 1) := by decide +kernel
theorem dX12_would_20 : decode cX12_would 20 = .ok (.iconst 1, 1) := by decide +kernel
theorem dX12_would_21 : decode cX12_would 21 = .ok (.invokevirtual 289, 3) := by decide +kernel
theorem dX12_would_24 : decode cX12_would 24 = .ok (.ireturn, 1) := by decide +kernel
theorem dX12_would_25 : decode cX12_would 25 = .ok (.iload_n 3, 1) := by decide +kernel
theorem dX12_would_26 : decode cX12_would 26 = .ok (.iconst 0, 1) := by decide +kernel
theorem dX12_would_27 : decode cX12_would 27 = .ok (.bipush 60, 2) := by decide +kernel
theorem dX12_would_29 : decode cX12_would 29 = .ok (.invokestatic 162, 3) := by decide +kernel
theorem dX12_would_32 : decode cX12_would 32 = .ok (.ifCond .ne 9, 3) := by decide +kernel
theorem dX12_would_35 : decode cX12_would 35 = .ok (.aload_n 0, 1) := by decide +kernel
theorem dX12_would_36 : decode cX12_would 36 = .ok (.iconst 2, 1) := by decide +kernel
theorem dX12_would_37 : decode cX12_would 37 = .ok (.invokevirtual 289, 3) := by decide +kernel
theorem dX12_would_40 : decode cX12_would 40 = .ok (.ireturn, 1) := by decide +kernel
theorem dX12_would_41 : decode cX12_would 41 = .ok (.aload_n 0, 1) := by decide +kernel
theorem dX12_would_42 : decode cX12_would 42 = .ok (.iload_n 1, 1) := by decide +kernel
theorem dX12_would_43 : decode cX12_would 43 = .ok (.invokevirtual 382, 3) := by decide +kernel
theorem dX12_would_46 : decode cX12_would 46 = .ok (.aload_n 0, 1) := by decide +kernel
theorem dX12_would_47 : decode cX12_would 47 = .ok (.iload_n 1, 1) := by decide +kernel
theorem dX12_would_48 : decode cX12_would 48 = .ok (.iload_n 2, 1) := by decide +kernel
theorem dX12_would_49 : decode cX12_would 49 = .ok (.invokevirtual 339, 3) := by decide +kernel
theorem dX12_would_52 : decode cX12_would 52 = .ok (.aload_n 0, 1) := by decide +kernel
theorem dX12_would_53 : decode cX12_would 53 = .ok (.iload_n 1, 1) := by decide +kernel
theorem dX12_would_54 : decode cX12_would 54 = .ok (.aload_n 0, 1) := by decide +kernel
theorem dX12_would_55 : decode cX12_would 55 = .ok (.getfield 65, 3) := by decide +kernel
theorem dX12_would_58 : decode cX12_would 58 = .ok (.iload_n 1, 1) := by decide +kernel
theorem dX12_would_59 : decode cX12_would 59 = .ok (.iaload, 1) := by decide +kernel
theorem dX12_would_60 : decode cX12_would 60 = .ok (.iload_n 3, 1) := by decide +kernel
theorem dX12_would_61 : decode cX12_would 61 = .ok (.invokevirtual 379, 3) := by decide +kernel
theorem dX12_would_64 : decode cX12_would 64 = .ok (.istore 4, 2) := by decide +kernel
theorem dX12_would_66 : decode cX12_would 66 = .ok (.aload_n 0, 1) := by decide +kernel
theorem dX12_would_67 : decode cX12_would 67 = .ok (.iload_n 1, 1) := by decide +kernel
theorem dX12_would_68 : decode cX12_would 68 = .ok (.invokevirtual 385, 3) := by decide +kernel
theorem dX12_would_71 : decode cX12_would 71 = .ok (.iload 4, 2) := by decide +kernel
theorem dX12_would_73 : decode cX12_would 73 = .ok (.ireturn, 1) := by decide +kernel
theorem dX12_card_0 : decode cX12_card 0 = .ok (.aload_n 0, 1) := by decide +kernel
theorem dX12_card_1 : decode cX12_card 1 = .ok (.iconst 0, 1) := by decide +kernel
theorem dX12_card_2 : decode cX12_card 2 = .ok (.putfield 159, 3) := by decide +kernel
theorem dX12_card_5 : decode cX12_card 5 = .ok (.iload_n 1, 1) := by decide +kernel
theorem dX12_card_6 : decode cX12_card 6 = .ok (.invokestatic 166, 3) := by decide +kernel
theorem dX12_card_9 : decode cX12_card 9 = .ok (.ifCond .ne 9, 3) := by decide +kernel
theorem dX12_card_12 : decode cX12_card 12 = .ok (.aload_n 0, 1) := by decide +kernel
theorem dX12_card_13 : decode cX12_card 13 = .ok (.iconst 1, 1) := by decide +kernel
theorem dX12_card_14 : decode cX12_card 14 = .ok (.invokevirtual 289, 3) := by decide +kernel
theorem dX12_card_17 : decode cX12_card 17 = .ok (.ireturn, 1) := by decide +kernel
theorem dX12_card_18 : decode cX12_card 18 = .ok (.iload_n 2, 1) := by decide +kernel
theorem dX12_card_19 : decode cX12_card 19 = .ok (.iconst 0, 1) := by decide +kernel
theorem dX12_card_20 : decode cX12_card 20 = .ok (.bipush 60, 2) := by decide +kernel
theorem dX12_card_22 : decode cX12_card 22 = .ok (.invokestatic 162, 3) := by decide +kernel
theorem dX12_card_25 : decode cX12_card 25 = .ok (.ifCond .ne 9, 3) := by decide +kernel
theorem dX12_card_28 : decode cX12_card 28 = .ok (.aload_n 0, 1) := by decide +kernel
theorem dX12_card_29 : decode cX12_card 29 = .ok (.iconst 2, 1) := by decide +kernel
theorem dX12_card_30 : decode cX12_card 30 = .ok (.invokevirtual 289, 3) := by decide +kernel
theorem dX12_card_33 : decode cX12_card 33 = .ok (.ireturn, 1) := by decide +kernel
theorem dX12_card_34 : decode cX12_card 34 = .ok (.aload_n 0, 1) := by decide +kernel
theorem dX12_card_35 : decode cX12_card 35 = .ok (.iload_n 1, 1) := by decide +kernel
theorem dX12_card_36 : decode cX12_card 36 = .ok (.invokevirtual 382, 3) := by decide +kernel
theorem dX12_card_39 : decode cX12_card 39 = .ok (.iconst 0, 1) := by decide +kernel
theorem dX12_card_40 : decode cX12_card 40 = .ok (.istore_n 3, 1) := by decide +kernel
theorem dX12_card_41 : decode cX12_card 41 = .ok (.iconst (-1), 1) := by decide +kernel
theorem dX12_card_42 : decode cX12_card 42 = .ok (.istore 4, 2) := by decide +kernel
theorem dX12_card_44 : decode cX12_card 44 = .ok (.iconst 0, 1) := by decide +kernel
theorem dX12_card_45 : decode cX12_card 45 = .ok (.istore 5, 2) := by decide +kernel
theorem dX12_card_47 : decode cX12_card 47 = .ok (.iload 5, 2) := by decide +kernel
theorem dX12_card_49 : decode cX12_card 49 = .ok (.bipush 11, 2) := by decide +kernel
theorem dX12_card_51 : decode cX12_card 51 = .ok (.if_icmp .ge 55, 3) := by decide +kernel
theorem dX12_card_54 : decode cX12_card 54 = .ok (.aload_n 0, 1) := by decide +kernel
theorem dX12_card_55 : decode cX12_card 55 = .ok (.getfield 46, 3) := by decide +kernel
theorem dX12_card_58 : decode cX12_card 58 = .ok (.bipush 7, 2) := by decide +kernel
theorem dX12_card_60 : decode cX12_card 60 = .ok (.iload_n 1, 1) := by decide +kernel
theorem dX12_card_61 : decode cX12_card 61 = .ok (.imul, 1) := by decide +kernel
theorem dX12_card_62 : decode cX12_card 62 = .ok (.iconst 1, 1) := by decide +kernel
theorem dX12_card_63 : decode cX12_card 63 = .ok (.iadd, 1) := by decide +kernel
theorem dX12_card_64 : decode cX12_card 64 = .ok (.iload 5, 2) := by decide +kernel
theorem dX12_card_66 : decode cX12_card 66 = .ok (.iconst 1, 1) := by decide +kernel
theorem dX12_card_67 : decode cX12_card 67 = .ok (.isub, 1) := by decide +kernel
theorem dX12_card_68 : decode cX12_card 68 = .ok (.iastore, 1) := by decide +kernel
theorem dX12_card_69 : decode cX12_card 69 = .ok (.aload_n 0, 1) := by decide +kernel
theorem dX12_card_70 : decode cX12_card 70 = .ok (.iload_n 1, 1) := by decide +kernel
theorem dX12_card_71 : decode cX12_card 71 = .ok (.aload_n 0, 1) := by decide +kernel
theorem dX12_card_72 : decode cX12_card 72 = .ok (.getfield 65, 3) := by decide +kernel
theorem dX12_card_75 : decode cX12_card 75 = .ok (.iload_n 1, 1) := by decide +kernel
theorem dX12_card_76 : decode cX12_card 76 = .ok (.iaload, 1) := by decide +kernel
theorem dX12_card_77 : decode cX12_card 77 = .ok (.iload_n 2, 1) := by decide +kernel
theorem dX12_card_78 : decode cX12_card 78 = .ok (.invokevirtual 379, 3) := by decide +kernel
theorem dX12_card_81 : decode cX12_card 81 = .ok (.istore 6, 2) := by decide +kernel
theorem dX12_card_83 : decode cX12_card 83 = .ok (.iload 6, 2) := by decide +kernel
theorem dX12_card_85 : decode cX12_card 85 = .ok (.iload 4, 2) := by decide +kernel
theorem dX12_card_87 : decode cX12_card 87 = .ok (.if_icmp .gt 6, 3) := by decide +kernel
theorem dX12_card_90 : decode cX12_card 90 = .ok (.goto 10, 3) := by decide +kernel
theorem dX12_card_93 : decode cX12_card 93 = .ok (.iload 5, 2) := by decide +kernel
theorem dX12_card_95 : decode cX12_card 95 = .ok (.istore_n 3, 1) := by decide +kernel
theorem dX12_card_96 : decode cX12_card 96 = .ok (.iload 6, 2) := by decide +kernel
theorem dX12_card_98 : decode cX12_card 98 = .ok (.istore 4, 2) := by decide +kernel
theorem dX12_card_100 : decode cX12_card 100 = .ok (.iinc 5 1, 3) := by decide +kernel
theorem dX12_card_103 : decode cX12_card 103 = .ok (.goto (-56), 3) := by decide +kernel
theorem dX12_card_106 : decode cX12_card 106 = .ok (.aload_n 0, 1) := by decide +kernel
theorem dX12_card_107 : decode cX12_card 107 = .ok (.iload_n 1, 1) := by decide +kernel
theorem dX12_card_108 : decode cX12_card 108 = .ok (.invokevirtual 385, 3) := by decide +kernel
theorem dX12_card_111 : decode cX12_card 111 = .ok (.iload_n 3, 1) := by decide +kernel
theorem dX12_card_112 : decode cX12_card 112 = .ok (.ireturn, 1) := by decide +kernel
theorem dX12_seeded_0 : decode cX12_seeded 0 = .ok (.aload_n 0, 1) := by decide +kernel
theorem dX12_seeded_1 : decode cX12_seeded 1 = .ok (.iconst 0, 1) := by decide +kernel
theorem dX12_seeded_2 : decode cX12_seeded 2 = .ok (.putfield 159, 3) := by decide +kernel
theorem dX12_seeded_5 : decode cX12_seeded 5 = .ok (.iload_n 1, 1) := by decide +kernel
theorem dX12_seeded_6 : decode cX12_seeded 6 = .ok (.invokestatic 166, 3) := by decide +kernel
theorem dX12_seeded_9 : decode cX12_seeded 9 = .ok (.ifCond .ne 9, 3) := by decide +kernel
theorem dX12_seeded_12 : decode cX12_seeded 12 = .ok (.aload_n 0, 1) := by decide +kernel
theorem dX12_seeded_13 : decode cX12_seeded 13 = .ok (.iconst 1, 1) := by decide +kernel
theorem dX12_seeded_14 : decode cX12_seeded 14 = .ok (.invokevirtual 289, 3) := by decide +kernel
theorem dX12_seeded_17 : decode cX12_seeded 17 = .ok (.ireturn, 1) := by decide +kernel
theorem dX12_seeded_18 : decode cX12_seeded 18 = .ok (.iload_n 2, 1) := by decide +kernel
theorem dX12_seeded_19 : decode cX12_seeded 19 = .ok (.iconst 0, 1) := by decide +kernel
theorem dX12_seeded_20 : decode cX12_seeded 20 = .ok (.bipush 60, 2) := by decide +kernel
theorem dX12_seeded_22 : decode cX12_seeded 22 = .ok (.invokestatic 162, 3) := by decide +kernel
theorem dX12_seeded_25 : decode cX12_seeded 25 = .ok (.ifCond .ne 9, 3) := by decide +kernel
theorem dX12_seeded_28 : decode cX12_seeded 28 = .ok (.aload_n 0, 1) := by decide +kernel
theorem dX12_seeded_29 : decode cX12_seeded 29 = .ok (.iconst 2, 1) := by decide +kernel
theorem dX12_seeded_30 : decode cX12_seeded 30 = .ok (.invokevirtual 289, 3) := by decide +kernel
theorem dX12_seeded_33 : decode cX12_seeded 33 = .ok (.ireturn, 1) := by decide +kernel
theorem dX12_seeded_34 : decode cX12_seeded 34 = .ok (.iconst 0, 1) := by decide +kernel
theorem dX12_seeded_35 : decode cX12_seeded 35 = .ok (.istore_n 3, 1) := by decide +kernel
theorem dX12_seeded_36 : decode cX12_seeded 36 = .ok (.iconst (-1), 1) := by decide +kernel
theorem dX12_seeded_37 : decode cX12_seeded 37 = .ok (.istore 4, 2) := by decide +kernel
theorem dX12_seeded_39 : decode cX12_seeded 39 = .ok (.iconst 0, 1) := by decide +kernel
theorem dX12_seeded_40 : decode cX12_seeded 40 = .ok (.istore 5, 2) := by decide +kernel
theorem dX12_seeded_42 : decode cX12_seeded 42 = .ok (.iload 5, 2) := by decide +kernel
theorem dX12_seeded_44 : decode cX12_seeded 44 = .ok (.aload_n 0, 1) := by decide +kernel
theorem dX12_seeded_45 : decode cX12_seeded 45 = .ok (.iload_n 1, 1) := by decide +kernel
theorem dX12_seeded_46 : decode cX12_seeded 46 = .ok (.invokevirtual 170, 3) := by decide +kernel
theorem dX12_seeded_49 : decode cX12_seeded 49 = .ok (.if_icmp .ge 36, 3) := by decide +kernel
theorem dX12_seeded_52 : decode cX12_seeded 52 = .ok (.aload_n 0, 1) := by decide +kernel
theorem dX12_seeded_53 : decode cX12_seeded 53 = .ok (.iload_n 1, 1) := by decide +kernel
theorem dX12_seeded_54 : decode cX12_seeded 54 = .ok (.iload 5, 2) := by decide +kernel
theorem dX12_seeded_56 : decode cX12_seeded 56 = .ok (.iload_n 2, 1) := by decide +kernel
theorem dX12_seeded_57 : decode cX12_seeded 57 = .ok (.invokevirtual 379, 3) := by decide +kernel
theorem dX12_seeded_60 : decode cX12_seeded 60 = .ok (.istore 6, 2) := by decide +kernel
theorem dX12_seeded_62 : decode cX12_seeded 62 = .ok (.iload 6, 2) := by decide +kernel
theorem dX12_seeded_64 : decode cX12_seeded 64 = .ok (.iload 4, 2) := by decide +kernel
theorem dX12_seeded_66 : decode cX12_seeded 66 = .ok (.if_icmp .gt 6, 3) := by decide +kernel
theorem dX12_seeded_69 : decode cX12_seeded 69 = .ok (.goto 10, 3) := by decide +kernel
theorem dX12_seeded_72 : decode cX12_seeded 72 = .ok (.iload 5, 2) := by decide +kernel
theorem dX12_seeded_74 : decode cX12_seeded 74 = .ok (.istore_n 3, 1) := by decide +kernel
theorem dX12_seeded_75 : decode cX12_seeded 75 = .ok (.iload 6, 2) := by decide +kernel
theorem dX12_seeded_77 : decode cX12_seeded 77 = .ok (.istore 4, 2) := by decide +kernel
theorem dX12_seeded_79 : decode cX12_seeded 79 = .ok (.iinc 5 1, 3) := by decide +kernel
theorem dX12_seeded_82 : decode cX12_seeded 82 = .ok (.goto (-40), 3) := by decide +kernel
theorem dX12_seeded_85 : decode cX12_seeded 85 = .ok (.iload_n 3, 1) := by decide +kernel
theorem dX12_seeded_86 : decode cX12_seeded 86 = .ok (.ireturn, 1) := by decide +kernel
theorem dX12_pays_0 : decode cX12_pays 0 = .ok (.aload_n 0, 1) := by decide +kernel
theorem dX12_pays_1 : decode cX12_pays 1 = .ok (.getfield 52, 3) := by decide +kernel
theorem dX12_pays_4 : decode cX12_pays 4 = .ok (.bipush 8, 2) := by decide +kernel
theorem dX12_pays_6 : decode cX12_pays 6 = .ok (.iload_n 1, 1) := by decide +kernel
theorem dX12_pays_7 : decode cX12_pays 7 = .ok (.imul, 1) := by decide +kernel
theorem dX12_pays_8 : decode cX12_pays 8 = .ok (.iload_n 2, 1) := by decide +kernel
theorem dX12_pays_9 : decode cX12_pays 9 = .ok (.iadd, 1) := by decide +kernel
theorem dX12_pays_10 : decode cX12_pays 10 = .ok (.iaload, 1) := by decide +kernel
theorem dX12_pays_11 : decode cX12_pays 11 = .ok (.iload_n 3, 1) := by decide +kernel
theorem dX12_pays_12 : decode cX12_pays 12 = .ok (.if_icmp .lt 22, 3) := by decide +kernel
theorem dX12_pays_15 : decode cX12_pays 15 = .ok (.aload_n 0, 1) := by decide +kernel
theorem dX12_pays_16 : decode cX12_pays 16 = .ok (.getfield 54, 3) := by decide +kernel
theorem dX12_pays_19 : decode cX12_pays 19 = .ok (.bipush 8, 2) := by decide +kernel
theorem dX12_pays_21 : decode cX12_pays 21 = .ok (.iload_n 1, 1) := by decide +kernel
theorem dX12_pays_22 : decode cX12_pays 22 = .ok (.imul, 1) := by decide +kernel
theorem dX12_pays_23 : decode cX12_pays 23 = .ok (.iload_n 2, 1) := by decide +kernel
theorem dX12_pays_24 : decode cX12_pays 24 = .ok (.iadd, 1) := by decide +kernel
theorem dX12_pays_25 : decode cX12_pays 25 = .ok (.iaload, 1) := by decide +kernel
theorem dX12_pays_26 : decode cX12_pays 26 = .ok (.iload_n 3, 1) := by decide +kernel
theorem dX12_pays_27 : decode cX12_pays 27 = .ok (.if_icmp .lt 7, 3) := by decide +kernel
theorem dX12_pays_30 : decode cX12_pays 30 = .ok (.iconst 1, 1) := by decide +kernel
theorem dX12_pays_31 : decode cX12_pays 31 = .ok (.goto 4, 3) := by decide +kernel
theorem dX12_pays_34 : decode cX12_pays 34 = .ok (.iconst 0, 1) := by decide +kernel
theorem dX12_pays_35 : decode cX12_pays 35 = .ok (.ireturn, 1) := by decide +kernel
theorem dX12_oddsThatPay_0 : decode cX12_oddsThatPay 0 = .ok (.iconst 0, 1) := by decide +kernel
theorem dX12_oddsThatPay_1 : decode cX12_oddsThatPay 1 = .ok (.istore_n 3, 1) := by decide +kernel
theorem dX12_oddsThatPay_2 : decode cX12_oddsThatPay 2 = .ok (.iconst 0, 1) := by decide +kernel
theorem dX12_oddsThatPay_3 : decode cX12_oddsThatPay 3 = .ok (.istore 4, 2) := by decide +kernel
theorem dX12_oddsThatPay_5 : decode cX12_oddsThatPay 5 = .ok (.iload 4, 2) := by decide +kernel
theorem dX12_oddsThatPay_7 : decode cX12_oddsThatPay 7 = .ok (.aload_n 0, 1) := by decide +kernel
theorem dX12_oddsThatPay_8 : decode cX12_oddsThatPay 8 = .ok (.getfield 42, 3) := by decide +kernel
theorem dX12_oddsThatPay_11 : decode cX12_oddsThatPay 11 = .ok (.iload_n 1, 1) := by decide +kernel
theorem dX12_oddsThatPay_12 : decode cX12_oddsThatPay 12 = .ok (.iaload, 1) := by decide +kernel
theorem dX12_oddsThatPay_13 : decode cX12_oddsThatPay 13 = .ok (.if_icmp .ge 39, 3) := by decide +kernel
theorem dX12_oddsThatPay_16 : decode cX12_oddsThatPay 16 = .ok (.iload_n 3, 1) := by decide +kernel
theorem dX12_oddsThatPay_17 : decode cX12_oddsThatPay 17 = .ok (.aload_n 0, 1) := by decide +kernel
theorem dX12_oddsThatPay_18 : decode cX12_oddsThatPay 18 = .ok (.iload_n 1, 1) := by decide +kernel
theorem dX12_oddsThatPay_19 : decode cX12_oddsThatPay 19 = .ok (.iload 4, 2) := by decide +kernel
theorem dX12_oddsThatPay_21 : decode cX12_oddsThatPay 21 = .ok (.iload_n 2, 1) := by decide +kernel
theorem dX12_oddsThatPay_22 : decode cX12_oddsThatPay 22 = .ok (.invokevirtual 388, 3) := by decide +kernel
theorem dX12_oddsThatPay_25 : decode cX12_oddsThatPay 25 = .ok (.ifCond .eq 18, 3) := by decide +kernel
theorem dX12_oddsThatPay_28 : decode cX12_oddsThatPay 28 = .ok (.aload_n 0, 1) := by decide +kernel
theorem dX12_oddsThatPay_29 : decode cX12_oddsThatPay 29 = .ok (.getfield 49, 3) := by decide +kernel
theorem dX12_oddsThatPay_32 : decode cX12_oddsThatPay 32 = .ok (.bipush 8, 2) := by decide +kernel
theorem dX12_oddsThatPay_34 : decode cX12_oddsThatPay 34 = .ok (.iload_n 1, 1) := by decide +kernel
theorem dX12_oddsThatPay_35 : decode cX12_oddsThatPay 35 = .ok (.imul, 1) := by decide +kernel
theorem dX12_oddsThatPay_36 : decode cX12_oddsThatPay 36 = .ok (.iload 4, 2) := by decide +kernel
theorem dX12_oddsThatPay_38 : decode cX12_oddsThatPay 38 = .ok (.iadd, 1) := by decide +kernel
theorem dX12_oddsThatPay_39 : decode cX12_oddsThatPay 39 = .ok (.iaload, 1) := by decide +kernel
theorem dX12_oddsThatPay_40 : decode cX12_oddsThatPay 40 = .ok (.goto 4, 3) := by decide +kernel
theorem dX12_oddsThatPay_43 : decode cX12_oddsThatPay 43 = .ok (.iconst 0, 1) := by decide +kernel
theorem dX12_oddsThatPay_44 : decode cX12_oddsThatPay 44 = .ok (.iadd, 1) := by decide +kernel
theorem dX12_oddsThatPay_45 : decode cX12_oddsThatPay 45 = .ok (.istore_n 3, 1) := by decide +kernel
theorem dX12_oddsThatPay_46 : decode cX12_oddsThatPay 46 = .ok (.iinc 4 1, 3) := by decide +kernel
theorem dX12_oddsThatPay_49 : decode cX12_oddsThatPay 49 = .ok (.goto (-44), 3) := by decide +kernel
theorem dX12_oddsThatPay_52 : decode cX12_oddsThatPay 52 = .ok (.iload_n 3, 1) := by decide +kernel
theorem dX12_oddsThatPay_53 : decode cX12_oddsThatPay 53 = .ok (.ireturn, 1) := by decide +kernel
theorem dX12_takenBy_0 : decode cX12_takenBy 0 = .ok (.aload_n 0, 1) := by decide +kernel
theorem dX12_takenBy_1 : decode cX12_takenBy 1 = .ok (.getfield 42, 3) := by decide +kernel
theorem dX12_takenBy_4 : decode cX12_takenBy 4 = .ok (.iload_n 1, 1) := by decide +kernel
theorem dX12_takenBy_5 : decode cX12_takenBy 5 = .ok (.iaload, 1) := by decide +kernel
theorem dX12_takenBy_6 : decode cX12_takenBy 6 = .ok (.ifCond .ne 7, 3) := by decide +kernel
theorem dX12_takenBy_9 : decode cX12_takenBy 9 = .ok (.iconst 0, 1) := by decide +kernel
theorem dX12_takenBy_10 : decode cX12_takenBy 10 = .ok (.goto 21, 3) := by decide +kernel
theorem dX12_takenBy_13 : decode cX12_takenBy 13 = .ok (.sipush 1000, 3) := by decide +kernel
theorem dX12_takenBy_16 : decode cX12_takenBy 16 = .ok (.iload_n 2, 1) := by decide +kernel
theorem dX12_takenBy_17 : decode cX12_takenBy 17 = .ok (.imul, 1) := by decide +kernel
theorem dX12_takenBy_18 : decode cX12_takenBy 18 = .ok (.aload_n 0, 1) := by decide +kernel
theorem dX12_takenBy_19 : decode cX12_takenBy 19 = .ok (.iload_n 1, 1) := by decide +kernel
theorem dX12_takenBy_20 : decode cX12_takenBy 20 = .ok (.iload_n 2, 1) := by decide +kernel
theorem dX12_takenBy_21 : decode cX12_takenBy 21 = .ok (.invokevirtual 391, 3) := by decide +kernel
theorem dX12_takenBy_24 : decode cX12_takenBy 24 = .ok (.imul, 1) := by decide +kernel
theorem dX12_takenBy_25 : decode cX12_takenBy 25 = .ok (.aload_n 0, 1) := by decide +kernel
theorem dX12_takenBy_26 : decode cX12_takenBy 26 = .ok (.iload_n 1, 1) := by decide +kernel
theorem dX12_takenBy_27 : decode cX12_takenBy 27 = .ok (.invokevirtual 302, 3) := by decide +kernel
theorem dX12_takenBy_30 : decode cX12_takenBy 30 = .ok (.idiv, 1) := by decide +kernel
theorem dX12_takenBy_31 : decode cX12_takenBy 31 = .ok (.ireturn, 1) := by decide +kernel
theorem dX12_price_0 : decode cX12_price 0 = .ok (.aload_n 0, 1) := by decide +kernel
theorem dX12_price_1 : decode cX12_price 1 = .ok (.iconst 0, 1) := by decide +kernel
theorem dX12_price_2 : decode cX12_price 2 = .ok (.putfield 159, 3) := by decide +kernel
theorem dX12_price_5 : decode cX12_price 5 = .ok (.iload_n 1, 1) := by decide +kernel
theorem dX12_price_6 : decode cX12_price 6 = .ok (.invokestatic 166, 3) := by decide +kernel
theorem dX12_price_9 : decode cX12_price 9 = .ok (.ifCond .eq 22, 3) := by decide +kernel
theorem dX12_price_12 : decode cX12_price 12 = .ok (.iload_n 2, 1) := by decide +kernel
theorem dX12_price_13 : decode cX12_price 13 = .ok (.iconst 0, 1) := by decide +kernel
theorem dX12_price_14 : decode cX12_price 14 = .ok (.bipush 9, 2) := by decide +kernel
theorem dX12_price_16 : decode cX12_price 16 = .ok (.invokestatic 162, 3) := by decide +kernel
theorem dX12_price_19 : decode cX12_price 19 = .ok (.ifCond .eq 12, 3) := by decide +kernel
theorem dX12_price_22 : decode cX12_price 22 = .ok (.iload_n 3, 1) := by decide +kernel
theorem dX12_price_23 : decode cX12_price 23 = .ok (.iconst 0, 1) := by decide +kernel
theorem dX12_price_24 : decode cX12_price 24 = .ok (.iconst 2, 1) := by decide +kernel
theorem dX12_price_25 : decode cX12_price 25 = .ok (.invokestatic 162, 3) := by decide +kernel
theorem dX12_price_28 : decode cX12_price 28 = .ok (.ifCond .ne 9, 3) := by decide +kernel
theorem dX12_price_31 : decode cX12_price 31 = .ok (.aload_n 0, 1) := by decide +kernel
theorem dX12_price_32 : decode cX12_price 32 = .ok (.iconst 1, 1) := by decide +kernel
theorem dX12_price_33 : decode cX12_price 33 = .ok (.invokevirtual 289, 3) := by decide +kernel
theorem dX12_price_36 : decode cX12_price 36 = .ok (.ireturn, 1) := by decide +kernel
theorem dX12_price_37 : decode cX12_price 37 = .ok (.iload_n 3, 1) := by decide +kernel
theorem dX12_price_38 : decode cX12_price 38 = .ok (.ifCond .eq 12, 3) := by decide +kernel
theorem dX12_price_41 : decode cX12_price 41 = .ok (.aload_n 0, 1) := by decide +kernel
theorem dX12_price_42 : decode cX12_price 42 = .ok (.getfield 42, 3) := by decide +kernel
theorem dX12_price_45 : decode cX12_price 45 = .ok (.iload_n 1, 1) := by decide +kernel
theorem dX12_price_46 : decode cX12_price 46 = .ok (.iaload, 1) := by decide +kernel
theorem dX12_price_47 : decode cX12_price 47 = .ok (.ifCond .ne 10, 3) := by decide +kernel
theorem dX12_price_50 : decode cX12_price 50 = .ok (.aload_n 0, 1) := by decide +kernel
theorem dX12_price_51 : decode cX12_price 51 = .ok (.iload_n 1, 1) := by decide +kernel
theorem dX12_price_52 : decode cX12_price 52 = .ok (.iload_n 2, 1) := by decide +kernel
theorem dX12_price_53 : decode cX12_price 53 = .ok (.invokevirtual 394, 3) := by decide +kernel
theorem dX12_price_56 : decode cX12_price 56 = .ok (.ireturn, 1) := by decide +kernel
theorem dX12_price_57 : decode cX12_price 57 = .ok (.iconst 0, 1) := by decide +kernel
theorem dX12_price_58 : decode cX12_price 58 = .ok (.istore 4, 2) := by decide +kernel
theorem dX12_price_60 : decode cX12_price 60 = .ok (.iconst 0, 1) := by decide +kernel
theorem dX12_price_61 : decode cX12_price 61 = .ok (.istore 5, 2) := by decide +kernel
theorem dX12_price_63 : decode cX12_price 63 = .ok (.iload 5, 2) := by decide +kernel
theorem dX12_price_65 : decode cX12_price 65 = .ok (.aload_n 0, 1) := by decide +kernel
theorem dX12_price_66 : decode cX12_price 66 = .ok (.getfield 42, 3) := by decide +kernel
theorem dX12_price_69 : decode cX12_price 69 = .ok (.iload_n 1, 1) := by decide +kernel
theorem dX12_price_70 : decode cX12_price 70 = .ok (.iaload, 1) := by decide +kernel
theorem dX12_price_71 : decode cX12_price 71 = .ok (.if_icmp .ge 102, 3) := by decide +kernel
theorem dX12_price_74 : decode cX12_price 74 = .ok (.aload_n 0, 1) := by decide +kernel
theorem dX12_price_75 : decode cX12_price 75 = .ok (.iload_n 1, 1) := by decide +kernel
theorem dX12_price_76 : decode cX12_price 76 = .ok (.iload 5, 2) := by decide +kernel
theorem dX12_price_78 : decode cX12_price 78 = .ok (.aload_n 0, 1) := by decide +kernel
theorem dX12_price_79 : decode cX12_price 79 = .ok (.getfield 65, 3) := by decide +kernel
theorem dX12_price_82 : decode cX12_price 82 = .ok (.iload_n 1, 1) := by decide +kernel
theorem dX12_price_83 : decode cX12_price 83 = .ok (.iaload, 1) := by decide +kernel
theorem dX12_price_84 : decode cX12_price 84 = .ok (.invokevirtual 330, 3) := by decide +kernel
theorem dX12_price_87 : decode cX12_price 87 = .ok (.istore 6, 2) := by decide +kernel
theorem dX12_price_89 : decode cX12_price 89 = .ok (.aload_n 0, 1) := by decide +kernel
theorem dX12_price_90 : decode cX12_price 90 = .ok (.iload_n 1, 1) := by decide +kernel
theorem dX12_price_91 : decode cX12_price 91 = .ok (.iload 5, 2) := by decide +kernel
theorem dX12_price_93 : decode cX12_price 93 = .ok (.iload_n 2, 1) := by decide +kernel
theorem dX12_price_94 : decode cX12_price 94 = .ok (.invokevirtual 388, 3) := by decide +kernel
theorem dX12_price_97 : decode cX12_price 97 = .ok (.ifCond .ne 7, 3) := by decide +kernel
theorem dX12_price_100 : decode cX12_price 100 = .ok (.iconst 1, 1) := by decide +kernel
theorem dX12_price_101 : decode cX12_price 101 = .ok (.goto 4, 3) := by decide +kernel
theorem dX12_price_104 : decode cX12_price 104 = .ok (.iconst 0, 1) := by decide +kernel
theorem dX12_price_105 : decode cX12_price 105 = .ok (.istore 7, 2) := by decide +kernel
theorem dX12_price_107 : decode cX12_price 107 = .ok (.iload_n 3, 1) := by decide +kernel
theorem dX12_price_108 : decode cX12_price 108 = .ok (.iconst 2, 1) := by decide +kernel
theorem dX12_price_109 : decode cX12_price 109 = .ok (.if_icmp .ne 8, 3) := by decide +kernel
theorem dX12_price_112 : decode cX12_price 112 = .ok (.iload 7, 2) := by decide +kernel
theorem dX12_price_114 : decode cX12_price 114 = .ok (.goto 25, 3) := by decide +kernel
theorem dX12_price_117 : decode cX12_price 117 = .ok (.iload 6, 2) := by decide +kernel
theorem dX12_price_119 : decode cX12_price 119 = .ok (.iconst (-1), 1) := by decide +kernel
theorem dX12_price_120 : decode cX12_price 120 = .ok (.if_icmp .eq 18, 3) := by decide +kernel
theorem dX12_price_123 : decode cX12_price 123 = .ok (.iload 7, 2) := by decide +kernel
theorem dX12_price_125 : decode cX12_price 125 = .ok (.ifCond .ne 9, 3) := by decide +kernel
theorem dX12_price_128 : decode cX12_price 128 = .ok (.iload 6, 2) := by decide +kernel
theorem dX12_price_130 : decode cX12_price 130 = .ok (.iload_n 2, 1) := by decide +kernel
theorem dX12_price_131 : decode cX12_price 131 = .ok (.if_icmp .ge 7, 3) := by decide +kernel
theorem dX12_price_134 : decode cX12_price 134 = .ok (.iconst 1, 1) := by decide +kernel
theorem dX12_price_135 : decode cX12_price 135 = .ok (.goto 4, 3) := by decide +kernel
theorem dX12_price_138 : decode cX12_price 138 = .ok (.iconst 0, 1) := by decide +kernel
theorem dX12_price_139 : decode cX12_price 139 = .ok (.istore 8, 2) := by decide +kernel
theorem dX12_price_141 : decode cX12_price 141 = .ok (.iload 4, 2) := by decide +kernel
theorem dX12_price_143 : decode cX12_price 143 = .ok (.iload 8, 2) := by decide +kernel
theorem dX12_price_145 : decode cX12_price 145 = .ok (.ifCond .eq 18, 3) := by decide +kernel
theorem dX12_price_148 : decode cX12_price 148 = .ok (.aload_n 0, 1) := by decide +kernel
theorem dX12_price_149 : decode cX12_price 149 = .ok (.getfield 49, 3) := by decide +kernel
theorem dX12_price_152 : decode cX12_price 152 = .ok (.bipush 8, 2) := by decide +kernel
theorem dX12_price_154 : decode cX12_price 154 = .ok (.iload_n 1, 1) := by decide +kernel
theorem dX12_price_155 : decode cX12_price 155 = .ok (.imul, 1) := by decide +kernel
theorem dX12_price_156 : decode cX12_price 156 = .ok (.iload 5, 2) := by decide +kernel
theorem dX12_price_158 : decode cX12_price 158 = .ok (.iadd, 1) := by decide +kernel
theorem dX12_price_159 : decode cX12_price 159 = .ok (.iaload, 1) := by decide +kernel
theorem dX12_price_160 : decode cX12_price 160 = .ok (.goto 4, 3) := by decide +kernel
theorem dX12_price_163 : decode cX12_price 163 = .ok (.iconst 0, 1) := by decide +kernel
theorem dX12_price_164 : decode cX12_price 164 = .ok (.iadd, 1) := by decide +kernel
theorem dX12_price_165 : decode cX12_price 165 = .ok (.istore 4, 2) := by decide +kernel
theorem dX12_price_167 : decode cX12_price 167 = .ok (.iinc 5 1, 3) := by decide +kernel
theorem dX12_price_170 : decode cX12_price 170 = .ok (.goto (-107), 3) := by decide +kernel
theorem dX12_price_173 : decode cX12_price 173 = .ok (.sipush 1000, 3) := by decide +kernel
theorem dX12_price_176 : decode cX12_price 176 = .ok (.iload 4, 2) := by decide +kernel
theorem dX12_price_178 : decode cX12_price 178 = .ok (.imul, 1) := by decide +kernel
theorem dX12_price_179 : decode cX12_price 179 = .ok (.aload_n 0, 1) := by decide +kernel
theorem dX12_price_180 : decode cX12_price 180 = .ok (.iload_n 1, 1) := by decide +kernel
theorem dX12_price_181 : decode cX12_price 181 = .ok (.invokevirtual 302, 3) := by decide +kernel
theorem dX12_price_184 : decode cX12_price 184 = .ok (.idiv, 1) := by decide +kernel
theorem dX12_price_185 : decode cX12_price 185 = .ok (.ireturn, 1) := by decide +kernel
theorem dX12_priced_0 : decode cX12_priced 0 = .ok (.aload_n 0, 1) := by decide +kernel
theorem dX12_priced_1 : decode cX12_priced 1 = .ok (.iconst 0, 1) := by decide +kernel
theorem dX12_priced_2 : decode cX12_priced 2 = .ok (.putfield 159, 3) := by decide +kernel
theorem dX12_priced_5 : decode cX12_priced 5 = .ok (.iload_n 1, 1) := by decide +kernel
theorem dX12_priced_6 : decode cX12_priced 6 = .ok (.invokestatic 166, 3) := by decide +kernel
theorem dX12_priced_9 : decode cX12_priced 9 = .ok (.ifCond .ne 9, 3) := by decide +kernel
theorem dX12_priced_12 : decode cX12_priced 12 = .ok (.aload_n 0, 1) := by decide +kernel
theorem dX12_priced_13 : decode cX12_priced 13 = .ok (.iconst 1, 1) := by decide +kernel
theorem dX12_priced_14 : decode cX12_priced 14 = .ok (.invokevirtual 289, 3) := by decide +kernel
theorem dX12_priced_17 : decode cX12_priced 17 = .ok (.ireturn, 1) := by decide +kernel
theorem dX12_priced_18 : decode cX12_priced 18 = .ok (.iconst 0, 1) := by decide +kernel
theorem dX12_priced_19 : decode cX12_priced 19 = .ok (.istore_n 2, 1) := by decide +kernel
theorem dX12_priced_20 : decode cX12_priced 20 = .ok (.iconst 1, 1) := by decide +kernel
theorem dX12_priced_21 : decode cX12_priced 21 = .ok (.istore_n 3, 1) := by decide +kernel
theorem dX12_priced_22 : decode cX12_priced 22 = .ok (.iload_n 3, 1) := by decide +kernel
theorem dX12_priced_23 : decode cX12_priced 23 = .ok (.bipush 9, 2) := by decide +kernel
theorem dX12_priced_25 : decode cX12_priced 25 = .ok (.if_icmp .gt 26, 3) := by decide +kernel
theorem dX12_priced_28 : decode cX12_priced 28 = .ok (.aload_n 0, 1) := by decide +kernel
theorem dX12_priced_29 : decode cX12_priced 29 = .ok (.iload_n 1, 1) := by decide +kernel
theorem dX12_priced_30 : decode cX12_priced 30 = .ok (.iload_n 3, 1) := by decide +kernel
theorem dX12_priced_31 : decode cX12_priced 31 = .ok (.invokevirtual 394, 3) := by decide +kernel
theorem dX12_priced_34 : decode cX12_priced 34 = .ok (.aload_n 0, 1) := by decide +kernel
theorem dX12_priced_35 : decode cX12_priced 35 = .ok (.iload_n 1, 1) := by decide +kernel
theorem dX12_priced_36 : decode cX12_priced 36 = .ok (.iload_n 2, 1) := by decide +kernel
theorem dX12_priced_37 : decode cX12_priced 37 = .ok (.invokevirtual 394, 3) := by decide +kernel
theorem dX12_priced_40 : decode cX12_priced 40 = .ok (.if_icmp .le 5, 3) := by decide +kernel
theorem dX12_priced_43 : decode cX12_priced 43 = .ok (.iload_n 3, 1) := by decide +kernel
theorem dX12_priced_44 : decode cX12_priced 44 = .ok (.istore_n 2, 1) := by decide +kernel
theorem dX12_priced_45 : decode cX12_priced 45 = .ok (.iinc 3 1, 3) := by decide +kernel
theorem dX12_priced_48 : decode cX12_priced 48 = .ok (.goto (-26), 3) := by decide +kernel
theorem dX12_priced_51 : decode cX12_priced 51 = .ok (.iload_n 2, 1) := by decide +kernel
theorem dX12_priced_52 : decode cX12_priced 52 = .ok (.ireturn, 1) := by decide +kernel
theorem dX12_mixed_0 : decode cX12_mixed 0 = .ok (.aload_n 0, 1) := by decide +kernel
theorem dX12_mixed_1 : decode cX12_mixed 1 = .ok (.iconst 0, 1) := by decide +kernel
theorem dX12_mixed_2 : decode cX12_mixed 2 = .ok (.putfield 159, 3) := by decide +kernel
theorem dX12_mixed_5 : decode cX12_mixed 5 = .ok (.iload_n 1, 1) := by decide +kernel
theorem dX12_mixed_6 : decode cX12_mixed 6 = .ok (.invokestatic 166, 3) := by decide +kernel
theorem dX12_mixed_9 : decode cX12_mixed 9 = .ok (.ifCond .ne 9, 3) := by decide +kernel
theorem dX12_mixed_12 : decode cX12_mixed 12 = .ok (.aload_n 0, 1) := by decide +kernel
theorem dX12_mixed_13 : decode cX12_mixed 13 = .ok (.iconst 1, 1) := by decide +kernel
theorem dX12_mixed_14 : decode cX12_mixed 14 = .ok (.invokevirtual 289, 3) := by decide +kernel
theorem dX12_mixed_17 : decode cX12_mixed 17 = .ok (.ireturn, 1) := by decide +kernel
theorem dX12_mixed_18 : decode cX12_mixed 18 = .ok (.iload_n 2, 1) := by decide +kernel
theorem dX12_mixed_19 : decode cX12_mixed 19 = .ok (.iconst 0, 1) := by decide +kernel
theorem dX12_mixed_20 : decode cX12_mixed 20 = .ok (.sipush 400, 3) := by decide +kernel
theorem dX12_mixed_23 : decode cX12_mixed 23 = .ok (.invokestatic 162, 3) := by decide +kernel
theorem dX12_mixed_26 : decode cX12_mixed 26 = .ok (.ifCond .eq 24, 3) := by decide +kernel
theorem dX12_mixed_29 : decode cX12_mixed 29 = .ok (.iload_n 3, 1) := by decide +kernel
theorem dX12_mixed_30 : decode cX12_mixed 30 = .ok (.iconst 2, 1) := by decide +kernel
theorem dX12_mixed_31 : decode cX12_mixed 31 = .ok (.bipush 50, 2) := by decide +kernel
theorem dX12_mixed_33 : decode cX12_mixed 33 = .ok (.invokestatic 162, 3) := by decide +kernel
theorem dX12_mixed_36 : decode cX12_mixed 36 = .ok (.ifCond .eq 14, 3) := by decide +kernel
theorem dX12_mixed_39 : decode cX12_mixed 39 = .ok (.iload 4, 2) := by decide +kernel
theorem dX12_mixed_41 : decode cX12_mixed 41 = .ok (.iconst 0, 1) := by decide +kernel
theorem dX12_mixed_42 : decode cX12_mixed 42 = .ok (.bipush 9, 2) := by decide +kernel
theorem dX12_mixed_44 : decode cX12_mixed 44 = .ok (.invokestatic 162, 3) := by decide +kernel
theorem dX12_mixed_47 : decode cX12_mixed 47 = .ok (.ifCond .ne 9, 3) := by decide +kernel
theorem dX12_mixed_50 : decode cX12_mixed 50 = .ok (.aload_n 0, 1) := by decide +kernel
theorem dX12_mixed_51 : decode cX12_mixed 51 = .ok (.iconst 2, 1) := by decide +kernel
theorem dX12_mixed_52 : decode cX12_mixed 52 = .ok (.invokevirtual 289, 3) := by decide +kernel
theorem dX12_mixed_55 : decode cX12_mixed 55 = .ok (.ireturn, 1) := by decide +kernel
theorem dX12_mixed_56 : decode cX12_mixed 56 = .ok (.aload_n 0, 1) := by decide +kernel
theorem dX12_mixed_57 : decode cX12_mixed 57 = .ok (.getfield 42, 3) := by decide +kernel
theorem dX12_mixed_60 : decode cX12_mixed 60 = .ok (.iload_n 1, 1) := by decide +kernel
theorem dX12_mixed_61 : decode cX12_mixed 61 = .ok (.iaload, 1) := by decide +kernel
theorem dX12_mixed_62 : decode cX12_mixed 62 = .ok (.ifCond .ne 5, 3) := by decide +kernel
theorem dX12_mixed_65 : decode cX12_mixed 65 = .ok (.iconst 0, 1) := by decide +kernel
theorem dX12_mixed_66 : decode cX12_mixed 66 = .ok (.ireturn, 1) := by decide +kernel
theorem dX12_mixed_67 : decode cX12_mixed 67 = .ok (.ldc2_w 343, 3) := by decide +kernel
theorem dX12_mixed_70 : decode cX12_mixed 70 = .ok (.aload_n 0, 1) := by decide +kernel
theorem dX12_mixed_71 : decode cX12_mixed 71 = .ok (.iload_n 1, 1) := by decide +kernel
theorem dX12_mixed_72 : decode cX12_mixed 72 = .ok (.iload 4, 2) := by decide +kernel
theorem dX12_mixed_74 : decode cX12_mixed 74 = .ok (.invokevirtual 391, 3) := by decide +kernel
theorem dX12_mixed_77 : decode cX12_mixed 77 = .ok (.i2l, 1) := by decide +kernel
theorem dX12_mixed_78 : decode cX12_mixed 78 = .ok (.lmul, 1) := by decide +kernel
theorem dX12_mixed_79 : decode cX12_mixed 79 = .ok (.aload_n 0, 1) := by decide +kernel
theorem dX12_mixed_80 : decode cX12_mixed 80 = .ok (.iload_n 1, 1) := by decide +kernel
theorem dX12_mixed_81 : decode cX12_mixed 81 = .ok (.invokevirtual 302, 3) := by decide +kernel
theorem dX12_mixed_84 : decode cX12_mixed 84 = .ok (.i2l, 1) := by decide +kernel
theorem dX12_mixed_85 : decode cX12_mixed 85 = .ok (.ldiv, 1) := by decide +kernel
theorem dX12_mixed_86 : decode cX12_mixed 86 = .ok (.lstore 5, 2) := by decide +kernel
theorem dX12_mixed_88 : decode cX12_mixed 88 = .ok (.aload_n 0, 1) := by decide +kernel
theorem dX12_mixed_89 : decode cX12_mixed 89 = .ok (.iload_n 1, 1) := by decide +kernel
theorem dX12_mixed_90 : decode cX12_mixed 90 = .ok (.invokevirtual 358, 3) := by decide +kernel
theorem dX12_mixed_93 : decode cX12_mixed 93 = .ok (.aload_n 0, 1) := by decide +kernel
theorem dX12_mixed_94 : decode cX12_mixed 94 = .ok (.aload_n 0, 1) := by decide +kernel
theorem dX12_mixed_95 : decode cX12_mixed 95 = .ok (.getfield 65, 3) := by decide +kernel
theorem dX12_mixed_98 : decode cX12_mixed 98 = .ok (.iload_n 1, 1) := by decide +kernel
theorem dX12_mixed_99 : decode cX12_mixed 99 = .ok (.iaload, 1) := by decide +kernel
theorem dX12_mixed_100 : decode cX12_mixed 100 = .ok (.invokevirtual 361, 3) := by decide +kernel
theorem dX12_mixed_103 : decode cX12_mixed 103 = .ok (.iconst 1, 1) := by decide +kernel
theorem dX12_mixed_104 : decode cX12_mixed 104 = .ok (.istore 7, 2) := by decide +kernel
theorem dX12_mixed_106 : decode cX12_mixed 106 = .ok (.iload 7, 2) := by decide +kernel
theorem dX12_mixed_108 : decode cX12_mixed 108 = .ok (.iload_n 2, 1) := by decide +kernel
theorem dX12_mixed_109 : decode cX12_mixed 109 = .ok (.if_icmp .gt 39, 3) := by decide +kernel
theorem dX12_mixed_112 : decode cX12_mixed 112 = .ok (.iload 7, 2) := by decide +kernel
theorem dX12_mixed_114 : decode cX12_mixed 114 = .ok (.iload_n 3, 1) := by decide +kernel
theorem dX12_mixed_115 : decode cX12_mixed 115 = .ok (.irem, 1) := by decide +kernel
theorem dX12_mixed_116 : decode cX12_mixed 116 = .ok (.ifCond .ne 21, 3) := by decide +kernel
theorem dX12_mixed_119 : decode cX12_mixed 119 = .ok (.aload_n 0, 1) := by decide +kernel
theorem dX12_mixed_120 : decode cX12_mixed 120 = .ok (.dup, 1) := by decide +kernel
theorem dX12_mixed_121 : decode cX12_mixed 121 = .ok (.getfield 345, 3) := by decide +kernel
theorem dX12_mixed_124 : decode cX12_mixed 124 = .ok (.lload 5, 2) := by decide +kernel
theorem dX12_mixed_126 : decode cX12_mixed 126 = .ok (.iload 4, 2) := by decide +kernel
theorem dX12_mixed_128 : decode cX12_mixed 128 = .ok (.i2l, 1) := by decide +kernel
theorem dX12_mixed_129 : decode cX12_mixed 129 = .ok (.lmul, 1) := by decide +kernel
theorem dX12_mixed_130 : decode cX12_mixed 130 = .ok (.ladd, 1) := by decide +kernel
theorem dX12_mixed_131 : decode cX12_mixed 131 = .ok (.putfield 345, 3) := by decide +kernel
theorem dX12_mixed_134 : decode cX12_mixed 134 = .ok (.goto 8, 3) := by decide +kernel
theorem dX12_mixed_137 : decode cX12_mixed 137 = .ok (.aload_n 0, 1) := by decide +kernel
theorem dX12_mixed_138 : decode cX12_mixed 138 = .ok (.iload_n 1, 1) := by decide +kernel
theorem dX12_mixed_139 : decode cX12_mixed 139 = .ok (.invokevirtual 364, 3) := by decide +kernel
theorem dX12_mixed_142 : decode cX12_mixed 142 = .ok (.iinc 7 1, 3) := by decide +kernel
theorem dX12_mixed_145 : decode cX12_mixed 145 = .ok (.goto (-39), 3) := by decide +kernel
theorem dX12_mixed_148 : decode cX12_mixed 148 = .ok (.aload_n 0, 1) := by decide +kernel
theorem dX12_mixed_149 : decode cX12_mixed 149 = .ok (.getfield 345, 3) := by decide +kernel
theorem dX12_mixed_152 : decode cX12_mixed 152 = .ok (.ldc2_w 371, 3) := by decide +kernel
theorem dX12_mixed_155 : decode cX12_mixed 155 = .ok (.ldiv, 1) := by decide +kernel
theorem dX12_mixed_156 : decode cX12_mixed 156 = .ok (.l2i, 1) := by decide +kernel
theorem dX12_mixed_157 : decode cX12_mixed 157 = .ok (.ireturn, 1) := by decide +kernel
theorem dX12_nearPart_0 : decode cX12_nearPart 0 = .ok (.aload_n 0, 1) := by decide +kernel
theorem dX12_nearPart_1 : decode cX12_nearPart 1 = .ok (.iconst 1, 1) := by decide +kernel
theorem dX12_nearPart_2 : decode cX12_nearPart 2 = .ok (.invokevirtual 170, 3) := by decide +kernel
theorem dX12_nearPart_5 : decode cX12_nearPart 5 = .ok (.istore 6, 2) := by decide +kernel
theorem dX12_nearPart_7 : decode cX12_nearPart 7 = .ok (.aload_n 0, 1) := by decide +kernel
theorem dX12_nearPart_8 : decode cX12_nearPart 8 = .ok (.getfield 106, 3) := by decide +kernel
theorem dX12_nearPart_11 : decode cX12_nearPart 11 = .ok (.bipush 8, 2) := by decide +kernel
theorem dX12_nearPart_13 : decode cX12_nearPart 13 = .ok (.iload_n 1, 1) := by decide +kernel
theorem dX12_nearPart_14 : decode cX12_nearPart 14 = .ok (.imul, 1) := by decide +kernel
theorem dX12_nearPart_15 : decode cX12_nearPart 15 = .ok (.iload_n 3, 1) := by decide +kernel
theorem dX12_nearPart_16 : decode cX12_nearPart 16 = .ok (.iadd, 1) := by decide +kernel
theorem dX12_nearPart_17 : decode cX12_nearPart 17 = .ok (.iaload, 1) := by decide +kernel
theorem dX12_nearPart_18 : decode cX12_nearPart 18 = .ok (.istore 7, 2) := by decide +kernel
theorem dX12_nearPart_20 : decode cX12_nearPart 20 = .ok (.iconst 0, 1) := by decide +kernel
theorem dX12_nearPart_21 : decode cX12_nearPart 21 = .ok (.iload 7, 2) := by decide +kernel
theorem dX12_nearPart_23 : decode cX12_nearPart 23 = .ok (.invokestatic 309, 3) := by decide +kernel
theorem dX12_nearPart_26 : decode cX12_nearPart 26 = .ok (.istore 8, 2) := by decide +kernel
theorem dX12_nearPart_28 : decode cX12_nearPart 28 = .ok (.aload_n 0, 1) := by decide +kernel
theorem dX12_nearPart_29 : decode cX12_nearPart 29 = .ok (.iconst 0, 1) := by decide +kernel
theorem dX12_nearPart_30 : decode cX12_nearPart 30 = .ok (.iload_n 1, 1) := by decide +kernel
theorem dX12_nearPart_31 : decode cX12_nearPart 31 = .ok (.iload 7, 2) := by decide +kernel
theorem dX12_nearPart_33 : decode cX12_nearPart 33 = .ok (.invokevirtual 355, 3) := by decide +kernel
theorem dX12_nearPart_36 : decode cX12_nearPart 36 = .ok (.istore 9, 2) := by decide +kernel
theorem dX12_nearPart_38 : decode cX12_nearPart 38 = .ok (.aload_n 0, 1) := by decide +kernel
theorem dX12_nearPart_39 : decode cX12_nearPart 39 = .ok (.dup, 1) := by decide +kernel
theorem dX12_nearPart_40 : decode cX12_nearPart 40 = .ok (.getfield 397, 3) := by decide +kernel
theorem dX12_nearPart_43 : decode cX12_nearPart 43 = .ok (.lload 4, 2) := by decide +kernel
theorem dX12_nearPart_45 : decode cX12_nearPart 45 = .ok (.iload 8, 2) := by decide +kernel
theorem dX12_nearPart_47 : decode cX12_nearPart 47 = .ok (.i2l, 1) := by decide +kernel
theorem dX12_nearPart_48 : decode cX12_nearPart 48 = .ok (.lmul, 1) := by decide +kernel
theorem dX12_nearPart_49 : decode cX12_nearPart 49 = .ok (.ladd, 1) := by decide +kernel
theorem dX12_nearPart_50 : decode cX12_nearPart 50 = .ok (.putfield 397, 3) := by decide +kernel
theorem dX12_nearPart_53 : decode cX12_nearPart 53 = .ok (.iload_n 3, 1) := by decide +kernel
theorem dX12_nearPart_54 : decode cX12_nearPart 54 = .ok (.aload_n 0, 1) := by decide +kernel
theorem dX12_nearPart_55 : decode cX12_nearPart 55 = .ok (.getfield 42, 3) := by decide +kernel
theorem dX12_nearPart_58 : decode cX12_nearPart 58 = .ok (.iconst 1, 1) := by decide +kernel
theorem dX12_nearPart_59 : decode cX12_nearPart 59 = .ok (.iaload, 1) := by decide +kernel
theorem dX12_nearPart_60 : decode cX12_nearPart 60 = .ok (.if_icmp .lt 21, 3) := by decide +kernel
theorem dX12_nearPart_63 : decode cX12_nearPart 63 = .ok (.aload_n 0, 1) := by decide +kernel
theorem dX12_nearPart_64 : decode cX12_nearPart 64 = .ok (.getfield 119, 3) := by decide +kernel
theorem dX12_nearPart_67 : decode cX12_nearPart 67 = .ok (.iload 6, 2) := by decide +kernel
theorem dX12_nearPart_69 : decode cX12_nearPart 69 = .ok (.iload 9, 2) := by decide +kernel
theorem dX12_nearPart_71 : decode cX12_nearPart 71 = .ok (.imul, 1) := by decide +kernel
theorem dX12_nearPart_72 : decode cX12_nearPart 72 = .ok (.iload_n 2, 1) := by decide +kernel
theorem dX12_nearPart_73 : decode cX12_nearPart 73 = .ok (.iadd, 1) := by decide +kernel
theorem dX12_nearPart_74 : decode cX12_nearPart 74 = .ok (.dup2, 1) := by decide +kernel
theorem dX12_nearPart_75 : decode cX12_nearPart 75 = .ok (.laload, 1) := by decide +kernel
theorem dX12_nearPart_76 : decode cX12_nearPart 76 = .ok (.lload 4, 2) := by decide +kernel
theorem dX12_nearPart_78 : decode cX12_nearPart 78 = .ok (.ladd, 1) := by decide +kernel
theorem dX12_nearPart_79 : decode cX12_nearPart 79 = .ok (.lastore, 1) := by decide +kernel
theorem dX12_nearPart_80 : decode cX12_nearPart 80 = .ok (.return_, 1) := by decide +kernel
theorem dX12_nearPart_81 : decode cX12_nearPart 81 = .ok (.aload_n 0, 1) := by decide +kernel
theorem dX12_nearPart_82 : decode cX12_nearPart 82 = .ok (.getfield 122, 3) := by decide +kernel
theorem dX12_nearPart_85 : decode cX12_nearPart 85 = .ok (.bipush 8, 2) := by decide +kernel
theorem dX12_nearPart_87 : decode cX12_nearPart 87 = .ok (.iload_n 2, 1) := by decide +kernel
theorem dX12_nearPart_88 : decode cX12_nearPart 88 = .ok (.imul, 1) := by decide +kernel
theorem dX12_nearPart_89 : decode cX12_nearPart 89 = .ok (.iload_n 3, 1) := by decide +kernel
theorem dX12_nearPart_90 : decode cX12_nearPart 90 = .ok (.iadd, 1) := by decide +kernel
theorem dX12_nearPart_91 : decode cX12_nearPart 91 = .ok (.bipush 10, 2) := by decide +kernel
theorem dX12_nearPart_93 : decode cX12_nearPart 93 = .ok (.imul, 1) := by decide +kernel
theorem dX12_nearPart_94 : decode cX12_nearPart 94 = .ok (.iload 8, 2) := by decide +kernel
theorem dX12_nearPart_96 : decode cX12_nearPart 96 = .ok (.iadd, 1) := by decide +kernel
theorem dX12_nearPart_97 : decode cX12_nearPart 97 = .ok (.iaload, 1) := by decide +kernel
theorem dX12_nearPart_98 : decode cX12_nearPart 98 = .ok (.istore 10, 2) := by decide +kernel
theorem dX12_nearPart_100 : decode cX12_nearPart 100 = .ok (.aload_n 0, 1) := by decide +kernel
theorem dX12_nearPart_101 : decode cX12_nearPart 101 = .ok (.getfield 119, 3) := by decide +kernel
theorem dX12_nearPart_104 : decode cX12_nearPart 104 = .ok (.iload 6, 2) := by decide +kernel
theorem dX12_nearPart_106 : decode cX12_nearPart 106 = .ok (.iload 9, 2) := by decide +kernel
theorem dX12_nearPart_108 : decode cX12_nearPart 108 = .ok (.imul, 1) := by decide +kernel
theorem dX12_nearPart_109 : decode cX12_nearPart 109 = .ok (.aload_n 0, 1) := by decide +kernel
theorem dX12_nearPart_110 : decode cX12_nearPart 110 = .ok (.iconst 1, 1) := by decide +kernel
theorem dX12_nearPart_111 : decode cX12_nearPart 111 = .ok (.iload_n 2, 1) := by decide +kernel
theorem dX12_nearPart_112 : decode cX12_nearPart 112 = .ok (.iload 10, 2) := by decide +kernel
theorem dX12_nearPart_114 : decode cX12_nearPart 114 = .ok (.invokevirtual 355, 3) := by decide +kernel
theorem dX12_nearPart_117 : decode cX12_nearPart 117 = .ok (.iadd, 1) := by decide +kernel
theorem dX12_nearPart_118 : decode cX12_nearPart 118 = .ok (.dup2, 1) := by decide +kernel
theorem dX12_nearPart_119 : decode cX12_nearPart 119 = .ok (.laload, 1) := by decide +kernel
theorem dX12_nearPart_120 : decode cX12_nearPart 120 = .ok (.lload 4, 2) := by decide +kernel
theorem dX12_nearPart_122 : decode cX12_nearPart 122 = .ok (.ladd, 1) := by decide +kernel
theorem dX12_nearPart_123 : decode cX12_nearPart 123 = .ok (.lastore, 1) := by decide +kernel
theorem dX12_nearPart_124 : decode cX12_nearPart 124 = .ok (.iload 10, 2) := by decide +kernel
theorem dX12_nearPart_126 : decode cX12_nearPart 126 = .ok (.iconst (-1), 1) := by decide +kernel
theorem dX12_nearPart_127 : decode cX12_nearPart 127 = .ok (.if_icmp .ne 17, 3) := by decide +kernel
theorem dX12_nearPart_130 : decode cX12_nearPart 130 = .ok (.aload_n 0, 1) := by decide +kernel
theorem dX12_nearPart_131 : decode cX12_nearPart 131 = .ok (.dup, 1) := by decide +kernel
theorem dX12_nearPart_132 : decode cX12_nearPart 132 = .ok (.getfield 400, 3) := by decide +kernel
theorem dX12_nearPart_135 : decode cX12_nearPart 135 = .ok (.lload 4, 2) := by decide +kernel
theorem dX12_nearPart_137 : decode cX12_nearPart 137 = .ok (.ladd, 1) := by decide +kernel
theorem dX12_nearPart_138 : decode cX12_nearPart 138 = .ok (.putfield 400, 3) := by decide +kernel
theorem dX12_nearPart_141 : decode cX12_nearPart 141 = .ok (.goto 18, 3) := by decide +kernel
theorem dX12_nearPart_144 : decode cX12_nearPart 144 = .ok (.aload_n 0, 1) := by decide +kernel
theorem dX12_nearPart_145 : decode cX12_nearPart 145 = .ok (.dup, 1) := by decide +kernel
theorem dX12_nearPart_146 : decode cX12_nearPart 146 = .ok (.getfield 403, 3) := by decide +kernel
theorem dX12_nearPart_149 : decode cX12_nearPart 149 = .ok (.lload 4, 2) := by decide +kernel
theorem dX12_nearPart_151 : decode cX12_nearPart 151 = .ok (.iload 10, 2) := by decide +kernel
theorem dX12_nearPart_153 : decode cX12_nearPart 153 = .ok (.i2l, 1) := by decide +kernel
theorem dX12_nearPart_154 : decode cX12_nearPart 154 = .ok (.lmul, 1) := by decide +kernel
theorem dX12_nearPart_155 : decode cX12_nearPart 155 = .ok (.ladd, 1) := by decide +kernel
theorem dX12_nearPart_156 : decode cX12_nearPart 156 = .ok (.putfield 403, 3) := by decide +kernel
theorem dX12_nearPart_159 : decode cX12_nearPart 159 = .ok (.return_, 1) := by decide +kernel
theorem dX12_nearPerson_0 : decode cX12_nearPerson 0 = .ok (.aload_n 0, 1) := by decide +kernel
theorem dX12_nearPerson_1 : decode cX12_nearPerson 1 = .ok (.iconst 1, 1) := by decide +kernel
theorem dX12_nearPerson_2 : decode cX12_nearPerson 2 = .ok (.invokevirtual 170, 3) := by decide +kernel
theorem dX12_nearPerson_5 : decode cX12_nearPerson 5 = .ok (.istore_n 1, 1) := by decide +kernel
theorem dX12_nearPerson_6 : decode cX12_nearPerson 6 = .ok (.aload_n 0, 1) := by decide +kernel
theorem dX12_nearPerson_7 : decode cX12_nearPerson 7 = .ok (.iconst 0, 1) := by decide +kernel
theorem dX12_nearPerson_8 : decode cX12_nearPerson 8 = .ok (.invokevirtual 302, 3) := by decide +kernel
theorem dX12_nearPerson_11 : decode cX12_nearPerson 11 = .ok (.istore_n 2, 1) := by decide +kernel
theorem dX12_nearPerson_12 : decode cX12_nearPerson 12 = .ok (.aload_n 0, 1) := by decide +kernel
theorem dX12_nearPerson_13 : decode cX12_nearPerson 13 = .ok (.iconst 0, 1) := by decide +kernel
theorem dX12_nearPerson_14 : decode cX12_nearPerson 14 = .ok (.invokevirtual 170, 3) := by decide +kernel
theorem dX12_nearPerson_17 : decode cX12_nearPerson 17 = .ok (.iload_n 1, 1) := by decide +kernel
theorem dX12_nearPerson_18 : decode cX12_nearPerson 18 = .ok (.imul, 1) := by decide +kernel
theorem dX12_nearPerson_19 : decode cX12_nearPerson 19 = .ok (.istore_n 3, 1) := by decide +kernel
theorem dX12_nearPerson_20 : decode cX12_nearPerson 20 = .ok (.iconst 0, 1) := by decide +kernel
theorem dX12_nearPerson_21 : decode cX12_nearPerson 21 = .ok (.istore 4, 2) := by decide +kernel
theorem dX12_nearPerson_23 : decode cX12_nearPerson 23 = .ok (.iload 4, 2) := by decide +kernel
theorem dX12_nearPerson_25 : decode cX12_nearPerson 25 = .ok (.iload_n 3, 1) := by decide +kernel
theorem dX12_nearPerson_26 : decode cX12_nearPerson 26 = .ok (.if_icmp .ge 17, 3) := by decide +kernel
theorem dX12_nearPerson_29 : decode cX12_nearPerson 29 = .ok (.aload_n 0, 1) := by decide +kernel
theorem dX12_nearPerson_30 : decode cX12_nearPerson 30 = .ok (.getfield 119, 3) := by decide +kernel
theorem dX12_nearPerson_33 : decode cX12_nearPerson 33 = .ok (.iload 4, 2) := by decide +kernel
theorem dX12_nearPerson_35 : decode cX12_nearPerson 35 = .ok (.lconst 0, 1) := by decide +kernel
theorem dX12_nearPerson_36 : decode cX12_nearPerson 36 = .ok (.lastore, 1) := by decide +kernel
theorem dX12_nearPerson_37 : decode cX12_nearPerson 37 = .ok (.iinc 4 1, 3) := by decide +kernel
theorem dX12_nearPerson_40 : decode cX12_nearPerson 40 = .ok (.goto (-17), 3) := by decide +kernel
theorem dX12_nearPerson_43 : decode cX12_nearPerson 43 = .ok (.iconst 0, 1) := by decide +kernel
theorem dX12_nearPerson_44 : decode cX12_nearPerson 44 = .ok (.istore 4, 2) := by decide +kernel
theorem dX12_nearPerson_46 : decode cX12_nearPerson 46 = .ok (.iload 4, 2) := by decide +kernel
theorem dX12_nearPerson_48 : decode cX12_nearPerson 48 = .ok (.iload_n 3, 1) := by decide +kernel
theorem dX12_nearPerson_49 : decode cX12_nearPerson 49 = .ok (.if_icmp .ge 112, 3) := by decide +kernel
theorem dX12_nearPerson_52 : decode cX12_nearPerson 52 = .ok (.aload_n 0, 1) := by decide +kernel
theorem dX12_nearPerson_53 : decode cX12_nearPerson 53 = .ok (.getfield 116, 3) := by decide +kernel
theorem dX12_nearPerson_56 : decode cX12_nearPerson 56 = .ok (.iload 4, 2) := by decide +kernel
theorem dX12_nearPerson_58 : decode cX12_nearPerson 58 = .ok (.laload, 1) := by decide +kernel
theorem dX12_nearPerson_59 : decode cX12_nearPerson 59 = .ok (.lstore 5, 2) := by decide +kernel
theorem dX12_nearPerson_61 : decode cX12_nearPerson 61 = .ok (.iconst 0, 1) := by decide +kernel
theorem dX12_nearPerson_62 : decode cX12_nearPerson 62 = .ok (.istore 7, 2) := by decide +kernel
theorem dX12_nearPerson_64 : decode cX12_nearPerson 64 = .ok (.iload 7, 2) := by decide +kernel
theorem dX12_nearPerson_66 : decode cX12_nearPerson 66 = .ok (.aload_n 0, 1) := by decide +kernel
theorem dX12_nearPerson_67 : decode cX12_nearPerson 67 = .ok (.getfield 42, 3) := by decide +kernel
theorem dX12_nearPerson_70 : decode cX12_nearPerson 70 = .ok (.iconst 0, 1) := by decide +kernel
theorem dX12_nearPerson_71 : decode cX12_nearPerson 71 = .ok (.iaload, 1) := by decide +kernel
theorem dX12_nearPerson_72 : decode cX12_nearPerson 72 = .ok (.if_icmp .ge 83, 3) := by decide +kernel
theorem dX12_nearPerson_75 : decode cX12_nearPerson 75 = .ok (.aload_n 0, 1) := by decide +kernel
theorem dX12_nearPerson_76 : decode cX12_nearPerson 76 = .ok (.getfield 116, 3) := by decide +kernel
theorem dX12_nearPerson_79 : decode cX12_nearPerson 79 = .ok (.iload 4, 2) := by decide +kernel
theorem dX12_nearPerson_81 : decode cX12_nearPerson 81 = .ok (.laload, 1) := by decide +kernel
theorem dX12_nearPerson_82 : decode cX12_nearPerson 82 = .ok (.lconst 0, 1) := by decide +kernel
theorem dX12_nearPerson_83 : decode cX12_nearPerson 83 = .ok (.lcmp, 1) := by decide +kernel
theorem dX12_nearPerson_84 : decode cX12_nearPerson 84 = .ok (.ifCond .le 71, 3) := by decide +kernel
theorem dX12_nearPerson_87 : decode cX12_nearPerson 87 = .ok (.iload 7, 2) := by decide +kernel
theorem dX12_nearPerson_89 : decode cX12_nearPerson 89 = .ok (.aload_n 0, 1) := by decide +kernel
theorem dX12_nearPerson_90 : decode cX12_nearPerson 90 = .ok (.getfield 42, 3) := by decide +kernel
theorem dX12_nearPerson_93 : decode cX12_nearPerson 93 = .ok (.iconst 0, 1) := by decide +kernel
theorem dX12_nearPerson_94 : decode cX12_nearPerson 94 = .ok (.iaload, 1) := by decide +kernel
theorem dX12_nearPerson_95 : decode cX12_nearPerson 95 = .ok (.iconst 1, 1) := by decide +kernel
theorem dX12_nearPerson_96 : decode cX12_nearPerson 96 = .ok (.isub, 1) := by decide +kernel
theorem dX12_nearPerson_97 : decode cX12_nearPerson 97 = .ok (.if_icmp .ne 8, 3) := by decide +kernel
theorem dX12_nearPerson_100 : decode cX12_nearPerson 100 = .ok (.lload 5, 2) := by decide +kernel
theorem dX12_nearPerson_102 : decode cX12_nearPerson 102 = .ok (.goto 22, 3) := by decide +kernel
theorem dX12_nearPerson_105 : decode cX12_nearPerson 105 = .ok (.aload_n 0, 1) := by decide +kernel
theorem dX12_nearPerson_106 : decode cX12_nearPerson 106 = .ok (.getfield 116, 3) := by decide +kernel
theorem dX12_nearPerson_109 : decode cX12_nearPerson 109 = .ok (.iload 4, 2) := by decide +kernel
theorem dX12_nearPerson_111 : decode cX12_nearPerson 111 = .ok (.laload, 1) := by decide +kernel
theorem dX12_nearPerson_112 : decode cX12_nearPerson 112 = .ok (.aload_n 0, 1) := by decide +kernel
theorem dX12_nearPerson_113 : decode cX12_nearPerson 113 = .ok (.getfield 49, 3) := by decide +kernel
theorem dX12_nearPerson_116 : decode cX12_nearPerson 116 = .ok (.iload 7, 2) := by decide +kernel
theorem dX12_nearPerson_118 : decode cX12_nearPerson 118 = .ok (.iaload, 1) := by decide +kernel
theorem dX12_nearPerson_119 : decode cX12_nearPerson 119 = .ok (.i2l, 1) := by decide +kernel
theorem dX12_nearPerson_120 : decode cX12_nearPerson 120 = .ok (.lmul, 1) := by decide +kernel
theorem dX12_nearPerson_121 : decode cX12_nearPerson 121 = .ok (.iload_n 2, 1) := by decide +kernel
theorem dX12_nearPerson_122 : decode cX12_nearPerson 122 = .ok (.i2l, 1) := by decide +kernel
theorem dX12_nearPerson_123 : decode cX12_nearPerson 123 = .ok (.ldiv, 1) := by decide +kernel
theorem dX12_nearPerson_124 : decode cX12_nearPerson 124 = .ok (.lstore 8, 2) := by decide +kernel
theorem dX12_nearPerson_126 : decode cX12_nearPerson 126 = .ok (.lload 5, 2) := by decide +kernel
theorem dX12_nearPerson_128 : decode cX12_nearPerson 128 = .ok (.lload 8, 2) := by decide +kernel
theorem dX12_nearPerson_130 : decode cX12_nearPerson 130 = .ok (.lsub, 1) := by decide +kernel
theorem dX12_nearPerson_131 : decode cX12_nearPerson 131 = .ok (.lstore 5, 2) := by decide +kernel
theorem dX12_nearPerson_133 : decode cX12_nearPerson 133 = .ok (.aload_n 0, 1) := by decide +kernel
theorem dX12_nearPerson_134 : decode cX12_nearPerson 134 = .ok (.iload 4, 2) := by decide +kernel
theorem dX12_nearPerson_136 : decode cX12_nearPerson 136 = .ok (.iload_n 1, 1) := by decide +kernel
theorem dX12_nearPerson_137 : decode cX12_nearPerson 137 = .ok (.idiv, 1) := by decide +kernel
theorem dX12_nearPerson_138 : decode cX12_nearPerson 138 = .ok (.iload 4, 2) := by decide +kernel
theorem dX12_nearPerson_140 : decode cX12_nearPerson 140 = .ok (.iload_n 1, 1) := by decide +kernel
theorem dX12_nearPerson_141 : decode cX12_nearPerson 141 = .ok (.irem, 1) := by decide +kernel
theorem dX12_nearPerson_142 : decode cX12_nearPerson 142 = .ok (.iload 7, 2) := by decide +kernel
theorem dX12_nearPerson_144 : decode cX12_nearPerson 144 = .ok (.lload 8, 2) := by decide +kernel
theorem dX12_nearPerson_146 : decode cX12_nearPerson 146 = .ok (.invokevirtual 406, 3) := by decide +kernel
theorem dX12_nearPerson_149 : decode cX12_nearPerson 149 = .ok (.iinc 7 1, 3) := by decide +kernel
theorem dX12_nearPerson_152 : decode cX12_nearPerson 152 = .ok (.goto (-88), 3) := by decide +kernel
theorem dX12_nearPerson_155 : decode cX12_nearPerson 155 = .ok (.iinc 4 1, 3) := by decide +kernel
theorem dX12_nearPerson_158 : decode cX12_nearPerson 158 = .ok (.goto (-112), 3) := by decide +kernel
theorem dX12_nearPerson_161 : decode cX12_nearPerson 161 = .ok (.iconst 0, 1) := by decide +kernel
theorem dX12_nearPerson_162 : decode cX12_nearPerson 162 = .ok (.istore 4, 2) := by decide +kernel
theorem dX12_nearPerson_164 : decode cX12_nearPerson 164 = .ok (.iload 4, 2) := by decide +kernel
theorem dX12_nearPerson_166 : decode cX12_nearPerson 166 = .ok (.iload_n 3, 1) := by decide +kernel
theorem dX12_nearPerson_167 : decode cX12_nearPerson 167 = .ok (.if_icmp .ge 23, 3) := by decide +kernel
theorem dX12_nearPerson_170 : decode cX12_nearPerson 170 = .ok (.aload_n 0, 1) := by decide +kernel
theorem dX12_nearPerson_171 : decode cX12_nearPerson 171 = .ok (.getfield 116, 3) := by decide +kernel
theorem dX12_nearPerson_174 : decode cX12_nearPerson 174 = .ok (.iload 4, 2) := by decide +kernel
theorem dX12_nearPerson_176 : decode cX12_nearPerson 176 = .ok (.aload_n 0, 1) := by decide +kernel
theorem dX12_nearPerson_177 : decode cX12_nearPerson 177 = .ok (.getfield 119, 3) := by decide +kernel
theorem dX12_nearPerson_180 : decode cX12_nearPerson 180 = .ok (.iload 4, 2) := by decide +kernel
theorem dX12_nearPerson_182 : decode cX12_nearPerson 182 = .ok (.laload, 1) := by decide +kernel
theorem dX12_nearPerson_183 : decode cX12_nearPerson 183 = .ok (.lastore, 1) := by decide +kernel
theorem dX12_nearPerson_184 : decode cX12_nearPerson 184 = .ok (.iinc 4 1, 3) := by decide +kernel
theorem dX12_nearPerson_187 : decode cX12_nearPerson 187 = .ok (.goto (-23), 3) := by decide +kernel
theorem dX12_nearPerson_190 : decode cX12_nearPerson 190 = .ok (.return_, 1) := by decide +kernel
theorem dX12_near_0 : decode cX12_near 0 = .ok (.aload_n 0, 1) := by decide +kernel
theorem dX12_near_1 : decode cX12_near 1 = .ok (.iconst 0, 1) := by decide +kernel
theorem dX12_near_2 : decode cX12_near 2 = .ok (.putfield 159, 3) := by decide +kernel
theorem dX12_near_5 : decode cX12_near 5 = .ok (.iload_n 2, 1) := by decide +kernel
theorem dX12_near_6 : decode cX12_near 6 = .ok (.iconst 0, 1) := by decide +kernel
theorem dX12_near_7 : decode cX12_near 7 = .ok (.iconst 2, 1) := by decide +kernel
theorem dX12_near_8 : decode cX12_near 8 = .ok (.invokestatic 162, 3) := by decide +kernel
theorem dX12_near_11 : decode cX12_near 11 = .ok (.ifCond .ne 9, 3) := by decide +kernel
theorem dX12_near_14 : decode cX12_near 14 = .ok (.aload_n 0, 1) := by decide +kernel
theorem dX12_near_15 : decode cX12_near 15 = .ok (.iconst 1, 1) := by decide +kernel
theorem dX12_near_16 : decode cX12_near 16 = .ok (.invokevirtual 289, 3) := by decide +kernel
theorem dX12_near_19 : decode cX12_near 19 = .ok (.ireturn, 1) := by decide +kernel
theorem dX12_near_20 : decode cX12_near 20 = .ok (.iload_n 1, 1) := by decide +kernel
theorem dX12_near_21 : decode cX12_near 21 = .ok (.iconst 0, 1) := by decide +kernel
theorem dX12_near_22 : decode cX12_near 22 = .ok (.bipush 60, 2) := by decide +kernel
theorem dX12_near_24 : decode cX12_near 24 = .ok (.invokestatic 162, 3) := by decide +kernel
theorem dX12_near_27 : decode cX12_near 27 = .ok (.ifCond .ne 9, 3) := by decide +kernel
theorem dX12_near_30 : decode cX12_near 30 = .ok (.aload_n 0, 1) := by decide +kernel
theorem dX12_near_31 : decode cX12_near 31 = .ok (.iconst 2, 1) := by decide +kernel
theorem dX12_near_32 : decode cX12_near 32 = .ok (.invokevirtual 289, 3) := by decide +kernel
theorem dX12_near_35 : decode cX12_near 35 = .ok (.ireturn, 1) := by decide +kernel
theorem dX12_near_36 : decode cX12_near 36 = .ok (.aload_n 0, 1) := by decide +kernel
theorem dX12_near_37 : decode cX12_near 37 = .ok (.getfield 42, 3) := by decide +kernel
theorem dX12_near_40 : decode cX12_near 40 = .ok (.iconst 0, 1) := by decide +kernel
theorem dX12_near_41 : decode cX12_near 41 = .ok (.iaload, 1) := by decide +kernel
theorem dX12_near_42 : decode cX12_near 42 = .ok (.ifCond .ne 5, 3) := by decide +kernel
theorem dX12_near_45 : decode cX12_near 45 = .ok (.iconst 0, 1) := by decide +kernel
theorem dX12_near_46 : decode cX12_near 46 = .ok (.ireturn, 1) := by decide +kernel
theorem dX12_near_47 : decode cX12_near 47 = .ok (.aload_n 0, 1) := by decide +kernel
theorem dX12_near_48 : decode cX12_near 48 = .ok (.iconst 0, 1) := by decide +kernel
theorem dX12_near_49 : decode cX12_near 49 = .ok (.invokevirtual 358, 3) := by decide +kernel
theorem dX12_near_52 : decode cX12_near 52 = .ok (.iconst 0, 1) := by decide +kernel
theorem dX12_near_53 : decode cX12_near 53 = .ok (.istore_n 3, 1) := by decide +kernel
theorem dX12_near_54 : decode cX12_near 54 = .ok (.iload_n 3, 1) := by decide +kernel
theorem dX12_near_55 : decode cX12_near 55 = .ok (.aload_n 0, 1) := by decide +kernel
theorem dX12_near_56 : decode cX12_near 56 = .ok (.iconst 1, 1) := by decide +kernel
theorem dX12_near_57 : decode cX12_near 57 = .ok (.invokevirtual 170, 3) := by decide +kernel
theorem dX12_near_60 : decode cX12_near 60 = .ok (.if_icmp .ge 88, 3) := by decide +kernel
theorem dX12_near_63 : decode cX12_near 63 = .ok (.iconst 0, 1) := by decide +kernel
theorem dX12_near_64 : decode cX12_near 64 = .ok (.istore 4, 2) := by decide +kernel
theorem dX12_near_66 : decode cX12_near 66 = .ok (.iload 4, 2) := by decide +kernel
theorem dX12_near_68 : decode cX12_near 68 = .ok (.aload_n 0, 1) := by decide +kernel
theorem dX12_near_69 : decode cX12_near 69 = .ok (.getfield 42, 3) := by decide +kernel
theorem dX12_near_72 : decode cX12_near 72 = .ok (.iconst 1, 1) := by decide +kernel
theorem dX12_near_73 : decode cX12_near 73 = .ok (.iaload, 1) := by decide +kernel
theorem dX12_near_74 : decode cX12_near 74 = .ok (.if_icmp .ge 68, 3) := by decide +kernel
theorem dX12_near_77 : decode cX12_near 77 = .ok (.iconst 0, 1) := by decide +kernel
theorem dX12_near_78 : decode cX12_near 78 = .ok (.istore 5, 2) := by decide +kernel
theorem dX12_near_80 : decode cX12_near 80 = .ok (.iload 5, 2) := by decide +kernel
theorem dX12_near_82 : decode cX12_near 82 = .ok (.bipush 10, 2) := by decide +kernel
theorem dX12_near_84 : decode cX12_near 84 = .ok (.if_icmp .ge 52, 3) := by decide +kernel
theorem dX12_near_87 : decode cX12_near 87 = .ok (.aload_n 0, 1) := by decide +kernel
theorem dX12_near_88 : decode cX12_near 88 = .ok (.getfield 122, 3) := by decide +kernel
theorem dX12_near_91 : decode cX12_near 91 = .ok (.bipush 8, 2) := by decide +kernel
theorem dX12_near_93 : decode cX12_near 93 = .ok (.iload_n 3, 1) := by decide +kernel
theorem dX12_near_94 : decode cX12_near 94 = .ok (.imul, 1) := by decide +kernel
theorem dX12_near_95 : decode cX12_near 95 = .ok (.iload 4, 2) := by decide +kernel
theorem dX12_near_97 : decode cX12_near 97 = .ok (.iadd, 1) := by decide +kernel
theorem dX12_near_98 : decode cX12_near 98 = .ok (.bipush 10, 2) := by decide +kernel
theorem dX12_near_100 : decode cX12_near 100 = .ok (.imul, 1) := by decide +kernel
theorem dX12_near_101 : decode cX12_near 101 = .ok (.iload 5, 2) := by decide +kernel
theorem dX12_near_103 : decode cX12_near 103 = .ok (.iadd, 1) := by decide +kernel
theorem dX12_near_104 : decode cX12_near 104 = .ok (.aload_n 0, 1) := by decide +kernel
theorem dX12_near_105 : decode cX12_near 105 = .ok (.iconst 1, 1) := by decide +kernel
theorem dX12_near_106 : decode cX12_near 106 = .ok (.iload 4, 2) := by decide +kernel
theorem dX12_near_108 : decode cX12_near 108 = .ok (.iload_n 3, 1) := by decide +kernel
theorem dX12_near_109 : decode cX12_near 109 = .ok (.iconst 0, 1) := by decide +kernel
theorem dX12_near_110 : decode cX12_near 110 = .ok (.aload_n 0, 1) := by decide +kernel
theorem dX12_near_111 : decode cX12_near 111 = .ok (.getfield 54, 3) := by decide +kernel
theorem dX12_near_114 : decode cX12_near 114 = .ok (.bipush 8, 2) := by decide +kernel
theorem dX12_near_116 : decode cX12_near 116 = .ok (.iload 4, 2) := by decide +kernel
theorem dX12_near_118 : decode cX12_near 118 = .ok (.iadd, 1) := by decide +kernel
theorem dX12_near_119 : decode cX12_near 119 = .ok (.iaload, 1) := by decide +kernel
theorem dX12_near_120 : decode cX12_near 120 = .ok (.iload 5, 2) := by decide +kernel
theorem dX12_near_122 : decode cX12_near 122 = .ok (.isub, 1) := by decide +kernel
theorem dX12_near_123 : decode cX12_near 123 = .ok (.invokestatic 309, 3) := by decide +kernel
theorem dX12_near_126 : decode cX12_near 126 = .ok (.invokevirtual 324, 3) := by decide +kernel
theorem dX12_near_129 : decode cX12_near 129 = .ok (.iastore, 1) := by decide +kernel
theorem dX12_near_130 : decode cX12_near 130 = .ok (.iinc 5 1, 3) := by decide +kernel
theorem dX12_near_133 : decode cX12_near 133 = .ok (.goto (-53), 3) := by decide +kernel
theorem dX12_near_136 : decode cX12_near 136 = .ok (.iinc 4 1, 3) := by decide +kernel
theorem dX12_near_139 : decode cX12_near 139 = .ok (.goto (-73), 3) := by decide +kernel
theorem dX12_near_142 : decode cX12_near 142 = .ok (.iinc 3 1, 3) := by decide +kernel
theorem dX12_near_145 : decode cX12_near 145 = .ok (.goto (-91), 3) := by decide +kernel
theorem dX12_near_148 : decode cX12_near 148 = .ok (.iconst 0, 1) := by decide +kernel
theorem dX12_near_149 : decode cX12_near 149 = .ok (.istore_n 3, 1) := by decide +kernel
theorem dX12_near_150 : decode cX12_near 150 = .ok (.iload_n 3, 1) := by decide +kernel
theorem dX12_near_151 : decode cX12_near 151 = .ok (.sipush 10000, 3) := by decide +kernel
theorem dX12_near_154 : decode cX12_near 154 = .ok (.if_icmp .ge 16, 3) := by decide +kernel
theorem dX12_near_157 : decode cX12_near 157 = .ok (.aload_n 0, 1) := by decide +kernel
theorem dX12_near_158 : decode cX12_near 158 = .ok (.getfield 116, 3) := by decide +kernel
theorem dX12_near_161 : decode cX12_near 161 = .ok (.iload_n 3, 1) := by decide +kernel
theorem dX12_near_162 : decode cX12_near 162 = .ok (.lconst 0, 1) := by decide +kernel
theorem dX12_near_163 : decode cX12_near 163 = .ok (.lastore, 1) := by decide +kernel
theorem dX12_near_164 : decode cX12_near 164 = .ok (.iinc 3 1, 3) := by decide +kernel
theorem dX12_near_167 : decode cX12_near 167 = .ok (.goto (-17), 3) := by decide +kernel
theorem dX12_near_170 : decode cX12_near 170 = .ok (.aload_n 0, 1) := by decide +kernel
theorem dX12_near_171 : decode cX12_near 171 = .ok (.getfield 116, 3) := by decide +kernel
theorem dX12_near_174 : decode cX12_near 174 = .ok (.aload_n 0, 1) := by decide +kernel
theorem dX12_near_175 : decode cX12_near 175 = .ok (.iconst 1, 1) := by decide +kernel
theorem dX12_near_176 : decode cX12_near 176 = .ok (.invokevirtual 170, 3) := by decide +kernel
theorem dX12_near_179 : decode cX12_near 179 = .ok (.aload_n 0, 1) := by decide +kernel
theorem dX12_near_180 : decode cX12_near 180 = .ok (.getfield 65, 3) := by decide +kernel
theorem dX12_near_183 : decode cX12_near 183 = .ok (.iconst 0, 1) := by decide +kernel
theorem dX12_near_184 : decode cX12_near 184 = .ok (.iaload, 1) := by decide +kernel
theorem dX12_near_185 : decode cX12_near 185 = .ok (.imul, 1) := by decide +kernel
theorem dX12_near_186 : decode cX12_near 186 = .ok (.aload_n 0, 1) := by decide +kernel
theorem dX12_near_187 : decode cX12_near 187 = .ok (.getfield 65, 3) := by decide +kernel
theorem dX12_near_190 : decode cX12_near 190 = .ok (.iconst 1, 1) := by decide +kernel
theorem dX12_near_191 : decode cX12_near 191 = .ok (.iaload, 1) := by decide +kernel
theorem dX12_near_192 : decode cX12_near 192 = .ok (.iadd, 1) := by decide +kernel
theorem dX12_near_193 : decode cX12_near 193 = .ok (.ldc2_w 343, 3) := by decide +kernel
theorem dX12_near_196 : decode cX12_near 196 = .ok (.lastore, 1) := by decide +kernel
theorem dX12_near_197 : decode cX12_near 197 = .ok (.aload_n 0, 1) := by decide +kernel
theorem dX12_near_198 : decode cX12_near 198 = .ok (.lconst 0, 1) := by decide +kernel
theorem dX12_near_199 : decode cX12_near 199 = .ok (.putfield 397, 3) := by decide +kernel
theorem dX12_near_202 : decode cX12_near 202 = .ok (.aload_n 0, 1) := by decide +kernel
theorem dX12_near_203 : decode cX12_near 203 = .ok (.lconst 0, 1) := by decide +kernel
theorem dX12_near_204 : decode cX12_near 204 = .ok (.putfield 403, 3) := by decide +kernel
theorem dX12_near_207 : decode cX12_near 207 = .ok (.aload_n 0, 1) := by decide +kernel
theorem dX12_near_208 : decode cX12_near 208 = .ok (.lconst 0, 1) := by decide +kernel
theorem dX12_near_209 : decode cX12_near 209 = .ok (.putfield 400, 3) := by decide +kernel
theorem dX12_near_212 : decode cX12_near 212 = .ok (.iconst 0, 1) := by decide +kernel
theorem dX12_near_213 : decode cX12_near 213 = .ok (.istore_n 3, 1) := by decide +kernel
theorem dX12_near_214 : decode cX12_near 214 = .ok (.iload_n 3, 1) := by decide +kernel
theorem dX12_near_215 : decode cX12_near 215 = .ok (.iload_n 1, 1) := by decide +kernel
theorem dX12_near_216 : decode cX12_near 216 = .ok (.if_icmp .ge 13, 3) := by decide +kernel
theorem dX12_near_219 : decode cX12_near 219 = .ok (.aload_n 0, 1) := by decide +kernel
theorem dX12_near_220 : decode cX12_near 220 = .ok (.invokevirtual 410, 3) := by decide +kernel
theorem dX12_near_223 : decode cX12_near 223 = .ok (.iinc 3 1, 3) := by decide +kernel
theorem dX12_near_226 : decode cX12_near 226 = .ok (.goto (-12), 3) := by decide +kernel
theorem dX12_near_229 : decode cX12_near 229 = .ok (.iload_n 2, 1) := by decide +kernel
theorem dX12_near_230 : decode cX12_near 230 = .ok (.ifCond .ne 10, 3) := by decide +kernel
theorem dX12_near_233 : decode cX12_near 233 = .ok (.aload_n 0, 1) := by decide +kernel
theorem dX12_near_234 : decode cX12_near 234 = .ok (.getfield 397, 3) := by decide +kernel
theorem dX12_near_237 : decode cX12_near 237 = .ok (.goto 19, 3) := by decide +kernel
theorem dX12_near_240 : decode cX12_near 240 = .ok (.iload_n 2, 1) := by decide +kernel
theorem dX12_near_241 : decode cX12_near 241 = .ok (.iconst 1, 1) := by decide +kernel
theorem dX12_near_242 : decode cX12_near 242 = .ok (.if_icmp .ne 10, 3) := by decide +kernel
theorem dX12_near_245 : decode cX12_near 245 = .ok (.aload_n 0, 1) := by decide +kernel
theorem dX12_near_246 : decode cX12_near 246 = .ok (.getfield 403, 3) := by decide +kernel
theorem dX12_near_249 : decode cX12_near 249 = .ok (.goto 7, 3) := by decide +kernel
theorem dX12_near_252 : decode cX12_near 252 = .ok (.aload_n 0, 1) := by decide +kernel
theorem dX12_near_253 : decode cX12_near 253 = .ok (.getfield 400, 3) := by decide +kernel
theorem dX12_near_256 : decode cX12_near 256 = .ok (.ldc2_w 371, 3) := by decide +kernel
theorem dX12_near_259 : decode cX12_near 259 = .ok (.ldiv, 1) := by decide +kernel
theorem dX12_near_260 : decode cX12_near 260 = .ok (.l2i, 1) := by decide +kernel
theorem dX12_near_261 : decode cX12_near 261 = .ok (.ireturn, 1) := by decide +kernel
theorem dX12_enter_0 : decode cX12_enter 0 = .ok (.aload_n 0, 1) := by decide +kernel
theorem dX12_enter_1 : decode cX12_enter 1 = .ok (.getfield 71, 3) := by decide +kernel
theorem dX12_enter_4 : decode cX12_enter 4 = .ok (.iload_n 1, 1) := by decide +kernel
theorem dX12_enter_5 : decode cX12_enter 5 = .ok (.iaload, 1) := by decide +kernel
theorem dX12_enter_6 : decode cX12_enter 6 = .ok (.sipush 200, 3) := by decide +kernel
theorem dX12_enter_9 : decode cX12_enter 9 = .ok (.if_icmp .ge 31, 3) := by decide +kernel
theorem dX12_enter_12 : decode cX12_enter 12 = .ok (.aload_n 0, 1) := by decide +kernel
theorem dX12_enter_13 : decode cX12_enter 13 = .ok (.getfield 74, 3) := by decide +kernel
theorem dX12_enter_16 : decode cX12_enter 16 = .ok (.sipush 200, 3) := by decide +kernel
theorem dX12_enter_19 : decode cX12_enter 19 = .ok (.iload_n 1, 1) := by decide +kernel
theorem dX12_enter_20 : decode cX12_enter 20 = .ok (.imul, 1) := by decide +kernel
theorem dX12_enter_21 : decode cX12_enter 21 = .ok (.aload_n 0, 1) := by decide +kernel
theorem dX12_enter_22 : decode cX12_enter 22 = .ok (.getfield 71, 3) := by decide +kernel
theorem dX12_enter_25 : decode cX12_enter 25 = .ok (.iload_n 1, 1) := by decide +kernel
theorem dX12_enter_26 : decode cX12_enter 26 = .ok (.iaload, 1) := by decide +kernel
theorem dX12_enter_27 : decode cX12_enter 27 = .ok (.iadd, 1) := by decide +kernel
theorem dX12_enter_28 : decode cX12_enter 28 = .ok (.iload_n 2, 1) := by decide +kernel
theorem dX12_enter_29 : decode cX12_enter 29 = .ok (.iastore, 1) := by decide +kernel
theorem dX12_enter_30 : decode cX12_enter 30 = .ok (.aload_n 0, 1) := by decide +kernel
theorem dX12_enter_31 : decode cX12_enter 31 = .ok (.getfield 71, 3) := by decide +kernel
theorem dX12_enter_34 : decode cX12_enter 34 = .ok (.iload_n 1, 1) := by decide +kernel
theorem dX12_enter_35 : decode cX12_enter 35 = .ok (.dup2, 1) := by decide +kernel
theorem dX12_enter_36 : decode cX12_enter 36 = .ok (.iaload, 1) := by decide +kernel
theorem dX12_enter_37 : decode cX12_enter 37 = .ok (.iconst 1, 1) := by decide +kernel
theorem dX12_enter_38 : decode cX12_enter 38 = .ok (.iadd, 1) := by decide +kernel
theorem dX12_enter_39 : decode cX12_enter 39 = .ok (.iastore, 1) := by decide +kernel
theorem dX12_enter_40 : decode cX12_enter 40 = .ok (.aload_n 0, 1) := by decide +kernel
theorem dX12_enter_41 : decode cX12_enter 41 = .ok (.getfield 68, 3) := by decide +kernel
theorem dX12_enter_44 : decode cX12_enter 44 = .ok (.iload_n 1, 1) := by decide +kernel
theorem dX12_enter_45 : decode cX12_enter 45 = .ok (.aload_n 0, 1) := by decide +kernel
theorem dX12_enter_46 : decode cX12_enter 46 = .ok (.iload_n 1, 1) := by decide +kernel
theorem dX12_enter_47 : decode cX12_enter 47 = .ok (.aload_n 0, 1) := by decide +kernel
theorem dX12_enter_48 : decode cX12_enter 48 = .ok (.getfield 68, 3) := by decide +kernel
theorem dX12_enter_51 : decode cX12_enter 51 = .ok (.iload_n 1, 1) := by decide +kernel
theorem dX12_enter_52 : decode cX12_enter 52 = .ok (.iaload, 1) := by decide +kernel
theorem dX12_enter_53 : decode cX12_enter 53 = .ok (.iload_n 2, 1) := by decide +kernel
theorem dX12_enter_54 : decode cX12_enter 54 = .ok (.invokevirtual 333, 3) := by decide +kernel
theorem dX12_enter_57 : decode cX12_enter 57 = .ok (.iastore, 1) := by decide +kernel
theorem dX12_enter_58 : decode cX12_enter 58 = .ok (.return_, 1) := by decide +kernel
theorem dX12_give_0 : decode cX12_give 0 = .ok (.aload_n 0, 1) := by decide +kernel
theorem dX12_give_1 : decode cX12_give 1 = .ok (.iconst 0, 1) := by decide +kernel
theorem dX12_give_2 : decode cX12_give 2 = .ok (.putfield 159, 3) := by decide +kernel
theorem dX12_give_5 : decode cX12_give 5 = .ok (.iload_n 1, 1) := by decide +kernel
theorem dX12_give_6 : decode cX12_give 6 = .ok (.invokestatic 166, 3) := by decide +kernel
theorem dX12_give_9 : decode cX12_give 9 = .ok (.ifCond .ne 9, 3) := by decide +kernel
theorem dX12_give_12 : decode cX12_give 12 = .ok (.aload_n 0, 1) := by decide +kernel
theorem dX12_give_13 : decode cX12_give 13 = .ok (.iconst 1, 1) := by decide +kernel
theorem dX12_give_14 : decode cX12_give 14 = .ok (.invokevirtual 289, 3) := by decide +kernel
theorem dX12_give_17 : decode cX12_give 17 = .ok (.ireturn, 1) := by decide +kernel
theorem dX12_give_18 : decode cX12_give 18 = .ok (.aload_n 0, 1) := by decide +kernel
theorem dX12_give_19 : decode cX12_give 19 = .ok (.getfield 71, 3) := by decide +kernel
theorem dX12_give_22 : decode cX12_give 22 = .ok (.iload_n 1, 1) := by decide +kernel
theorem dX12_give_23 : decode cX12_give 23 = .ok (.iaload, 1) := by decide +kernel
theorem dX12_give_24 : decode cX12_give 24 = .ok (.sipush 200, 3) := by decide +kernel
theorem dX12_give_27 : decode cX12_give 27 = .ok (.if_icmp .eq 13, 3) := by decide +kernel
theorem dX12_give_30 : decode cX12_give 30 = .ok (.iload_n 2, 1) := by decide +kernel
theorem dX12_give_31 : decode cX12_give 31 = .ok (.iconst 0, 1) := by decide +kernel
theorem dX12_give_32 : decode cX12_give 32 = .ok (.bipush 9, 2) := by decide +kernel
theorem dX12_give_34 : decode cX12_give 34 = .ok (.invokestatic 162, 3) := by decide +kernel
theorem dX12_give_37 : decode cX12_give 37 = .ok (.ifCond .ne 15, 3) := by decide +kernel
theorem dX12_give_40 : decode cX12_give 40 = .ok (.aload_n 0, 1) := by decide +kernel
theorem dX12_give_41 : decode cX12_give 41 = .ok (.getfield 86, 3) := by decide +kernel
theorem dX12_give_44 : decode cX12_give 44 = .ok (.iconst 1, 1) := by decide +kernel
theorem dX12_give_45 : decode cX12_give 45 = .ok (.dup2, 1) := by decide +kernel
theorem dX12_give_46 : decode cX12_give 46 = .ok (.iaload, 1) := by decide +kernel
theorem dX12_give_47 : decode cX12_give 47 = .ok (.iconst 1, 1) := by decide +kernel
theorem dX12_give_48 : decode cX12_give 48 = .ok (.iadd, 1) := by decide +kernel
theorem dX12_give_49 : decode cX12_give 49 = .ok (.iastore, 1) := by decide +kernel
theorem dX12_give_50 : decode cX12_give 50 = .ok (.iconst (-1), 1) := by decide +kernel
theorem dX12_give_51 : decode cX12_give 51 = .ok (.ireturn, 1) := by decide +kernel
theorem dX12_give_52 : decode cX12_give 52 = .ok (.aload_n 0, 1) := by decide +kernel
theorem dX12_give_53 : decode cX12_give 53 = .ok (.iload_n 1, 1) := by decide +kernel
theorem dX12_give_54 : decode cX12_give 54 = .ok (.iload_n 2, 1) := by decide +kernel
theorem dX12_give_55 : decode cX12_give 55 = .ok (.invokevirtual 413, 3) := by decide +kernel
theorem dX12_give_58 : decode cX12_give 58 = .ok (.aload_n 0, 1) := by decide +kernel
theorem dX12_give_59 : decode cX12_give 59 = .ok (.getfield 71, 3) := by decide +kernel
theorem dX12_give_62 : decode cX12_give 62 = .ok (.iload_n 1, 1) := by decide +kernel
theorem dX12_give_63 : decode cX12_give 63 = .ok (.iaload, 1) := by decide +kernel
theorem dX12_give_64 : decode cX12_give 64 = .ok (.ireturn, 1) := by decide +kernel
theorem dX12_stateAhead_0 : decode cX12_stateAhead 0 = .ok (.aload_n 0, 1) := by decide +kernel
theorem dX12_stateAhead_1 : decode cX12_stateAhead 1 = .ok (.getfield 65, 3) := by decide +kernel
theorem dX12_stateAhead_4 : decode cX12_stateAhead 4 = .ok (.iload_n 1, 1) := by decide +kernel
theorem dX12_stateAhead_5 : decode cX12_stateAhead 5 = .ok (.iaload, 1) := by decide +kernel
theorem dX12_stateAhead_6 : decode cX12_stateAhead 6 = .ok (.istore_n 3, 1) := by decide +kernel
theorem dX12_stateAhead_7 : decode cX12_stateAhead 7 = .ok (.iconst 0, 1) := by decide +kernel
theorem dX12_stateAhead_8 : decode cX12_stateAhead 8 = .ok (.istore 4, 2) := by decide +kernel
theorem dX12_stateAhead_10 : decode cX12_stateAhead 10 = .ok (.iload 4, 2) := by decide +kernel
theorem dX12_stateAhead_12 : decode cX12_stateAhead 12 = .ok (.iload_n 2, 1) := by decide +kernel
theorem dX12_stateAhead_13 : decode cX12_stateAhead 13 = .ok (.if_icmp .ge 29, 3) := by decide +kernel
theorem dX12_stateAhead_16 : decode cX12_stateAhead 16 = .ok (.aload_n 0, 1) := by decide +kernel
theorem dX12_stateAhead_17 : decode cX12_stateAhead 17 = .ok (.iload_n 1, 1) := by decide +kernel
theorem dX12_stateAhead_18 : decode cX12_stateAhead 18 = .ok (.iload_n 3, 1) := by decide +kernel
theorem dX12_stateAhead_19 : decode cX12_stateAhead 19 = .ok (.aload_n 0, 1) := by decide +kernel
theorem dX12_stateAhead_20 : decode cX12_stateAhead 20 = .ok (.getfield 74, 3) := by decide +kernel
theorem dX12_stateAhead_23 : decode cX12_stateAhead 23 = .ok (.sipush 200, 3) := by decide +kernel
theorem dX12_stateAhead_26 : decode cX12_stateAhead 26 = .ok (.iload_n 1, 1) := by decide +kernel
theorem dX12_stateAhead_27 : decode cX12_stateAhead 27 = .ok (.imul, 1) := by decide +kernel
theorem dX12_stateAhead_28 : decode cX12_stateAhead 28 = .ok (.iload 4, 2) := by decide +kernel
theorem dX12_stateAhead_30 : decode cX12_stateAhead 30 = .ok (.iadd, 1) := by decide +kernel
theorem dX12_stateAhead_31 : decode cX12_stateAhead 31 = .ok (.iaload, 1) := by decide +kernel
theorem dX12_stateAhead_32 : decode cX12_stateAhead 32 = .ok (.invokevirtual 333, 3) := by decide +kernel
theorem dX12_stateAhead_35 : decode cX12_stateAhead 35 = .ok (.istore_n 3, 1) := by decide +kernel
theorem dX12_stateAhead_36 : decode cX12_stateAhead 36 = .ok (.iinc 4 1, 3) := by decide +kernel
theorem dX12_stateAhead_39 : decode cX12_stateAhead 39 = .ok (.goto (-29), 3) := by decide +kernel
theorem dX12_stateAhead_42 : decode cX12_stateAhead 42 = .ok (.iload_n 3, 1) := by decide +kernel
theorem dX12_stateAhead_43 : decode cX12_stateAhead 43 = .ok (.ireturn, 1) := by decide +kernel
theorem dX12_explained_0 : decode cX12_explained 0 = .ok (.aload_n 0, 1) := by decide +kernel
theorem dX12_explained_1 : decode cX12_explained 1 = .ok (.iload_n 1, 1) := by decide +kernel
theorem dX12_explained_2 : decode cX12_explained 2 = .ok (.iload_n 2, 1) := by decide +kernel
theorem dX12_explained_3 : decode cX12_explained 3 = .ok (.invokevirtual 416, 3) := by decide +kernel
theorem dX12_explained_6 : decode cX12_explained 6 = .ok (.istore_n 3, 1) := by decide +kernel
theorem dX12_explained_7 : decode cX12_explained 7 = .ok (.iconst 0, 1) := by decide +kernel
theorem dX12_explained_8 : decode cX12_explained 8 = .ok (.istore 4, 2) := by decide +kernel
theorem dX12_explained_10 : decode cX12_explained 10 = .ok (.iconst 0, 1) := by decide +kernel
theorem dX12_explained_11 : decode cX12_explained 11 = .ok (.istore 5, 2) := by decide +kernel
theorem dX12_explained_13 : decode cX12_explained 13 = .ok (.iload 5, 2) := by decide +kernel
theorem dX12_explained_15 : decode cX12_explained 15 = .ok (.aload_n 0, 1) := by decide +kernel
theorem dX12_explained_16 : decode cX12_explained 16 = .ok (.getfield 42, 3) := by decide +kernel
theorem dX12_explained_19 : decode cX12_explained 19 = .ok (.iload_n 1, 1) := by decide +kernel
theorem dX12_explained_20 : decode cX12_explained 20 = .ok (.iaload, 1) := by decide +kernel
theorem dX12_explained_21 : decode cX12_explained 21 = .ok (.if_icmp .ge 45, 3) := by decide +kernel
theorem dX12_explained_24 : decode cX12_explained 24 = .ok (.iload 4, 2) := by decide +kernel
theorem dX12_explained_26 : decode cX12_explained 26 = .ok (.aload_n 0, 1) := by decide +kernel
theorem dX12_explained_27 : decode cX12_explained 27 = .ok (.iload_n 1, 1) := by decide +kernel
theorem dX12_explained_28 : decode cX12_explained 28 = .ok (.iload 5, 2) := by decide +kernel
theorem dX12_explained_30 : decode cX12_explained 30 = .ok (.iload_n 3, 1) := by decide +kernel
theorem dX12_explained_31 : decode cX12_explained 31 = .ok (.invokevirtual 330, 3) := by decide +kernel
theorem dX12_explained_34 : decode cX12_explained 34 = .ok (.aload_n 0, 1) := by decide +kernel
theorem dX12_explained_35 : decode cX12_explained 35 = .ok (.getfield 74, 3) := by decide +kernel
theorem dX12_explained_38 : decode cX12_explained 38 = .ok (.sipush 200, 3) := by decide +kernel
theorem dX12_explained_41 : decode cX12_explained 41 = .ok (.iload_n 1, 1) := by decide +kernel
theorem dX12_explained_42 : decode cX12_explained 42 = .ok (.imul, 1) := by decide +kernel
theorem dX12_explained_43 : decode cX12_explained 43 = .ok (.iload_n 2, 1) := by decide +kernel
theorem dX12_explained_44 : decode cX12_explained 44 = .ok (.iadd, 1) := by decide +kernel
theorem dX12_explained_45 : decode cX12_explained 45 = .ok (.iaload, 1) := by decide +kernel
theorem dX12_explained_46 : decode cX12_explained 46 = .ok (.if_icmp .ne 10, 3) := by decide +kernel
theorem dX12_explained_49 : decode cX12_explained 49 = .ok (.iconst 1, 1) := by decide +kernel
theorem dX12_explained_50 : decode cX12_explained 50 = .ok (.iload 5, 2) := by decide +kernel
theorem dX12_explained_52 : decode cX12_explained 52 = .ok (.ishl, 1) := by decide +kernel
theorem dX12_explained_53 : decode cX12_explained 53 = .ok (.goto 4, 3) := by decide +kernel
theorem dX12_explained_56 : decode cX12_explained 56 = .ok (.iconst 0, 1) := by decide +kernel
theorem dX12_explained_57 : decode cX12_explained 57 = .ok (.ior, 1) := by decide +kernel
theorem dX12_explained_58 : decode cX12_explained 58 = .ok (.istore 4, 2) := by decide +kernel
theorem dX12_explained_60 : decode cX12_explained 60 = .ok (.iinc 5 1, 3) := by decide +kernel
theorem dX12_explained_63 : decode cX12_explained 63 = .ok (.goto (-50), 3) := by decide +kernel
theorem dX12_explained_66 : decode cX12_explained 66 = .ok (.iload 4, 2) := by decide +kernel
theorem dX12_explained_68 : decode cX12_explained 68 = .ok (.ireturn, 1) := by decide +kernel
theorem dX12_given_0 : decode cX12_given 0 = .ok (.aload_n 0, 1) := by decide +kernel
theorem dX12_given_1 : decode cX12_given 1 = .ok (.iconst 0, 1) := by decide +kernel
theorem dX12_given_2 : decode cX12_given 2 = .ok (.putfield 159, 3) := by decide +kernel
theorem dX12_given_5 : decode cX12_given 5 = .ok (.iload_n 1, 1) := by decide +kernel
theorem dX12_given_6 : decode cX12_given 6 = .ok (.invokestatic 166, 3) := by decide +kernel
theorem dX12_given_9 : decode cX12_given 9 = .ok (.ifCond .eq 28, 3) := by decide +kernel
theorem dX12_given_12 : decode cX12_given 12 = .ok (.iload_n 2, 1) := by decide +kernel
theorem dX12_given_13 : decode cX12_given 13 = .ok (.iconst 0, 1) := by decide +kernel
theorem dX12_given_14 : decode cX12_given 14 = .ok (.aload_n 0, 1) := by decide +kernel
theorem dX12_given_15 : decode cX12_given 15 = .ok (.getfield 71, 3) := by decide +kernel
theorem dX12_given_18 : decode cX12_given 18 = .ok (.iload_n 1, 1) := by decide +kernel
theorem dX12_given_19 : decode cX12_given 19 = .ok (.iaload, 1) := by decide +kernel
theorem dX12_given_20 : decode cX12_given 20 = .ok (.iconst 1, 1) := by decide +kernel
theorem dX12_given_21 : decode cX12_given 21 = .ok (.isub, 1) := by decide +kernel
theorem dX12_given_22 : decode cX12_given 22 = .ok (.invokestatic 162, 3) := by decide +kernel
theorem dX12_given_25 : decode cX12_given 25 = .ok (.ifCond .eq 12, 3) := by decide +kernel
theorem dX12_given_28 : decode cX12_given 28 = .ok (.iload_n 3, 1) := by decide +kernel
theorem dX12_given_29 : decode cX12_given 29 = .ok (.iconst 0, 1) := by decide +kernel
theorem dX12_given_30 : decode cX12_given 30 = .ok (.iconst 2, 1) := by decide +kernel
theorem dX12_given_31 : decode cX12_given 31 = .ok (.invokestatic 162, 3) := by decide +kernel
theorem dX12_given_34 : decode cX12_given 34 = .ok (.ifCond .ne 9, 3) := by decide +kernel
theorem dX12_given_37 : decode cX12_given 37 = .ok (.aload_n 0, 1) := by decide +kernel
theorem dX12_given_38 : decode cX12_given 38 = .ok (.iconst 1, 1) := by decide +kernel
theorem dX12_given_39 : decode cX12_given 39 = .ok (.invokevirtual 289, 3) := by decide +kernel
theorem dX12_given_42 : decode cX12_given 42 = .ok (.ireturn, 1) := by decide +kernel
theorem dX12_given_43 : decode cX12_given 43 = .ok (.iload_n 3, 1) := by decide +kernel
theorem dX12_given_44 : decode cX12_given 44 = .ok (.ifCond .ne 18, 3) := by decide +kernel
theorem dX12_given_47 : decode cX12_given 47 = .ok (.aload_n 0, 1) := by decide +kernel
theorem dX12_given_48 : decode cX12_given 48 = .ok (.getfield 74, 3) := by decide +kernel
theorem dX12_given_51 : decode cX12_given 51 = .ok (.sipush 200, 3) := by decide +kernel
theorem dX12_given_54 : decode cX12_given 54 = .ok (.iload_n 1, 1) := by decide +kernel
theorem dX12_given_55 : decode cX12_given 55 = .ok (.imul, 1) := by decide +kernel
theorem dX12_given_56 : decode cX12_given 56 = .ok (.iload_n 2, 1) := by decide +kernel
theorem dX12_given_57 : decode cX12_given 57 = .ok (.iadd, 1) := by decide +kernel
theorem dX12_given_58 : decode cX12_given 58 = .ok (.iaload, 1) := by decide +kernel
theorem dX12_given_59 : decode cX12_given 59 = .ok (.goto 23, 3) := by decide +kernel
theorem dX12_given_62 : decode cX12_given 62 = .ok (.iload_n 3, 1) := by decide +kernel
theorem dX12_given_63 : decode cX12_given 63 = .ok (.iconst 1, 1) := by decide +kernel
theorem dX12_given_64 : decode cX12_given 64 = .ok (.if_icmp .ne 12, 3) := by decide +kernel
theorem dX12_given_67 : decode cX12_given 67 = .ok (.aload_n 0, 1) := by decide +kernel
theorem dX12_given_68 : decode cX12_given 68 = .ok (.iload_n 1, 1) := by decide +kernel
theorem dX12_given_69 : decode cX12_given 69 = .ok (.iload_n 2, 1) := by decide +kernel
theorem dX12_given_70 : decode cX12_given 70 = .ok (.invokevirtual 416, 3) := by decide +kernel
theorem dX12_given_73 : decode cX12_given 73 = .ok (.goto 9, 3) := by decide +kernel
theorem dX12_given_76 : decode cX12_given 76 = .ok (.aload_n 0, 1) := by decide +kernel
theorem dX12_given_77 : decode cX12_given 77 = .ok (.iload_n 1, 1) := by decide +kernel
theorem dX12_given_78 : decode cX12_given 78 = .ok (.iload_n 2, 1) := by decide +kernel
theorem dX12_given_79 : decode cX12_given 79 = .ok (.invokevirtual 419, 3) := by decide +kernel
theorem dX12_given_82 : decode cX12_given 82 = .ok (.ireturn, 1) := by decide +kernel
theorem dX12_who_0 : decode cX12_who 0 = .ok (.aload_n 0, 1) := by decide +kernel
theorem dX12_who_1 : decode cX12_who 1 = .ok (.iconst 0, 1) := by decide +kernel
theorem dX12_who_2 : decode cX12_who 2 = .ok (.putfield 159, 3) := by decide +kernel
theorem dX12_who_5 : decode cX12_who 5 = .ok (.aload_n 0, 1) := by decide +kernel
theorem dX12_who_6 : decode cX12_who 6 = .ok (.iload_n 1, 1) := by decide +kernel
theorem dX12_who_7 : decode cX12_who 7 = .ok (.iload_n 2, 1) := by decide +kernel
theorem dX12_who_8 : decode cX12_who 8 = .ok (.invokevirtual 305, 3) := by decide +kernel
theorem dX12_who_11 : decode cX12_who 11 = .ok (.ifCond .eq 12, 3) := by decide +kernel
theorem dX12_who_14 : decode cX12_who 14 = .ok (.iload_n 3, 1) := by decide +kernel
theorem dX12_who_15 : decode cX12_who 15 = .ok (.ifCond .lt 8, 3) := by decide +kernel
theorem dX12_who_18 : decode cX12_who 18 = .ok (.iload_n 3, 1) := by decide +kernel
theorem dX12_who_19 : decode cX12_who 19 = .ok (.iconst 1, 1) := by decide +kernel
theorem dX12_who_20 : decode cX12_who 20 = .ok (.if_icmp .le 9, 3) := by decide +kernel
theorem dX12_who_23 : decode cX12_who 23 = .ok (.aload_n 0, 1) := by decide +kernel
theorem dX12_who_24 : decode cX12_who 24 = .ok (.iconst 1, 1) := by decide +kernel
theorem dX12_who_25 : decode cX12_who 25 = .ok (.invokevirtual 289, 3) := by decide +kernel
theorem dX12_who_28 : decode cX12_who 28 = .ok (.ireturn, 1) := by decide +kernel
theorem dX12_who_29 : decode cX12_who 29 = .ok (.iconst 0, 1) := by decide +kernel
theorem dX12_who_30 : decode cX12_who 30 = .ok (.istore 4, 2) := by decide +kernel
theorem dX12_who_32 : decode cX12_who 32 = .ok (.iconst 0, 1) := by decide +kernel
theorem dX12_who_33 : decode cX12_who 33 = .ok (.istore 5, 2) := by decide +kernel
theorem dX12_who_35 : decode cX12_who 35 = .ok (.iload 5, 2) := by decide +kernel
theorem dX12_who_37 : decode cX12_who 37 = .ok (.aload_n 0, 1) := by decide +kernel
theorem dX12_who_38 : decode cX12_who 38 = .ok (.getfield 71, 3) := by decide +kernel
theorem dX12_who_41 : decode cX12_who 41 = .ok (.iload_n 1, 1) := by decide +kernel
theorem dX12_who_42 : decode cX12_who 42 = .ok (.iaload, 1) := by decide +kernel
theorem dX12_who_43 : decode cX12_who 43 = .ok (.if_icmp .ge 53, 3) := by decide +kernel
theorem dX12_who_46 : decode cX12_who 46 = .ok (.aload_n 0, 1) := by decide +kernel
theorem dX12_who_47 : decode cX12_who 47 = .ok (.iload_n 1, 1) := by decide +kernel
theorem dX12_who_48 : decode cX12_who 48 = .ok (.iload 5, 2) := by decide +kernel
theorem dX12_who_50 : decode cX12_who 50 = .ok (.invokevirtual 419, 3) := by decide +kernel
theorem dX12_who_53 : decode cX12_who 53 = .ok (.istore 6, 2) := by decide +kernel
theorem dX12_who_55 : decode cX12_who 55 = .ok (.iload 4, 2) := by decide +kernel
theorem dX12_who_57 : decode cX12_who 57 = .ok (.iload_n 3, 1) := by decide +kernel
theorem dX12_who_58 : decode cX12_who 58 = .ok (.ifCond .ne 14, 3) := by decide +kernel
theorem dX12_who_61 : decode cX12_who 61 = .ok (.iload 6, 2) := by decide +kernel
theorem dX12_who_63 : decode cX12_who 63 = .ok (.iconst 1, 1) := by decide +kernel
theorem dX12_who_64 : decode cX12_who 64 = .ok (.iload_n 2, 1) := by decide +kernel
theorem dX12_who_65 : decode cX12_who 65 = .ok (.ishl, 1) := by decide +kernel
theorem dX12_who_66 : decode cX12_who 66 = .ok (.if_icmp .ne 20, 3) := by decide +kernel
theorem dX12_who_69 : decode cX12_who 69 = .ok (.goto 13, 3) := by decide +kernel
theorem dX12_who_72 : decode cX12_who 72 = .ok (.iload 6, 2) := by decide +kernel
theorem dX12_who_74 : decode cX12_who 74 = .ok (.iload_n 2, 1) := by decide +kernel
theorem dX12_who_75 : decode cX12_who 75 = .ok (.ishr, 1) := by decide +kernel
theorem dX12_who_76 : decode cX12_who 76 = .ok (.iconst 1, 1) := by decide +kernel
theorem dX12_who_77 : decode cX12_who 77 = .ok (.iand, 1) := by decide +kernel
theorem dX12_who_78 : decode cX12_who 78 = .ok (.iconst 1, 1) := by decide +kernel
theorem dX12_who_79 : decode cX12_who 79 = .ok (.if_icmp .ne 7, 3) := by decide +kernel
theorem dX12_who_82 : decode cX12_who 82 = .ok (.iconst 1, 1) := by decide +kernel
theorem dX12_who_83 : decode cX12_who 83 = .ok (.goto 4, 3) := by decide +kernel
theorem dX12_who_86 : decode cX12_who 86 = .ok (.iconst 0, 1) := by decide +kernel
theorem dX12_who_87 : decode cX12_who 87 = .ok (.iadd, 1) := by decide +kernel
theorem dX12_who_88 : decode cX12_who 88 = .ok (.istore 4, 2) := by decide +kernel
theorem dX12_who_90 : decode cX12_who 90 = .ok (.iinc 5 1, 3) := by decide +kernel
theorem dX12_who_93 : decode cX12_who 93 = .ok (.goto (-58), 3) := by decide +kernel
theorem dX12_who_96 : decode cX12_who 96 = .ok (.iload 4, 2) := by decide +kernel
theorem dX12_who_98 : decode cX12_who 98 = .ok (.ireturn, 1) := by decide +kernel
theorem dX12_strange_0 : decode cX12_strange 0 = .ok (.aload_n 0, 1) := by decide +kernel
theorem dX12_strange_1 : decode cX12_strange 1 = .ok (.iconst 0, 1) := by decide +kernel
theorem dX12_strange_2 : decode cX12_strange 2 = .ok (.putfield 159, 3) := by decide +kernel
theorem dX12_strange_5 : decode cX12_strange 5 = .ok (.iload_n 1, 1) := by decide +kernel
theorem dX12_strange_6 : decode cX12_strange 6 = .ok (.invokestatic 166, 3) := by decide +kernel
theorem dX12_strange_9 : decode cX12_strange 9 = .ok (.ifCond .ne 9, 3) := by decide +kernel
theorem dX12_strange_12 : decode cX12_strange 12 = .ok (.aload_n 0, 1) := by decide +kernel
theorem dX12_strange_13 : decode cX12_strange 13 = .ok (.iconst 1, 1) := by decide +kernel
theorem dX12_strange_14 : decode cX12_strange 14 = .ok (.invokevirtual 289, 3) := by decide +kernel
theorem dX12_strange_17 : decode cX12_strange 17 = .ok (.ireturn, 1) := by decide +kernel
theorem dX12_strange_18 : decode cX12_strange 18 = .ok (.iconst 0, 1) := by decide +kernel
theorem dX12_strange_19 : decode cX12_strange 19 = .ok (.istore_n 2, 1) := by decide +kernel
theorem dX12_strange_20 : decode cX12_strange 20 = .ok (.iconst 0, 1) := by decide +kernel
theorem dX12_strange_21 : decode cX12_strange 21 = .ok (.istore_n 3, 1) := by decide +kernel
theorem dX12_strange_22 : decode cX12_strange 22 = .ok (.iload_n 3, 1) := by decide +kernel
theorem dX12_strange_23 : decode cX12_strange 23 = .ok (.aload_n 0, 1) := by decide +kernel
theorem dX12_strange_24 : decode cX12_strange 24 = .ok (.getfield 71, 3) := by decide +kernel
theorem dX12_strange_27 : decode cX12_strange 27 = .ok (.iload_n 1, 1) := by decide +kernel
theorem dX12_strange_28 : decode cX12_strange 28 = .ok (.iaload, 1) := by decide +kernel
theorem dX12_strange_29 : decode cX12_strange 29 = .ok (.if_icmp .ge 26, 3) := by decide +kernel
theorem dX12_strange_32 : decode cX12_strange 32 = .ok (.iload_n 2, 1) := by decide +kernel
theorem dX12_strange_33 : decode cX12_strange 33 = .ok (.aload_n 0, 1) := by decide +kernel
theorem dX12_strange_34 : decode cX12_strange 34 = .ok (.iload_n 1, 1) := by decide +kernel
theorem dX12_strange_35 : decode cX12_strange 35 = .ok (.iload_n 3, 1) := by decide +kernel
theorem dX12_strange_36 : decode cX12_strange 36 = .ok (.invokevirtual 419, 3) := by decide +kernel
theorem dX12_strange_39 : decode cX12_strange 39 = .ok (.ifCond .ne 7, 3) := by decide +kernel
theorem dX12_strange_42 : decode cX12_strange 42 = .ok (.iconst 1, 1) := by decide +kernel
theorem dX12_strange_43 : decode cX12_strange 43 = .ok (.goto 4, 3) := by decide +kernel
theorem dX12_strange_46 : decode cX12_strange 46 = .ok (.iconst 0, 1) := by decide +kernel
theorem dX12_strange_47 : decode cX12_strange 47 = .ok (.iadd, 1) := by decide +kernel
theorem dX12_strange_48 : decode cX12_strange 48 = .ok (.istore_n 2, 1) := by decide +kernel
theorem dX12_strange_49 : decode cX12_strange 49 = .ok (.iinc 3 1, 3) := by decide +kernel
theorem dX12_strange_52 : decode cX12_strange 52 = .ok (.goto (-30), 3) := by decide +kernel
theorem dX12_strange_55 : decode cX12_strange 55 = .ok (.iload_n 2, 1) := by decide +kernel
theorem dX12_strange_56 : decode cX12_strange 56 = .ok (.ireturn, 1) := by decide +kernel
theorem dX12_bitsOf_0 : decode cX12_bitsOf 0 = .ok (.iconst 0, 1) := by decide +kernel
theorem dX12_bitsOf_1 : decode cX12_bitsOf 1 = .ok (.istore_n 1, 1) := by decide +kernel
theorem dX12_bitsOf_2 : decode cX12_bitsOf 2 = .ok (.iconst 0, 1) := by decide +kernel
theorem dX12_bitsOf_3 : decode cX12_bitsOf 3 = .ok (.istore_n 2, 1) := by decide +kernel
theorem dX12_bitsOf_4 : decode cX12_bitsOf 4 = .ok (.iload_n 2, 1) := by decide +kernel
theorem dX12_bitsOf_5 : decode cX12_bitsOf 5 = .ok (.bipush 8, 2) := by decide +kernel
theorem dX12_bitsOf_7 : decode cX12_bitsOf 7 = .ok (.if_icmp .ge 17, 3) := by decide +kernel
theorem dX12_bitsOf_10 : decode cX12_bitsOf 10 = .ok (.iload_n 1, 1) := by decide +kernel
theorem dX12_bitsOf_11 : decode cX12_bitsOf 11 = .ok (.iload_n 0, 1) := by decide +kernel
theorem dX12_bitsOf_12 : decode cX12_bitsOf 12 = .ok (.iload_n 2, 1) := by decide +kernel
theorem dX12_bitsOf_13 : decode cX12_bitsOf 13 = .ok (.ishr, 1) := by decide +kernel
theorem dX12_bitsOf_14 : decode cX12_bitsOf 14 = .ok (.iconst 1, 1) := by decide +kernel
theorem dX12_bitsOf_15 : decode cX12_bitsOf 15 = .ok (.iand, 1) := by decide +kernel
theorem dX12_bitsOf_16 : decode cX12_bitsOf 16 = .ok (.iadd, 1) := by decide +kernel
theorem dX12_bitsOf_17 : decode cX12_bitsOf 17 = .ok (.istore_n 1, 1) := by decide +kernel
theorem dX12_bitsOf_18 : decode cX12_bitsOf 18 = .ok (.iinc 2 1, 3) := by decide +kernel
theorem dX12_bitsOf_21 : decode cX12_bitsOf 21 = .ok (.goto (-17), 3) := by decide +kernel
theorem dX12_bitsOf_24 : decode cX12_bitsOf 24 = .ok (.iload_n 1, 1) := by decide +kernel
theorem dX12_bitsOf_25 : decode cX12_bitsOf 25 = .ok (.ireturn, 1) := by decide +kernel
theorem dX12_explainsAll_0 : decode cX12_explainsAll 0 = .ok (.iconst 0, 1) := by decide +kernel
theorem dX12_explainsAll_1 : decode cX12_explainsAll 1 = .ok (.istore_n 3, 1) := by decide +kernel
theorem dX12_explainsAll_2 : decode cX12_explainsAll 2 = .ok (.iload_n 3, 1) := by decide +kernel
theorem dX12_explainsAll_3 : decode cX12_explainsAll 3 = .ok (.aload_n 0, 1) := by decide +kernel
theorem dX12_explainsAll_4 : decode cX12_explainsAll 4 = .ok (.getfield 71, 3) := by decide +kernel
theorem dX12_explainsAll_7 : decode cX12_explainsAll 7 = .ok (.iload_n 1, 1) := by decide +kernel
theorem dX12_explainsAll_8 : decode cX12_explainsAll 8 = .ok (.iaload, 1) := by decide +kernel
theorem dX12_explainsAll_9 : decode cX12_explainsAll 9 = .ok (.if_icmp .ge 31, 3) := by decide +kernel
theorem dX12_explainsAll_12 : decode cX12_explainsAll 12 = .ok (.aload_n 0, 1) := by decide +kernel
theorem dX12_explainsAll_13 : decode cX12_explainsAll 13 = .ok (.getfield 125, 3) := by decide +kernel
theorem dX12_explainsAll_16 : decode cX12_explainsAll 16 = .ok (.iload_n 3, 1) := by decide +kernel
theorem dX12_explainsAll_17 : decode cX12_explainsAll 17 = .ok (.iaload, 1) := by decide +kernel
theorem dX12_explainsAll_18 : decode cX12_explainsAll 18 = .ok (.ifCond .eq 16, 3) := by decide +kernel
theorem dX12_explainsAll_21 : decode cX12_explainsAll 21 = .ok (.aload_n 0, 1) := by decide +kernel
theorem dX12_explainsAll_22 : decode cX12_explainsAll 22 = .ok (.getfield 125, 3) := by decide +kernel
theorem dX12_explainsAll_25 : decode cX12_explainsAll 25 = .ok (.iload_n 3, 1) := by decide +kernel
theorem dX12_explainsAll_26 : decode cX12_explainsAll 26 = .ok (.iaload, 1) := by decide +kernel
theorem dX12_explainsAll_27 : decode cX12_explainsAll 27 = .ok (.iload_n 2, 1) := by decide +kernel
theorem dX12_explainsAll_28 : decode cX12_explainsAll 28 = .ok (.iand, 1) := by decide +kernel
theorem dX12_explainsAll_29 : decode cX12_explainsAll 29 = .ok (.ifCond .ne 5, 3) := by decide +kernel
theorem dX12_explainsAll_32 : decode cX12_explainsAll 32 = .ok (.iconst 0, 1) := by decide +kernel
theorem dX12_explainsAll_33 : decode cX12_explainsAll 33 = .ok (.ireturn, 1) := by decide +kernel
theorem dX12_explainsAll_34 : decode cX12_explainsAll 34 = .ok (.iinc 3 1, 3) := by decide +kernel
theorem dX12_explainsAll_37 : decode cX12_explainsAll 37 = .ok (.goto (-35), 3) := by decide +kernel
theorem dX12_explainsAll_40 : decode cX12_explainsAll 40 = .ok (.iconst 1, 1) := by decide +kernel
theorem dX12_explainsAll_41 : decode cX12_explainsAll 41 = .ok (.ireturn, 1) := by decide +kernel
theorem dX12_fewest_0 : decode cX12_fewest 0 = .ok (.aload_n 0, 1) := by decide +kernel
theorem dX12_fewest_1 : decode cX12_fewest 1 = .ok (.iconst 0, 1) := by decide +kernel
theorem dX12_fewest_2 : decode cX12_fewest 2 = .ok (.putfield 159, 3) := by decide +kernel
theorem dX12_fewest_5 : decode cX12_fewest 5 = .ok (.iload_n 1, 1) := by decide +kernel
theorem dX12_fewest_6 : decode cX12_fewest 6 = .ok (.invokestatic 166, 3) := by decide +kernel
theorem dX12_fewest_9 : decode cX12_fewest 9 = .ok (.ifCond .ne 9, 3) := by decide +kernel
theorem dX12_fewest_12 : decode cX12_fewest 12 = .ok (.aload_n 0, 1) := by decide +kernel
theorem dX12_fewest_13 : decode cX12_fewest 13 = .ok (.iconst 1, 1) := by decide +kernel
theorem dX12_fewest_14 : decode cX12_fewest 14 = .ok (.invokevirtual 289, 3) := by decide +kernel
theorem dX12_fewest_17 : decode cX12_fewest 17 = .ok (.ireturn, 1) := by decide +kernel
theorem dX12_fewest_18 : decode cX12_fewest 18 = .ok (.iconst 0, 1) := by decide +kernel
theorem dX12_fewest_19 : decode cX12_fewest 19 = .ok (.istore_n 2, 1) := by decide +kernel
theorem dX12_fewest_20 : decode cX12_fewest 20 = .ok (.iload_n 2, 1) := by decide +kernel
theorem dX12_fewest_21 : decode cX12_fewest 21 = .ok (.aload_n 0, 1) := by decide +kernel
theorem dX12_fewest_22 : decode cX12_fewest 22 = .ok (.getfield 71, 3) := by decide +kernel
theorem dX12_fewest_25 : decode cX12_fewest 25 = .ok (.iload_n 1, 1) := by decide +kernel
theorem dX12_fewest_26 : decode cX12_fewest 26 = .ok (.iaload, 1) := by decide +kernel
theorem dX12_fewest_27 : decode cX12_fewest 27 = .ok (.if_icmp .ge 21, 3) := by decide +kernel
theorem dX12_fewest_30 : decode cX12_fewest 30 = .ok (.aload_n 0, 1) := by decide +kernel
theorem dX12_fewest_31 : decode cX12_fewest 31 = .ok (.getfield 125, 3) := by decide +kernel
theorem dX12_fewest_34 : decode cX12_fewest 34 = .ok (.iload_n 2, 1) := by decide +kernel
theorem dX12_fewest_35 : decode cX12_fewest 35 = .ok (.aload_n 0, 1) := by decide +kernel
theorem dX12_fewest_36 : decode cX12_fewest 36 = .ok (.iload_n 1, 1) := by decide +kernel
theorem dX12_fewest_37 : decode cX12_fewest 37 = .ok (.iload_n 2, 1) := by decide +kernel
theorem dX12_fewest_38 : decode cX12_fewest 38 = .ok (.invokevirtual 419, 3) := by decide +kernel
theorem dX12_fewest_41 : decode cX12_fewest 41 = .ok (.iastore, 1) := by decide +kernel
theorem dX12_fewest_42 : decode cX12_fewest 42 = .ok (.iinc 2 1, 3) := by decide +kernel
theorem dX12_fewest_45 : decode cX12_fewest 45 = .ok (.goto (-25), 3) := by decide +kernel
theorem dX12_fewest_48 : decode cX12_fewest 48 = .ok (.iconst 1, 1) := by decide +kernel
theorem dX12_fewest_49 : decode cX12_fewest 49 = .ok (.aload_n 0, 1) := by decide +kernel
theorem dX12_fewest_50 : decode cX12_fewest 50 = .ok (.getfield 42, 3) := by decide +kernel
theorem dX12_fewest_53 : decode cX12_fewest 53 = .ok (.iload_n 1, 1) := by decide +kernel
theorem dX12_fewest_54 : decode cX12_fewest 54 = .ok (.iaload, 1) := by decide +kernel
theorem dX12_fewest_55 : decode cX12_fewest 55 = .ok (.ishl, 1) := by decide +kernel
theorem dX12_fewest_56 : decode cX12_fewest 56 = .ok (.iconst 1, 1) := by decide +kernel
theorem dX12_fewest_57 : decode cX12_fewest 57 = .ok (.isub, 1) := by decide +kernel
theorem dX12_fewest_58 : decode cX12_fewest 58 = .ok (.istore_n 2, 1) := by decide +kernel
theorem dX12_fewest_59 : decode cX12_fewest 59 = .ok (.iconst 0, 1) := by decide +kernel
theorem dX12_fewest_60 : decode cX12_fewest 60 = .ok (.istore_n 3, 1) := by decide +kernel
theorem dX12_fewest_61 : decode cX12_fewest 61 = .ok (.iload_n 3, 1) := by decide +kernel
theorem dX12_fewest_62 : decode cX12_fewest 62 = .ok (.iconst 1, 1) := by decide +kernel
theorem dX12_fewest_63 : decode cX12_fewest 63 = .ok (.aload_n 0, 1) := by decide +kernel
theorem dX12_fewest_64 : decode cX12_fewest 64 = .ok (.getfield 42, 3) := by decide +kernel
theorem dX12_fewest_67 : decode cX12_fewest 67 = .ok (.iload_n 1, 1) := by decide +kernel
theorem dX12_fewest_68 : decode cX12_fewest 68 = .ok (.iaload, 1) := by decide +kernel
theorem dX12_fewest_69 : decode cX12_fewest 69 = .ok (.ishl, 1) := by decide +kernel
theorem dX12_fewest_70 : decode cX12_fewest 70 = .ok (.if_icmp .ge 59, 3) := by decide +kernel
theorem dX12_fewest_73 : decode cX12_fewest 73 = .ok (.iload_n 3, 1) := by decide +kernel
theorem dX12_fewest_74 : decode cX12_fewest 74 = .ok (.invokestatic 422, 3) := by decide +kernel
theorem dX12_fewest_77 : decode cX12_fewest 77 = .ok (.iload_n 2, 1) := by decide +kernel
theorem dX12_fewest_78 : decode cX12_fewest 78 = .ok (.invokestatic 422, 3) := by decide +kernel
theorem dX12_fewest_81 : decode cX12_fewest 81 = .ok (.if_icmp .lt 19, 3) := by decide +kernel
theorem dX12_fewest_84 : decode cX12_fewest 84 = .ok (.iload_n 3, 1) := by decide +kernel
theorem dX12_fewest_85 : decode cX12_fewest 85 = .ok (.invokestatic 422, 3) := by decide +kernel
theorem dX12_fewest_88 : decode cX12_fewest 88 = .ok (.iload_n 2, 1) := by decide +kernel
theorem dX12_fewest_89 : decode cX12_fewest 89 = .ok (.invokestatic 422, 3) := by decide +kernel
theorem dX12_fewest_92 : decode cX12_fewest 92 = .ok (.if_icmp .ne 12, 3) := by decide +kernel
theorem dX12_fewest_95 : decode cX12_fewest 95 = .ok (.iload_n 3, 1) := by decide +kernel
theorem dX12_fewest_96 : decode cX12_fewest 96 = .ok (.iload_n 2, 1) := by decide +kernel
theorem dX12_fewest_97 : decode cX12_fewest 97 = .ok (.if_icmp .ge 7, 3) := by decide +kernel
theorem dX12_fewest_100 : decode cX12_fewest 100 = .ok (.iconst 1, 1) := by decide +kernel
theorem dX12_fewest_101 : decode cX12_fewest 101 = .ok (.goto 4, 3) := by decide +kernel
theorem dX12_fewest_104 : decode cX12_fewest 104 = .ok (.iconst 0, 1) := by decide +kernel
theorem dX12_fewest_105 : decode cX12_fewest 105 = .ok (.istore 4, 2) := by decide +kernel
theorem dX12_fewest_107 : decode cX12_fewest 107 = .ok (.iload 4, 2) := by decide +kernel
theorem dX12_fewest_109 : decode cX12_fewest 109 = .ok (.ifCond .eq 14, 3) := by decide +kernel
theorem dX12_fewest_112 : decode cX12_fewest 112 = .ok (.aload_n 0, 1) := by decide +kernel
theorem dX12_fewest_113 : decode cX12_fewest 113 = .ok (.iload_n 1, 1) := by decide +kernel
theorem dX12_fewest_114 : decode cX12_fewest 114 = .ok (.iload_n 3, 1) := by decide +kernel
theorem dX12_fewest_115 : decode cX12_fewest 115 = .ok (.invokevirtual 425, 3) := by decide +kernel
theorem dX12_fewest_118 : decode cX12_fewest 118 = .ok (.ifCond .eq 5, 3) := by decide +kernel
theorem dX12_fewest_121 : decode cX12_fewest 121 = .ok (.iload_n 3, 1) := by decide +kernel
theorem dX12_fewest_122 : decode cX12_fewest 122 = .ok (.istore_n 2, 1) := by decide +kernel
theorem dX12_fewest_123 : decode cX12_fewest 123 = .ok (.iinc 3 1, 3) := by decide +kernel
theorem dX12_fewest_126 : decode cX12_fewest 126 = .ok (.goto (-65), 3) := by decide +kernel
theorem dX12_fewest_129 : decode cX12_fewest 129 = .ok (.iload_n 2, 1) := by decide +kernel
theorem dX12_fewest_130 : decode cX12_fewest 130 = .ok (.ireturn, 1) := by decide +kernel
theorem dX12_guessAt_0 : decode cX12_guessAt 0 = .ok (.iconst 4, 1) := by decide +kernel
theorem dX12_guessAt_1 : decode cX12_guessAt 1 = .ok (.iload_n 1, 1) := by decide +kernel
theorem dX12_guessAt_2 : decode cX12_guessAt 2 = .ok (.imul, 1) := by decide +kernel
theorem dX12_guessAt_3 : decode cX12_guessAt 3 = .ok (.iload_n 2, 1) := by decide +kernel
theorem dX12_guessAt_4 : decode cX12_guessAt 4 = .ok (.iadd, 1) := by decide +kernel
theorem dX12_guessAt_5 : decode cX12_guessAt 5 = .ok (.bipush 8, 2) := by decide +kernel
theorem dX12_guessAt_7 : decode cX12_guessAt 7 = .ok (.imul, 1) := by decide +kernel
theorem dX12_guessAt_8 : decode cX12_guessAt 8 = .ok (.iload_n 3, 1) := by decide +kernel
theorem dX12_guessAt_9 : decode cX12_guessAt 9 = .ok (.iadd, 1) := by decide +kernel
theorem dX12_guessAt_10 : decode cX12_guessAt 10 = .ok (.ireturn, 1) := by decide +kernel
theorem dX12_guessOdds_0 : decode cX12_guessOdds 0 = .ok (.iconst 0, 1) := by decide +kernel
theorem dX12_guessOdds_1 : decode cX12_guessOdds 1 = .ok (.istore 4, 2) := by decide +kernel
theorem dX12_guessOdds_3 : decode cX12_guessOdds 3 = .ok (.iconst 0, 1) := by decide +kernel
theorem dX12_guessOdds_4 : decode cX12_guessOdds 4 = .ok (.istore 5, 2) := by decide +kernel
theorem dX12_guessOdds_6 : decode cX12_guessOdds 6 = .ok (.iload 5, 2) := by decide +kernel
theorem dX12_guessOdds_8 : decode cX12_guessOdds 8 = .ok (.aload_n 0, 1) := by decide +kernel
theorem dX12_guessOdds_9 : decode cX12_guessOdds 9 = .ok (.getfield 42, 3) := by decide +kernel
theorem dX12_guessOdds_12 : decode cX12_guessOdds 12 = .ok (.iload_n 1, 1) := by decide +kernel
theorem dX12_guessOdds_13 : decode cX12_guessOdds 13 = .ok (.iaload, 1) := by decide +kernel
theorem dX12_guessOdds_14 : decode cX12_guessOdds 14 = .ok (.if_icmp .ge 34, 3) := by decide +kernel
theorem dX12_guessOdds_17 : decode cX12_guessOdds 17 = .ok (.iload 4, 2) := by decide +kernel
theorem dX12_guessOdds_19 : decode cX12_guessOdds 19 = .ok (.iload_n 3, 1) := by decide +kernel
theorem dX12_guessOdds_20 : decode cX12_guessOdds 20 = .ok (.iload 5, 2) := by decide +kernel
theorem dX12_guessOdds_22 : decode cX12_guessOdds 22 = .ok (.ishr, 1) := by decide +kernel
theorem dX12_guessOdds_23 : decode cX12_guessOdds 23 = .ok (.iconst 1, 1) := by decide +kernel
theorem dX12_guessOdds_24 : decode cX12_guessOdds 24 = .ok (.iand, 1) := by decide +kernel
theorem dX12_guessOdds_25 : decode cX12_guessOdds 25 = .ok (.aload_n 0, 1) := by decide +kernel
theorem dX12_guessOdds_26 : decode cX12_guessOdds 26 = .ok (.getfield 83, 3) := by decide +kernel
theorem dX12_guessOdds_29 : decode cX12_guessOdds 29 = .ok (.aload_n 0, 1) := by decide +kernel
theorem dX12_guessOdds_30 : decode cX12_guessOdds 30 = .ok (.iload_n 1, 1) := by decide +kernel
theorem dX12_guessOdds_31 : decode cX12_guessOdds 31 = .ok (.iload_n 2, 1) := by decide +kernel
theorem dX12_guessOdds_32 : decode cX12_guessOdds 32 = .ok (.iload 5, 2) := by decide +kernel
theorem dX12_guessOdds_34 : decode cX12_guessOdds 34 = .ok (.invokevirtual 428, 3) := by decide +kernel
theorem dX12_guessOdds_37 : decode cX12_guessOdds 37 = .ok (.iaload, 1) := by decide +kernel
theorem dX12_guessOdds_38 : decode cX12_guessOdds 38 = .ok (.imul, 1) := by decide +kernel
theorem dX12_guessOdds_39 : decode cX12_guessOdds 39 = .ok (.iadd, 1) := by decide +kernel
theorem dX12_guessOdds_40 : decode cX12_guessOdds 40 = .ok (.istore 4, 2) := by decide +kernel
theorem dX12_guessOdds_42 : decode cX12_guessOdds 42 = .ok (.iinc 5 1, 3) := by decide +kernel
theorem dX12_guessOdds_45 : decode cX12_guessOdds 45 = .ok (.goto (-39), 3) := by decide +kernel
theorem dX12_guessOdds_48 : decode cX12_guessOdds 48 = .ok (.iload 4, 2) := by decide +kernel
theorem dX12_guessOdds_50 : decode cX12_guessOdds 50 = .ok (.ireturn, 1) := by decide +kernel
theorem dX12_guess_0 : decode cX12_guess 0 = .ok (.aload_n 0, 1) := by decide +kernel
theorem dX12_guess_1 : decode cX12_guess 1 = .ok (.iconst 0, 1) := by decide +kernel
theorem dX12_guess_2 : decode cX12_guess 2 = .ok (.putfield 159, 3) := by decide +kernel
theorem dX12_guess_5 : decode cX12_guess 5 = .ok (.aload_n 0, 1) := by decide +kernel
theorem dX12_guess_6 : decode cX12_guess 6 = .ok (.iload_n 1, 1) := by decide +kernel
theorem dX12_guess_7 : decode cX12_guess 7 = .ok (.iload_n 3, 1) := by decide +kernel
theorem dX12_guess_8 : decode cX12_guess 8 = .ok (.invokevirtual 305, 3) := by decide +kernel
theorem dX12_guess_11 : decode cX12_guess 11 = .ok (.ifCond .eq 12, 3) := by decide +kernel
theorem dX12_guess_14 : decode cX12_guess 14 = .ok (.iload_n 2, 1) := by decide +kernel
theorem dX12_guess_15 : decode cX12_guess 15 = .ok (.iconst 0, 1) := by decide +kernel
theorem dX12_guess_16 : decode cX12_guess 16 = .ok (.iconst 3, 1) := by decide +kernel
theorem dX12_guess_17 : decode cX12_guess 17 = .ok (.invokestatic 162, 3) := by decide +kernel
theorem dX12_guess_20 : decode cX12_guess 20 = .ok (.ifCond .ne 10, 3) := by decide +kernel
theorem dX12_guess_23 : decode cX12_guess 23 = .ok (.aload_n 0, 1) := by decide +kernel
theorem dX12_guess_24 : decode cX12_guess 24 = .ok (.iconst 1, 1) := by decide +kernel
theorem dX12_guess_25 : decode cX12_guess 25 = .ok (.putfield 159, 3) := by decide +kernel
theorem dX12_guess_28 : decode cX12_guess 28 = .ok (.iconst 0, 1) := by decide +kernel
theorem dX12_guess_29 : decode cX12_guess 29 = .ok (.ireturn, 1) := by decide +kernel
theorem dX12_guess_30 : decode cX12_guess 30 = .ok (.iload 4, 2) := by decide +kernel
theorem dX12_guess_32 : decode cX12_guess 32 = .ok (.iconst 0, 1) := by decide +kernel
theorem dX12_guess_33 : decode cX12_guess 33 = .ok (.bipush 99, 2) := by decide +kernel
theorem dX12_guess_35 : decode cX12_guess 35 = .ok (.invokestatic 162, 3) := by decide +kernel
theorem dX12_guess_38 : decode cX12_guess 38 = .ok (.ifCond .ne 15, 3) := by decide +kernel
theorem dX12_guess_41 : decode cX12_guess 41 = .ok (.aload_n 0, 1) := by decide +kernel
theorem dX12_guess_42 : decode cX12_guess 42 = .ok (.getfield 86, 3) := by decide +kernel
theorem dX12_guess_45 : decode cX12_guess 45 = .ok (.iconst 2, 1) := by decide +kernel
theorem dX12_guess_46 : decode cX12_guess 46 = .ok (.dup2, 1) := by decide +kernel
theorem dX12_guess_47 : decode cX12_guess 47 = .ok (.iaload, 1) := by decide +kernel
theorem dX12_guess_48 : decode cX12_guess 48 = .ok (.iconst 1, 1) := by decide +kernel
theorem dX12_guess_49 : decode cX12_guess 49 = .ok (.iadd, 1) := by decide +kernel
theorem dX12_guess_50 : decode cX12_guess 50 = .ok (.iastore, 1) := by decide +kernel
theorem dX12_guess_51 : decode cX12_guess 51 = .ok (.iconst 0, 1) := by decide +kernel
theorem dX12_guess_52 : decode cX12_guess 52 = .ok (.ireturn, 1) := by decide +kernel
theorem dX12_guess_53 : decode cX12_guess 53 = .ok (.aload_n 0, 1) := by decide +kernel
theorem dX12_guess_54 : decode cX12_guess 54 = .ok (.getfield 83, 3) := by decide +kernel
theorem dX12_guess_57 : decode cX12_guess 57 = .ok (.aload_n 0, 1) := by decide +kernel
theorem dX12_guess_58 : decode cX12_guess 58 = .ok (.iload_n 1, 1) := by decide +kernel
theorem dX12_guess_59 : decode cX12_guess 59 = .ok (.iload_n 2, 1) := by decide +kernel
theorem dX12_guess_60 : decode cX12_guess 60 = .ok (.iload_n 3, 1) := by decide +kernel
theorem dX12_guess_61 : decode cX12_guess 61 = .ok (.invokevirtual 428, 3) := by decide +kernel
theorem dX12_guess_64 : decode cX12_guess 64 = .ok (.iload 4, 2) := by decide +kernel
theorem dX12_guess_66 : decode cX12_guess 66 = .ok (.iastore, 1) := by decide +kernel
theorem dX12_guess_67 : decode cX12_guess 67 = .ok (.iconst 1, 1) := by decide +kernel
theorem dX12_guess_68 : decode cX12_guess 68 = .ok (.ireturn, 1) := by decide +kernel
theorem dX12_credit_0 : decode cX12_credit 0 = .ok (.aload_n 0, 1) := by decide +kernel
theorem dX12_credit_1 : decode cX12_credit 1 = .ok (.iconst 0, 1) := by decide +kernel
theorem dX12_credit_2 : decode cX12_credit 2 = .ok (.putfield 159, 3) := by decide +kernel
theorem dX12_credit_5 : decode cX12_credit 5 = .ok (.iload_n 1, 1) := by decide +kernel
theorem dX12_credit_6 : decode cX12_credit 6 = .ok (.invokestatic 166, 3) := by decide +kernel
theorem dX12_credit_9 : decode cX12_credit 9 = .ok (.ifCond .eq 12, 3) := by decide +kernel
theorem dX12_credit_12 : decode cX12_credit 12 = .ok (.iload_n 2, 1) := by decide +kernel
theorem dX12_credit_13 : decode cX12_credit 13 = .ok (.iconst 0, 1) := by decide +kernel
theorem dX12_credit_14 : decode cX12_credit 14 = .ok (.iconst 3, 1) := by decide +kernel
theorem dX12_credit_15 : decode cX12_credit 15 = .ok (.invokestatic 162, 3) := by decide +kernel
theorem dX12_credit_18 : decode cX12_credit 18 = .ok (.ifCond .ne 9, 3) := by decide +kernel
theorem dX12_credit_21 : decode cX12_credit 21 = .ok (.aload_n 0, 1) := by decide +kernel
theorem dX12_credit_22 : decode cX12_credit 22 = .ok (.iconst 1, 1) := by decide +kernel
theorem dX12_credit_23 : decode cX12_credit 23 = .ok (.invokevirtual 289, 3) := by decide +kernel
theorem dX12_credit_26 : decode cX12_credit 26 = .ok (.ireturn, 1) := by decide +kernel
theorem dX12_credit_27 : decode cX12_credit 27 = .ok (.iconst 1, 1) := by decide +kernel
theorem dX12_credit_28 : decode cX12_credit 28 = .ok (.aload_n 0, 1) := by decide +kernel
theorem dX12_credit_29 : decode cX12_credit 29 = .ok (.getfield 42, 3) := by decide +kernel
theorem dX12_credit_32 : decode cX12_credit 32 = .ok (.iload_n 1, 1) := by decide +kernel
theorem dX12_credit_33 : decode cX12_credit 33 = .ok (.iaload, 1) := by decide +kernel
theorem dX12_credit_34 : decode cX12_credit 34 = .ok (.ishl, 1) := by decide +kernel
theorem dX12_credit_35 : decode cX12_credit 35 = .ok (.iconst 1, 1) := by decide +kernel
theorem dX12_credit_36 : decode cX12_credit 36 = .ok (.isub, 1) := by decide +kernel
theorem dX12_credit_37 : decode cX12_credit 37 = .ok (.istore_n 3, 1) := by decide +kernel
theorem dX12_credit_38 : decode cX12_credit 38 = .ok (.iconst 0, 1) := by decide +kernel
theorem dX12_credit_39 : decode cX12_credit 39 = .ok (.istore 4, 2) := by decide +kernel
theorem dX12_credit_41 : decode cX12_credit 41 = .ok (.iconst 0, 1) := by decide +kernel
theorem dX12_credit_42 : decode cX12_credit 42 = .ok (.istore 5, 2) := by decide +kernel
theorem dX12_credit_44 : decode cX12_credit 44 = .ok (.iload 5, 2) := by decide +kernel
theorem dX12_credit_46 : decode cX12_credit 46 = .ok (.iconst 4, 1) := by decide +kernel
theorem dX12_credit_47 : decode cX12_credit 47 = .ok (.if_icmp .ge 30, 3) := by decide +kernel
theorem dX12_credit_50 : decode cX12_credit 50 = .ok (.iload 4, 2) := by decide +kernel
theorem dX12_credit_52 : decode cX12_credit 52 = .ok (.aload_n 0, 1) := by decide +kernel
theorem dX12_credit_53 : decode cX12_credit 53 = .ok (.iload_n 1, 1) := by decide +kernel
theorem dX12_credit_54 : decode cX12_credit 54 = .ok (.iload 5, 2) := by decide +kernel
theorem dX12_credit_56 : decode cX12_credit 56 = .ok (.iload_n 3, 1) := by decide +kernel
theorem dX12_credit_57 : decode cX12_credit 57 = .ok (.invokevirtual 431, 3) := by decide +kernel
theorem dX12_credit_60 : decode cX12_credit 60 = .ok (.ifCond .le 7, 3) := by decide +kernel
theorem dX12_credit_63 : decode cX12_credit 63 = .ok (.iconst 1, 1) := by decide +kernel
theorem dX12_credit_64 : decode cX12_credit 64 = .ok (.goto 4, 3) := by decide +kernel
theorem dX12_credit_67 : decode cX12_credit 67 = .ok (.iconst 0, 1) := by decide +kernel
theorem dX12_credit_68 : decode cX12_credit 68 = .ok (.iadd, 1) := by decide +kernel
theorem dX12_credit_69 : decode cX12_credit 69 = .ok (.istore 4, 2) := by decide +kernel
theorem dX12_credit_71 : decode cX12_credit 71 = .ok (.iinc 5 1, 3) := by decide +kernel
theorem dX12_credit_74 : decode cX12_credit 74 = .ok (.goto (-30), 3) := by decide +kernel
theorem dX12_credit_77 : decode cX12_credit 77 = .ok (.aload_n 0, 1) := by decide +kernel
theorem dX12_credit_78 : decode cX12_credit 78 = .ok (.iload_n 1, 1) := by decide +kernel
theorem dX12_credit_79 : decode cX12_credit 79 = .ok (.iload_n 2, 1) := by decide +kernel
theorem dX12_credit_80 : decode cX12_credit 80 = .ok (.iload_n 3, 1) := by decide +kernel
theorem dX12_credit_81 : decode cX12_credit 81 = .ok (.invokevirtual 431, 3) := by decide +kernel
theorem dX12_credit_84 : decode cX12_credit 84 = .ok (.ifCond .ne 5, 3) := by decide +kernel
theorem dX12_credit_87 : decode cX12_credit 87 = .ok (.iconst (-1), 1) := by decide +kernel
theorem dX12_credit_88 : decode cX12_credit 88 = .ok (.ireturn, 1) := by decide +kernel
theorem dX12_credit_89 : decode cX12_credit 89 = .ok (.iconst 0, 1) := by decide +kernel
theorem dX12_credit_90 : decode cX12_credit 90 = .ok (.istore 5, 2) := by decide +kernel
theorem dX12_credit_92 : decode cX12_credit 92 = .ok (.iload 5, 2) := by decide +kernel
theorem dX12_credit_94 : decode cX12_credit 94 = .ok (.iconst 4, 1) := by decide +kernel
theorem dX12_credit_95 : decode cX12_credit 95 = .ok (.if_icmp .ge 38, 3) := by decide +kernel
theorem dX12_credit_98 : decode cX12_credit 98 = .ok (.aload_n 0, 1) := by decide +kernel
theorem dX12_credit_99 : decode cX12_credit 99 = .ok (.getfield 128, 3) := by decide +kernel
theorem dX12_credit_102 : decode cX12_credit 102 = .ok (.iload 5, 2) := by decide +kernel
theorem dX12_credit_104 : decode cX12_credit 104 = .ok (.aload_n 0, 1) := by decide +kernel
theorem dX12_credit_105 : decode cX12_credit 105 = .ok (.iload_n 1, 1) := by decide +kernel
theorem dX12_credit_106 : decode cX12_credit 106 = .ok (.iload 5, 2) := by decide +kernel
theorem dX12_credit_108 : decode cX12_credit 108 = .ok (.iload_n 3, 1) := by decide +kernel
theorem dX12_credit_109 : decode cX12_credit 109 = .ok (.invokevirtual 431, 3) := by decide +kernel
theorem dX12_credit_112 : decode cX12_credit 112 = .ok (.ifCond .le 13, 3) := by decide +kernel
theorem dX12_credit_115 : decode cX12_credit 115 = .ok (.ldc_w 434, 3) := by decide +kernel
theorem dX12_credit_118 : decode cX12_credit 118 = .ok (.iload 4, 2) := by decide +kernel
theorem dX12_credit_120 : decode cX12_credit 120 = .ok (.idiv, 1) := by decide +kernel
theorem dX12_credit_121 : decode cX12_credit 121 = .ok (.i2l, 1) := by decide +kernel
theorem dX12_credit_122 : decode cX12_credit 122 = .ok (.goto 4, 3) := by decide +kernel
theorem dX12_credit_125 : decode cX12_credit 125 = .ok (.lconst 0, 1) := by decide +kernel
theorem dX12_credit_126 : decode cX12_credit 126 = .ok (.lastore, 1) := by decide +kernel
theorem dX12_credit_127 : decode cX12_credit 127 = .ok (.iinc 5 1, 3) := by decide +kernel
theorem dX12_credit_130 : decode cX12_credit 130 = .ok (.goto (-38), 3) := by decide +kernel
theorem dX12_credit_133 : decode cX12_credit 133 = .ok (.iconst 0, 1) := by decide +kernel
theorem dX12_credit_134 : decode cX12_credit 134 = .ok (.istore 5, 2) := by decide +kernel
theorem dX12_credit_136 : decode cX12_credit 136 = .ok (.iload 5, 2) := by decide +kernel
theorem dX12_credit_138 : decode cX12_credit 138 = .ok (.aload_n 0, 1) := by decide +kernel
theorem dX12_credit_139 : decode cX12_credit 139 = .ok (.getfield 71, 3) := by decide +kernel
theorem dX12_credit_142 : decode cX12_credit 142 = .ok (.iload_n 1, 1) := by decide +kernel
theorem dX12_credit_143 : decode cX12_credit 143 = .ok (.iaload, 1) := by decide +kernel
theorem dX12_credit_144 : decode cX12_credit 144 = .ok (.if_icmp .ge 133, 3) := by decide +kernel
theorem dX12_credit_147 : decode cX12_credit 147 = .ok (.aload_n 0, 1) := by decide +kernel
theorem dX12_credit_148 : decode cX12_credit 148 = .ok (.iload_n 1, 1) := by decide +kernel
theorem dX12_credit_149 : decode cX12_credit 149 = .ok (.iload 5, 2) := by decide +kernel
theorem dX12_credit_151 : decode cX12_credit 151 = .ok (.invokevirtual 419, 3) := by decide +kernel
theorem dX12_credit_154 : decode cX12_credit 154 = .ok (.istore 6, 2) := by decide +kernel
theorem dX12_credit_156 : decode cX12_credit 156 = .ok (.lconst 0, 1) := by decide +kernel
theorem dX12_credit_157 : decode cX12_credit 157 = .ok (.lstore 7, 2) := by decide +kernel
theorem dX12_credit_159 : decode cX12_credit 159 = .ok (.iconst 0, 1) := by decide +kernel
theorem dX12_credit_160 : decode cX12_credit 160 = .ok (.istore 9, 2) := by decide +kernel
theorem dX12_credit_162 : decode cX12_credit 162 = .ok (.iload 9, 2) := by decide +kernel
theorem dX12_credit_164 : decode cX12_credit 164 = .ok (.iconst 4, 1) := by decide +kernel
theorem dX12_credit_165 : decode cX12_credit 165 = .ok (.if_icmp .ge 70, 3) := by decide +kernel
theorem dX12_credit_168 : decode cX12_credit 168 = .ok (.aload_n 0, 1) := by decide +kernel
theorem dX12_credit_169 : decode cX12_credit 169 = .ok (.iload_n 1, 1) := by decide +kernel
theorem dX12_credit_170 : decode cX12_credit 170 = .ok (.iload 9, 2) := by decide +kernel
theorem dX12_credit_172 : decode cX12_credit 172 = .ok (.iload_n 3, 1) := by decide +kernel
theorem dX12_credit_173 : decode cX12_credit 173 = .ok (.invokevirtual 431, 3) := by decide +kernel
theorem dX12_credit_176 : decode cX12_credit 176 = .ok (.istore 10, 2) := by decide +kernel
theorem dX12_credit_178 : decode cX12_credit 178 = .ok (.iload 10, 2) := by decide +kernel
theorem dX12_credit_180 : decode cX12_credit 180 = .ok (.ifCond .ne 6, 3) := by decide +kernel
theorem dX12_credit_183 : decode cX12_credit 183 = .ok (.goto 46, 3) := by decide +kernel
theorem dX12_credit_186 : decode cX12_credit 186 = .ok (.aload_n 0, 1) := by decide +kernel
theorem dX12_credit_187 : decode cX12_credit 187 = .ok (.getfield 128, 3) := by decide +kernel
theorem dX12_credit_190 : decode cX12_credit 190 = .ok (.iload 9, 2) := by decide +kernel
theorem dX12_credit_192 : decode cX12_credit 192 = .ok (.dup2, 1) := by decide +kernel
theorem dX12_credit_193 : decode cX12_credit 193 = .ok (.laload, 1) := by decide +kernel
theorem dX12_credit_194 : decode cX12_credit 194 = .ok (.iconst 1, 1) := by decide +kernel
theorem dX12_credit_195 : decode cX12_credit 195 = .ok (.sipush 1000, 3) := by decide +kernel
theorem dX12_credit_198 : decode cX12_credit 198 = .ok (.aload_n 0, 1) := by decide +kernel
theorem dX12_credit_199 : decode cX12_credit 199 = .ok (.iload_n 1, 1) := by decide +kernel
theorem dX12_credit_200 : decode cX12_credit 200 = .ok (.iload 9, 2) := by decide +kernel
theorem dX12_credit_202 : decode cX12_credit 202 = .ok (.iload 6, 2) := by decide +kernel
theorem dX12_credit_204 : decode cX12_credit 204 = .ok (.invokevirtual 431, 3) := by decide +kernel
theorem dX12_credit_207 : decode cX12_credit 207 = .ok (.imul, 1) := by decide +kernel
theorem dX12_credit_208 : decode cX12_credit 208 = .ok (.iload 10, 2) := by decide +kernel
theorem dX12_credit_210 : decode cX12_credit 210 = .ok (.idiv, 1) := by decide +kernel
theorem dX12_credit_211 : decode cX12_credit 211 = .ok (.invokestatic 309, 3) := by decide +kernel
theorem dX12_credit_214 : decode cX12_credit 214 = .ok (.i2l, 1) := by decide +kernel
theorem dX12_credit_215 : decode cX12_credit 215 = .ok (.lmul, 1) := by decide +kernel
theorem dX12_credit_216 : decode cX12_credit 216 = .ok (.lastore, 1) := by decide +kernel
theorem dX12_credit_217 : decode cX12_credit 217 = .ok (.lload 7, 2) := by decide +kernel
theorem dX12_credit_219 : decode cX12_credit 219 = .ok (.aload_n 0, 1) := by decide +kernel
theorem dX12_credit_220 : decode cX12_credit 220 = .ok (.getfield 128, 3) := by decide +kernel
theorem dX12_credit_223 : decode cX12_credit 223 = .ok (.iload 9, 2) := by decide +kernel
theorem dX12_credit_225 : decode cX12_credit 225 = .ok (.laload, 1) := by decide +kernel
theorem dX12_credit_226 : decode cX12_credit 226 = .ok (.ladd, 1) := by decide +kernel
theorem dX12_credit_227 : decode cX12_credit 227 = .ok (.lstore 7, 2) := by decide +kernel
theorem dX12_credit_229 : decode cX12_credit 229 = .ok (.iinc 9 1, 3) := by decide +kernel
theorem dX12_credit_232 : decode cX12_credit 232 = .ok (.goto (-70), 3) := by decide +kernel
theorem dX12_credit_235 : decode cX12_credit 235 = .ok (.iconst 0, 1) := by decide +kernel
theorem dX12_credit_236 : decode cX12_credit 236 = .ok (.istore 9, 2) := by decide +kernel
theorem dX12_credit_238 : decode cX12_credit 238 = .ok (.iload 9, 2) := by decide +kernel
theorem dX12_credit_240 : decode cX12_credit 240 = .ok (.iconst 4, 1) := by decide +kernel
theorem dX12_credit_241 : decode cX12_credit 241 = .ok (.if_icmp .ge 30, 3) := by decide +kernel
theorem dX12_credit_244 : decode cX12_credit 244 = .ok (.aload_n 0, 1) := by decide +kernel
theorem dX12_credit_245 : decode cX12_credit 245 = .ok (.getfield 128, 3) := by decide +kernel
theorem dX12_credit_248 : decode cX12_credit 248 = .ok (.iload 9, 2) := by decide +kernel
theorem dX12_credit_250 : decode cX12_credit 250 = .ok (.aload_n 0, 1) := by decide +kernel
theorem dX12_credit_251 : decode cX12_credit 251 = .ok (.getfield 128, 3) := by decide +kernel
theorem dX12_credit_254 : decode cX12_credit 254 = .ok (.iload 9, 2) := by decide +kernel
theorem dX12_credit_256 : decode cX12_credit 256 = .ok (.laload, 1) := by decide +kernel
theorem dX12_credit_257 : decode cX12_credit 257 = .ok (.ldc2_w 371, 3) := by decide +kernel
theorem dX12_credit_260 : decode cX12_credit 260 = .ok (.lmul, 1) := by decide +kernel
theorem dX12_credit_261 : decode cX12_credit 261 = .ok (.lload 7, 2) := by decide +kernel
theorem dX12_credit_263 : decode cX12_credit 263 = .ok (.ldiv, 1) := by decide +kernel
theorem dX12_credit_264 : decode cX12_credit 264 = .ok (.lastore, 1) := by decide +kernel
theorem dX12_credit_265 : decode cX12_credit 265 = .ok (.iinc 9 1, 3) := by decide +kernel
theorem dX12_credit_268 : decode cX12_credit 268 = .ok (.goto (-30), 3) := by decide +kernel
theorem dX12_credit_271 : decode cX12_credit 271 = .ok (.iinc 5 1, 3) := by decide +kernel
theorem dX12_credit_274 : decode cX12_credit 274 = .ok (.goto (-138), 3) := by decide +kernel
theorem dX12_credit_277 : decode cX12_credit 277 = .ok (.aload_n 0, 1) := by decide +kernel
theorem dX12_credit_278 : decode cX12_credit 278 = .ok (.getfield 128, 3) := by decide +kernel
theorem dX12_credit_281 : decode cX12_credit 281 = .ok (.iload_n 2, 1) := by decide +kernel
theorem dX12_credit_282 : decode cX12_credit 282 = .ok (.laload, 1) := by decide +kernel
theorem dX12_credit_283 : decode cX12_credit 283 = .ok (.l2i, 1) := by decide +kernel
theorem dX12_credit_284 : decode cX12_credit 284 = .ok (.ireturn, 1) := by decide +kernel
theorem dX12_draw_0 : decode cX12_draw 0 = .ok (.aload_n 0, 1) := by decide +kernel
theorem dX12_draw_1 : decode cX12_draw 1 = .ok (.aload_n 0, 1) := by decide +kernel
theorem dX12_draw_2 : decode cX12_draw 2 = .ok (.getfield 435, 3) := by decide +kernel
theorem dX12_draw_5 : decode cX12_draw 5 = .ok (.ldc_w 438, 3) := by decide +kernel
theorem dX12_draw_8 : decode cX12_draw 8 = .ok (.imul, 1) := by decide +kernel
theorem dX12_draw_9 : decode cX12_draw 9 = .ok (.sipush 12345, 3) := by decide +kernel
theorem dX12_draw_12 : decode cX12_draw 12 = .ok (.iadd, 1) := by decide +kernel
theorem dX12_draw_13 : decode cX12_draw 13 = .ok (.putfield 435, 3) := by decide +kernel
theorem dX12_draw_16 : decode cX12_draw 16 = .ok (.aload_n 0, 1) := by decide +kernel
theorem dX12_draw_17 : decode cX12_draw 17 = .ok (.getfield 435, 3) := by decide +kernel
theorem dX12_draw_20 : decode cX12_draw 20 = .ok (.bipush 16, 2) := by decide +kernel
theorem dX12_draw_22 : decode cX12_draw 22 = .ok (.ishr, 1) := by decide +kernel
theorem dX12_draw_23 : decode cX12_draw 23 = .ok (.sipush 32767, 3) := by decide +kernel
theorem dX12_draw_26 : decode cX12_draw 26 = .ok (.iand, 1) := by decide +kernel
theorem dX12_draw_27 : decode cX12_draw 27 = .ok (.iload_n 1, 1) := by decide +kernel
theorem dX12_draw_28 : decode cX12_draw 28 = .ok (.irem, 1) := by decide +kernel
theorem dX12_draw_29 : decode cX12_draw 29 = .ok (.ireturn, 1) := by decide +kernel
theorem dX12_drawn_0 : decode cX12_drawn 0 = .ok (.aload_n 0, 1) := by decide +kernel
theorem dX12_drawn_1 : decode cX12_drawn 1 = .ok (.iconst 0, 1) := by decide +kernel
theorem dX12_drawn_2 : decode cX12_drawn 2 = .ok (.putfield 159, 3) := by decide +kernel
theorem dX12_drawn_5 : decode cX12_drawn 5 = .ok (.iload_n 1, 1) := by decide +kernel
theorem dX12_drawn_6 : decode cX12_drawn 6 = .ok (.invokestatic 166, 3) := by decide +kernel
theorem dX12_drawn_9 : decode cX12_drawn 9 = .ok (.ifCond .ne 9, 3) := by decide +kernel
theorem dX12_drawn_12 : decode cX12_drawn 12 = .ok (.aload_n 0, 1) := by decide +kernel
theorem dX12_drawn_13 : decode cX12_drawn 13 = .ok (.iconst 1, 1) := by decide +kernel
theorem dX12_drawn_14 : decode cX12_drawn 14 = .ok (.invokevirtual 289, 3) := by decide +kernel
theorem dX12_drawn_17 : decode cX12_drawn 17 = .ok (.ireturn, 1) := by decide +kernel
theorem dX12_drawn_18 : decode cX12_drawn 18 = .ok (.iload_n 2, 1) := by decide +kernel
theorem dX12_drawn_19 : decode cX12_drawn 19 = .ok (.iconst 1, 1) := by decide +kernel
theorem dX12_drawn_20 : decode cX12_drawn 20 = .ok (.sipush 400, 3) := by decide +kernel
theorem dX12_drawn_23 : decode cX12_drawn 23 = .ok (.invokestatic 162, 3) := by decide +kernel
theorem dX12_drawn_26 : decode cX12_drawn 26 = .ok (.ifCond .eq 12, 3) := by decide +kernel
theorem dX12_drawn_29 : decode cX12_drawn 29 = .ok (.aload_n 0, 1) := by decide +kernel
theorem dX12_drawn_30 : decode cX12_drawn 30 = .ok (.getfield 42, 3) := by decide +kernel
theorem dX12_drawn_33 : decode cX12_drawn 33 = .ok (.iload_n 1, 1) := by decide +kernel
theorem dX12_drawn_34 : decode cX12_drawn 34 = .ok (.iaload, 1) := by decide +kernel
theorem dX12_drawn_35 : decode cX12_drawn 35 = .ok (.ifCond .ne 9, 3) := by decide +kernel
theorem dX12_drawn_38 : decode cX12_drawn 38 = .ok (.aload_n 0, 1) := by decide +kernel
theorem dX12_drawn_39 : decode cX12_drawn 39 = .ok (.iconst 2, 1) := by decide +kernel
theorem dX12_drawn_40 : decode cX12_drawn 40 = .ok (.invokevirtual 289, 3) := by decide +kernel
theorem dX12_drawn_43 : decode cX12_drawn 43 = .ok (.ireturn, 1) := by decide +kernel
theorem dX12_drawn_44 : decode cX12_drawn 44 = .ok (.aload_n 0, 1) := by decide +kernel
theorem dX12_drawn_45 : decode cX12_drawn 45 = .ok (.iload_n 3, 1) := by decide +kernel
theorem dX12_drawn_46 : decode cX12_drawn 46 = .ok (.putfield 435, 3) := by decide +kernel
theorem dX12_drawn_49 : decode cX12_drawn 49 = .ok (.iconst 0, 1) := by decide +kernel
theorem dX12_drawn_50 : decode cX12_drawn 50 = .ok (.istore 4, 2) := by decide +kernel
theorem dX12_drawn_52 : decode cX12_drawn 52 = .ok (.iconst 1, 1) := by decide +kernel
theorem dX12_drawn_53 : decode cX12_drawn 53 = .ok (.istore 5, 2) := by decide +kernel
theorem dX12_drawn_55 : decode cX12_drawn 55 = .ok (.iload 5, 2) := by decide +kernel
theorem dX12_drawn_57 : decode cX12_drawn 57 = .ok (.iload_n 2, 1) := by decide +kernel
theorem dX12_drawn_58 : decode cX12_drawn 58 = .ok (.if_icmp .gt 180, 3) := by decide +kernel
theorem dX12_drawn_61 : decode cX12_drawn 61 = .ok (.aload_n 0, 1) := by decide +kernel
theorem dX12_drawn_62 : decode cX12_drawn 62 = .ok (.aload_n 0, 1) := by decide +kernel
theorem dX12_drawn_63 : decode cX12_drawn 63 = .ok (.iload_n 1, 1) := by decide +kernel
theorem dX12_drawn_64 : decode cX12_drawn 64 = .ok (.invokevirtual 302, 3) := by decide +kernel
theorem dX12_drawn_67 : decode cX12_drawn 67 = .ok (.invokevirtual 439, 3) := by decide +kernel
theorem dX12_drawn_70 : decode cX12_drawn 70 = .ok (.istore 6, 2) := by decide +kernel
theorem dX12_drawn_72 : decode cX12_drawn 72 = .ok (.iconst 0, 1) := by decide +kernel
theorem dX12_drawn_73 : decode cX12_drawn 73 = .ok (.istore 7, 2) := by decide +kernel
theorem dX12_drawn_75 : decode cX12_drawn 75 = .ok (.iload 6, 2) := by decide +kernel
theorem dX12_drawn_77 : decode cX12_drawn 77 = .ok (.aload_n 0, 1) := by decide +kernel
theorem dX12_drawn_78 : decode cX12_drawn 78 = .ok (.getfield 49, 3) := by decide +kernel
theorem dX12_drawn_81 : decode cX12_drawn 81 = .ok (.bipush 8, 2) := by decide +kernel
theorem dX12_drawn_83 : decode cX12_drawn 83 = .ok (.iload_n 1, 1) := by decide +kernel
theorem dX12_drawn_84 : decode cX12_drawn 84 = .ok (.imul, 1) := by decide +kernel
theorem dX12_drawn_85 : decode cX12_drawn 85 = .ok (.iload 7, 2) := by decide +kernel
theorem dX12_drawn_87 : decode cX12_drawn 87 = .ok (.iadd, 1) := by decide +kernel
theorem dX12_drawn_88 : decode cX12_drawn 88 = .ok (.iaload, 1) := by decide +kernel
theorem dX12_drawn_89 : decode cX12_drawn 89 = .ok (.if_icmp .lt 26, 3) := by decide +kernel
theorem dX12_drawn_92 : decode cX12_drawn 92 = .ok (.iload 6, 2) := by decide +kernel
theorem dX12_drawn_94 : decode cX12_drawn 94 = .ok (.aload_n 0, 1) := by decide +kernel
theorem dX12_drawn_95 : decode cX12_drawn 95 = .ok (.getfield 49, 3) := by decide +kernel
theorem dX12_drawn_98 : decode cX12_drawn 98 = .ok (.bipush 8, 2) := by decide +kernel
theorem dX12_drawn_100 : decode cX12_drawn 100 = .ok (.iload_n 1, 1) := by decide +kernel
theorem dX12_drawn_101 : decode cX12_drawn 101 = .ok (.imul, 1) := by decide +kernel
theorem dX12_drawn_102 : decode cX12_drawn 102 = .ok (.iload 7, 2) := by decide +kernel
theorem dX12_drawn_104 : decode cX12_drawn 104 = .ok (.iadd, 1) := by decide +kernel
theorem dX12_drawn_105 : decode cX12_drawn 105 = .ok (.iaload, 1) := by decide +kernel
theorem dX12_drawn_106 : decode cX12_drawn 106 = .ok (.isub, 1) := by decide +kernel
theorem dX12_drawn_107 : decode cX12_drawn 107 = .ok (.istore 6, 2) := by decide +kernel
theorem dX12_drawn_109 : decode cX12_drawn 109 = .ok (.iinc 7 1, 3) := by decide +kernel
theorem dX12_drawn_112 : decode cX12_drawn 112 = .ok (.goto (-37), 3) := by decide +kernel
theorem dX12_drawn_115 : decode cX12_drawn 115 = .ok (.aload_n 0, 1) := by decide +kernel
theorem dX12_drawn_116 : decode cX12_drawn 116 = .ok (.iload_n 1, 1) := by decide +kernel
theorem dX12_drawn_117 : decode cX12_drawn 117 = .ok (.iload 7, 2) := by decide +kernel
theorem dX12_drawn_119 : decode cX12_drawn 119 = .ok (.aload_n 0, 1) := by decide +kernel
theorem dX12_drawn_120 : decode cX12_drawn 120 = .ok (.getfield 68, 3) := by decide +kernel
theorem dX12_drawn_123 : decode cX12_drawn 123 = .ok (.iload_n 1, 1) := by decide +kernel
theorem dX12_drawn_124 : decode cX12_drawn 124 = .ok (.iaload, 1) := by decide +kernel
theorem dX12_drawn_125 : decode cX12_drawn 125 = .ok (.invokevirtual 330, 3) := by decide +kernel
theorem dX12_drawn_128 : decode cX12_drawn 128 = .ok (.istore 8, 2) := by decide +kernel
theorem dX12_drawn_130 : decode cX12_drawn 130 = .ok (.iload 8, 2) := by decide +kernel
theorem dX12_drawn_132 : decode cX12_drawn 132 = .ok (.iconst (-1), 1) := by decide +kernel
theorem dX12_drawn_133 : decode cX12_drawn 133 = .ok (.if_icmp .eq 28, 3) := by decide +kernel
theorem dX12_drawn_136 : decode cX12_drawn 136 = .ok (.aload_n 0, 1) := by decide +kernel
theorem dX12_drawn_137 : decode cX12_drawn 137 = .ok (.iload_n 1, 1) := by decide +kernel
theorem dX12_drawn_138 : decode cX12_drawn 138 = .ok (.iload 8, 2) := by decide +kernel
theorem dX12_drawn_140 : decode cX12_drawn 140 = .ok (.invokevirtual 413, 3) := by decide +kernel
theorem dX12_drawn_143 : decode cX12_drawn 143 = .ok (.aload_n 0, 1) := by decide +kernel
theorem dX12_drawn_144 : decode cX12_drawn 144 = .ok (.getfield 77, 3) := by decide +kernel
theorem dX12_drawn_147 : decode cX12_drawn 147 = .ok (.iload_n 1, 1) := by decide +kernel
theorem dX12_drawn_148 : decode cX12_drawn 148 = .ok (.dup2, 1) := by decide +kernel
theorem dX12_drawn_149 : decode cX12_drawn 149 = .ok (.iaload, 1) := by decide +kernel
theorem dX12_drawn_150 : decode cX12_drawn 150 = .ok (.iload 8, 2) := by decide +kernel
theorem dX12_drawn_152 : decode cX12_drawn 152 = .ok (.iadd, 1) := by decide +kernel
theorem dX12_drawn_153 : decode cX12_drawn 153 = .ok (.iastore, 1) := by decide +kernel
theorem dX12_drawn_154 : decode cX12_drawn 154 = .ok (.iload 4, 2) := by decide +kernel
theorem dX12_drawn_156 : decode cX12_drawn 156 = .ok (.iload 8, 2) := by decide +kernel
theorem dX12_drawn_158 : decode cX12_drawn 158 = .ok (.iadd, 1) := by decide +kernel
theorem dX12_drawn_159 : decode cX12_drawn 159 = .ok (.istore 4, 2) := by decide +kernel
theorem dX12_drawn_161 : decode cX12_drawn 161 = .ok (.iload 5, 2) := by decide +kernel
theorem dX12_drawn_163 : decode cX12_drawn 163 = .ok (.bipush 10, 2) := by decide +kernel
theorem dX12_drawn_165 : decode cX12_drawn 165 = .ok (.irem, 1) := by decide +kernel
theorem dX12_drawn_166 : decode cX12_drawn 166 = .ok (.ifCond .ne 66, 3) := by decide +kernel
theorem dX12_drawn_169 : decode cX12_drawn 169 = .ok (.aload_n 0, 1) := by decide +kernel
theorem dX12_drawn_170 : decode cX12_drawn 170 = .ok (.getfield 77, 3) := by decide +kernel
theorem dX12_drawn_173 : decode cX12_drawn 173 = .ok (.iload_n 1, 1) := by decide +kernel
theorem dX12_drawn_174 : decode cX12_drawn 174 = .ok (.iaload, 1) := by decide +kernel
theorem dX12_drawn_175 : decode cX12_drawn 175 = .ok (.aload_n 0, 1) := by decide +kernel
theorem dX12_drawn_176 : decode cX12_drawn 176 = .ok (.getfield 46, 3) := by decide +kernel
theorem dX12_drawn_179 : decode cX12_drawn 179 = .ok (.bipush 7, 2) := by decide +kernel
theorem dX12_drawn_181 : decode cX12_drawn 181 = .ok (.iload_n 1, 1) := by decide +kernel
theorem dX12_drawn_182 : decode cX12_drawn 182 = .ok (.imul, 1) := by decide +kernel
theorem dX12_drawn_183 : decode cX12_drawn 183 = .ok (.bipush 6, 2) := by decide +kernel
theorem dX12_drawn_185 : decode cX12_drawn 185 = .ok (.iadd, 1) := by decide +kernel
theorem dX12_drawn_186 : decode cX12_drawn 186 = .ok (.iaload, 1) := by decide +kernel
theorem dX12_drawn_187 : decode cX12_drawn 187 = .ok (.if_icmp .lt 45, 3) := by decide +kernel
theorem dX12_drawn_190 : decode cX12_drawn 190 = .ok (.aload_n 0, 1) := by decide +kernel
theorem dX12_drawn_191 : decode cX12_drawn 191 = .ok (.bipush 100, 2) := by decide +kernel
theorem dX12_drawn_193 : decode cX12_drawn 193 = .ok (.invokevirtual 439, 3) := by decide +kernel
theorem dX12_drawn_196 : decode cX12_drawn 196 = .ok (.aload_n 0, 1) := by decide +kernel
theorem dX12_drawn_197 : decode cX12_drawn 197 = .ok (.getfield 46, 3) := by decide +kernel
theorem dX12_drawn_200 : decode cX12_drawn 200 = .ok (.bipush 7, 2) := by decide +kernel
theorem dX12_drawn_202 : decode cX12_drawn 202 = .ok (.iload_n 1, 1) := by decide +kernel
theorem dX12_drawn_203 : decode cX12_drawn 203 = .ok (.imul, 1) := by decide +kernel
theorem dX12_drawn_204 : decode cX12_drawn 204 = .ok (.iconst 5, 1) := by decide +kernel
theorem dX12_drawn_205 : decode cX12_drawn 205 = .ok (.iadd, 1) := by decide +kernel
theorem dX12_drawn_206 : decode cX12_drawn 206 = .ok (.iaload, 1) := by decide +kernel
theorem dX12_drawn_207 : decode cX12_drawn 207 = .ok (.if_icmp .ge 25, 3) := by decide +kernel
theorem dX12_drawn_210 : decode cX12_drawn 210 = .ok (.aload_n 0, 1) := by decide +kernel
theorem dX12_drawn_211 : decode cX12_drawn 211 = .ok (.getfield 80, 3) := by decide +kernel
theorem dX12_drawn_214 : decode cX12_drawn 214 = .ok (.iload_n 1, 1) := by decide +kernel
theorem dX12_drawn_215 : decode cX12_drawn 215 = .ok (.dup2, 1) := by decide +kernel
theorem dX12_drawn_216 : decode cX12_drawn 216 = .ok (.iaload, 1) := by decide +kernel
theorem dX12_drawn_217 : decode cX12_drawn 217 = .ok (.aload_n 0, 1) := by decide +kernel
theorem dX12_drawn_218 : decode cX12_drawn 218 = .ok (.getfield 77, 3) := by decide +kernel
theorem dX12_drawn_221 : decode cX12_drawn 221 = .ok (.iload_n 1, 1) := by decide +kernel
theorem dX12_drawn_222 : decode cX12_drawn 222 = .ok (.iaload, 1) := by decide +kernel
theorem dX12_drawn_223 : decode cX12_drawn 223 = .ok (.iadd, 1) := by decide +kernel
theorem dX12_drawn_224 : decode cX12_drawn 224 = .ok (.iastore, 1) := by decide +kernel
theorem dX12_drawn_225 : decode cX12_drawn 225 = .ok (.aload_n 0, 1) := by decide +kernel
theorem dX12_drawn_226 : decode cX12_drawn 226 = .ok (.getfield 77, 3) := by decide +kernel
theorem dX12_drawn_229 : decode cX12_drawn 229 = .ok (.iload_n 1, 1) := by decide +kernel
theorem dX12_drawn_230 : decode cX12_drawn 230 = .ok (.iconst 0, 1) := by decide +kernel
theorem dX12_drawn_231 : decode cX12_drawn 231 = .ok (.iastore, 1) := by decide +kernel
theorem dX12_drawn_232 : decode cX12_drawn 232 = .ok (.iinc 5 1, 3) := by decide +kernel
theorem dX12_drawn_235 : decode cX12_drawn 235 = .ok (.goto (-180), 3) := by decide +kernel
theorem dX12_drawn_238 : decode cX12_drawn 238 = .ok (.iload 4, 2) := by decide +kernel
theorem dX12_drawn_240 : decode cX12_drawn 240 = .ok (.ireturn, 1) := by decide +kernel
theorem dX12_empty_0 : decode cX12_empty 0 = .ok (.aload_n 0, 1) := by decide +kernel
theorem dX12_empty_1 : decode cX12_empty 1 = .ok (.iconst 0, 1) := by decide +kernel
theorem dX12_empty_2 : decode cX12_empty 2 = .ok (.putfield 159, 3) := by decide +kernel
theorem dX12_empty_5 : decode cX12_empty 5 = .ok (.iload_n 1, 1) := by decide +kernel
theorem dX12_empty_6 : decode cX12_empty 6 = .ok (.invokestatic 166, 3) := by decide +kernel
theorem dX12_empty_9 : decode cX12_empty 9 = .ok (.ifCond .ne 9, 3) := by decide +kernel
theorem dX12_empty_12 : decode cX12_empty 12 = .ok (.aload_n 0, 1) := by decide +kernel
theorem dX12_empty_13 : decode cX12_empty 13 = .ok (.iconst 1, 1) := by decide +kernel
theorem dX12_empty_14 : decode cX12_empty 14 = .ok (.invokevirtual 289, 3) := by decide +kernel
theorem dX12_empty_17 : decode cX12_empty 17 = .ok (.ireturn, 1) := by decide +kernel
theorem dX12_empty_18 : decode cX12_empty 18 = .ok (.aload_n 0, 1) := by decide +kernel
theorem dX12_empty_19 : decode cX12_empty 19 = .ok (.getfield 77, 3) := by decide +kernel
theorem dX12_empty_22 : decode cX12_empty 22 = .ok (.iload_n 1, 1) := by decide +kernel
theorem dX12_empty_23 : decode cX12_empty 23 = .ok (.iaload, 1) := by decide +kernel
theorem dX12_empty_24 : decode cX12_empty 24 = .ok (.istore_n 2, 1) := by decide +kernel
theorem dX12_empty_25 : decode cX12_empty 25 = .ok (.aload_n 0, 1) := by decide +kernel
theorem dX12_empty_26 : decode cX12_empty 26 = .ok (.getfield 77, 3) := by decide +kernel
theorem dX12_empty_29 : decode cX12_empty 29 = .ok (.iload_n 1, 1) := by decide +kernel
theorem dX12_empty_30 : decode cX12_empty 30 = .ok (.iconst 0, 1) := by decide +kernel
theorem dX12_empty_31 : decode cX12_empty 31 = .ok (.iastore, 1) := by decide +kernel
theorem dX12_empty_32 : decode cX12_empty 32 = .ok (.iload_n 2, 1) := by decide +kernel
theorem dX12_empty_33 : decode cX12_empty 33 = .ok (.ireturn, 1) := by decide +kernel
theorem dX12_be_0 : decode cX12_be 0 = .ok (.iconst 0, 1) := by decide +kernel
theorem dX12_be_1 : decode cX12_be 1 = .ok (.istore_n 2, 1) := by decide +kernel
theorem dX12_be_2 : decode cX12_be 2 = .ok (.iload_n 2, 1) := by decide +kernel
theorem dX12_be_3 : decode cX12_be 3 = .ok (.aload_n 0, 1) := by decide +kernel
theorem dX12_be_4 : decode cX12_be 4 = .ok (.arraylength, 1) := by decide +kernel
theorem dX12_be_5 : decode cX12_be 5 = .ok (.if_icmp .ge 15, 3) := by decide +kernel
theorem dX12_be_8 : decode cX12_be 8 = .ok (.aload_n 0, 1) := by decide +kernel
theorem dX12_be_9 : decode cX12_be 9 = .ok (.iload_n 2, 1) := by decide +kernel
theorem dX12_be_10 : decode cX12_be 10 = .ok (.aload_n 1, 1) := by decide +kernel
theorem dX12_be_11 : decode cX12_be 11 = .ok (.iload_n 2, 1) := by decide +kernel
theorem dX12_be_12 : decode cX12_be 12 = .ok (.iaload, 1) := by decide +kernel
theorem dX12_be_13 : decode cX12_be 13 = .ok (.iastore, 1) := by decide +kernel
theorem dX12_be_14 : decode cX12_be 14 = .ok (.iinc 2 1, 3) := by decide +kernel
theorem dX12_be_17 : decode cX12_be 17 = .ok (.goto (-15), 3) := by decide +kernel
theorem dX12_be_20 : decode cX12_be 20 = .ok (.return_, 1) := by decide +kernel
theorem dX12_image_0 : decode cX12_image 0 = .ok (.aload_n 0, 1) := by decide +kernel
theorem dX12_image_1 : decode cX12_image 1 = .ok (.iconst 0, 1) := by decide +kernel
theorem dX12_image_2 : decode cX12_image 2 = .ok (.putfield 159, 3) := by decide +kernel
theorem dX12_image_5 : decode cX12_image 5 = .ok (.aload_n 0, 1) := by decide +kernel
theorem dX12_image_6 : decode cX12_image 6 = .ok (.iconst 1, 1) := by decide +kernel
theorem dX12_image_7 : decode cX12_image 7 = .ok (.putfield 298, 3) := by decide +kernel
theorem dX12_image_10 : decode cX12_image 10 = .ok (.aload_n 0, 1) := by decide +kernel
theorem dX12_image_11 : decode cX12_image 11 = .ok (.getfield 131, 3) := by decide +kernel
theorem dX12_image_14 : decode cX12_image 14 = .ok (.aload_n 0, 1) := by decide +kernel
theorem dX12_image_15 : decode cX12_image 15 = .ok (.getfield 65, 3) := by decide +kernel
theorem dX12_image_18 : decode cX12_image 18 = .ok (.invokestatic 442, 3) := by decide +kernel
theorem dX12_image_21 : decode cX12_image 21 = .ok (.aload_n 0, 1) := by decide +kernel
theorem dX12_image_22 : decode cX12_image 22 = .ok (.getfield 134, 3) := by decide +kernel
theorem dX12_image_25 : decode cX12_image 25 = .ok (.aload_n 0, 1) := by decide +kernel
theorem dX12_image_26 : decode cX12_image 26 = .ok (.getfield 68, 3) := by decide +kernel
theorem dX12_image_29 : decode cX12_image 29 = .ok (.invokestatic 442, 3) := by decide +kernel
theorem dX12_image_32 : decode cX12_image 32 = .ok (.aload_n 0, 1) := by decide +kernel
theorem dX12_image_33 : decode cX12_image 33 = .ok (.getfield 137, 3) := by decide +kernel
theorem dX12_image_36 : decode cX12_image 36 = .ok (.aload_n 0, 1) := by decide +kernel
theorem dX12_image_37 : decode cX12_image 37 = .ok (.getfield 71, 3) := by decide +kernel
theorem dX12_image_40 : decode cX12_image 40 = .ok (.invokestatic 442, 3) := by decide +kernel
theorem dX12_image_43 : decode cX12_image 43 = .ok (.aload_n 0, 1) := by decide +kernel
theorem dX12_image_44 : decode cX12_image 44 = .ok (.getfield 140, 3) := by decide +kernel
theorem dX12_image_47 : decode cX12_image 47 = .ok (.aload_n 0, 1) := by decide +kernel
theorem dX12_image_48 : decode cX12_image 48 = .ok (.getfield 74, 3) := by decide +kernel
theorem dX12_image_51 : decode cX12_image 51 = .ok (.invokestatic 442, 3) := by decide +kernel
theorem dX12_image_54 : decode cX12_image 54 = .ok (.aload_n 0, 1) := by decide +kernel
theorem dX12_image_55 : decode cX12_image 55 = .ok (.getfield 143, 3) := by decide +kernel
theorem dX12_image_58 : decode cX12_image 58 = .ok (.aload_n 0, 1) := by decide +kernel
theorem dX12_image_59 : decode cX12_image 59 = .ok (.getfield 77, 3) := by decide +kernel
theorem dX12_image_62 : decode cX12_image 62 = .ok (.invokestatic 442, 3) := by decide +kernel
theorem dX12_image_65 : decode cX12_image 65 = .ok (.aload_n 0, 1) := by decide +kernel
theorem dX12_image_66 : decode cX12_image 66 = .ok (.getfield 146, 3) := by decide +kernel
theorem dX12_image_69 : decode cX12_image 69 = .ok (.aload_n 0, 1) := by decide +kernel
theorem dX12_image_70 : decode cX12_image 70 = .ok (.getfield 80, 3) := by decide +kernel
theorem dX12_image_73 : decode cX12_image 73 = .ok (.invokestatic 442, 3) := by decide +kernel
theorem dX12_image_76 : decode cX12_image 76 = .ok (.aload_n 0, 1) := by decide +kernel
theorem dX12_image_77 : decode cX12_image 77 = .ok (.getfield 149, 3) := by decide +kernel
theorem dX12_image_80 : decode cX12_image 80 = .ok (.aload_n 0, 1) := by decide +kernel
theorem dX12_image_81 : decode cX12_image 81 = .ok (.getfield 83, 3) := by decide +kernel
theorem dX12_image_84 : decode cX12_image 84 = .ok (.invokestatic 442, 3) := by decide +kernel
theorem dX12_image_87 : decode cX12_image 87 = .ok (.aload_n 0, 1) := by decide +kernel
theorem dX12_image_88 : decode cX12_image 88 = .ok (.getfield 152, 3) := by decide +kernel
theorem dX12_image_91 : decode cX12_image 91 = .ok (.aload_n 0, 1) := by decide +kernel
theorem dX12_image_92 : decode cX12_image 92 = .ok (.getfield 86, 3) := by decide +kernel
theorem dX12_image_95 : decode cX12_image 95 = .ok (.invokestatic 442, 3) := by decide +kernel
theorem dX12_image_98 : decode cX12_image 98 = .ok (.return_, 1) := by decide +kernel
theorem dX12_restore_0 : decode cX12_restore 0 = .ok (.aload_n 0, 1) := by decide +kernel
theorem dX12_restore_1 : decode cX12_restore 1 = .ok (.iconst 0, 1) := by decide +kernel
theorem dX12_restore_2 : decode cX12_restore 2 = .ok (.putfield 159, 3) := by decide +kernel
theorem dX12_restore_5 : decode cX12_restore 5 = .ok (.aload_n 0, 1) := by decide +kernel
theorem dX12_restore_6 : decode cX12_restore 6 = .ok (.getfield 298, 3) := by decide +kernel
theorem dX12_restore_9 : decode cX12_restore 9 = .ok (.ifCond .ne 5, 3) := by decide +kernel
theorem dX12_restore_12 : decode cX12_restore 12 = .ok (.iconst 0, 1) := by decide +kernel
theorem dX12_restore_13 : decode cX12_restore 13 = .ok (.ireturn, 1) := by decide +kernel
theorem dX12_restore_14 : decode cX12_restore 14 = .ok (.aload_n 0, 1) := by decide +kernel
theorem dX12_restore_15 : decode cX12_restore 15 = .ok (.getfield 65, 3) := by decide +kernel
theorem dX12_restore_18 : decode cX12_restore 18 = .ok (.aload_n 0, 1) := by decide +kernel
theorem dX12_restore_19 : decode cX12_restore 19 = .ok (.getfield 131, 3) := by decide +kernel
theorem dX12_restore_22 : decode cX12_restore 22 = .ok (.invokestatic 442, 3) := by decide +kernel
theorem dX12_restore_25 : decode cX12_restore 25 = .ok (.aload_n 0, 1) := by decide +kernel
theorem dX12_restore_26 : decode cX12_restore 26 = .ok (.getfield 68, 3) := by decide +kernel
theorem dX12_restore_29 : decode cX12_restore 29 = .ok (.aload_n 0, 1) := by decide +kernel
theorem dX12_restore_30 : decode cX12_restore 30 = .ok (.getfield 134, 3) := by decide +kernel
theorem dX12_restore_33 : decode cX12_restore 33 = .ok (.invokestatic 442, 3) := by decide +kernel
theorem dX12_restore_36 : decode cX12_restore 36 = .ok (.aload_n 0, 1) := by decide +kernel
theorem dX12_restore_37 : decode cX12_restore 37 = .ok (.getfield 71, 3) := by decide +kernel
theorem dX12_restore_40 : decode cX12_restore 40 = .ok (.aload_n 0, 1) := by decide +kernel
theorem dX12_restore_41 : decode cX12_restore 41 = .ok (.getfield 137, 3) := by decide +kernel
theorem dX12_restore_44 : decode cX12_restore 44 = .ok (.invokestatic 442, 3) := by decide +kernel
theorem dX12_restore_47 : decode cX12_restore 47 = .ok (.aload_n 0, 1) := by decide +kernel
theorem dX12_restore_48 : decode cX12_restore 48 = .ok (.getfield 74, 3) := by decide +kernel
theorem dX12_restore_51 : decode cX12_restore 51 = .ok (.aload_n 0, 1) := by decide +kernel
theorem dX12_restore_52 : decode cX12_restore 52 = .ok (.getfield 140, 3) := by decide +kernel
theorem dX12_restore_55 : decode cX12_restore 55 = .ok (.invokestatic 442, 3) := by decide +kernel
theorem dX12_restore_58 : decode cX12_restore 58 = .ok (.aload_n 0, 1) := by decide +kernel
theorem dX12_restore_59 : decode cX12_restore 59 = .ok (.getfield 77, 3) := by decide +kernel
theorem dX12_restore_62 : decode cX12_restore 62 = .ok (.aload_n 0, 1) := by decide +kernel
theorem dX12_restore_63 : decode cX12_restore 63 = .ok (.getfield 143, 3) := by decide +kernel
theorem dX12_restore_66 : decode cX12_restore 66 = .ok (.invokestatic 442, 3) := by decide +kernel
theorem dX12_restore_69 : decode cX12_restore 69 = .ok (.aload_n 0, 1) := by decide +kernel
theorem dX12_restore_70 : decode cX12_restore 70 = .ok (.getfield 80, 3) := by decide +kernel
theorem dX12_restore_73 : decode cX12_restore 73 = .ok (.aload_n 0, 1) := by decide +kernel
theorem dX12_restore_74 : decode cX12_restore 74 = .ok (.getfield 146, 3) := by decide +kernel
theorem dX12_restore_77 : decode cX12_restore 77 = .ok (.invokestatic 442, 3) := by decide +kernel
theorem dX12_restore_80 : decode cX12_restore 80 = .ok (.aload_n 0, 1) := by decide +kernel
theorem dX12_restore_81 : decode cX12_restore 81 = .ok (.getfield 83, 3) := by decide +kernel
theorem dX12_restore_84 : decode cX12_restore 84 = .ok (.aload_n 0, 1) := by decide +kernel
theorem dX12_restore_85 : decode cX12_restore 85 = .ok (.getfield 149, 3) := by decide +kernel
theorem dX12_restore_88 : decode cX12_restore 88 = .ok (.invokestatic 442, 3) := by decide +kernel
theorem dX12_restore_91 : decode cX12_restore 91 = .ok (.aload_n 0, 1) := by decide +kernel
theorem dX12_restore_92 : decode cX12_restore 92 = .ok (.getfield 86, 3) := by decide +kernel
theorem dX12_restore_95 : decode cX12_restore 95 = .ok (.aload_n 0, 1) := by decide +kernel
theorem dX12_restore_96 : decode cX12_restore 96 = .ok (.getfield 152, 3) := by decide +kernel
theorem dX12_restore_99 : decode cX12_restore 99 = .ok (.invokestatic 442, 3) := by decide +kernel
theorem dX12_restore_102 : decode cX12_restore 102 = .ok (.iconst 1, 1) := by decide +kernel
theorem dX12_restore_103 : decode cX12_restore 103 = .ok (.ireturn, 1) := by decide +kernel

theorem dX7_init_26 : decode cX7_init 26 = .ok (.iconst 0, 1) := by decide +kernel
theorem dX7_init_27 : decode cX7_init 27 = .ok (.putfield 22, 3) := by decide +kernel
theorem dX7_init_30 : decode cX7_init 30 = .ok (.aload_n 0, 1) := by decide +kernel
theorem dX7_init_31 : decode cX7_init 31 = .ok (.aload_n 1, 1) := by decide +kernel
theorem dX7_init_32 : decode cX7_init 32 = .ok (.putfield 25, 3) := by decide +kernel
theorem dX7_init_35 : decode cX7_init 35 = .ok (.return_, 1) := by decide +kernel
theorem dX7_find_0 : decode cX7_find 0 = .ok (.aload_n 0, 1) := by decide +kernel
theorem dX7_find_1 : decode cX7_find 1 = .ok (.iload_n 1, 1) := by decide +kernel
theorem dX7_find_2 : decode cX7_find 2 = .ok (.putfield 22, 3) := by decide +kernel
theorem dX7_find_5 : decode cX7_find 5 = .ok (.aload_n 0, 1) := by decide +kernel
theorem dX7_find_6 : decode cX7_find 6 = .ok (.aload_n 0, 1) := by decide +kernel
theorem dX7_find_7 : decode cX7_find 7 = .ok (.getfield 25, 3) := by decide +kernel
theorem dX7_find_10 : decode cX7_find 10 = .ok (.getfield 29, 3) := by decide +kernel
theorem dX7_find_13 : decode cX7_find 13 = .ok (.invokevirtual 35, 3) := by decide +kernel
theorem dX7_find_16 : decode cX7_find 16 = .ok (.putfield 18, 3) := by decide +kernel
theorem dX7_find_19 : decode cX7_find 19 = .ok (.iconst 0, 1) := by decide +kernel
theorem dX7_find_20 : decode cX7_find 20 = .ok (.istore_n 2, 1) := by decide +kernel
theorem dX7_find_21 : decode cX7_find 21 = .ok (.iload_n 2, 1) := by decide +kernel
theorem dX7_find_22 : decode cX7_find 22 = .ok (.aload_n 0, 1) := by decide +kernel
theorem dX7_find_23 : decode cX7_find 23 = .ok (.getfield 18, 3) := by decide +kernel
theorem dX7_find_26 : decode cX7_find 26 = .ok (.if_icmp .ge 14, 3) := by decide +kernel
theorem dX7_find_29 : decode cX7_find 29 = .ok (.aload_n 0, 1) := by decide +kernel
theorem dX7_find_30 : decode cX7_find 30 = .ok (.iload_n 2, 1) := by decide +kernel
theorem dX7_find_31 : decode cX7_find 31 = .ok (.invokevirtual 40, 3) := by decide +kernel
theorem dX7_find_34 : decode cX7_find 34 = .ok (.iinc 2 1, 3) := by decide +kernel
theorem dX7_find_37 : decode cX7_find 37 = .ok (.goto (-16), 3) := by decide +kernel
theorem dX7_find_40 : decode cX7_find 40 = .ok (.iconst 0, 1) := by decide +kernel
theorem dX7_find_41 : decode cX7_find 41 = .ok (.istore_n 2, 1) := by decide +kernel
theorem dX7_find_42 : decode cX7_find 42 = .ok (.iload_n 2, 1) := by decide +kernel
theorem dX7_find_43 : decode cX7_find 43 = .ok (.aload_n 0, 1) := by decide +kernel
theorem dX7_find_44 : decode cX7_find 44 = .ok (.getfield 18, 3) := by decide +kernel
theorem dX7_find_47 : decode cX7_find 47 = .ok (.if_icmp .ge 40, 3) := by decide +kernel
theorem dX7_find_50 : decode cX7_find 50 = .ok (.iconst 0, 1) := by decide +kernel
theorem dX7_find_51 : decode cX7_find 51 = .ok (.istore_n 3, 1) := by decide +kernel
theorem dX7_find_52 : decode cX7_find 52 = .ok (.iload_n 3, 1) := by decide +kernel
theorem dX7_find_53 : decode cX7_find 53 = .ok (.aload_n 0, 1) := by decide +kernel
theorem dX7_find_54 : decode cX7_find 54 = .ok (.getfield 18, 3) := by decide +kernel
theorem dX7_find_57 : decode cX7_find 57 = .ok (.if_icmp .ge 24, 3) := by decide +kernel
theorem dX7_find_60 : decode cX7_find 60 = .ok (.aload_n 0, 1) := by decide +kernel
theorem dX7_find_61 : decode cX7_find 61 = .ok (.iload_n 3, 1) := by decide +kernel
theorem dX7_find_62 : decode cX7_find 62 = .ok (.iload_n 2, 1) := by decide +kernel
theorem dX7_find_63 : decode cX7_find 63 = .ok (.invokevirtual 44, 3) := by decide +kernel
theorem dX7_find_66 : decode cX7_find 66 = .ok (.ifCond .eq 9, 3) := by decide +kernel
theorem dX7_find_69 : decode cX7_find 69 = .ok (.aload_n 0, 1) := by decide +kernel
theorem dX7_find_70 : decode cX7_find 70 = .ok (.iload_n 2, 1) := by decide +kernel
theorem dX7_find_71 : decode cX7_find 71 = .ok (.iload_n 3, 1) := by decide +kernel
theorem dX7_find_72 : decode cX7_find 72 = .ok (.invokevirtual 48, 3) := by decide +kernel
theorem dX7_find_75 : decode cX7_find 75 = .ok (.iinc 3 1, 3) := by decide +kernel
theorem dX7_find_78 : decode cX7_find 78 = .ok (.goto (-26), 3) := by decide +kernel
theorem dX7_find_81 : decode cX7_find 81 = .ok (.iinc 2 1, 3) := by decide +kernel
theorem dX7_find_84 : decode cX7_find 84 = .ok (.goto (-42), 3) := by decide +kernel
theorem dX7_find_87 : decode cX7_find 87 = .ok (.return_, 1) := by decide +kernel
theorem dX7_howMany_0 : decode cX7_howMany 0 = .ok (.iconst 0, 1) := by decide +kernel
theorem dX7_howMany_1 : decode cX7_howMany 1 = .ok (.istore_n 1, 1) := by decide +kernel
theorem dX7_howMany_2 : decode cX7_howMany 2 = .ok (.iconst 0, 1) := by decide +kernel
theorem dX7_howMany_3 : decode cX7_howMany 3 = .ok (.istore_n 2, 1) := by decide +kernel
theorem dX7_howMany_4 : decode cX7_howMany 4 = .ok (.iload_n 2, 1) := by decide +kernel
theorem dX7_howMany_5 : decode cX7_howMany 5 = .ok (.aload_n 0, 1) := by decide +kernel
theorem dX7_howMany_6 : decode cX7_howMany 6 = .ok (.getfield 18, 3) := by decide +kernel
theorem dX7_howMany_9 : decode cX7_howMany 9 = .ok (.if_icmp .ge 25, 3) := by decide +kernel
theorem dX7_howMany_12 : decode cX7_howMany 12 = .ok (.iload_n 1, 1) := by decide +kernel
theorem dX7_howMany_13 : decode cX7_howMany 13 = .ok (.aload_n 0, 1) := by decide +kernel
theorem dX7_howMany_14 : decode cX7_howMany 14 = .ok (.iload_n 2, 1) := by decide +kernel
theorem dX7_howMany_15 : decode cX7_howMany 15 = .ok (.invokevirtual 52, 3) := by decide +kernel
theorem dX7_howMany_18 : decode cX7_howMany 18 = .ok (.ifCond .eq 7, 3) := by decide +kernel
theorem dX7_howMany_21 : decode cX7_howMany 21 = .ok (.iconst 1, 1) := by decide +kernel
theorem dX7_howMany_22 : decode cX7_howMany 22 = .ok (.goto 4, 3) := by decide +kernel
theorem dX7_howMany_25 : decode cX7_howMany 25 = .ok (.iconst 0, 1) := by decide +kernel
theorem dX7_howMany_26 : decode cX7_howMany 26 = .ok (.iadd, 1) := by decide +kernel
theorem dX7_howMany_27 : decode cX7_howMany 27 = .ok (.istore_n 1, 1) := by decide +kernel
theorem dX7_howMany_28 : decode cX7_howMany 28 = .ok (.iinc 2 1, 3) := by decide +kernel
theorem dX7_howMany_31 : decode cX7_howMany 31 = .ok (.goto (-27), 3) := by decide +kernel
theorem dX7_howMany_34 : decode cX7_howMany 34 = .ok (.iload_n 1, 1) := by decide +kernel
theorem dX7_howMany_35 : decode cX7_howMany 35 = .ok (.ireturn, 1) := by decide +kernel
theorem dX7_leastOf_0 : decode cX7_leastOf 0 = .ok (.iconst 0, 1) := by decide +kernel
theorem dX7_leastOf_1 : decode cX7_leastOf 1 = .ok (.istore_n 2, 1) := by decide +kernel
theorem dX7_leastOf_2 : decode cX7_leastOf 2 = .ok (.iconst 0, 1) := by decide +kernel
theorem dX7_leastOf_3 : decode cX7_leastOf 3 = .ok (.istore_n 3, 1) := by decide +kernel
theorem dX7_leastOf_4 : decode cX7_leastOf 4 = .ok (.iload_n 3, 1) := by decide +kernel
theorem dX7_leastOf_5 : decode cX7_leastOf 5 = .ok (.aload_n 0, 1) := by decide +kernel
theorem dX7_leastOf_6 : decode cX7_leastOf 6 = .ok (.getfield 18, 3) := by decide +kernel
theorem dX7_leastOf_9 : decode cX7_leastOf 9 = .ok (.if_icmp .ge 27, 3) := by decide +kernel
theorem dX7_leastOf_12 : decode cX7_leastOf 12 = .ok (.aload_n 0, 1) := by decide +kernel
theorem dX7_leastOf_13 : decode cX7_leastOf 13 = .ok (.iload_n 3, 1) := by decide +kernel
theorem dX7_leastOf_14 : decode cX7_leastOf 14 = .ok (.invokevirtual 52, 3) := by decide +kernel
theorem dX7_leastOf_17 : decode cX7_leastOf 17 = .ok (.ifCond .eq 13, 3) := by decide +kernel
theorem dX7_leastOf_20 : decode cX7_leastOf 20 = .ok (.iload_n 2, 1) := by decide +kernel
theorem dX7_leastOf_21 : decode cX7_leastOf 21 = .ok (.iload_n 1, 1) := by decide +kernel
theorem dX7_leastOf_22 : decode cX7_leastOf 22 = .ok (.if_icmp .ne 5, 3) := by decide +kernel
theorem dX7_leastOf_25 : decode cX7_leastOf 25 = .ok (.iload_n 3, 1) := by decide +kernel
theorem dX7_leastOf_26 : decode cX7_leastOf 26 = .ok (.ireturn, 1) := by decide +kernel
theorem dX7_leastOf_27 : decode cX7_leastOf 27 = .ok (.iinc 2 1, 3) := by decide +kernel
theorem dX7_leastOf_30 : decode cX7_leastOf 30 = .ok (.iinc 3 1, 3) := by decide +kernel
theorem dX7_leastOf_33 : decode cX7_leastOf 33 = .ok (.goto (-29), 3) := by decide +kernel
theorem dX7_leastOf_36 : decode cX7_leastOf 36 = .ok (.iconst (-1), 1) := by decide +kernel
theorem dX7_leastOf_37 : decode cX7_leastOf 37 = .ok (.ireturn, 1) := by decide +kernel
theorem dX7_sizeFrom_0 : decode cX7_sizeFrom 0 = .ok (.iconst 0, 1) := by decide +kernel
theorem dX7_sizeFrom_1 : decode cX7_sizeFrom 1 = .ok (.istore_n 2, 1) := by decide +kernel
theorem dX7_sizeFrom_2 : decode cX7_sizeFrom 2 = .ok (.iconst 0, 1) := by decide +kernel
theorem dX7_sizeFrom_3 : decode cX7_sizeFrom 3 = .ok (.istore_n 3, 1) := by decide +kernel
theorem dX7_sizeFrom_4 : decode cX7_sizeFrom 4 = .ok (.iload_n 3, 1) := by decide +kernel
theorem dX7_sizeFrom_5 : decode cX7_sizeFrom 5 = .ok (.aload_n 0, 1) := by decide +kernel
theorem dX7_sizeFrom_6 : decode cX7_sizeFrom 6 = .ok (.getfield 18, 3) := by decide +kernel
theorem dX7_sizeFrom_9 : decode cX7_sizeFrom 9 = .ok (.if_icmp .ge 26, 3) := by decide +kernel
theorem dX7_sizeFrom_12 : decode cX7_sizeFrom 12 = .ok (.iload_n 2, 1) := by decide +kernel
theorem dX7_sizeFrom_13 : decode cX7_sizeFrom 13 = .ok (.aload_n 0, 1) := by decide +kernel
theorem dX7_sizeFrom_14 : decode cX7_sizeFrom 14 = .ok (.iload_n 1, 1) := by decide +kernel
theorem dX7_sizeFrom_15 : decode cX7_sizeFrom 15 = .ok (.iload_n 3, 1) := by decide +kernel
theorem dX7_sizeFrom_16 : decode cX7_sizeFrom 16 = .ok (.invokevirtual 44, 3) := by decide +kernel
theorem dX7_sizeFrom_19 : decode cX7_sizeFrom 19 = .ok (.ifCond .eq 7, 3) := by decide +kernel
theorem dX7_sizeFrom_22 : decode cX7_sizeFrom 22 = .ok (.iconst 1, 1) := by decide +kernel
theorem dX7_sizeFrom_23 : decode cX7_sizeFrom 23 = .ok (.goto 4, 3) := by decide +kernel
theorem dX7_sizeFrom_26 : decode cX7_sizeFrom 26 = .ok (.iconst 0, 1) := by decide +kernel
theorem dX7_sizeFrom_27 : decode cX7_sizeFrom 27 = .ok (.iadd, 1) := by decide +kernel
theorem dX7_sizeFrom_28 : decode cX7_sizeFrom 28 = .ok (.istore_n 2, 1) := by decide +kernel
theorem dX7_sizeFrom_29 : decode cX7_sizeFrom 29 = .ok (.iinc 3 1, 3) := by decide +kernel
theorem dX7_sizeFrom_32 : decode cX7_sizeFrom 32 = .ok (.goto (-28), 3) := by decide +kernel
theorem dX7_sizeFrom_35 : decode cX7_sizeFrom 35 = .ok (.iload_n 2, 1) := by decide +kernel
theorem dX7_sizeFrom_36 : decode cX7_sizeFrom 36 = .ok (.ireturn, 1) := by decide +kernel
theorem dX7_isLeastOfRest_0 : decode cX7_isLeastOfRest 0 = .ok (.aload_n 0, 1) := by decide +kernel
theorem dX7_isLeastOfRest_1 : decode cX7_isLeastOfRest 1 = .ok (.aload_n 0, 1) := by decide +kernel
theorem dX7_isLeastOfRest_2 : decode cX7_isLeastOfRest 2 = .ok (.getfield 22, 3) := by decide +kernel
theorem dX7_isLeastOfRest_5 : decode cX7_isLeastOfRest 5 = .ok (.iload_n 1, 1) := by decide +kernel
theorem dX7_isLeastOfRest_6 : decode cX7_isLeastOfRest 6 = .ok (.invokevirtual 44, 3) := by decide +kernel
theorem dX7_isLeastOfRest_9 : decode cX7_isLeastOfRest 9 = .ok (.ifCond .ne 5, 3) := by decide +kernel
theorem dX7_isLeastOfRest_12 : decode cX7_isLeastOfRest 12 = .ok (.iconst 0, 1) := by decide +kernel
theorem dX7_isLeastOfRest_13 : decode cX7_isLeastOfRest 13 = .ok (.ireturn, 1) := by decide +kernel
theorem dX7_isLeastOfRest_14 : decode cX7_isLeastOfRest 14 = .ok (.iconst 0, 1) := by decide +kernel
theorem dX7_isLeastOfRest_15 : decode cX7_isLeastOfRest 15 = .ok (.istore_n 2, 1) := by decide +kernel
theorem dX7_isLeastOfRest_16 : decode cX7_isLeastOfRest 16 = .ok (.iload_n 2, 1) := by decide +kernel
theorem dX7_isLeastOfRest_17 : decode cX7_isLeastOfRest 17 = .ok (.aload_n 0, 1) := by decide +kernel
theorem dX7_isLeastOfRest_18 : decode cX7_isLeastOfRest 18 = .ok (.getfield 18, 3) := by decide +kernel
theorem dX7_isLeastOfRest_21 : decode cX7_isLeastOfRest 21 = .ok (.if_icmp .ge 34, 3) := by decide +kernel
theorem dX7_isLeastOfRest_24 : decode cX7_isLeastOfRest 24 = .ok (.aload_n 0, 1) := by decide +kernel
theorem dX7_isLeastOfRest_25 : decode cX7_isLeastOfRest 25 = .ok (.iload_n 1, 1) := by decide +kernel
theorem dX7_isLeastOfRest_26 : decode cX7_isLeastOfRest 26 = .ok (.iload_n 2, 1) := by decide +kernel
theorem dX7_isLeastOfRest_27 : decode cX7_isLeastOfRest 27 = .ok (.invokevirtual 44, 3) := by decide +kernel
theorem dX7_isLeastOfRest_30 : decode cX7_isLeastOfRest 30 = .ok (.ifCond .eq 19, 3) := by decide +kernel
theorem dX7_isLeastOfRest_33 : decode cX7_isLeastOfRest 33 = .ok (.iload_n 2, 1) := by decide +kernel
theorem dX7_isLeastOfRest_34 : decode cX7_isLeastOfRest 34 = .ok (.iload_n 1, 1) := by decide +kernel
theorem dX7_isLeastOfRest_35 : decode cX7_isLeastOfRest 35 = .ok (.if_icmp .lt 12, 3) := by decide +kernel
theorem dX7_isLeastOfRest_38 : decode cX7_isLeastOfRest 38 = .ok (.aload_n 0, 1) := by decide +kernel
theorem dX7_isLeastOfRest_39 : decode cX7_isLeastOfRest 39 = .ok (.iload_n 2, 1) := by decide +kernel
theorem dX7_isLeastOfRest_40 : decode cX7_isLeastOfRest 40 = .ok (.iload_n 1, 1) := by decide +kernel
theorem dX7_isLeastOfRest_41 : decode cX7_isLeastOfRest 41 = .ok (.invokevirtual 44, 3) := by decide +kernel
theorem dX7_isLeastOfRest_44 : decode cX7_isLeastOfRest 44 = .ok (.ifCond .ne 5, 3) := by decide +kernel
theorem dX7_isLeastOfRest_47 : decode cX7_isLeastOfRest 47 = .ok (.iconst 0, 1) := by decide +kernel
theorem dX7_isLeastOfRest_48 : decode cX7_isLeastOfRest 48 = .ok (.ireturn, 1) := by decide +kernel
theorem dX7_isLeastOfRest_49 : decode cX7_isLeastOfRest 49 = .ok (.iinc 2 1, 3) := by decide +kernel
theorem dX7_isLeastOfRest_52 : decode cX7_isLeastOfRest 52 = .ok (.goto (-36), 3) := by decide +kernel
theorem dX7_isLeastOfRest_55 : decode cX7_isLeastOfRest 55 = .ok (.iconst 1, 1) := by decide +kernel
theorem dX7_isLeastOfRest_56 : decode cX7_isLeastOfRest 56 = .ok (.ireturn, 1) := by decide +kernel
theorem dX7_link_0 : decode cX7_link 0 = .ok (.aload_n 0, 1) := by decide +kernel
theorem dX7_link_1 : decode cX7_link 1 = .ok (.iload_n 1, 1) := by decide +kernel
theorem dX7_link_2 : decode cX7_link 2 = .ok (.invokevirtual 56, 3) := by decide +kernel
theorem dX7_link_5 : decode cX7_link 5 = .ok (.ifCond .eq 17, 3) := by decide +kernel
theorem dX7_link_8 : decode cX7_link 8 = .ok (.aload_n 0, 1) := by decide +kernel
theorem dX7_link_9 : decode cX7_link 9 = .ok (.getfield 9, 3) := by decide +kernel
theorem dX7_link_12 : decode cX7_link 12 = .ok (.iload_n 1, 1) := by decide +kernel
theorem dX7_link_13 : decode cX7_link 13 = .ok (.lconst 0, 1) := by decide +kernel
theorem dX7_link_14 : decode cX7_link 14 = .ok (.lastore, 1) := by decide +kernel
theorem dX7_link_15 : decode cX7_link 15 = .ok (.aload_n 0, 1) := by decide +kernel
theorem dX7_link_16 : decode cX7_link 16 = .ok (.getfield 15, 3) := by decide +kernel
theorem dX7_link_19 : decode cX7_link 19 = .ok (.iload_n 1, 1) := by decide +kernel
theorem dX7_link_20 : decode cX7_link 20 = .ok (.lconst 0, 1) := by decide +kernel
theorem dX7_link_21 : decode cX7_link 21 = .ok (.lastore, 1) := by decide +kernel
theorem dX7_link_22 : decode cX7_link 22 = .ok (.aload_n 0, 1) := by decide +kernel
theorem dX7_link_23 : decode cX7_link 23 = .ok (.iload_n 1, 1) := by decide +kernel
theorem dX7_link_24 : decode cX7_link 24 = .ok (.iload_n 1, 1) := by decide +kernel
theorem dX7_link_25 : decode cX7_link 25 = .ok (.invokevirtual 59, 3) := by decide +kernel
theorem dX7_link_28 : decode cX7_link 28 = .ok (.iconst 0, 1) := by decide +kernel
theorem dX7_link_29 : decode cX7_link 29 = .ok (.istore_n 2, 1) := by decide +kernel
theorem dX7_link_30 : decode cX7_link 30 = .ok (.iload_n 2, 1) := by decide +kernel
theorem dX7_link_31 : decode cX7_link 31 = .ok (.aload_n 0, 1) := by decide +kernel
theorem dX7_link_32 : decode cX7_link 32 = .ok (.getfield 25, 3) := by decide +kernel
theorem dX7_link_35 : decode cX7_link 35 = .ok (.getfield 29, 3) := by decide +kernel
theorem dX7_link_38 : decode cX7_link 38 = .ok (.getfield 62, 3) := by decide +kernel
theorem dX7_link_41 : decode cX7_link 41 = .ok (.if_icmp .ge 42, 3) := by decide +kernel
theorem dX7_link_44 : decode cX7_link 44 = .ok (.aload_n 0, 1) := by decide +kernel
theorem dX7_link_45 : decode cX7_link 45 = .ok (.getfield 25, 3) := by decide +kernel
theorem dX7_link_48 : decode cX7_link 48 = .ok (.iload_n 2, 1) := by decide +kernel
theorem dX7_link_49 : decode cX7_link 49 = .ok (.iload_n 1, 1) := by decide +kernel
theorem dX7_link_50 : decode cX7_link 50 = .ok (.iconst 0, 1) := by decide +kernel
theorem dX7_link_51 : decode cX7_link 51 = .ok (.invokevirtual 65, 3) := by decide +kernel
theorem dX7_link_54 : decode cX7_link 54 = .ok (.istore_n 3, 1) := by decide +kernel
theorem dX7_link_55 : decode cX7_link 55 = .ok (.iload_n 3, 1) := by decide +kernel
theorem dX7_link_56 : decode cX7_link 56 = .ok (.iconst (-1), 1) := by decide +kernel
theorem dX7_link_57 : decode cX7_link 57 = .ok (.if_icmp .eq 20, 3) := by decide +kernel
theorem dX7_link_60 : decode cX7_link 60 = .ok (.aload_n 0, 1) := by decide +kernel
theorem dX7_link_61 : decode cX7_link 61 = .ok (.iload_n 1, 1) := by decide +kernel
theorem dX7_link_62 : decode cX7_link 62 = .ok (.aload_n 0, 1) := by decide +kernel
theorem dX7_link_63 : decode cX7_link 63 = .ok (.getfield 25, 3) := by decide +kernel
theorem dX7_link_66 : decode cX7_link 66 = .ok (.getfield 29, 3) := by decide +kernel
theorem dX7_link_69 : decode cX7_link 69 = .ok (.iload_n 1, 1) := by decide +kernel
theorem dX7_link_70 : decode cX7_link 70 = .ok (.iload_n 3, 1) := by decide +kernel
theorem dX7_link_71 : decode cX7_link 71 = .ok (.invokevirtual 69, 3) := by decide +kernel
theorem dX7_link_74 : decode cX7_link 74 = .ok (.invokevirtual 59, 3) := by decide +kernel
theorem dX7_link_77 : decode cX7_link 77 = .ok (.iinc 2 1, 3) := by decide +kernel
theorem dX7_link_80 : decode cX7_link 80 = .ok (.goto (-50), 3) := by decide +kernel
theorem dX7_link_83 : decode cX7_link 83 = .ok (.return_, 1) := by decide +kernel
theorem dX7_mark_0 : decode cX7_mark 0 = .ok (.aload_n 0, 1) := by decide +kernel
theorem dX7_mark_1 : decode cX7_mark 1 = .ok (.iload_n 1, 1) := by decide +kernel
theorem dX7_mark_2 : decode cX7_mark 2 = .ok (.invokevirtual 56, 3) := by decide +kernel
theorem dX7_mark_5 : decode cX7_mark 5 = .ok (.ifCond .ne 4, 3) := by decide +kernel
theorem dX7_mark_8 : decode cX7_mark 8 = .ok (.return_, 1) := by decide +kernel
theorem dX7_mark_9 : decode cX7_mark 9 = .ok (.iload_n 2, 1) := by decide +kernel
theorem dX7_mark_10 : decode cX7_mark 10 = .ok (.bipush 64, 2) := by decide +kernel
theorem dX7_mark_12 : decode cX7_mark 12 = .ok (.if_icmp .ge 18, 3) := by decide +kernel
theorem dX7_mark_15 : decode cX7_mark 15 = .ok (.aload_n 0, 1) := by decide +kernel
theorem dX7_mark_16 : decode cX7_mark 16 = .ok (.getfield 9, 3) := by decide +kernel
theorem dX7_mark_19 : decode cX7_mark 19 = .ok (.iload_n 1, 1) := by decide +kernel
theorem dX7_mark_20 : decode cX7_mark 20 = .ok (.dup2, 1) := by decide +kernel
theorem dX7_mark_21 : decode cX7_mark 21 = .ok (.laload, 1) := by decide +kernel
theorem dX7_mark_22 : decode cX7_mark 22 = .ok (.lconst 1, 1) := by decide +kernel
theorem dX7_mark_23 : decode cX7_mark 23 = .ok (.iload_n 2, 1) := by decide +kernel
theorem dX7_mark_24 : decode cX7_mark 24 = .ok (.lshl, 1) := by decide +kernel
theorem dX7_mark_25 : decode cX7_mark 25 = .ok (.lor, 1) := by decide +kernel
theorem dX7_mark_26 : decode cX7_mark 26 = .ok (.lastore, 1) := by decide +kernel
theorem dX7_mark_27 : decode cX7_mark 27 = .ok (.goto 18, 3) := by decide +kernel
theorem dX7_mark_30 : decode cX7_mark 30 = .ok (.aload_n 0, 1) := by decide +kernel
theorem dX7_mark_31 : decode cX7_mark 31 = .ok (.getfield 15, 3) := by decide +kernel
theorem dX7_mark_34 : decode cX7_mark 34 = .ok (.iload_n 1, 1) := by decide +kernel
theorem dX7_mark_35 : decode cX7_mark 35 = .ok (.dup2, 1) := by decide +kernel
theorem dX7_mark_36 : decode cX7_mark 36 = .ok (.laload, 1) := by decide +kernel
theorem dX7_mark_37 : decode cX7_mark 37 = .ok (.lconst 1, 1) := by decide +kernel
theorem dX7_mark_38 : decode cX7_mark 38 = .ok (.iload_n 2, 1) := by decide +kernel
theorem dX7_mark_39 : decode cX7_mark 39 = .ok (.bipush 64, 2) := by decide +kernel
theorem dX7_mark_41 : decode cX7_mark 41 = .ok (.isub, 1) := by decide +kernel
theorem dX7_mark_42 : decode cX7_mark 42 = .ok (.lshl, 1) := by decide +kernel
theorem dX7_mark_43 : decode cX7_mark 43 = .ok (.lor, 1) := by decide +kernel
theorem dX7_mark_44 : decode cX7_mark 44 = .ok (.lastore, 1) := by decide +kernel
theorem dX7_mark_45 : decode cX7_mark 45 = .ok (.return_, 1) := by decide +kernel
theorem dX7_reachAsFarAs_0 : decode cX7_reachAsFarAs 0 = .ok (.aload_n 0, 1) := by decide +kernel
theorem dX7_reachAsFarAs_1 : decode cX7_reachAsFarAs 1 = .ok (.iload_n 1, 1) := by decide +kernel
theorem dX7_reachAsFarAs_2 : decode cX7_reachAsFarAs 2 = .ok (.invokevirtual 56, 3) := by decide +kernel
theorem dX7_reachAsFarAs_5 : decode cX7_reachAsFarAs 5 = .ok (.ifCond .eq 41, 3) := by decide +kernel
theorem dX7_reachAsFarAs_8 : decode cX7_reachAsFarAs 8 = .ok (.aload_n 0, 1) := by decide +kernel
theorem dX7_reachAsFarAs_9 : decode cX7_reachAsFarAs 9 = .ok (.iload_n 2, 1) := by decide +kernel
theorem dX7_reachAsFarAs_10 : decode cX7_reachAsFarAs 10 = .ok (.invokevirtual 56, 3) := by decide +kernel
theorem dX7_reachAsFarAs_13 : decode cX7_reachAsFarAs 13 = .ok (.ifCond .eq 33, 3) := by decide +kernel
theorem dX7_reachAsFarAs_16 : decode cX7_reachAsFarAs 16 = .ok (.aload_n 0, 1) := by decide +kernel
theorem dX7_reachAsFarAs_17 : decode cX7_reachAsFarAs 17 = .ok (.getfield 9, 3) := by decide +kernel
theorem dX7_reachAsFarAs_20 : decode cX7_reachAsFarAs 20 = .ok (.iload_n 2, 1) := by decide +kernel
theorem dX7_reachAsFarAs_21 : decode cX7_reachAsFarAs 21 = .ok (.dup2, 1) := by decide +kernel
theorem dX7_reachAsFarAs_22 : decode cX7_reachAsFarAs 22 = .ok (.laload, 1) := by decide +kernel
theorem dX7_reachAsFarAs_23 : decode cX7_reachAsFarAs 23 = .ok (.aload_n 0, 1) := by decide +kernel
theorem dX7_reachAsFarAs_24 : decode cX7_reachAsFarAs 24 = .ok (.getfield 9, 3) := by decide +kernel
theorem dX7_reachAsFarAs_27 : decode cX7_reachAsFarAs 27 = .ok (.iload_n 1, 1) := by decide +kernel
theorem dX7_reachAsFarAs_28 : decode cX7_reachAsFarAs 28 = .ok (.laload, 1) := by decide +kernel
theorem dX7_reachAsFarAs_29 : decode cX7_reachAsFarAs 29 = .ok (.lor, 1) := by decide +kernel
theorem dX7_reachAsFarAs_30 : decode cX7_reachAsFarAs 30 = .ok (.lastore, 1) := by decide +kernel
theorem dX7_reachAsFarAs_31 : decode cX7_reachAsFarAs 31 = .ok (.aload_n 0, 1) := by decide +kernel
theorem dX7_reachAsFarAs_32 : decode cX7_reachAsFarAs 32 = .ok (.getfield 15, 3) := by decide +kernel
theorem dX7_reachAsFarAs_35 : decode cX7_reachAsFarAs 35 = .ok (.iload_n 2, 1) := by decide +kernel
theorem dX7_reachAsFarAs_36 : decode cX7_reachAsFarAs 36 = .ok (.dup2, 1) := by decide +kernel
theorem dX7_reachAsFarAs_37 : decode cX7_reachAsFarAs 37 = .ok (.laload, 1) := by decide +kernel
theorem dX7_reachAsFarAs_38 : decode cX7_reachAsFarAs 38 = .ok (.aload_n 0, 1) := by decide +kernel
theorem dX7_reachAsFarAs_39 : decode cX7_reachAsFarAs 39 = .ok (.getfield 15, 3) := by decide +kernel
theorem dX7_reachAsFarAs_42 : decode cX7_reachAsFarAs 42 = .ok (.iload_n 1, 1) := by decide +kernel
theorem dX7_reachAsFarAs_43 : decode cX7_reachAsFarAs 43 = .ok (.laload, 1) := by decide +kernel
theorem dX7_reachAsFarAs_44 : decode cX7_reachAsFarAs 44 = .ok (.lor, 1) := by decide +kernel
theorem dX7_reachAsFarAs_45 : decode cX7_reachAsFarAs 45 = .ok (.lastore, 1) := by decide +kernel
theorem dX7_reachAsFarAs_46 : decode cX7_reachAsFarAs 46 = .ok (.return_, 1) := by decide +kernel
theorem dX7_reaches_0 : decode cX7_reaches 0 = .ok (.aload_n 0, 1) := by decide +kernel
theorem dX7_reaches_1 : decode cX7_reaches 1 = .ok (.iload_n 1, 1) := by decide +kernel
theorem dX7_reaches_2 : decode cX7_reaches 2 = .ok (.invokevirtual 56, 3) := by decide +kernel
theorem dX7_reaches_5 : decode cX7_reaches 5 = .ok (.ifCond .ne 5, 3) := by decide +kernel
theorem dX7_reaches_8 : decode cX7_reaches 8 = .ok (.iconst 0, 1) := by decide +kernel
theorem dX7_reaches_9 : decode cX7_reaches 9 = .ok (.ireturn, 1) := by decide +kernel
theorem dX7_reaches_10 : decode cX7_reaches 10 = .ok (.iload_n 2, 1) := by decide +kernel
theorem dX7_reaches_11 : decode cX7_reaches 11 = .ok (.bipush 64, 2) := by decide +kernel
theorem dX7_reaches_13 : decode cX7_reaches 13 = .ok (.if_icmp .ge 14, 3) := by decide +kernel
theorem dX7_reaches_16 : decode cX7_reaches 16 = .ok (.aload_n 0, 1) := by decide +kernel
theorem dX7_reaches_17 : decode cX7_reaches 17 = .ok (.getfield 9, 3) := by decide +kernel
theorem dX7_reaches_20 : decode cX7_reaches 20 = .ok (.iload_n 1, 1) := by decide +kernel
theorem dX7_reaches_21 : decode cX7_reaches 21 = .ok (.laload, 1) := by decide +kernel
theorem dX7_reaches_22 : decode cX7_reaches 22 = .ok (.iload_n 2, 1) := by decide +kernel
theorem dX7_reaches_23 : decode cX7_reaches 23 = .ok (.lshr, 1) := by decide +kernel
theorem dX7_reaches_24 : decode cX7_reaches 24 = .ok (.goto 14, 3) := by decide +kernel
theorem dX7_reaches_27 : decode cX7_reaches 27 = .ok (.aload_n 0, 1) := by decide +kernel
theorem dX7_reaches_28 : decode cX7_reaches 28 = .ok (.getfield 15, 3) := by decide +kernel
theorem dX7_reaches_31 : decode cX7_reaches 31 = .ok (.iload_n 1, 1) := by decide +kernel
theorem dX7_reaches_32 : decode cX7_reaches 32 = .ok (.laload, 1) := by decide +kernel
theorem dX7_reaches_33 : decode cX7_reaches 33 = .ok (.iload_n 2, 1) := by decide +kernel
theorem dX7_reaches_34 : decode cX7_reaches 34 = .ok (.bipush 64, 2) := by decide +kernel
theorem dX7_reaches_36 : decode cX7_reaches 36 = .ok (.isub, 1) := by decide +kernel
theorem dX7_reaches_37 : decode cX7_reaches 37 = .ok (.lshr, 1) := by decide +kernel
theorem dX7_reaches_38 : decode cX7_reaches 38 = .ok (.lstore_n 3, 1) := by decide +kernel
theorem dX7_reaches_39 : decode cX7_reaches 39 = .ok (.lload_n 3, 1) := by decide +kernel
theorem dX7_reaches_40 : decode cX7_reaches 40 = .ok (.lconst 1, 1) := by decide +kernel
theorem dX7_reaches_41 : decode cX7_reaches 41 = .ok (.land, 1) := by decide +kernel
theorem dX7_reaches_42 : decode cX7_reaches 42 = .ok (.lconst 1, 1) := by decide +kernel
theorem dX7_reaches_43 : decode cX7_reaches 43 = .ok (.lcmp, 1) := by decide +kernel
theorem dX7_reaches_44 : decode cX7_reaches 44 = .ok (.ifCond .ne 7, 3) := by decide +kernel
theorem dX7_reaches_47 : decode cX7_reaches 47 = .ok (.iconst 1, 1) := by decide +kernel
theorem dX7_reaches_48 : decode cX7_reaches 48 = .ok (.goto 4, 3) := by decide +kernel
theorem dX7_reaches_51 : decode cX7_reaches 51 = .ok (.iconst 0, 1) := by decide +kernel
theorem dX7_reaches_52 : decode cX7_reaches 52 = .ok (.ireturn, 1) := by decide +kernel
theorem dX7_isRow_0 : decode cX7_isRow 0 = .ok (.iload_n 1, 1) := by decide +kernel
theorem dX7_isRow_1 : decode cX7_isRow 1 = .ok (.ifCond .lt 25, 3) := by decide +kernel
theorem dX7_isRow_4 : decode cX7_isRow 4 = .ok (.iload_n 1, 1) := by decide +kernel
theorem dX7_isRow_5 : decode cX7_isRow 5 = .ok (.aload_n 0, 1) := by decide +kernel
theorem dX7_isRow_6 : decode cX7_isRow 6 = .ok (.getfield 9, 3) := by decide +kernel
theorem dX7_isRow_9 : decode cX7_isRow 9 = .ok (.arraylength, 1) := by decide +kernel
theorem dX7_isRow_10 : decode cX7_isRow 10 = .ok (.if_icmp .ge 16, 3) := by decide +kernel
theorem dX7_isRow_13 : decode cX7_isRow 13 = .ok (.iload_n 1, 1) := by decide +kernel
theorem dX7_isRow_14 : decode cX7_isRow 14 = .ok (.aload_n 0, 1) := by decide +kernel
theorem dX7_isRow_15 : decode cX7_isRow 15 = .ok (.getfield 15, 3) := by decide +kernel
theorem dX7_isRow_18 : decode cX7_isRow 18 = .ok (.arraylength, 1) := by decide +kernel
theorem dX7_isRow_19 : decode cX7_isRow 19 = .ok (.if_icmp .ge 7, 3) := by decide +kernel
theorem dX7_isRow_22 : decode cX7_isRow 22 = .ok (.iconst 1, 1) := by decide +kernel
theorem dX7_isRow_23 : decode cX7_isRow 23 = .ok (.goto 4, 3) := by decide +kernel
theorem dX7_isRow_26 : decode cX7_isRow 26 = .ok (.iconst 0, 1) := by decide +kernel
theorem dX7_isRow_27 : decode cX7_isRow 27 = .ok (.ireturn, 1) := by decide +kernel
theorem dX8_init_0 : decode cX8_init 0 = .ok (.aload_n 0, 1) := by decide +kernel
theorem dX8_init_1 : decode cX8_init 1 = .ok (.invokespecial 3, 3) := by decide +kernel
theorem dX8_init_4 : decode cX8_init 4 = .ok (.aload_n 0, 1) := by decide +kernel
theorem dX8_init_5 : decode cX8_init 5 = .ok (.iconst 0, 1) := by decide +kernel
theorem dX8_init_6 : decode cX8_init 6 = .ok (.putfield 9, 3) := by decide +kernel
theorem dX8_init_9 : decode cX8_init 9 = .ok (.aload_n 0, 1) := by decide +kernel
theorem dX8_init_10 : decode cX8_init 10 = .ok (.iconst 0, 1) := by decide +kernel
theorem dX8_init_11 : decode cX8_init 11 = .ok (.putfield 15, 3) := by decide +kernel
theorem dX8_init_14 : decode cX8_init 14 = .ok (.aload_n 0, 1) := by decide +kernel
theorem dX8_init_15 : decode cX8_init 15 = .ok (.iconst 1, 1) := by decide +kernel
theorem dX8_init_16 : decode cX8_init 16 = .ok (.putfield 18, 3) := by decide +kernel
theorem dX8_init_19 : decode cX8_init 19 = .ok (.aload_n 0, 1) := by decide +kernel
theorem dX8_init_20 : decode cX8_init 20 = .ok (.iconst 0, 1) := by decide +kernel
theorem dX8_init_21 : decode cX8_init 21 = .ok (.putfield 21, 3) := by decide +kernel
theorem dX8_init_24 : decode cX8_init 24 = .ok (.aload_n 0, 1) := by decide +kernel
theorem dX8_init_25 : decode cX8_init 25 = .ok (.bipush 100, 2) := by decide +kernel
theorem dX8_init_27 : decode cX8_init 27 = .ok (.putfield 24, 3) := by decide +kernel
theorem dX8_init_30 : decode cX8_init 30 = .ok (.aload_n 0, 1) := by decide +kernel
theorem dX8_init_31 : decode cX8_init 31 = .ok (.iconst 0, 1) := by decide +kernel
theorem dX8_init_32 : decode cX8_init 32 = .ok (.putfield 27, 3) := by decide +kernel
theorem dX8_init_35 : decode cX8_init 35 = .ok (.aload_n 0, 1) := by decide +kernel
theorem dX8_init_36 : decode cX8_init 36 = .ok (.iconst 0, 1) := by decide +kernel
theorem dX8_init_37 : decode cX8_init 37 = .ok (.putfield 30, 3) := by decide +kernel
theorem dX8_init_40 : decode cX8_init 40 = .ok (.aload_n 0, 1) := by decide +kernel
theorem dX8_init_41 : decode cX8_init 41 = .ok (.bipush 8, 2) := by decide +kernel
theorem dX8_init_43 : decode cX8_init 43 = .ok (.newarray .int, 2) := by decide +kernel
theorem dX8_init_45 : decode cX8_init 45 = .ok (.putfield 33, 3) := by decide +kernel
theorem dX8_init_48 : decode cX8_init 48 = .ok (.aload_n 0, 1) := by decide +kernel
theorem dX8_init_49 : decode cX8_init 49 = .ok (.bipush 8, 2) := by decide +kernel
theorem dX8_init_51 : decode cX8_init 51 = .ok (.newarray .int, 2) := by decide +kernel
theorem dX8_init_53 : decode cX8_init 53 = .ok (.putfield 37, 3) := by decide +kernel
theorem dX8_init_56 : decode cX8_init 56 = .ok (.aload_n 0, 1) := by decide +kernel
theorem dX8_init_57 : decode cX8_init 57 = .ok (.bipush 8, 2) := by decide +kernel
theorem dX8_init_59 : decode cX8_init 59 = .ok (.newarray .int, 2) := by decide +kernel
theorem dX8_init_61 : decode cX8_init 61 = .ok (.putfield 40, 3) := by decide +kernel
theorem dX8_init_64 : decode cX8_init 64 = .ok (.aload_n 0, 1) := by decide +kernel
theorem dX8_init_65 : decode cX8_init 65 = .ok (.bipush 9, 2) := by decide +kernel
theorem dX8_init_67 : decode cX8_init 67 = .ok (.newarray .int, 2) := by decide +kernel
theorem dX8_init_69 : decode cX8_init 69 = .ok (.putfield 43, 3) := by decide +kernel
theorem dX8_init_72 : decode cX8_init 72 = .ok (.aload_n 0, 1) := by decide +kernel
theorem dX8_init_73 : decode cX8_init 73 = .ok (.sipush 700, 3) := by decide +kernel
theorem dX8_init_76 : decode cX8_init 76 = .ok (.newarray .int, 2) := by decide +kernel
theorem dX8_init_78 : decode cX8_init 78 = .ok (.putfield 46, 3) := by decide +kernel
theorem dX8_init_81 : decode cX8_init 81 = .ok (.aload_n 0, 1) := by decide +kernel
theorem dX8_init_82 : decode cX8_init 82 = .ok (.new 49, 3) := by decide +kernel
theorem dX8_init_85 : decode cX8_init 85 = .ok (.dup, 1) := by decide +kernel
theorem dX8_init_86 : decode cX8_init 86 = .ok (.invokespecial 51, 3) := by decide +kernel
theorem dX8_init_89 : decode cX8_init 89 = .ok (.putfield 52, 3) := by decide +kernel
theorem dX8_init_92 : decode cX8_init 92 = .ok (.return_, 1) := by decide +kernel
theorem dX8_clear_0 : decode cX8_clear 0 = .ok (.aload_n 0, 1) := by decide +kernel
theorem dX8_clear_1 : decode cX8_clear 1 = .ok (.iconst 0, 1) := by decide +kernel
theorem dX8_clear_2 : decode cX8_clear 2 = .ok (.putfield 9, 3) := by decide +kernel
theorem dX8_clear_5 : decode cX8_clear 5 = .ok (.aload_n 0, 1) := by decide +kernel
theorem dX8_clear_6 : decode cX8_clear 6 = .ok (.iconst 0, 1) := by decide +kernel
theorem dX8_clear_7 : decode cX8_clear 7 = .ok (.putfield 15, 3) := by decide +kernel
theorem dX8_clear_10 : decode cX8_clear 10 = .ok (.aload_n 0, 1) := by decide +kernel
theorem dX8_clear_11 : decode cX8_clear 11 = .ok (.iconst 1, 1) := by decide +kernel
theorem dX8_clear_12 : decode cX8_clear 12 = .ok (.putfield 18, 3) := by decide +kernel
theorem dX8_clear_15 : decode cX8_clear 15 = .ok (.aload_n 0, 1) := by decide +kernel
theorem dX8_clear_16 : decode cX8_clear 16 = .ok (.iconst 0, 1) := by decide +kernel
theorem dX8_clear_17 : decode cX8_clear 17 = .ok (.putfield 21, 3) := by decide +kernel
theorem dX8_clear_20 : decode cX8_clear 20 = .ok (.aload_n 0, 1) := by decide +kernel
theorem dX8_clear_21 : decode cX8_clear 21 = .ok (.bipush 100, 2) := by decide +kernel
theorem dX8_clear_23 : decode cX8_clear 23 = .ok (.putfield 24, 3) := by decide +kernel
theorem dX8_clear_26 : decode cX8_clear 26 = .ok (.aload_n 0, 1) := by decide +kernel
theorem dX8_clear_27 : decode cX8_clear 27 = .ok (.iconst 0, 1) := by decide +kernel
theorem dX8_clear_28 : decode cX8_clear 28 = .ok (.putfield 27, 3) := by decide +kernel
theorem dX8_clear_31 : decode cX8_clear 31 = .ok (.aload_n 0, 1) := by decide +kernel
theorem dX8_clear_32 : decode cX8_clear 32 = .ok (.iconst 0, 1) := by decide +kernel
theorem dX8_clear_33 : decode cX8_clear 33 = .ok (.putfield 30, 3) := by decide +kernel
theorem dX8_clear_36 : decode cX8_clear 36 = .ok (.aload_n 0, 1) := by decide +kernel
theorem dX8_clear_37 : decode cX8_clear 37 = .ok (.getfield 52, 3) := by decide +kernel
theorem dX8_clear_40 : decode cX8_clear 40 = .ok (.invokevirtual 56, 3) := by decide +kernel
theorem dX8_clear_43 : decode cX8_clear 43 = .ok (.return_, 1) := by decide +kernel
theorem dX8_told_0 : decode cX8_told 0 = .ok (.iload_n 1, 1) := by decide +kernel
theorem dX8_told_1 : decode cX8_told 1 = .ok (.tableswitch 99 0 7 #[47, 52, 57, 65, 73, 81, 89, 94], 47) := by decide +kernel
theorem dX8_told_48 : decode cX8_told 48 = .ok (.aload_n 0, 1) := by decide +kernel
theorem dX8_told_49 : decode cX8_told 49 = .ok (.getfield 9, 3) := by decide +kernel
theorem dX8_told_52 : decode cX8_told 52 = .ok (.ireturn, 1) := by decide +kernel
theorem dX8_told_53 : decode cX8_told 53 = .ok (.aload_n 0, 1) := by decide +kernel
theorem dX8_told_54 : decode cX8_told 54 = .ok (.getfield 18, 3) := by decide +kernel
theorem dX8_told_57 : decode cX8_told 57 = .ok (.ireturn, 1) := by decide +kernel
theorem dX8_told_58 : decode cX8_told 58 = .ok (.aload_n 0, 1) := by decide +kernel
theorem dX8_told_59 : decode cX8_told 59 = .ok (.getfield 52, 3) := by decide +kernel
theorem dX8_told_62 : decode cX8_told 62 = .ok (.getfield 59, 3) := by decide +kernel
theorem dX8_told_65 : decode cX8_told 65 = .ok (.ireturn, 1) := by decide +kernel
theorem dX8_told_66 : decode cX8_told 66 = .ok (.aload_n 0, 1) := by decide +kernel
theorem dX8_told_67 : decode cX8_told 67 = .ok (.getfield 52, 3) := by decide +kernel
theorem dX8_told_70 : decode cX8_told 70 = .ok (.getfield 62, 3) := by decide +kernel
theorem dX8_told_73 : decode cX8_told 73 = .ok (.ireturn, 1) := by decide +kernel
theorem dX8_told_74 : decode cX8_told 74 = .ok (.aload_n 0, 1) := by decide +kernel
theorem dX8_told_75 : decode cX8_told 75 = .ok (.getfield 52, 3) := by decide +kernel
theorem dX8_told_78 : decode cX8_told 78 = .ok (.getfield 65, 3) := by decide +kernel
theorem dX8_told_81 : decode cX8_told 81 = .ok (.ireturn, 1) := by decide +kernel
theorem dX8_told_82 : decode cX8_told 82 = .ok (.aload_n 0, 1) := by decide +kernel
theorem dX8_told_83 : decode cX8_told 83 = .ok (.getfield 52, 3) := by decide +kernel
theorem dX8_told_86 : decode cX8_told 86 = .ok (.getfield 68, 3) := by decide +kernel
theorem dX8_told_89 : decode cX8_told 89 = .ok (.ireturn, 1) := by decide +kernel
theorem dX8_told_90 : decode cX8_told 90 = .ok (.aload_n 0, 1) := by decide +kernel
theorem dX8_told_91 : decode cX8_told 91 = .ok (.getfield 21, 3) := by decide +kernel
theorem dX8_told_94 : decode cX8_told 94 = .ok (.ireturn, 1) := by decide +kernel
theorem dX8_told_95 : decode cX8_told 95 = .ok (.aload_n 0, 1) := by decide +kernel
theorem dX8_told_96 : decode cX8_told 96 = .ok (.getfield 24, 3) := by decide +kernel
theorem dX8_told_99 : decode cX8_told 99 = .ok (.ireturn, 1) := by decide +kernel
theorem dX8_told_100 : decode cX8_told 100 = .ok (.aload_n 0, 1) := by decide +kernel
theorem dX8_told_101 : decode cX8_told 101 = .ok (.getfield 15, 3) := by decide +kernel
theorem dX8_told_104 : decode cX8_told 104 = .ok (.ireturn, 1) := by decide +kernel
theorem dX8_add_0 : decode cX8_add 0 = .ok (.aload_n 0, 1) := by decide +kernel
theorem dX8_add_1 : decode cX8_add 1 = .ok (.getfield 46, 3) := by decide +kernel
theorem dX8_add_4 : decode cX8_add 4 = .ok (.aload_n 0, 1) := by decide +kernel
theorem dX8_add_5 : decode cX8_add 5 = .ok (.getfield 30, 3) := by decide +kernel
theorem dX8_add_8 : decode cX8_add 8 = .ok (.iload_n 1, 1) := by decide +kernel
theorem dX8_add_9 : decode cX8_add 9 = .ok (.invokestatic 71, 3) := by decide +kernel
theorem dX8_add_12 : decode cX8_add 12 = .ok (.aload_n 0, 1) := by decide +kernel
theorem dX8_add_13 : decode cX8_add 13 = .ok (.dup, 1) := by decide +kernel
theorem dX8_add_14 : decode cX8_add 14 = .ok (.getfield 30, 3) := by decide +kernel
theorem dX8_add_17 : decode cX8_add 17 = .ok (.iconst 1, 1) := by decide +kernel
theorem dX8_add_18 : decode cX8_add 18 = .ok (.iadd, 1) := by decide +kernel
theorem dX8_add_19 : decode cX8_add 19 = .ok (.putfield 30, 3) := by decide +kernel
theorem dX8_add_22 : decode cX8_add 22 = .ok (.return_, 1) := by decide +kernel
theorem dX8_addValue_0 : decode cX8_addValue 0 = .ok (.aload_n 0, 1) := by decide +kernel
theorem dX8_addValue_1 : decode cX8_addValue 1 = .ok (.dup, 1) := by decide +kernel
theorem dX8_addValue_2 : decode cX8_addValue 2 = .ok (.getfield 27, 3) := by decide +kernel
theorem dX8_addValue_5 : decode cX8_addValue 5 = .ok (.iconst 1, 1) := by decide +kernel
theorem dX8_addValue_6 : decode cX8_addValue 6 = .ok (.iload_n 1, 1) := by decide +kernel
theorem dX8_addValue_7 : decode cX8_addValue 7 = .ok (.ishl, 1) := by decide +kernel
theorem dX8_addValue_8 : decode cX8_addValue 8 = .ok (.ior, 1) := by decide +kernel
theorem dX8_addValue_9 : decode cX8_addValue 9 = .ok (.putfield 27, 3) := by decide +kernel
theorem dX8_addValue_12 : decode cX8_addValue 12 = .ok (.aload_n 0, 1) := by decide +kernel
theorem dX8_addValue_13 : decode cX8_addValue 13 = .ok (.sipush 1000, 3) := by decide +kernel
theorem dX8_addValue_16 : decode cX8_addValue 16 = .ok (.iload_n 1, 1) := by decide +kernel
theorem dX8_addValue_17 : decode cX8_addValue 17 = .ok (.iadd, 1) := by decide +kernel
theorem dX8_addValue_18 : decode cX8_addValue 18 = .ok (.invokevirtual 75, 3) := by decide +kernel
theorem dX8_addValue_21 : decode cX8_addValue 21 = .ok (.return_, 1) := by decide +kernel
theorem dX8_closeSort_0 : decode cX8_closeSort 0 = .ok (.aload_n 0, 1) := by decide +kernel
theorem dX8_closeSort_1 : decode cX8_closeSort 1 = .ok (.dup, 1) := by decide +kernel
theorem dX8_closeSort_2 : decode cX8_closeSort 2 = .ok (.getfield 15, 3) := by decide +kernel
theorem dX8_closeSort_5 : decode cX8_closeSort 5 = .ok (.aload_n 0, 1) := by decide +kernel
theorem dX8_closeSort_6 : decode cX8_closeSort 6 = .ok (.getfield 33, 3) := by decide +kernel
theorem dX8_closeSort_9 : decode cX8_closeSort 9 = .ok (.aload_n 0, 1) := by decide +kernel
theorem dX8_closeSort_10 : decode cX8_closeSort 10 = .ok (.getfield 9, 3) := by decide +kernel
theorem dX8_closeSort_13 : decode cX8_closeSort 13 = .ok (.invokestatic 79, 3) := by decide +kernel
theorem dX8_closeSort_16 : decode cX8_closeSort 16 = .ok (.iadd, 1) := by decide +kernel
theorem dX8_closeSort_17 : decode cX8_closeSort 17 = .ok (.putfield 15, 3) := by decide +kernel
theorem dX8_closeSort_20 : decode cX8_closeSort 20 = .ok (.aload_n 0, 1) := by decide +kernel
theorem dX8_closeSort_21 : decode cX8_closeSort 21 = .ok (.dup, 1) := by decide +kernel
theorem dX8_closeSort_22 : decode cX8_closeSort 22 = .ok (.getfield 9, 3) := by decide +kernel
theorem dX8_closeSort_25 : decode cX8_closeSort 25 = .ok (.iconst 1, 1) := by decide +kernel
theorem dX8_closeSort_26 : decode cX8_closeSort 26 = .ok (.iadd, 1) := by decide +kernel
theorem dX8_closeSort_27 : decode cX8_closeSort 27 = .ok (.putfield 9, 3) := by decide +kernel
theorem dX8_closeSort_30 : decode cX8_closeSort 30 = .ok (.aload_n 0, 1) := by decide +kernel
theorem dX8_closeSort_31 : decode cX8_closeSort 31 = .ok (.getfield 43, 3) := by decide +kernel
theorem dX8_closeSort_34 : decode cX8_closeSort 34 = .ok (.aload_n 0, 1) := by decide +kernel
theorem dX8_closeSort_35 : decode cX8_closeSort 35 = .ok (.getfield 9, 3) := by decide +kernel
theorem dX8_closeSort_38 : decode cX8_closeSort 38 = .ok (.aload_n 0, 1) := by decide +kernel
theorem dX8_closeSort_39 : decode cX8_closeSort 39 = .ok (.getfield 30, 3) := by decide +kernel
theorem dX8_closeSort_42 : decode cX8_closeSort 42 = .ok (.invokestatic 71, 3) := by decide +kernel
theorem dX8_closeSort_45 : decode cX8_closeSort 45 = .ok (.return_, 1) := by decide +kernel
theorem dX8_states_0 : decode cX8_states 0 = .ok (.aload_n 0, 1) := by decide +kernel
theorem dX8_states_1 : decode cX8_states 1 = .ok (.getfield 18, 3) := by decide +kernel
theorem dX8_states_4 : decode cX8_states 4 = .ok (.ifCond .ne 7, 3) := by decide +kernel
theorem dX8_states_7 : decode cX8_states 7 = .ok (.iconst 1, 1) := by decide +kernel
theorem dX8_states_8 : decode cX8_states 8 = .ok (.goto 18, 3) := by decide +kernel
theorem dX8_states_11 : decode cX8_states 11 = .ok (.aload_n 0, 1) := by decide +kernel
theorem dX8_states_12 : decode cX8_states 12 = .ok (.getfield 18, 3) := by decide +kernel
theorem dX8_states_15 : decode cX8_states 15 = .ok (.iconst 1, 1) := by decide +kernel
theorem dX8_states_16 : decode cX8_states 16 = .ok (.if_icmp .ne 8, 3) := by decide +kernel
theorem dX8_states_19 : decode cX8_states 19 = .ok (.bipush 10, 2) := by decide +kernel
theorem dX8_states_21 : decode cX8_states 21 = .ok (.goto 5, 3) := by decide +kernel
theorem dX8_states_24 : decode cX8_states 24 = .ok (.bipush 100, 2) := by decide +kernel
theorem dX8_states_26 : decode cX8_states 26 = .ok (.ireturn, 1) := by decide +kernel
theorem dX8_stateBehind_0 : decode cX8_stateBehind 0 = .ok (.aload_n 0, 1) := by decide +kernel
theorem dX8_stateBehind_1 : decode cX8_stateBehind 1 = .ok (.getfield 18, 3) := by decide +kernel
theorem dX8_stateBehind_4 : decode cX8_stateBehind 4 = .ok (.ifCond .ne 7, 3) := by decide +kernel
theorem dX8_stateBehind_7 : decode cX8_stateBehind 7 = .ok (.iconst 0, 1) := by decide +kernel
theorem dX8_stateBehind_8 : decode cX8_stateBehind 8 = .ok (.goto 24, 3) := by decide +kernel
theorem dX8_stateBehind_11 : decode cX8_stateBehind 11 = .ok (.aload_n 0, 1) := by decide +kernel
theorem dX8_stateBehind_12 : decode cX8_stateBehind 12 = .ok (.getfield 18, 3) := by decide +kernel
theorem dX8_stateBehind_15 : decode cX8_stateBehind 15 = .ok (.iconst 1, 1) := by decide +kernel
theorem dX8_stateBehind_16 : decode cX8_stateBehind 16 = .ok (.if_icmp .ne 7, 3) := by decide +kernel
theorem dX8_stateBehind_19 : decode cX8_stateBehind 19 = .ok (.iload_n 2, 1) := by decide +kernel
theorem dX8_stateBehind_20 : decode cX8_stateBehind 20 = .ok (.goto 12, 3) := by decide +kernel
theorem dX8_stateBehind_23 : decode cX8_stateBehind 23 = .ok (.iload_n 1, 1) := by decide +kernel
theorem dX8_stateBehind_24 : decode cX8_stateBehind 24 = .ok (.bipush 10, 2) := by decide +kernel
theorem dX8_stateBehind_26 : decode cX8_stateBehind 26 = .ok (.irem, 1) := by decide +kernel
theorem dX8_stateBehind_27 : decode cX8_stateBehind 27 = .ok (.bipush 10, 2) := by decide +kernel
theorem dX8_stateBehind_29 : decode cX8_stateBehind 29 = .ok (.imul, 1) := by decide +kernel
theorem dX8_stateBehind_30 : decode cX8_stateBehind 30 = .ok (.iload_n 2, 1) := by decide +kernel
theorem dX8_stateBehind_31 : decode cX8_stateBehind 31 = .ok (.iadd, 1) := by decide +kernel
theorem dX8_stateBehind_32 : decode cX8_stateBehind 32 = .ok (.ireturn, 1) := by decide +kernel
theorem dX8_meanOf_0 : decode cX8_meanOf 0 = .ok (.aload_n 0, 1) := by decide +kernel
theorem dX8_meanOf_1 : decode cX8_meanOf 1 = .ok (.getfield 18, 3) := by decide +kernel
theorem dX8_meanOf_4 : decode cX8_meanOf 4 = .ok (.iconst 2, 1) := by decide +kernel
theorem dX8_meanOf_5 : decode cX8_meanOf 5 = .ok (.if_icmp .ne 17, 3) := by decide +kernel
theorem dX8_meanOf_8 : decode cX8_meanOf 8 = .ok (.iload_n 1, 1) := by decide +kernel
theorem dX8_meanOf_9 : decode cX8_meanOf 9 = .ok (.bipush 10, 2) := by decide +kernel
theorem dX8_meanOf_11 : decode cX8_meanOf 11 = .ok (.idiv, 1) := by decide +kernel
theorem dX8_meanOf_12 : decode cX8_meanOf 12 = .ok (.iload_n 1, 1) := by decide +kernel
theorem dX8_meanOf_13 : decode cX8_meanOf 13 = .ok (.bipush 10, 2) := by decide +kernel
theorem dX8_meanOf_15 : decode cX8_meanOf 15 = .ok (.irem, 1) := by decide +kernel
theorem dX8_meanOf_16 : decode cX8_meanOf 16 = .ok (.iadd, 1) := by decide +kernel
theorem dX8_meanOf_17 : decode cX8_meanOf 17 = .ok (.iconst 2, 1) := by decide +kernel
theorem dX8_meanOf_18 : decode cX8_meanOf 18 = .ok (.idiv, 1) := by decide +kernel
theorem dX8_meanOf_19 : decode cX8_meanOf 19 = .ok (.goto 4, 3) := by decide +kernel
theorem dX8_meanOf_22 : decode cX8_meanOf 22 = .ok (.iload_n 1, 1) := by decide +kernel
theorem dX8_meanOf_23 : decode cX8_meanOf 23 = .ok (.ireturn, 1) := by decide +kernel
theorem dX8_partOf_0 : decode cX8_partOf 0 = .ok (.iload_n 1, 1) := by decide +kernel
theorem dX8_partOf_1 : decode cX8_partOf 1 = .ok (.aload_n 0, 1) := by decide +kernel
theorem dX8_partOf_2 : decode cX8_partOf 2 = .ok (.getfield 9, 3) := by decide +kernel
theorem dX8_partOf_5 : decode cX8_partOf 5 = .ok (.iconst 1, 1) := by decide +kernel
theorem dX8_partOf_6 : decode cX8_partOf 6 = .ok (.isub, 1) := by decide +kernel
theorem dX8_partOf_7 : decode cX8_partOf 7 = .ok (.if_icmp .eq 10, 3) := by decide +kernel
theorem dX8_partOf_10 : decode cX8_partOf 10 = .ok (.aload_n 0, 1) := by decide +kernel
theorem dX8_partOf_11 : decode cX8_partOf 11 = .ok (.getfield 15, 3) := by decide +kernel
theorem dX8_partOf_14 : decode cX8_partOf 14 = .ok (.ifCond .gt 5, 3) := by decide +kernel
theorem dX8_partOf_17 : decode cX8_partOf 17 = .ok (.iload_n 3, 1) := by decide +kernel
theorem dX8_partOf_18 : decode cX8_partOf 18 = .ok (.ireturn, 1) := by decide +kernel
theorem dX8_partOf_19 : decode cX8_partOf 19 = .ok (.aload_n 0, 1) := by decide +kernel
theorem dX8_partOf_20 : decode cX8_partOf 20 = .ok (.getfield 33, 3) := by decide +kernel
theorem dX8_partOf_23 : decode cX8_partOf 23 = .ok (.iload_n 1, 1) := by decide +kernel
theorem dX8_partOf_24 : decode cX8_partOf 24 = .ok (.invokestatic 79, 3) := by decide +kernel
theorem dX8_partOf_27 : decode cX8_partOf 27 = .ok (.i2l, 1) := by decide +kernel
theorem dX8_partOf_28 : decode cX8_partOf 28 = .ok (.iload_n 2, 1) := by decide +kernel
theorem dX8_partOf_29 : decode cX8_partOf 29 = .ok (.i2l, 1) := by decide +kernel
theorem dX8_partOf_30 : decode cX8_partOf 30 = .ok (.lmul, 1) := by decide +kernel
theorem dX8_partOf_31 : decode cX8_partOf 31 = .ok (.aload_n 0, 1) := by decide +kernel
theorem dX8_partOf_32 : decode cX8_partOf 32 = .ok (.getfield 15, 3) := by decide +kernel
theorem dX8_partOf_35 : decode cX8_partOf 35 = .ok (.i2l, 1) := by decide +kernel
theorem dX8_partOf_36 : decode cX8_partOf 36 = .ok (.ldiv, 1) := by decide +kernel
theorem dX8_partOf_37 : decode cX8_partOf 37 = .ok (.l2i, 1) := by decide +kernel
theorem dX8_partOf_38 : decode cX8_partOf 38 = .ok (.ireturn, 1) := by decide +kernel
theorem dX8_pays_0 : decode cX8_pays 0 = .ok (.aload_n 0, 1) := by decide +kernel
theorem dX8_pays_1 : decode cX8_pays 1 = .ok (.getfield 37, 3) := by decide +kernel
theorem dX8_pays_4 : decode cX8_pays 4 = .ok (.iload_n 1, 1) := by decide +kernel
theorem dX8_pays_5 : decode cX8_pays 5 = .ok (.invokestatic 79, 3) := by decide +kernel
theorem dX8_pays_8 : decode cX8_pays 8 = .ok (.iload_n 2, 1) := by decide +kernel
theorem dX8_pays_9 : decode cX8_pays 9 = .ok (.if_icmp .lt 19, 3) := by decide +kernel
theorem dX8_pays_12 : decode cX8_pays 12 = .ok (.aload_n 0, 1) := by decide +kernel
theorem dX8_pays_13 : decode cX8_pays 13 = .ok (.getfield 40, 3) := by decide +kernel
theorem dX8_pays_16 : decode cX8_pays 16 = .ok (.iload_n 1, 1) := by decide +kernel
theorem dX8_pays_17 : decode cX8_pays 17 = .ok (.invokestatic 79, 3) := by decide +kernel
theorem dX8_pays_20 : decode cX8_pays 20 = .ok (.iload_n 2, 1) := by decide +kernel
theorem dX8_pays_21 : decode cX8_pays 21 = .ok (.if_icmp .lt 7, 3) := by decide +kernel
theorem dX8_pays_24 : decode cX8_pays 24 = .ok (.iconst 1, 1) := by decide +kernel
theorem dX8_pays_25 : decode cX8_pays 25 = .ok (.goto 4, 3) := by decide +kernel
theorem dX8_pays_28 : decode cX8_pays 28 = .ok (.iconst 0, 1) := by decide +kernel
theorem dX8_pays_29 : decode cX8_pays 29 = .ok (.ireturn, 1) := by decide +kernel
theorem dX8_payingOdds_0 : decode cX8_payingOdds 0 = .ok (.iconst 0, 1) := by decide +kernel
theorem dX8_payingOdds_1 : decode cX8_payingOdds 1 = .ok (.istore_n 2, 1) := by decide +kernel
theorem dX8_payingOdds_2 : decode cX8_payingOdds 2 = .ok (.iconst 0, 1) := by decide +kernel
theorem dX8_payingOdds_3 : decode cX8_payingOdds 3 = .ok (.istore_n 3, 1) := by decide +kernel
theorem dX8_payingOdds_4 : decode cX8_payingOdds 4 = .ok (.iload_n 3, 1) := by decide +kernel
theorem dX8_payingOdds_5 : decode cX8_payingOdds 5 = .ok (.aload_n 0, 1) := by decide +kernel
theorem dX8_payingOdds_6 : decode cX8_payingOdds 6 = .ok (.getfield 9, 3) := by decide +kernel
theorem dX8_payingOdds_9 : decode cX8_payingOdds 9 = .ok (.if_icmp .ge 33, 3) := by decide +kernel
theorem dX8_payingOdds_12 : decode cX8_payingOdds 12 = .ok (.iload_n 2, 1) := by decide +kernel
theorem dX8_payingOdds_13 : decode cX8_payingOdds 13 = .ok (.aload_n 0, 1) := by decide +kernel
theorem dX8_payingOdds_14 : decode cX8_payingOdds 14 = .ok (.iload_n 3, 1) := by decide +kernel
theorem dX8_payingOdds_15 : decode cX8_payingOdds 15 = .ok (.iload_n 1, 1) := by decide +kernel
theorem dX8_payingOdds_16 : decode cX8_payingOdds 16 = .ok (.invokevirtual 83, 3) := by decide +kernel
theorem dX8_payingOdds_19 : decode cX8_payingOdds 19 = .ok (.ifCond .eq 14, 3) := by decide +kernel
theorem dX8_payingOdds_22 : decode cX8_payingOdds 22 = .ok (.aload_n 0, 1) := by decide +kernel
theorem dX8_payingOdds_23 : decode cX8_payingOdds 23 = .ok (.getfield 33, 3) := by decide +kernel
theorem dX8_payingOdds_26 : decode cX8_payingOdds 26 = .ok (.iload_n 3, 1) := by decide +kernel
theorem dX8_payingOdds_27 : decode cX8_payingOdds 27 = .ok (.invokestatic 79, 3) := by decide +kernel
theorem dX8_payingOdds_30 : decode cX8_payingOdds 30 = .ok (.goto 4, 3) := by decide +kernel
theorem dX8_payingOdds_33 : decode cX8_payingOdds 33 = .ok (.iconst 0, 1) := by decide +kernel
theorem dX8_payingOdds_34 : decode cX8_payingOdds 34 = .ok (.iadd, 1) := by decide +kernel
theorem dX8_payingOdds_35 : decode cX8_payingOdds 35 = .ok (.istore_n 2, 1) := by decide +kernel
theorem dX8_payingOdds_36 : decode cX8_payingOdds 36 = .ok (.iinc 3 1, 3) := by decide +kernel
theorem dX8_payingOdds_39 : decode cX8_payingOdds 39 = .ok (.goto (-35), 3) := by decide +kernel
theorem dX8_payingOdds_42 : decode cX8_payingOdds 42 = .ok (.iload_n 2, 1) := by decide +kernel
theorem dX8_payingOdds_43 : decode cX8_payingOdds 43 = .ok (.ireturn, 1) := by decide +kernel
theorem dX8_takenAt_0 : decode cX8_takenAt 0 = .ok (.aload_n 0, 1) := by decide +kernel
theorem dX8_takenAt_1 : decode cX8_takenAt 1 = .ok (.iload_n 1, 1) := by decide +kernel
theorem dX8_takenAt_2 : decode cX8_takenAt 2 = .ok (.aload_n 0, 1) := by decide +kernel
theorem dX8_takenAt_3 : decode cX8_takenAt 3 = .ok (.iload_n 1, 1) := by decide +kernel
theorem dX8_takenAt_4 : decode cX8_takenAt 4 = .ok (.invokevirtual 87, 3) := by decide +kernel
theorem dX8_takenAt_7 : decode cX8_takenAt 7 = .ok (.imul, 1) := by decide +kernel
theorem dX8_takenAt_8 : decode cX8_takenAt 8 = .ok (.invokevirtual 91, 3) := by decide +kernel
theorem dX8_takenAt_11 : decode cX8_takenAt 11 = .ok (.ireturn, 1) := by decide +kernel
theorem dX8_thousandths_0 : decode cX8_thousandths 0 = .ok (.aload_n 0, 1) := by decide +kernel
theorem dX8_thousandths_1 : decode cX8_thousandths 1 = .ok (.getfield 15, 3) := by decide +kernel
theorem dX8_thousandths_4 : decode cX8_thousandths 4 = .ok (.ifCond .le 16, 3) := by decide +kernel
theorem dX8_thousandths_7 : decode cX8_thousandths 7 = .ok (.sipush 1000, 3) := by decide +kernel
theorem dX8_thousandths_10 : decode cX8_thousandths 10 = .ok (.iload_n 1, 1) := by decide +kernel
theorem dX8_thousandths_11 : decode cX8_thousandths 11 = .ok (.imul, 1) := by decide +kernel
theorem dX8_thousandths_12 : decode cX8_thousandths 12 = .ok (.aload_n 0, 1) := by decide +kernel
theorem dX8_thousandths_13 : decode cX8_thousandths 13 = .ok (.getfield 15, 3) := by decide +kernel
theorem dX8_thousandths_16 : decode cX8_thousandths 16 = .ok (.idiv, 1) := by decide +kernel
theorem dX8_thousandths_17 : decode cX8_thousandths 17 = .ok (.goto 4, 3) := by decide +kernel
theorem dX8_thousandths_20 : decode cX8_thousandths 20 = .ok (.iconst 0, 1) := by decide +kernel
theorem dX8_thousandths_21 : decode cX8_thousandths 21 = .ok (.ireturn, 1) := by decide +kernel
theorem dX8_partsAt_0 : decode cX8_partsAt 0 = .ok (.aload_n 0, 1) := by decide +kernel
theorem dX8_partsAt_1 : decode cX8_partsAt 1 = .ok (.getfield 15, 3) := by decide +kernel
theorem dX8_partsAt_4 : decode cX8_partsAt 4 = .ok (.ifCond .le 25, 3) := by decide +kernel
theorem dX8_partsAt_7 : decode cX8_partsAt 7 = .ok (.ldc2_w 94, 3) := by decide +kernel
theorem dX8_partsAt_10 : decode cX8_partsAt 10 = .ok (.aload_n 0, 1) := by decide +kernel
theorem dX8_partsAt_11 : decode cX8_partsAt 11 = .ok (.iload_n 1, 1) := by decide +kernel
theorem dX8_partsAt_12 : decode cX8_partsAt 12 = .ok (.invokevirtual 87, 3) := by decide +kernel
theorem dX8_partsAt_15 : decode cX8_partsAt 15 = .ok (.i2l, 1) := by decide +kernel
theorem dX8_partsAt_16 : decode cX8_partsAt 16 = .ok (.lmul, 1) := by decide +kernel
theorem dX8_partsAt_17 : decode cX8_partsAt 17 = .ok (.aload_n 0, 1) := by decide +kernel
theorem dX8_partsAt_18 : decode cX8_partsAt 18 = .ok (.getfield 15, 3) := by decide +kernel
theorem dX8_partsAt_21 : decode cX8_partsAt 21 = .ok (.i2l, 1) := by decide +kernel
theorem dX8_partsAt_22 : decode cX8_partsAt 22 = .ok (.ldiv, 1) := by decide +kernel
theorem dX8_partsAt_23 : decode cX8_partsAt 23 = .ok (.iload_n 1, 1) := by decide +kernel
theorem dX8_partsAt_24 : decode cX8_partsAt 24 = .ok (.i2l, 1) := by decide +kernel
theorem dX8_partsAt_25 : decode cX8_partsAt 25 = .ok (.lmul, 1) := by decide +kernel
theorem dX8_partsAt_26 : decode cX8_partsAt 26 = .ok (.goto 4, 3) := by decide +kernel
theorem dX8_partsAt_29 : decode cX8_partsAt 29 = .ok (.lconst 0, 1) := by decide +kernel
theorem dX8_partsAt_30 : decode cX8_partsAt 30 = .ok (.lreturn, 1) := by decide +kernel
theorem dX8_lesserIsLike_0 : decode cX8_lesserIsLike 0 = .ok (.aload_n 1, 1) := by decide +kernel
theorem dX8_lesserIsLike_1 : decode cX8_lesserIsLike 1 = .ok (.getfield 62, 3) := by decide +kernel
theorem dX8_lesserIsLike_4 : decode cX8_lesserIsLike 4 = .ok (.iconst 1, 1) := by decide +kernel
theorem dX8_lesserIsLike_5 : decode cX8_lesserIsLike 5 = .ok (.if_icmp .ne 16, 3) := by decide +kernel
theorem dX8_lesserIsLike_8 : decode cX8_lesserIsLike 8 = .ok (.aload_n 0, 1) := by decide +kernel
theorem dX8_lesserIsLike_9 : decode cX8_lesserIsLike 9 = .ok (.bipush 6, 2) := by decide +kernel
theorem dX8_lesserIsLike_11 : decode cX8_lesserIsLike 11 = .ok (.invokevirtual 96, 3) := by decide +kernel
theorem dX8_lesserIsLike_14 : decode cX8_lesserIsLike 14 = .ok (.ifCond .ne 7, 3) := by decide +kernel
theorem dX8_lesserIsLike_17 : decode cX8_lesserIsLike 17 = .ok (.iconst 1, 1) := by decide +kernel
theorem dX8_lesserIsLike_18 : decode cX8_lesserIsLike 18 = .ok (.goto 4, 3) := by decide +kernel
theorem dX8_lesserIsLike_21 : decode cX8_lesserIsLike 21 = .ok (.iconst 0, 1) := by decide +kernel
theorem dX8_lesserIsLike_22 : decode cX8_lesserIsLike 22 = .ok (.istore_n 2, 1) := by decide +kernel
theorem dX8_lesserIsLike_23 : decode cX8_lesserIsLike 23 = .ok (.aload_n 1, 1) := by decide +kernel
theorem dX8_lesserIsLike_24 : decode cX8_lesserIsLike 24 = .ok (.getfield 65, 3) := by decide +kernel
theorem dX8_lesserIsLike_27 : decode cX8_lesserIsLike 27 = .ok (.iconst 1, 1) := by decide +kernel
theorem dX8_lesserIsLike_28 : decode cX8_lesserIsLike 28 = .ok (.if_icmp .ne 32, 3) := by decide +kernel
theorem dX8_lesserIsLike_31 : decode cX8_lesserIsLike 31 = .ok (.aload_n 0, 1) := by decide +kernel
theorem dX8_lesserIsLike_32 : decode cX8_lesserIsLike 32 = .ok (.bipush 7, 2) := by decide +kernel
theorem dX8_lesserIsLike_34 : decode cX8_lesserIsLike 34 = .ok (.invokevirtual 96, 3) := by decide +kernel
theorem dX8_lesserIsLike_37 : decode cX8_lesserIsLike 37 = .ok (.ifCond .ne 23, 3) := by decide +kernel
theorem dX8_lesserIsLike_40 : decode cX8_lesserIsLike 40 = .ok (.aload_n 0, 1) := by decide +kernel
theorem dX8_lesserIsLike_41 : decode cX8_lesserIsLike 41 = .ok (.iconst 2, 1) := by decide +kernel
theorem dX8_lesserIsLike_42 : decode cX8_lesserIsLike 42 = .ok (.invokevirtual 96, 3) := by decide +kernel
theorem dX8_lesserIsLike_45 : decode cX8_lesserIsLike 45 = .ok (.ifCond .ne 15, 3) := by decide +kernel
theorem dX8_lesserIsLike_48 : decode cX8_lesserIsLike 48 = .ok (.aload_n 0, 1) := by decide +kernel
theorem dX8_lesserIsLike_49 : decode cX8_lesserIsLike 49 = .ok (.iconst 3, 1) := by decide +kernel
theorem dX8_lesserIsLike_50 : decode cX8_lesserIsLike 50 = .ok (.invokevirtual 96, 3) := by decide +kernel
theorem dX8_lesserIsLike_53 : decode cX8_lesserIsLike 53 = .ok (.ifCond .ne 7, 3) := by decide +kernel
theorem dX8_lesserIsLike_56 : decode cX8_lesserIsLike 56 = .ok (.iconst 1, 1) := by decide +kernel
theorem dX8_lesserIsLike_57 : decode cX8_lesserIsLike 57 = .ok (.goto 4, 3) := by decide +kernel
theorem dX8_lesserIsLike_60 : decode cX8_lesserIsLike 60 = .ok (.iconst 0, 1) := by decide +kernel
theorem dX8_lesserIsLike_61 : decode cX8_lesserIsLike 61 = .ok (.istore_n 3, 1) := by decide +kernel
theorem dX8_lesserIsLike_62 : decode cX8_lesserIsLike 62 = .ok (.aload_n 0, 1) := by decide +kernel
theorem dX8_lesserIsLike_63 : decode cX8_lesserIsLike 63 = .ok (.aload_n 1, 1) := by decide +kernel
theorem dX8_lesserIsLike_64 : decode cX8_lesserIsLike 64 = .ok (.invokevirtual 100, 3) := by decide +kernel
theorem dX8_lesserIsLike_67 : decode cX8_lesserIsLike 67 = .ok (.ifCond .ne 11, 3) := by decide +kernel
theorem dX8_lesserIsLike_70 : decode cX8_lesserIsLike 70 = .ok (.iload_n 2, 1) := by decide +kernel
theorem dX8_lesserIsLike_71 : decode cX8_lesserIsLike 71 = .ok (.ifCond .ne 7, 3) := by decide +kernel
theorem dX8_lesserIsLike_74 : decode cX8_lesserIsLike 74 = .ok (.iload_n 3, 1) := by decide +kernel
theorem dX8_lesserIsLike_75 : decode cX8_lesserIsLike 75 = .ok (.ifCond .eq 7, 3) := by decide +kernel
theorem dX8_lesserIsLike_78 : decode cX8_lesserIsLike 78 = .ok (.iconst 1, 1) := by decide +kernel
theorem dX8_lesserIsLike_79 : decode cX8_lesserIsLike 79 = .ok (.goto 4, 3) := by decide +kernel
theorem dX8_lesserIsLike_82 : decode cX8_lesserIsLike 82 = .ok (.iconst 0, 1) := by decide +kernel
theorem dX8_lesserIsLike_83 : decode cX8_lesserIsLike 83 = .ok (.ireturn, 1) := by decide +kernel
theorem dX8_lesserCardIsLike_0 : decode cX8_lesserCardIsLike 0 = .ok (.aload_n 1, 1) := by decide +kernel
theorem dX8_lesserCardIsLike_1 : decode cX8_lesserCardIsLike 1 = .ok (.getfield 59, 3) := by decide +kernel
theorem dX8_lesserCardIsLike_4 : decode cX8_lesserCardIsLike 4 = .ok (.ifCond .le 11, 3) := by decide +kernel
theorem dX8_lesserCardIsLike_7 : decode cX8_lesserCardIsLike 7 = .ok (.aload_n 0, 1) := by decide +kernel
theorem dX8_lesserCardIsLike_8 : decode cX8_lesserCardIsLike 8 = .ok (.iconst 4, 1) := by decide +kernel
theorem dX8_lesserCardIsLike_9 : decode cX8_lesserCardIsLike 9 = .ok (.invokevirtual 96, 3) := by decide +kernel
theorem dX8_lesserCardIsLike_12 : decode cX8_lesserCardIsLike 12 = .ok (.ifCond .eq 18, 3) := by decide +kernel
theorem dX8_lesserCardIsLike_15 : decode cX8_lesserCardIsLike 15 = .ok (.aload_n 1, 1) := by decide +kernel
theorem dX8_lesserCardIsLike_16 : decode cX8_lesserCardIsLike 16 = .ok (.getfield 59, 3) := by decide +kernel
theorem dX8_lesserCardIsLike_19 : decode cX8_lesserCardIsLike 19 = .ok (.ifCond .ne 15, 3) := by decide +kernel
theorem dX8_lesserCardIsLike_22 : decode cX8_lesserCardIsLike 22 = .ok (.aload_n 0, 1) := by decide +kernel
theorem dX8_lesserCardIsLike_23 : decode cX8_lesserCardIsLike 23 = .ok (.iconst 5, 1) := by decide +kernel
theorem dX8_lesserCardIsLike_24 : decode cX8_lesserCardIsLike 24 = .ok (.invokevirtual 96, 3) := by decide +kernel
theorem dX8_lesserCardIsLike_27 : decode cX8_lesserCardIsLike 27 = .ok (.ifCond .ne 7, 3) := by decide +kernel
theorem dX8_lesserCardIsLike_30 : decode cX8_lesserCardIsLike 30 = .ok (.iconst 1, 1) := by decide +kernel
theorem dX8_lesserCardIsLike_31 : decode cX8_lesserCardIsLike 31 = .ok (.goto 4, 3) := by decide +kernel
theorem dX8_lesserCardIsLike_34 : decode cX8_lesserCardIsLike 34 = .ok (.iconst 0, 1) := by decide +kernel
theorem dX8_lesserCardIsLike_35 : decode cX8_lesserCardIsLike 35 = .ok (.ireturn, 1) := by decide +kernel
theorem dX8_asks_0 : decode cX8_asks 0 = .ok (.aload_n 0, 1) := by decide +kernel
theorem dX8_asks_1 : decode cX8_asks 1 = .ok (.getfield 27, 3) := by decide +kernel
theorem dX8_asks_4 : decode cX8_asks 4 = .ok (.iload_n 1, 1) := by decide +kernel
theorem dX8_asks_5 : decode cX8_asks 5 = .ok (.ishr, 1) := by decide +kernel
theorem dX8_asks_6 : decode cX8_asks 6 = .ok (.iconst 1, 1) := by decide +kernel
theorem dX8_asks_7 : decode cX8_asks 7 = .ok (.iand, 1) := by decide +kernel
theorem dX8_asks_8 : decode cX8_asks 8 = .ok (.iconst 1, 1) := by decide +kernel
theorem dX8_asks_9 : decode cX8_asks 9 = .ok (.if_icmp .ne 7, 3) := by decide +kernel
theorem dX8_asks_12 : decode cX8_asks 12 = .ok (.iconst 1, 1) := by decide +kernel
theorem dX8_asks_13 : decode cX8_asks 13 = .ok (.goto 4, 3) := by decide +kernel
theorem dX8_asks_16 : decode cX8_asks 16 = .ok (.iconst 0, 1) := by decide +kernel
theorem dX8_asks_17 : decode cX8_asks 17 = .ok (.ireturn, 1) := by decide +kernel
theorem dX9_init_0 : decode cX9_init 0 = .ok (.aload_n 0, 1) := by decide +kernel
theorem dX9_init_1 : decode cX9_init 1 = .ok (.invokespecial 3, 3) := by decide +kernel
theorem dX9_init_4 : decode cX9_init 4 = .ok (.aload_n 0, 1) := by decide +kernel
theorem dX9_init_5 : decode cX9_init 5 = .ok (.iconst (-1), 1) := by decide +kernel
theorem dX9_init_6 : decode cX9_init 6 = .ok (.putfield 9, 3) := by decide +kernel
theorem dX9_init_9 : decode cX9_init 9 = .ok (.aload_n 0, 1) := by decide +kernel
theorem dX9_init_10 : decode cX9_init 10 = .ok (.iconst 0, 1) := by decide +kernel
theorem dX9_init_11 : decode cX9_init 11 = .ok (.putfield 15, 3) := by decide +kernel
theorem dX9_init_14 : decode cX9_init 14 = .ok (.aload_n 0, 1) := by decide +kernel
theorem dX9_init_15 : decode cX9_init 15 = .ok (.iconst 0, 1) := by decide +kernel
theorem dX9_init_16 : decode cX9_init 16 = .ok (.putfield 18, 3) := by decide +kernel
theorem dX9_init_19 : decode cX9_init 19 = .ok (.aload_n 0, 1) := by decide +kernel
theorem dX9_init_20 : decode cX9_init 20 = .ok (.iconst 0, 1) := by decide +kernel
theorem dX9_init_21 : decode cX9_init 21 = .ok (.putfield 21, 3) := by decide +kernel
theorem dX9_init_24 : decode cX9_init 24 = .ok (.return_, 1) := by decide +kernel
theorem dX9_clear_0 : decode cX9_clear 0 = .ok (.aload_n 0, 1) := by decide +kernel
theorem dX9_clear_1 : decode cX9_clear 1 = .ok (.iconst 0, 1) := by decide +kernel
theorem dX9_clear_2 : decode cX9_clear 2 = .ok (.invokevirtual 24, 3) := by decide +kernel
theorem dX9_clear_5 : decode cX9_clear 5 = .ok (.return_, 1) := by decide +kernel
theorem dX9_become_0 : decode cX9_become 0 = .ok (.aload_n 0, 1) := by decide +kernel
theorem dX9_become_1 : decode cX9_become 1 = .ok (.iload_n 1, 1) := by decide +kernel
theorem dX9_become_2 : decode cX9_become 2 = .ok (.bipush 44, 2) := by decide +kernel
theorem dX9_become_4 : decode cX9_become 4 = .ok (.idiv, 1) := by decide +kernel
theorem dX9_become_5 : decode cX9_become 5 = .ok (.putfield 21, 3) := by decide +kernel
theorem dX9_become_8 : decode cX9_become 8 = .ok (.aload_n 0, 1) := by decide +kernel
theorem dX9_become_9 : decode cX9_become 9 = .ok (.iload_n 1, 1) := by decide +kernel
theorem dX9_become_10 : decode cX9_become 10 = .ok (.bipush 22, 2) := by decide +kernel
theorem dX9_become_12 : decode cX9_become 12 = .ok (.idiv, 1) := by decide +kernel
theorem dX9_become_13 : decode cX9_become 13 = .ok (.iconst 2, 1) := by decide +kernel
theorem dX9_become_14 : decode cX9_become 14 = .ok (.irem, 1) := by decide +kernel
theorem dX9_become_15 : decode cX9_become 15 = .ok (.putfield 15, 3) := by decide +kernel
theorem dX9_become_18 : decode cX9_become 18 = .ok (.aload_n 0, 1) := by decide +kernel
theorem dX9_become_19 : decode cX9_become 19 = .ok (.iload_n 1, 1) := by decide +kernel
theorem dX9_become_20 : decode cX9_become 20 = .ok (.bipush 11, 2) := by decide +kernel
theorem dX9_become_22 : decode cX9_become 22 = .ok (.idiv, 1) := by decide +kernel
theorem dX9_become_23 : decode cX9_become 23 = .ok (.iconst 2, 1) := by decide +kernel
theorem dX9_become_24 : decode cX9_become 24 = .ok (.irem, 1) := by decide +kernel
theorem dX9_become_25 : decode cX9_become 25 = .ok (.putfield 18, 3) := by decide +kernel
theorem dX9_become_28 : decode cX9_become 28 = .ok (.aload_n 0, 1) := by decide +kernel
theorem dX9_become_29 : decode cX9_become 29 = .ok (.iload_n 1, 1) := by decide +kernel
theorem dX9_become_30 : decode cX9_become 30 = .ok (.bipush 11, 2) := by decide +kernel
theorem dX9_become_32 : decode cX9_become 32 = .ok (.irem, 1) := by decide +kernel
theorem dX9_become_33 : decode cX9_become 33 = .ok (.iconst 1, 1) := by decide +kernel
theorem dX9_become_34 : decode cX9_become 34 = .ok (.isub, 1) := by decide +kernel
theorem dX9_become_35 : decode cX9_become 35 = .ok (.putfield 9, 3) := by decide +kernel
theorem dX9_become_38 : decode cX9_become 38 = .ok (.return_, 1) := by decide +kernel
theorem dX9_becomeLike_0 : decode cX9_becomeLike 0 = .ok (.aload_n 0, 1) := by decide +kernel
theorem dX9_becomeLike_1 : decode cX9_becomeLike 1 = .ok (.aload_n 1, 1) := by decide +kernel
theorem dX9_becomeLike_2 : decode cX9_becomeLike 2 = .ok (.getfield 9, 3) := by decide +kernel
theorem dX9_becomeLike_5 : decode cX9_becomeLike 5 = .ok (.putfield 9, 3) := by decide +kernel
theorem dX9_becomeLike_8 : decode cX9_becomeLike 8 = .ok (.aload_n 0, 1) := by decide +kernel
theorem dX9_becomeLike_9 : decode cX9_becomeLike 9 = .ok (.aload_n 1, 1) := by decide +kernel
theorem dX9_becomeLike_10 : decode cX9_becomeLike 10 = .ok (.getfield 15, 3) := by decide +kernel
theorem dX9_becomeLike_13 : decode cX9_becomeLike 13 = .ok (.putfield 15, 3) := by decide +kernel
theorem dX9_becomeLike_16 : decode cX9_becomeLike 16 = .ok (.aload_n 0, 1) := by decide +kernel
theorem dX9_becomeLike_17 : decode cX9_becomeLike 17 = .ok (.aload_n 1, 1) := by decide +kernel
theorem dX9_becomeLike_18 : decode cX9_becomeLike 18 = .ok (.getfield 18, 3) := by decide +kernel
theorem dX9_becomeLike_21 : decode cX9_becomeLike 21 = .ok (.putfield 18, 3) := by decide +kernel
theorem dX9_becomeLike_24 : decode cX9_becomeLike 24 = .ok (.aload_n 0, 1) := by decide +kernel
theorem dX9_becomeLike_25 : decode cX9_becomeLike 25 = .ok (.aload_n 1, 1) := by decide +kernel
theorem dX9_becomeLike_26 : decode cX9_becomeLike 26 = .ok (.getfield 21, 3) := by decide +kernel
theorem dX9_becomeLike_29 : decode cX9_becomeLike 29 = .ok (.putfield 21, 3) := by decide +kernel
theorem dX9_becomeLike_32 : decode cX9_becomeLike 32 = .ok (.return_, 1) := by decide +kernel
theorem dX10_init_0 : decode cX10_init 0 = .ok (.aload_n 0, 1) := by decide +kernel
theorem dX10_init_1 : decode cX10_init 1 = .ok (.invokespecial 3, 3) := by decide +kernel
theorem dX10_init_4 : decode cX10_init 4 = .ok (.aload_n 0, 1) := by decide +kernel
theorem dX10_init_5 : decode cX10_init 5 = .ok (.new 9, 3) := by decide +kernel
theorem dX10_init_8 : decode cX10_init 8 = .ok (.dup, 1) := by decide +kernel
theorem dX10_init_9 : decode cX10_init 9 = .ok (.bipush 100, 2) := by decide +kernel
theorem dX10_init_11 : decode cX10_init 11 = .ok (.newarray .int, 2) := by decide +kernel
theorem dX10_init_13 : decode cX10_init 13 = .ok (.bipush 100, 2) := by decide +kernel
theorem dX10_init_15 : decode cX10_init 15 = .ok (.newarray .int, 2) := by decide +kernel
theorem dX10_init_17 : decode cX10_init 17 = .ok (.invokespecial 11, 3) := by decide +kernel
theorem dX10_init_20 : decode cX10_init 20 = .ok (.putfield 14, 3) := by decide +kernel
theorem dX10_init_23 : decode cX10_init 23 = .ok (.aload_n 0, 1) := by decide +kernel
theorem dX10_init_24 : decode cX10_init 24 = .ok (.new 9, 3) := by decide +kernel
theorem dX10_init_27 : decode cX10_init 27 = .ok (.dup, 1) := by decide +kernel
theorem dX10_init_28 : decode cX10_init 28 = .ok (.bipush 100, 2) := by decide +kernel
theorem dX10_init_30 : decode cX10_init 30 = .ok (.newarray .int, 2) := by decide +kernel
theorem dX10_init_32 : decode cX10_init 32 = .ok (.bipush 100, 2) := by decide +kernel
theorem dX10_init_34 : decode cX10_init 34 = .ok (.newarray .int, 2) := by decide +kernel
theorem dX10_init_36 : decode cX10_init 36 = .ok (.invokespecial 11, 3) := by decide +kernel
theorem dX10_init_39 : decode cX10_init 39 = .ok (.putfield 20, 3) := by decide +kernel
theorem dX10_init_42 : decode cX10_init 42 = .ok (.aload_n 0, 1) := by decide +kernel
theorem dX10_init_43 : decode cX10_init 43 = .ok (.lconst 0, 1) := by decide +kernel
theorem dX10_init_44 : decode cX10_init 44 = .ok (.putfield 23, 3) := by decide +kernel
theorem dX10_init_47 : decode cX10_init 47 = .ok (.aload_n 0, 1) := by decide +kernel
theorem dX10_init_48 : decode cX10_init 48 = .ok (.lconst 0, 1) := by decide +kernel
theorem dX10_init_49 : decode cX10_init 49 = .ok (.putfield 27, 3) := by decide +kernel
theorem dX10_init_52 : decode cX10_init 52 = .ok (.aload_n 0, 1) := by decide +kernel
theorem dX10_init_53 : decode cX10_init 53 = .ok (.aload_n 1, 1) := by decide +kernel
theorem dX10_init_54 : decode cX10_init 54 = .ok (.putfield 30, 3) := by decide +kernel
theorem dX10_init_57 : decode cX10_init 57 = .ok (.return_, 1) := by decide +kernel
theorem dX10_begin_0 : decode cX10_begin 0 = .ok (.aload_n 0, 1) := by decide +kernel
theorem dX10_begin_1 : decode cX10_begin 1 = .ok (.lconst 0, 1) := by decide +kernel
theorem dX10_begin_2 : decode cX10_begin 2 = .ok (.putfield 23, 3) := by decide +kernel
theorem dX10_begin_5 : decode cX10_begin 5 = .ok (.aload_n 0, 1) := by decide +kernel
theorem dX10_begin_6 : decode cX10_begin 6 = .ok (.lconst 0, 1) := by decide +kernel
theorem dX10_begin_7 : decode cX10_begin 7 = .ok (.putfield 27, 3) := by decide +kernel
theorem dX10_begin_10 : decode cX10_begin 10 = .ok (.aload_n 0, 1) := by decide +kernel
theorem dX10_begin_11 : decode cX10_begin 11 = .ok (.getfield 14, 3) := by decide +kernel
theorem dX10_begin_14 : decode cX10_begin 14 = .ok (.invokevirtual 34, 3) := by decide +kernel
theorem dX10_begin_17 : decode cX10_begin 17 = .ok (.aload_n 0, 1) := by decide +kernel
theorem dX10_begin_18 : decode cX10_begin 18 = .ok (.getfield 14, 3) := by decide +kernel
theorem dX10_begin_21 : decode cX10_begin 21 = .ok (.iload_n 1, 1) := by decide +kernel
theorem dX10_begin_22 : decode cX10_begin 22 = .ok (.ldc 37, 2) := by decide +kernel
theorem dX10_begin_24 : decode cX10_begin 24 = .ok (.invokevirtual 38, 3) := by decide +kernel
theorem dX10_begin_27 : decode cX10_begin 27 = .ok (.return_, 1) := by decide +kernel
theorem dX10_go_0 : decode cX10_go 0 = .ok (.iconst 1, 1) := by decide +kernel
theorem dX10_go_1 : decode cX10_go 1 = .ok (.istore_n 2, 1) := by decide +kernel
theorem dX10_go_2 : decode cX10_go 2 = .ok (.iload_n 2, 1) := by decide +kernel
theorem dX10_go_3 : decode cX10_go 3 = .ok (.iload_n 1, 1) := by decide +kernel
theorem dX10_go_4 : decode cX10_go 4 = .ok (.if_icmp .gt 93, 3) := by decide +kernel
theorem dX10_go_7 : decode cX10_go 7 = .ok (.aload_n 0, 1) := by decide +kernel
theorem dX10_go_8 : decode cX10_go 8 = .ok (.getfield 30, 3) := by decide +kernel
theorem dX10_go_11 : decode cX10_go 11 = .ok (.getfield 42, 3) := by decide +kernel
theorem dX10_go_14 : decode cX10_go 14 = .ok (.getfield 48, 3) := by decide +kernel
theorem dX10_go_17 : decode cX10_go 17 = .ok (.ifCond .le 80, 3) := by decide +kernel
theorem dX10_go_20 : decode cX10_go 20 = .ok (.aload_n 0, 1) := by decide +kernel
theorem dX10_go_21 : decode cX10_go 21 = .ok (.getfield 23, 3) := by decide +kernel
theorem dX10_go_24 : decode cX10_go 24 = .ok (.lstore_n 3, 1) := by decide +kernel
theorem dX10_go_25 : decode cX10_go 25 = .ok (.aload_n 0, 1) := by decide +kernel
theorem dX10_go_26 : decode cX10_go 26 = .ok (.getfield 27, 3) := by decide +kernel
theorem dX10_go_29 : decode cX10_go 29 = .ok (.lstore 5, 2) := by decide +kernel
theorem dX10_go_31 : decode cX10_go 31 = .ok (.aload_n 0, 1) := by decide +kernel
theorem dX10_go_32 : decode cX10_go 32 = .ok (.invokevirtual 54, 3) := by decide +kernel
theorem dX10_go_35 : decode cX10_go 35 = .ok (.aload_n 0, 1) := by decide +kernel
theorem dX10_go_36 : decode cX10_go 36 = .ok (.getfield 14, 3) := by decide +kernel
theorem dX10_go_39 : decode cX10_go 39 = .ok (.aload_n 0, 1) := by decide +kernel
theorem dX10_go_40 : decode cX10_go 40 = .ok (.getfield 20, 3) := by decide +kernel
theorem dX10_go_43 : decode cX10_go 43 = .ok (.invokevirtual 57, 3) := by decide +kernel
theorem dX10_go_46 : decode cX10_go 46 = .ok (.ifCond .eq 45, 3) := by decide +kernel
theorem dX10_go_49 : decode cX10_go 49 = .ok (.aload_n 0, 1) := by decide +kernel
theorem dX10_go_50 : decode cX10_go 50 = .ok (.dup, 1) := by decide +kernel
theorem dX10_go_51 : decode cX10_go 51 = .ok (.getfield 23, 3) := by decide +kernel
theorem dX10_go_54 : decode cX10_go 54 = .ok (.iload_n 1, 1) := by decide +kernel
theorem dX10_go_55 : decode cX10_go 55 = .ok (.iload_n 2, 1) := by decide +kernel
theorem dX10_go_56 : decode cX10_go 56 = .ok (.isub, 1) := by decide +kernel
theorem dX10_go_57 : decode cX10_go 57 = .ok (.i2l, 1) := by decide +kernel
theorem dX10_go_58 : decode cX10_go 58 = .ok (.aload_n 0, 1) := by decide +kernel
theorem dX10_go_59 : decode cX10_go 59 = .ok (.getfield 23, 3) := by decide +kernel
theorem dX10_go_62 : decode cX10_go 62 = .ok (.lload_n 3, 1) := by decide +kernel
theorem dX10_go_63 : decode cX10_go 63 = .ok (.lsub, 1) := by decide +kernel
theorem dX10_go_64 : decode cX10_go 64 = .ok (.lmul, 1) := by decide +kernel
theorem dX10_go_65 : decode cX10_go 65 = .ok (.ladd, 1) := by decide +kernel
theorem dX10_go_66 : decode cX10_go 66 = .ok (.putfield 23, 3) := by decide +kernel
theorem dX10_go_69 : decode cX10_go 69 = .ok (.aload_n 0, 1) := by decide +kernel
theorem dX10_go_70 : decode cX10_go 70 = .ok (.dup, 1) := by decide +kernel
theorem dX10_go_71 : decode cX10_go 71 = .ok (.getfield 27, 3) := by decide +kernel
theorem dX10_go_74 : decode cX10_go 74 = .ok (.iload_n 1, 1) := by decide +kernel
theorem dX10_go_75 : decode cX10_go 75 = .ok (.iload_n 2, 1) := by decide +kernel
theorem dX10_go_76 : decode cX10_go 76 = .ok (.isub, 1) := by decide +kernel
theorem dX10_go_77 : decode cX10_go 77 = .ok (.i2l, 1) := by decide +kernel
theorem dX10_go_78 : decode cX10_go 78 = .ok (.aload_n 0, 1) := by decide +kernel
theorem dX10_go_79 : decode cX10_go 79 = .ok (.getfield 27, 3) := by decide +kernel
theorem dX10_go_82 : decode cX10_go 82 = .ok (.lload 5, 2) := by decide +kernel
theorem dX10_go_84 : decode cX10_go 84 = .ok (.lsub, 1) := by decide +kernel
theorem dX10_go_85 : decode cX10_go 85 = .ok (.lmul, 1) := by decide +kernel
theorem dX10_go_86 : decode cX10_go 86 = .ok (.ladd, 1) := by decide +kernel
theorem dX10_go_87 : decode cX10_go 87 = .ok (.putfield 27, 3) := by decide +kernel
theorem dX10_go_90 : decode cX10_go 90 = .ok (.return_, 1) := by decide +kernel
theorem dX10_go_91 : decode cX10_go 91 = .ok (.iinc 2 1, 3) := by decide +kernel
theorem dX10_go_94 : decode cX10_go 94 = .ok (.goto (-92), 3) := by decide +kernel
theorem dX10_go_97 : decode cX10_go 97 = .ok (.return_, 1) := by decide +kernel
theorem dX10_driftOfOneMore_0 : decode cX10_driftOfOneMore 0 = .ok (.aload_n 0, 1) := by decide +kernel
theorem dX10_driftOfOneMore_1 : decode cX10_driftOfOneMore 1 = .ok (.getfield 23, 3) := by decide +kernel
theorem dX10_driftOfOneMore_4 : decode cX10_driftOfOneMore 4 = .ok (.lstore_n 1, 1) := by decide +kernel
theorem dX10_driftOfOneMore_5 : decode cX10_driftOfOneMore 5 = .ok (.aload_n 0, 1) := by decide +kernel
theorem dX10_driftOfOneMore_6 : decode cX10_driftOfOneMore 6 = .ok (.iconst 1, 1) := by decide +kernel
theorem dX10_driftOfOneMore_7 : decode cX10_driftOfOneMore 7 = .ok (.invokevirtual 61, 3) := by decide +kernel
theorem dX10_driftOfOneMore_10 : decode cX10_driftOfOneMore 10 = .ok (.aload_n 0, 1) := by decide +kernel
theorem dX10_driftOfOneMore_11 : decode cX10_driftOfOneMore 11 = .ok (.getfield 23, 3) := by decide +kernel
theorem dX10_driftOfOneMore_14 : decode cX10_driftOfOneMore 14 = .ok (.lload_n 1, 1) := by decide +kernel
theorem dX10_driftOfOneMore_15 : decode cX10_driftOfOneMore 15 = .ok (.lsub, 1) := by decide +kernel
theorem dX10_driftOfOneMore_16 : decode cX10_driftOfOneMore 16 = .ok (.ldc2_w 65, 3) := by decide +kernel
theorem dX10_driftOfOneMore_19 : decode cX10_driftOfOneMore 19 = .ok (.ldiv, 1) := by decide +kernel
theorem dX10_driftOfOneMore_20 : decode cX10_driftOfOneMore 20 = .ok (.l2i, 1) := by decide +kernel
theorem dX10_driftOfOneMore_21 : decode cX10_driftOfOneMore 21 = .ok (.ireturn, 1) := by decide +kernel
theorem dX10_thousandthsGiven_0 : decode cX10_thousandthsGiven 0 = .ok (.aload_n 0, 1) := by decide +kernel
theorem dX10_thousandthsGiven_1 : decode cX10_thousandthsGiven 1 = .ok (.getfield 23, 3) := by decide +kernel
theorem dX10_thousandthsGiven_4 : decode cX10_thousandthsGiven 4 = .ok (.ldc2_w 65, 3) := by decide +kernel
theorem dX10_thousandthsGiven_7 : decode cX10_thousandthsGiven 7 = .ok (.ldiv, 1) := by decide +kernel
theorem dX10_thousandthsGiven_8 : decode cX10_thousandthsGiven 8 = .ok (.l2i, 1) := by decide +kernel
theorem dX10_thousandthsGiven_9 : decode cX10_thousandthsGiven 9 = .ok (.ireturn, 1) := by decide +kernel
theorem dX10_thousandthsAway_0 : decode cX10_thousandthsAway 0 = .ok (.aload_n 0, 1) := by decide +kernel
theorem dX10_thousandthsAway_1 : decode cX10_thousandthsAway 1 = .ok (.getfield 27, 3) := by decide +kernel
theorem dX10_thousandthsAway_4 : decode cX10_thousandthsAway 4 = .ok (.ldc2_w 65, 3) := by decide +kernel
theorem dX10_thousandthsAway_7 : decode cX10_thousandthsAway 7 = .ok (.ldiv, 1) := by decide +kernel
theorem dX10_thousandthsAway_8 : decode cX10_thousandthsAway 8 = .ok (.l2i, 1) := by decide +kernel
theorem dX10_thousandthsAway_9 : decode cX10_thousandthsAway 9 = .ok (.ireturn, 1) := by decide +kernel
theorem dX10_comesOne_0 : decode cX10_comesOne 0 = .ok (.aload_n 0, 1) := by decide +kernel
theorem dX10_comesOne_1 : decode cX10_comesOne 1 = .ok (.getfield 20, 3) := by decide +kernel
theorem dX10_comesOne_4 : decode cX10_comesOne 4 = .ok (.invokevirtual 34, 3) := by decide +kernel
theorem dX10_comesOne_7 : decode cX10_comesOne 7 = .ok (.iconst 0, 1) := by decide +kernel
theorem dX10_comesOne_8 : decode cX10_comesOne 8 = .ok (.istore_n 1, 1) := by decide +kernel
theorem dX10_comesOne_9 : decode cX10_comesOne 9 = .ok (.iload_n 1, 1) := by decide +kernel
theorem dX10_comesOne_10 : decode cX10_comesOne 10 = .ok (.aload_n 0, 1) := by decide +kernel
theorem dX10_comesOne_11 : decode cX10_comesOne 11 = .ok (.getfield 14, 3) := by decide +kernel
theorem dX10_comesOne_14 : decode cX10_comesOne 14 = .ok (.getfield 67, 3) := by decide +kernel
theorem dX10_comesOne_17 : decode cX10_comesOne 17 = .ok (.if_icmp .ge 21, 3) := by decide +kernel
theorem dX10_comesOne_20 : decode cX10_comesOne 20 = .ok (.aload_n 0, 1) := by decide +kernel
theorem dX10_comesOne_21 : decode cX10_comesOne 21 = .ok (.aload_n 0, 1) := by decide +kernel
theorem dX10_comesOne_22 : decode cX10_comesOne 22 = .ok (.getfield 14, 3) := by decide +kernel
theorem dX10_comesOne_25 : decode cX10_comesOne 25 = .ok (.iload_n 1, 1) := by decide +kernel
theorem dX10_comesOne_26 : decode cX10_comesOne 26 = .ok (.invokevirtual 70, 3) := by decide +kernel
theorem dX10_comesOne_29 : decode cX10_comesOne 29 = .ok (.invokevirtual 74, 3) := by decide +kernel
theorem dX10_comesOne_32 : decode cX10_comesOne 32 = .ok (.iinc 1 1, 3) := by decide +kernel
theorem dX10_comesOne_35 : decode cX10_comesOne 35 = .ok (.goto (-26), 3) := by decide +kernel
theorem dX10_comesOne_38 : decode cX10_comesOne 38 = .ok (.aload_n 0, 1) := by decide +kernel
theorem dX10_comesOne_39 : decode cX10_comesOne 39 = .ok (.getfield 14, 3) := by decide +kernel
theorem dX10_comesOne_42 : decode cX10_comesOne 42 = .ok (.astore_n 1, 1) := by decide +kernel
theorem dX10_comesOne_43 : decode cX10_comesOne 43 = .ok (.aload_n 0, 1) := by decide +kernel
theorem dX10_comesOne_44 : decode cX10_comesOne 44 = .ok (.aload_n 0, 1) := by decide +kernel
theorem dX10_comesOne_45 : decode cX10_comesOne 45 = .ok (.getfield 20, 3) := by decide +kernel
theorem dX10_comesOne_48 : decode cX10_comesOne 48 = .ok (.putfield 14, 3) := by decide +kernel
theorem dX10_comesOne_51 : decode cX10_comesOne 51 = .ok (.aload_n 0, 1) := by decide +kernel
theorem dX10_comesOne_52 : decode cX10_comesOne 52 = .ok (.aload_n 1, 1) := by decide +kernel
theorem dX10_comesOne_53 : decode cX10_comesOne 53 = .ok (.putfield 20, 3) := by decide +kernel
theorem dX10_comesOne_56 : decode cX10_comesOne 56 = .ok (.return_, 1) := by decide +kernel
theorem dX10_share_0 : decode cX10_share 0 = .ok (.aload_n 0, 1) := by decide +kernel
theorem dX10_share_1 : decode cX10_share 1 = .ok (.getfield 14, 3) := by decide +kernel
theorem dX10_share_4 : decode cX10_share 4 = .ok (.iload_n 1, 1) := by decide +kernel
theorem dX10_share_5 : decode cX10_share 5 = .ok (.invokevirtual 77, 3) := by decide +kernel
theorem dX10_share_8 : decode cX10_share 8 = .ok (.istore_n 2, 1) := by decide +kernel
theorem dX10_share_9 : decode cX10_share 9 = .ok (.aload_n 0, 1) := by decide +kernel
theorem dX10_share_10 : decode cX10_share 10 = .ok (.getfield 30, 3) := by decide +kernel
theorem dX10_share_13 : decode cX10_share 13 = .ok (.getfield 42, 3) := by decide +kernel
theorem dX10_share_16 : decode cX10_share 16 = .ok (.astore_n 3, 1) := by decide +kernel
theorem dX10_share_17 : decode cX10_share 17 = .ok (.iload_n 2, 1) := by decide +kernel
theorem dX10_share_18 : decode cX10_share 18 = .ok (.istore 4, 2) := by decide +kernel
theorem dX10_share_20 : decode cX10_share 20 = .ok (.iconst 0, 1) := by decide +kernel
theorem dX10_share_21 : decode cX10_share 21 = .ok (.istore 5, 2) := by decide +kernel
theorem dX10_share_23 : decode cX10_share 23 = .ok (.iload 5, 2) := by decide +kernel
theorem dX10_share_25 : decode cX10_share 25 = .ok (.aload_n 3, 1) := by decide +kernel
theorem dX10_share_26 : decode cX10_share 26 = .ok (.getfield 48, 3) := by decide +kernel
theorem dX10_share_29 : decode cX10_share 29 = .ok (.if_icmp .ge 103, 3) := by decide +kernel
theorem dX10_share_32 : decode cX10_share 32 = .ok (.aload_n 3, 1) := by decide +kernel
theorem dX10_share_33 : decode cX10_share 33 = .ok (.iload 5, 2) := by decide +kernel
theorem dX10_share_35 : decode cX10_share 35 = .ok (.iload_n 2, 1) := by decide +kernel
theorem dX10_share_36 : decode cX10_share 36 = .ok (.iload 4, 2) := by decide +kernel
theorem dX10_share_38 : decode cX10_share 38 = .ok (.invokevirtual 80, 3) := by decide +kernel
theorem dX10_share_41 : decode cX10_share 41 = .ok (.istore 6, 2) := by decide +kernel
theorem dX10_share_43 : decode cX10_share 43 = .ok (.iload 4, 2) := by decide +kernel
theorem dX10_share_45 : decode cX10_share 45 = .ok (.iload 6, 2) := by decide +kernel
theorem dX10_share_47 : decode cX10_share 47 = .ok (.isub, 1) := by decide +kernel
theorem dX10_share_48 : decode cX10_share 48 = .ok (.istore 4, 2) := by decide +kernel
theorem dX10_share_50 : decode cX10_share 50 = .ok (.aload_n 0, 1) := by decide +kernel
theorem dX10_share_51 : decode cX10_share 51 = .ok (.getfield 30, 3) := by decide +kernel
theorem dX10_share_54 : decode cX10_share 54 = .ok (.iload 5, 2) := by decide +kernel
theorem dX10_share_56 : decode cX10_share 56 = .ok (.iload_n 1, 1) := by decide +kernel
theorem dX10_share_57 : decode cX10_share 57 = .ok (.iconst 0, 1) := by decide +kernel
theorem dX10_share_58 : decode cX10_share 58 = .ok (.invokevirtual 84, 3) := by decide +kernel
theorem dX10_share_61 : decode cX10_share 61 = .ok (.istore 7, 2) := by decide +kernel
theorem dX10_share_63 : decode cX10_share 63 = .ok (.iload 7, 2) := by decide +kernel
theorem dX10_share_65 : decode cX10_share 65 = .ok (.iconst (-1), 1) := by decide +kernel
theorem dX10_share_66 : decode cX10_share 66 = .ok (.if_icmp .ne 28, 3) := by decide +kernel
theorem dX10_share_69 : decode cX10_share 69 = .ok (.aload_n 0, 1) := by decide +kernel
theorem dX10_share_70 : decode cX10_share 70 = .ok (.dup, 1) := by decide +kernel
theorem dX10_share_71 : decode cX10_share 71 = .ok (.getfield 27, 3) := by decide +kernel
theorem dX10_share_74 : decode cX10_share 74 = .ok (.iload 6, 2) := by decide +kernel
theorem dX10_share_76 : decode cX10_share 76 = .ok (.i2l, 1) := by decide +kernel
theorem dX10_share_77 : decode cX10_share 77 = .ok (.ladd, 1) := by decide +kernel
theorem dX10_share_78 : decode cX10_share 78 = .ok (.putfield 27, 3) := by decide +kernel
theorem dX10_share_81 : decode cX10_share 81 = .ok (.aload_n 0, 1) := by decide +kernel
theorem dX10_share_82 : decode cX10_share 82 = .ok (.getfield 20, 3) := by decide +kernel
theorem dX10_share_85 : decode cX10_share 85 = .ok (.iload_n 1, 1) := by decide +kernel
theorem dX10_share_86 : decode cX10_share 86 = .ok (.iload 6, 2) := by decide +kernel
theorem dX10_share_88 : decode cX10_share 88 = .ok (.invokevirtual 38, 3) := by decide +kernel
theorem dX10_share_91 : decode cX10_share 91 = .ok (.goto 35, 3) := by decide +kernel
theorem dX10_share_94 : decode cX10_share 94 = .ok (.aload_n 0, 1) := by decide +kernel
theorem dX10_share_95 : decode cX10_share 95 = .ok (.dup, 1) := by decide +kernel
theorem dX10_share_96 : decode cX10_share 96 = .ok (.getfield 23, 3) := by decide +kernel
theorem dX10_share_99 : decode cX10_share 99 = .ok (.iload 6, 2) := by decide +kernel
theorem dX10_share_101 : decode cX10_share 101 = .ok (.i2l, 1) := by decide +kernel
theorem dX10_share_102 : decode cX10_share 102 = .ok (.iload 7, 2) := by decide +kernel
theorem dX10_share_104 : decode cX10_share 104 = .ok (.i2l, 1) := by decide +kernel
theorem dX10_share_105 : decode cX10_share 105 = .ok (.lmul, 1) := by decide +kernel
theorem dX10_share_106 : decode cX10_share 106 = .ok (.ladd, 1) := by decide +kernel
theorem dX10_share_107 : decode cX10_share 107 = .ok (.putfield 23, 3) := by decide +kernel
theorem dX10_share_110 : decode cX10_share 110 = .ok (.aload_n 0, 1) := by decide +kernel
theorem dX10_share_111 : decode cX10_share 111 = .ok (.getfield 20, 3) := by decide +kernel
theorem dX10_share_114 : decode cX10_share 114 = .ok (.aload_n 3, 1) := by decide +kernel
theorem dX10_share_115 : decode cX10_share 115 = .ok (.iload_n 1, 1) := by decide +kernel
theorem dX10_share_116 : decode cX10_share 116 = .ok (.iload 7, 2) := by decide +kernel
theorem dX10_share_118 : decode cX10_share 118 = .ok (.invokevirtual 87, 3) := by decide +kernel
theorem dX10_share_121 : decode cX10_share 121 = .ok (.iload 6, 2) := by decide +kernel
theorem dX10_share_123 : decode cX10_share 123 = .ok (.invokevirtual 38, 3) := by decide +kernel
theorem dX10_share_126 : decode cX10_share 126 = .ok (.iinc 5 1, 3) := by decide +kernel
theorem dX10_share_129 : decode cX10_share 129 = .ok (.goto (-106), 3) := by decide +kernel
theorem dX10_share_132 : decode cX10_share 132 = .ok (.return_, 1) := by decide +kernel
theorem dX11_init_0 : decode cX11_init 0 = .ok (.aload_n 0, 1) := by decide +kernel
theorem dX11_init_1 : decode cX11_init 1 = .ok (.invokespecial 3, 3) := by decide +kernel
theorem dX11_init_4 : decode cX11_init 4 = .ok (.aload_n 0, 1) := by decide +kernel
theorem dX11_init_5 : decode cX11_init 5 = .ok (.new 9, 3) := by decide +kernel
theorem dX11_init_8 : decode cX11_init 8 = .ok (.dup, 1) := by decide +kernel
theorem dX11_init_9 : decode cX11_init 9 = .ok (.invokespecial 11, 3) := by decide +kernel
theorem dX11_init_12 : decode cX11_init 12 = .ok (.putfield 12, 3) := by decide +kernel
theorem dX11_init_15 : decode cX11_init 15 = .ok (.aload_n 0, 1) := by decide +kernel
theorem dX11_init_16 : decode cX11_init 16 = .ok (.new 16, 3) := by decide +kernel
theorem dX11_init_19 : decode cX11_init 19 = .ok (.dup, 1) := by decide +kernel
theorem dX11_init_20 : decode cX11_init 20 = .ok (.invokespecial 18, 3) := by decide +kernel
theorem dX11_init_23 : decode cX11_init 23 = .ok (.putfield 19, 3) := by decide +kernel
theorem dX11_init_26 : decode cX11_init 26 = .ok (.aload_n 0, 1) := by decide +kernel
theorem dX11_init_27 : decode cX11_init 27 = .ok (.new 16, 3) := by decide +kernel
theorem dX11_init_30 : decode cX11_init 30 = .ok (.dup, 1) := by decide +kernel
theorem dX11_init_31 : decode cX11_init 31 = .ok (.invokespecial 18, 3) := by decide +kernel
theorem dX11_init_34 : decode cX11_init 34 = .ok (.putfield 23, 3) := by decide +kernel
theorem dX11_init_37 : decode cX11_init 37 = .ok (.aload_n 0, 1) := by decide +kernel
theorem dX11_init_38 : decode cX11_init 38 = .ok (.iconst 3, 1) := by decide +kernel
theorem dX11_init_39 : decode cX11_init 39 = .ok (.newarray .int, 2) := by decide +kernel
theorem dX11_init_41 : decode cX11_init 41 = .ok (.putfield 26, 3) := by decide +kernel
theorem dX11_init_44 : decode cX11_init 44 = .ok (.aload_n 0, 1) := by decide +kernel
theorem dX11_init_45 : decode cX11_init 45 = .ok (.iconst 3, 1) := by decide +kernel
theorem dX11_init_46 : decode cX11_init 46 = .ok (.newarray .int, 2) := by decide +kernel
theorem dX11_init_48 : decode cX11_init 48 = .ok (.putfield 30, 3) := by decide +kernel
theorem dX11_init_51 : decode cX11_init 51 = .ok (.aload_n 0, 1) := by decide +kernel
theorem dX11_init_52 : decode cX11_init 52 = .ok (.iconst 0, 1) := by decide +kernel
theorem dX11_init_53 : decode cX11_init 53 = .ok (.putfield 33, 3) := by decide +kernel
theorem dX11_init_56 : decode cX11_init 56 = .ok (.aload_n 0, 1) := by decide +kernel
theorem dX11_init_57 : decode cX11_init 57 = .ok (.iconst (-1), 1) := by decide +kernel
theorem dX11_init_58 : decode cX11_init 58 = .ok (.putfield 37, 3) := by decide +kernel
theorem dX11_init_61 : decode cX11_init 61 = .ok (.aload_n 0, 1) := by decide +kernel
theorem dX11_init_62 : decode cX11_init 62 = .ok (.new 41, 3) := by decide +kernel
theorem dX11_init_65 : decode cX11_init 65 = .ok (.dup, 1) := by decide +kernel
theorem dX11_init_66 : decode cX11_init 66 = .ok (.aload_n 0, 1) := by decide +kernel
theorem dX11_init_67 : decode cX11_init 67 = .ok (.getfield 19, 3) := by decide +kernel
theorem dX11_init_70 : decode cX11_init 70 = .ok (.getfield 43, 3) := by decide +kernel
theorem dX11_init_73 : decode cX11_init 73 = .ok (.sipush 800, 3) := by decide +kernel
theorem dX11_init_76 : decode cX11_init 76 = .ok (.newarray .int, 2) := by decide +kernel
theorem dX11_init_78 : decode cX11_init 78 = .ok (.invokespecial 47, 3) := by decide +kernel
theorem dX11_init_81 : decode cX11_init 81 = .ok (.putfield 50, 3) := by decide +kernel
theorem dX11_init_84 : decode cX11_init 84 = .ok (.aload_n 0, 1) := by decide +kernel
theorem dX11_init_85 : decode cX11_init 85 = .ok (.new 54, 3) := by decide +kernel
theorem dX11_init_88 : decode cX11_init 88 = .ok (.dup, 1) := by decide +kernel
theorem dX11_init_89 : decode cX11_init 89 = .ok (.aload_n 0, 1) := by decide +kernel
theorem dX11_init_90 : decode cX11_init 90 = .ok (.getfield 50, 3) := by decide +kernel
theorem dX11_init_93 : decode cX11_init 93 = .ok (.invokespecial 56, 3) := by decide +kernel
theorem dX11_init_96 : decode cX11_init 96 = .ok (.putfield 59, 3) := by decide +kernel
theorem dX11_init_99 : decode cX11_init 99 = .ok (.aload_n 0, 1) := by decide +kernel
theorem dX11_init_100 : decode cX11_init 100 = .ok (.new 63, 3) := by decide +kernel
theorem dX11_init_103 : decode cX11_init 103 = .ok (.dup, 1) := by decide +kernel
theorem dX11_init_104 : decode cX11_init 104 = .ok (.aload_n 0, 1) := by decide +kernel
theorem dX11_init_105 : decode cX11_init 105 = .ok (.getfield 50, 3) := by decide +kernel
theorem dX11_init_108 : decode cX11_init 108 = .ok (.aload_n 0, 1) := by decide +kernel
theorem dX11_init_109 : decode cX11_init 109 = .ok (.getfield 19, 3) := by decide +kernel
theorem dX11_init_112 : decode cX11_init 112 = .ok (.getfield 43, 3) := by decide +kernel
theorem dX11_init_115 : decode cX11_init 115 = .ok (.invokespecial 65, 3) := by decide +kernel
theorem dX11_init_118 : decode cX11_init 118 = .ok (.putfield 68, 3) := by decide +kernel
theorem dX11_init_121 : decode cX11_init 121 = .ok (.aload_n 0, 1) := by decide +kernel
theorem dX11_init_122 : decode cX11_init 122 = .ok (.new 72, 3) := by decide +kernel
theorem dX11_init_125 : decode cX11_init 125 = .ok (.dup, 1) := by decide +kernel
theorem dX11_init_126 : decode cX11_init 126 = .ok (.aload_n 0, 1) := by decide +kernel
theorem dX11_init_127 : decode cX11_init 127 = .ok (.getfield 50, 3) := by decide +kernel
theorem dX11_init_130 : decode cX11_init 130 = .ok (.invokespecial 74, 3) := by decide +kernel
theorem dX11_init_133 : decode cX11_init 133 = .ok (.putfield 75, 3) := by decide +kernel
theorem dX11_init_136 : decode cX11_init 136 = .ok (.aload_n 0, 1) := by decide +kernel
theorem dX11_init_137 : decode cX11_init 137 = .ok (.new 79, 3) := by decide +kernel
theorem dX11_init_140 : decode cX11_init 140 = .ok (.dup, 1) := by decide +kernel
theorem dX11_init_141 : decode cX11_init 141 = .ok (.aload_n 0, 1) := by decide +kernel
theorem dX11_init_142 : decode cX11_init 142 = .ok (.getfield 50, 3) := by decide +kernel
theorem dX11_init_145 : decode cX11_init 145 = .ok (.invokespecial 81, 3) := by decide +kernel
theorem dX11_init_148 : decode cX11_init 148 = .ok (.putfield 82, 3) := by decide +kernel
theorem dX11_init_151 : decode cX11_init 151 = .ok (.aload_n 0, 1) := by decide +kernel
theorem dX11_init_152 : decode cX11_init 152 = .ok (.new 86, 3) := by decide +kernel
theorem dX11_init_155 : decode cX11_init 155 = .ok (.dup, 1) := by decide +kernel
theorem dX11_init_156 : decode cX11_init 156 = .ok (.invokespecial 88, 3) := by decide +kernel
theorem dX11_init_159 : decode cX11_init 159 = .ok (.putfield 89, 3) := by decide +kernel
theorem dX11_init_162 : decode cX11_init 162 = .ok (.aload_n 0, 1) := by decide +kernel
theorem dX11_init_163 : decode cX11_init 163 = .ok (.iconst (-1), 1) := by decide +kernel
theorem dX11_init_164 : decode cX11_init 164 = .ok (.putfield 93, 3) := by decide +kernel
theorem dX11_init_167 : decode cX11_init 167 = .ok (.aload_n 0, 1) := by decide +kernel
theorem dX11_init_168 : decode cX11_init 168 = .ok (.iconst (-1), 1) := by decide +kernel
theorem dX11_init_169 : decode cX11_init 169 = .ok (.putfield 96, 3) := by decide +kernel
theorem dX11_init_172 : decode cX11_init 172 = .ok (.return_, 1) := by decide +kernel
theorem dX11_feed_0 : decode cX11_feed 0 = .ok (.aload_n 0, 1) := by decide +kernel
theorem dX11_feed_1 : decode cX11_feed 1 = .ok (.getfield 12, 3) := by decide +kernel
theorem dX11_feed_4 : decode cX11_feed 4 = .ok (.getfield 99, 3) := by decide +kernel
theorem dX11_feed_7 : decode cX11_feed 7 = .ok (.bipush 20, 2) := by decide +kernel
theorem dX11_feed_9 : decode cX11_feed 9 = .ok (.iadd, 1) := by decide +kernel
theorem dX11_feed_10 : decode cX11_feed 10 = .ok (.sipush 700, 3) := by decide +kernel
theorem dX11_feed_13 : decode cX11_feed 13 = .ok (.if_icmp .le 5, 3) := by decide +kernel
theorem dX11_feed_16 : decode cX11_feed 16 = .ok (.iconst (-1), 1) := by decide +kernel
theorem dX11_feed_17 : decode cX11_feed 17 = .ok (.ireturn, 1) := by decide +kernel
theorem dX11_feed_18 : decode cX11_feed 18 = .ok (.aload_n 0, 1) := by decide +kernel
theorem dX11_feed_19 : decode cX11_feed 19 = .ok (.getfield 12, 3) := by decide +kernel
theorem dX11_feed_22 : decode cX11_feed 22 = .ok (.iload_n 1, 1) := by decide +kernel
theorem dX11_feed_23 : decode cX11_feed 23 = .ok (.invokevirtual 102, 3) := by decide +kernel
theorem dX11_feed_26 : decode cX11_feed 26 = .ok (.aload_n 0, 1) := by decide +kernel
theorem dX11_feed_27 : decode cX11_feed 27 = .ok (.getfield 12, 3) := by decide +kernel
theorem dX11_feed_30 : decode cX11_feed 30 = .ok (.iload_n 2, 1) := by decide +kernel
theorem dX11_feed_31 : decode cX11_feed 31 = .ok (.invokevirtual 102, 3) := by decide +kernel
theorem dX11_feed_34 : decode cX11_feed 34 = .ok (.aload_n 0, 1) := by decide +kernel
theorem dX11_feed_35 : decode cX11_feed 35 = .ok (.getfield 12, 3) := by decide +kernel
theorem dX11_feed_38 : decode cX11_feed 38 = .ok (.iload_n 3, 1) := by decide +kernel
theorem dX11_feed_39 : decode cX11_feed 39 = .ok (.invokevirtual 102, 3) := by decide +kernel
theorem dX11_feed_42 : decode cX11_feed 42 = .ok (.aload_n 0, 1) := by decide +kernel
theorem dX11_feed_43 : decode cX11_feed 43 = .ok (.getfield 12, 3) := by decide +kernel
theorem dX11_feed_46 : decode cX11_feed 46 = .ok (.iload 4, 2) := by decide +kernel
theorem dX11_feed_48 : decode cX11_feed 48 = .ok (.invokevirtual 102, 3) := by decide +kernel
theorem dX11_feed_51 : decode cX11_feed 51 = .ok (.aload_n 0, 1) := by decide +kernel
theorem dX11_feed_52 : decode cX11_feed 52 = .ok (.getfield 12, 3) := by decide +kernel
theorem dX11_feed_55 : decode cX11_feed 55 = .ok (.iload 5, 2) := by decide +kernel
theorem dX11_feed_57 : decode cX11_feed 57 = .ok (.invokevirtual 102, 3) := by decide +kernel
theorem dX11_feed_60 : decode cX11_feed 60 = .ok (.aload_n 0, 1) := by decide +kernel
theorem dX11_feed_61 : decode cX11_feed 61 = .ok (.getfield 12, 3) := by decide +kernel
theorem dX11_feed_64 : decode cX11_feed 64 = .ok (.getfield 99, 3) := by decide +kernel
theorem dX11_feed_67 : decode cX11_feed 67 = .ok (.ireturn, 1) := by decide +kernel
theorem dX11_gate_0 : decode cX11_gate 0 = .ok (.aload_n 0, 1) := by decide +kernel
theorem dX11_gate_1 : decode cX11_gate 1 = .ok (.iload_n 1, 1) := by decide +kernel
theorem dX11_gate_2 : decode cX11_gate 2 = .ok (.invokevirtual 106, 3) := by decide +kernel
theorem dX11_gate_5 : decode cX11_gate 5 = .ok (.astore_n 3, 1) := by decide +kernel
theorem dX11_gate_6 : decode cX11_gate 6 = .ok (.iload_n 2, 1) := by decide +kernel
theorem dX11_gate_7 : decode cX11_gate 7 = .ok (.iconst 0, 1) := by decide +kernel
theorem dX11_gate_8 : decode cX11_gate 8 = .ok (.aload_n 0, 1) := by decide +kernel
theorem dX11_gate_9 : decode cX11_gate 9 = .ok (.getfield 12, 3) := by decide +kernel
theorem dX11_gate_12 : decode cX11_gate 12 = .ok (.getfield 99, 3) := by decide +kernel
theorem dX11_gate_15 : decode cX11_gate 15 = .ok (.invokestatic 110, 3) := by decide +kernel
theorem dX11_gate_18 : decode cX11_gate 18 = .ok (.aload_n 0, 1) := by decide +kernel
theorem dX11_gate_19 : decode cX11_gate 19 = .ok (.getfield 12, 3) := by decide +kernel
theorem dX11_gate_22 : decode cX11_gate 22 = .ok (.iload_n 2, 1) := by decide +kernel
theorem dX11_gate_23 : decode cX11_gate 23 = .ok (.invokevirtual 114, 3) := by decide +kernel
theorem dX11_gate_26 : decode cX11_gate 26 = .ok (.istore 4, 2) := by decide +kernel
theorem dX11_gate_28 : decode cX11_gate 28 = .ok (.aload_n 0, 1) := by decide +kernel
theorem dX11_gate_29 : decode cX11_gate 29 = .ok (.iload 4, 2) := by decide +kernel
theorem dX11_gate_31 : decode cX11_gate 31 = .ok (.ifCond .ne 7, 3) := by decide +kernel
theorem dX11_gate_34 : decode cX11_gate 34 = .ok (.iconst (-1), 1) := by decide +kernel
theorem dX11_gate_35 : decode cX11_gate 35 = .ok (.goto 10, 3) := by decide +kernel
theorem dX11_gate_38 : decode cX11_gate 38 = .ok (.aload_n 0, 1) := by decide +kernel
theorem dX11_gate_39 : decode cX11_gate 39 = .ok (.getfield 12, 3) := by decide +kernel
theorem dX11_gate_42 : decode cX11_gate 42 = .ok (.getfield 118, 3) := by decide +kernel
theorem dX11_gate_45 : decode cX11_gate 45 = .ok (.putfield 37, 3) := by decide +kernel
theorem dX11_gate_48 : decode cX11_gate 48 = .ok (.iload 4, 2) := by decide +kernel
theorem dX11_gate_50 : decode cX11_gate 50 = .ok (.ifCond .eq 11, 3) := by decide +kernel
theorem dX11_gate_53 : decode cX11_gate 53 = .ok (.aload_n 0, 1) := by decide +kernel
theorem dX11_gate_54 : decode cX11_gate 54 = .ok (.iconst 0, 1) := by decide +kernel
theorem dX11_gate_55 : decode cX11_gate 55 = .ok (.invokevirtual 121, 3) := by decide +kernel
theorem dX11_gate_58 : decode cX11_gate 58 = .ok (.iload 4, 2) := by decide +kernel
theorem dX11_gate_60 : decode cX11_gate 60 = .ok (.ireturn, 1) := by decide +kernel
theorem dX11_gate_61 : decode cX11_gate 61 = .ok (.aload_n 3, 1) := by decide +kernel
theorem dX11_gate_62 : decode cX11_gate 62 = .ok (.getfield 43, 3) := by decide +kernel
theorem dX11_gate_65 : decode cX11_gate 65 = .ok (.astore 5, 2) := by decide +kernel
theorem dX11_gate_67 : decode cX11_gate 67 = .ok (.aload_n 3, 1) := by decide +kernel
theorem dX11_gate_68 : decode cX11_gate 68 = .ok (.aload_n 0, 1) := by decide +kernel
theorem dX11_gate_69 : decode cX11_gate 69 = .ok (.getfield 12, 3) := by decide +kernel
theorem dX11_gate_72 : decode cX11_gate 72 = .ok (.getfield 124, 3) := by decide +kernel
theorem dX11_gate_75 : decode cX11_gate 75 = .ok (.putfield 43, 3) := by decide +kernel
theorem dX11_gate_78 : decode cX11_gate 78 = .ok (.aload_n 0, 1) := by decide +kernel
theorem dX11_gate_79 : decode cX11_gate 79 = .ok (.getfield 12, 3) := by decide +kernel
theorem dX11_gate_82 : decode cX11_gate 82 = .ok (.aload 5, 2) := by decide +kernel
theorem dX11_gate_84 : decode cX11_gate 84 = .ok (.putfield 124, 3) := by decide +kernel
theorem dX11_gate_87 : decode cX11_gate 87 = .ok (.aload_n 3, 1) := by decide +kernel
theorem dX11_gate_88 : decode cX11_gate 88 = .ok (.getfield 125, 3) := by decide +kernel
theorem dX11_gate_91 : decode cX11_gate 91 = .ok (.invokevirtual 129, 3) := by decide +kernel
theorem dX11_gate_94 : decode cX11_gate 94 = .ok (.aload_n 0, 1) := by decide +kernel
theorem dX11_gate_95 : decode cX11_gate 95 = .ok (.iconst 0, 1) := by decide +kernel
theorem dX11_gate_96 : decode cX11_gate 96 = .ok (.putfield 33, 3) := by decide +kernel
theorem dX11_gate_99 : decode cX11_gate 99 = .ok (.iconst 0, 1) := by decide +kernel
theorem dX11_gate_100 : decode cX11_gate 100 = .ok (.ireturn, 1) := by decide +kernel
theorem dX11_fault_0 : decode cX11_fault 0 = .ok (.aload_n 0, 1) := by decide +kernel
theorem dX11_fault_1 : decode cX11_fault 1 = .ok (.getfield 37, 3) := by decide +kernel
theorem dX11_fault_4 : decode cX11_fault 4 = .ok (.ireturn, 1) := by decide +kernel
theorem dX11_count_0 : decode cX11_count 0 = .ok (.iload_n 1, 1) := by decide +kernel
theorem dX11_count_1 : decode cX11_count 1 = .ok (.iconst 3, 1) := by decide +kernel
theorem dX11_count_2 : decode cX11_count 2 = .ok (.invokestatic 134, 3) := by decide +kernel
theorem dX11_count_5 : decode cX11_count 5 = .ok (.iload_n 1, 1) := by decide +kernel
theorem dX11_count_6 : decode cX11_count 6 = .ok (.ifCond .ne 13, 3) := by decide +kernel
theorem dX11_count_9 : decode cX11_count 9 = .ok (.aload_n 0, 1) := by decide +kernel
theorem dX11_count_10 : decode cX11_count 10 = .ok (.getfield 12, 3) := by decide +kernel
theorem dX11_count_13 : decode cX11_count 13 = .ok (.getfield 99, 3) := by decide +kernel
theorem dX11_count_16 : decode cX11_count 16 = .ok (.goto 13, 3) := by decide +kernel
theorem dX11_count_19 : decode cX11_count 19 = .ok (.aload_n 0, 1) := by decide +kernel
theorem dX11_count_20 : decode cX11_count 20 = .ok (.getfield 26, 3) := by decide +kernel
theorem dX11_count_23 : decode cX11_count 23 = .ok (.iload_n 1, 1) := by decide +kernel
theorem dX11_count_24 : decode cX11_count 24 = .ok (.iconst 1, 1) := by decide +kernel
theorem dX11_count_25 : decode cX11_count 25 = .ok (.isub, 1) := by decide +kernel
theorem dX11_count_26 : decode cX11_count 26 = .ok (.invokestatic 138, 3) := by decide +kernel
theorem dX11_count_29 : decode cX11_count 29 = .ok (.ireturn, 1) := by decide +kernel
theorem dX11_about_0 : decode cX11_about 0 = .ok (.aload_n 0, 1) := by decide +kernel
theorem dX11_about_1 : decode cX11_about 1 = .ok (.iload_n 1, 1) := by decide +kernel
theorem dX11_about_2 : decode cX11_about 2 = .ok (.invokevirtual 106, 3) := by decide +kernel
theorem dX11_about_5 : decode cX11_about 5 = .ok (.astore_n 3, 1) := by decide +kernel
theorem dX11_about_6 : decode cX11_about 6 = .ok (.iload_n 2, 1) := by decide +kernel
theorem dX11_about_7 : decode cX11_about 7 = .ok (.bipush 13, 2) := by decide +kernel
theorem dX11_about_9 : decode cX11_about 9 = .ok (.invokestatic 134, 3) := by decide +kernel
theorem dX11_about_12 : decode cX11_about 12 = .ok (.iload_n 2, 1) := by decide +kernel
theorem dX11_about_13 : decode cX11_about 13 = .ok (.bipush 9, 2) := by decide +kernel
theorem dX11_about_15 : decode cX11_about 15 = .ok (.if_icmp .ge 14, 3) := by decide +kernel
theorem dX11_about_18 : decode cX11_about 18 = .ok (.aload_n 3, 1) := by decide +kernel
theorem dX11_about_19 : decode cX11_about 19 = .ok (.getfield 43, 3) := by decide +kernel
theorem dX11_about_22 : decode cX11_about 22 = .ok (.iload_n 2, 1) := by decide +kernel
theorem dX11_about_23 : decode cX11_about 23 = .ok (.invokevirtual 142, 3) := by decide +kernel
theorem dX11_about_26 : decode cX11_about 26 = .ok (.goto 11, 3) := by decide +kernel
theorem dX11_about_29 : decode cX11_about 29 = .ok (.aload_n 3, 1) := by decide +kernel
theorem dX11_about_30 : decode cX11_about 30 = .ok (.getfield 125, 3) := by decide +kernel
theorem dX11_about_33 : decode cX11_about 33 = .ok (.iload_n 2, 1) := by decide +kernel
theorem dX11_about_34 : decode cX11_about 34 = .ok (.invokevirtual 147, 3) := by decide +kernel
theorem dX11_about_37 : decode cX11_about 37 = .ok (.ireturn, 1) := by decide +kernel
theorem dX11_sort_0 : decode cX11_sort 0 = .ok (.aload_n 0, 1) := by decide +kernel
theorem dX11_sort_1 : decode cX11_sort 1 = .ok (.iload_n 1, 1) := by decide +kernel
theorem dX11_sort_2 : decode cX11_sort 2 = .ok (.invokevirtual 106, 3) := by decide +kernel
theorem dX11_sort_5 : decode cX11_sort 5 = .ok (.getfield 43, 3) := by decide +kernel
theorem dX11_sort_8 : decode cX11_sort 8 = .ok (.astore 4, 2) := by decide +kernel
theorem dX11_sort_10 : decode cX11_sort 10 = .ok (.iload_n 2, 1) := by decide +kernel
theorem dX11_sort_11 : decode cX11_sort 11 = .ok (.aload 4, 2) := by decide +kernel
theorem dX11_sort_13 : decode cX11_sort 13 = .ok (.getfield 148, 3) := by decide +kernel
theorem dX11_sort_16 : decode cX11_sort 16 = .ok (.iconst 1, 1) := by decide +kernel
theorem dX11_sort_17 : decode cX11_sort 17 = .ok (.isub, 1) := by decide +kernel
theorem dX11_sort_18 : decode cX11_sort 18 = .ok (.invokestatic 134, 3) := by decide +kernel
theorem dX11_sort_21 : decode cX11_sort 21 = .ok (.iload_n 3, 1) := by decide +kernel
theorem dX11_sort_22 : decode cX11_sort 22 = .ok (.iconst 2, 1) := by decide +kernel
theorem dX11_sort_23 : decode cX11_sort 23 = .ok (.invokestatic 134, 3) := by decide +kernel
theorem dX11_sort_26 : decode cX11_sort 26 = .ok (.iload_n 3, 1) := by decide +kernel
theorem dX11_sort_27 : decode cX11_sort 27 = .ok (.ifCond .ne 11, 3) := by decide +kernel
theorem dX11_sort_30 : decode cX11_sort 30 = .ok (.aload 4, 2) := by decide +kernel
theorem dX11_sort_32 : decode cX11_sort 32 = .ok (.getfield 151, 3) := by decide +kernel
theorem dX11_sort_35 : decode cX11_sort 35 = .ok (.goto 21, 3) := by decide +kernel
theorem dX11_sort_38 : decode cX11_sort 38 = .ok (.iload_n 3, 1) := by decide +kernel
theorem dX11_sort_39 : decode cX11_sort 39 = .ok (.iconst 1, 1) := by decide +kernel
theorem dX11_sort_40 : decode cX11_sort 40 = .ok (.if_icmp .ne 11, 3) := by decide +kernel
theorem dX11_sort_43 : decode cX11_sort 43 = .ok (.aload 4, 2) := by decide +kernel
theorem dX11_sort_45 : decode cX11_sort 45 = .ok (.getfield 154, 3) := by decide +kernel
theorem dX11_sort_48 : decode cX11_sort 48 = .ok (.goto 8, 3) := by decide +kernel
theorem dX11_sort_51 : decode cX11_sort 51 = .ok (.aload 4, 2) := by decide +kernel
theorem dX11_sort_53 : decode cX11_sort 53 = .ok (.getfield 157, 3) := by decide +kernel
theorem dX11_sort_56 : decode cX11_sort 56 = .ok (.iload_n 2, 1) := by decide +kernel
theorem dX11_sort_57 : decode cX11_sort 57 = .ok (.invokestatic 138, 3) := by decide +kernel
theorem dX11_sort_60 : decode cX11_sort 60 = .ok (.ireturn, 1) := by decide +kernel
theorem dX11_gives_0 : decode cX11_gives 0 = .ok (.aload_n 0, 1) := by decide +kernel
theorem dX11_gives_1 : decode cX11_gives 1 = .ok (.iload_n 1, 1) := by decide +kernel
theorem dX11_gives_2 : decode cX11_gives 2 = .ok (.invokevirtual 106, 3) := by decide +kernel
theorem dX11_gives_5 : decode cX11_gives 5 = .ok (.getfield 43, 3) := by decide +kernel
theorem dX11_gives_8 : decode cX11_gives 8 = .ok (.astore 4, 2) := by decide +kernel
theorem dX11_gives_10 : decode cX11_gives 10 = .ok (.iload_n 2, 1) := by decide +kernel
theorem dX11_gives_11 : decode cX11_gives 11 = .ok (.aload 4, 2) := by decide +kernel
theorem dX11_gives_13 : decode cX11_gives 13 = .ok (.getfield 148, 3) := by decide +kernel
theorem dX11_gives_16 : decode cX11_gives 16 = .ok (.iconst 1, 1) := by decide +kernel
theorem dX11_gives_17 : decode cX11_gives 17 = .ok (.isub, 1) := by decide +kernel
theorem dX11_gives_18 : decode cX11_gives 18 = .ok (.invokestatic 134, 3) := by decide +kernel
theorem dX11_gives_21 : decode cX11_gives 21 = .ok (.iload_n 3, 1) := by decide +kernel
theorem dX11_gives_22 : decode cX11_gives 22 = .ok (.aload 4, 2) := by decide +kernel
theorem dX11_gives_24 : decode cX11_gives 24 = .ok (.invokevirtual 160, 3) := by decide +kernel
theorem dX11_gives_27 : decode cX11_gives 27 = .ok (.iconst 1, 1) := by decide +kernel
theorem dX11_gives_28 : decode cX11_gives 28 = .ok (.isub, 1) := by decide +kernel
theorem dX11_gives_29 : decode cX11_gives 29 = .ok (.invokestatic 134, 3) := by decide +kernel
theorem dX11_gives_32 : decode cX11_gives 32 = .ok (.aload_n 0, 1) := by decide +kernel
theorem dX11_gives_33 : decode cX11_gives 33 = .ok (.getfield 50, 3) := by decide +kernel
theorem dX11_gives_36 : decode cX11_gives 36 = .ok (.aload 4, 2) := by decide +kernel
theorem dX11_gives_38 : decode cX11_gives 38 = .ok (.aload 4, 2) := by decide +kernel
theorem dX11_gives_40 : decode cX11_gives 40 = .ok (.getfield 164, 3) := by decide +kernel
theorem dX11_gives_43 : decode cX11_gives 43 = .ok (.invokevirtual 167, 3) := by decide +kernel
theorem dX11_gives_46 : decode cX11_gives 46 = .ok (.aload_n 0, 1) := by decide +kernel
theorem dX11_gives_47 : decode cX11_gives 47 = .ok (.getfield 50, 3) := by decide +kernel
theorem dX11_gives_50 : decode cX11_gives 50 = .ok (.iload_n 2, 1) := by decide +kernel
theorem dX11_gives_51 : decode cX11_gives 51 = .ok (.iload_n 3, 1) := by decide +kernel
theorem dX11_gives_52 : decode cX11_gives 52 = .ok (.iconst 0, 1) := by decide +kernel
theorem dX11_gives_53 : decode cX11_gives 53 = .ok (.invokevirtual 171, 3) := by decide +kernel
theorem dX11_gives_56 : decode cX11_gives 56 = .ok (.ireturn, 1) := by decide +kernel
theorem dX11_next_0 : decode cX11_next 0 = .ok (.aload_n 0, 1) := by decide +kernel
theorem dX11_next_1 : decode cX11_next 1 = .ok (.iload_n 1, 1) := by decide +kernel
theorem dX11_next_2 : decode cX11_next 2 = .ok (.invokevirtual 106, 3) := by decide +kernel
theorem dX11_next_5 : decode cX11_next 5 = .ok (.getfield 43, 3) := by decide +kernel
theorem dX11_next_8 : decode cX11_next 8 = .ok (.astore 4, 2) := by decide +kernel
theorem dX11_next_10 : decode cX11_next 10 = .ok (.iload_n 2, 1) := by decide +kernel
theorem dX11_next_11 : decode cX11_next 11 = .ok (.aload 4, 2) := by decide +kernel
theorem dX11_next_13 : decode cX11_next 13 = .ok (.invokevirtual 160, 3) := by decide +kernel
theorem dX11_next_16 : decode cX11_next 16 = .ok (.iconst 1, 1) := by decide +kernel
theorem dX11_next_17 : decode cX11_next 17 = .ok (.isub, 1) := by decide +kernel
theorem dX11_next_18 : decode cX11_next 18 = .ok (.invokestatic 134, 3) := by decide +kernel
theorem dX11_next_21 : decode cX11_next 21 = .ok (.iload_n 3, 1) := by decide +kernel
theorem dX11_next_22 : decode cX11_next 22 = .ok (.bipush 9, 2) := by decide +kernel
theorem dX11_next_24 : decode cX11_next 24 = .ok (.invokestatic 134, 3) := by decide +kernel
theorem dX11_next_27 : decode cX11_next 27 = .ok (.aload 4, 2) := by decide +kernel
theorem dX11_next_29 : decode cX11_next 29 = .ok (.iload_n 2, 1) := by decide +kernel
theorem dX11_next_30 : decode cX11_next 30 = .ok (.iload_n 3, 1) := by decide +kernel
theorem dX11_next_31 : decode cX11_next 31 = .ok (.invokevirtual 175, 3) := by decide +kernel
theorem dX11_next_34 : decode cX11_next 34 = .ok (.ireturn, 1) := by decide +kernel
theorem dX11_seed_0 : decode cX11_seed 0 = .ok (.aload_n 0, 1) := by decide +kernel
theorem dX11_seed_1 : decode cX11_seed 1 = .ok (.iload_n 1, 1) := by decide +kernel
theorem dX11_seed_2 : decode cX11_seed 2 = .ok (.invokevirtual 106, 3) := by decide +kernel
theorem dX11_seed_5 : decode cX11_seed 5 = .ok (.astore_n 3, 1) := by decide +kernel
theorem dX11_seed_6 : decode cX11_seed 6 = .ok (.iload_n 2, 1) := by decide +kernel
theorem dX11_seed_7 : decode cX11_seed 7 = .ok (.aload_n 3, 1) := by decide +kernel
theorem dX11_seed_8 : decode cX11_seed 8 = .ok (.getfield 43, 3) := by decide +kernel
theorem dX11_seed_11 : decode cX11_seed 11 = .ok (.invokevirtual 160, 3) := by decide +kernel
theorem dX11_seed_14 : decode cX11_seed 14 = .ok (.iconst 1, 1) := by decide +kernel
theorem dX11_seed_15 : decode cX11_seed 15 = .ok (.isub, 1) := by decide +kernel
theorem dX11_seed_16 : decode cX11_seed 16 = .ok (.invokestatic 134, 3) := by decide +kernel
theorem dX11_seed_19 : decode cX11_seed 19 = .ok (.aload_n 3, 1) := by decide +kernel
theorem dX11_seed_20 : decode cX11_seed 20 = .ok (.getfield 125, 3) := by decide +kernel
theorem dX11_seed_23 : decode cX11_seed 23 = .ok (.iload_n 2, 1) := by decide +kernel
theorem dX11_seed_24 : decode cX11_seed 24 = .ok (.invokevirtual 179, 3) := by decide +kernel
theorem dX11_seed_27 : decode cX11_seed 27 = .ok (.return_, 1) := by decide +kernel
theorem dX11_set_0 : decode cX11_set 0 = .ok (.aload_n 0, 1) := by decide +kernel
theorem dX11_set_1 : decode cX11_set 1 = .ok (.iload_n 1, 1) := by decide +kernel
theorem dX11_set_2 : decode cX11_set 2 = .ok (.invokevirtual 106, 3) := by decide +kernel
theorem dX11_set_5 : decode cX11_set 5 = .ok (.getfield 43, 3) := by decide +kernel
theorem dX11_set_8 : decode cX11_set 8 = .ok (.astore_n 3, 1) := by decide +kernel
theorem dX11_set_9 : decode cX11_set 9 = .ok (.iload_n 2, 1) := by decide +kernel
theorem dX11_set_10 : decode cX11_set 10 = .ok (.sipush 175, 3) := by decide +kernel
theorem dX11_set_13 : decode cX11_set 13 = .ok (.invokestatic 134, 3) := by decide +kernel
theorem dX11_set_16 : decode cX11_set 16 = .ok (.aload_n 3, 1) := by decide +kernel
theorem dX11_set_17 : decode cX11_set 17 = .ok (.getfield 164, 3) := by decide +kernel
theorem dX11_set_20 : decode cX11_set 20 = .ok (.iload_n 2, 1) := by decide +kernel
theorem dX11_set_21 : decode cX11_set 21 = .ok (.invokevirtual 182, 3) := by decide +kernel
theorem dX11_set_24 : decode cX11_set 24 = .ok (.iconst 1, 1) := by decide +kernel
theorem dX11_set_25 : decode cX11_set 25 = .ok (.ireturn, 1) := by decide +kernel
theorem dX11_coin_0 : decode cX11_coin 0 = .ok (.aload_n 0, 1) := by decide +kernel
theorem dX11_coin_1 : decode cX11_coin 1 = .ok (.iload_n 1, 1) := by decide +kernel
theorem dX11_coin_2 : decode cX11_coin 2 = .ok (.invokevirtual 106, 3) := by decide +kernel
theorem dX11_coin_5 : decode cX11_coin 5 = .ok (.astore 4, 2) := by decide +kernel
theorem dX11_coin_7 : decode cX11_coin 7 = .ok (.iload_n 3, 1) := by decide +kernel
theorem dX11_coin_8 : decode cX11_coin 8 = .ok (.iconst 1, 1) := by decide +kernel
theorem dX11_coin_9 : decode cX11_coin 9 = .ok (.invokestatic 134, 3) := by decide +kernel
theorem dX11_coin_12 : decode cX11_coin 12 = .ok (.iload_n 2, 1) := by decide +kernel
theorem dX11_coin_13 : decode cX11_coin 13 = .ok (.iconst 0, 1) := by decide +kernel
theorem dX11_coin_14 : decode cX11_coin 14 = .ok (.sipush 400, 3) := by decide +kernel
theorem dX11_coin_17 : decode cX11_coin 17 = .ok (.invokestatic 110, 3) := by decide +kernel
theorem dX11_coin_20 : decode cX11_coin 20 = .ok (.aload_n 0, 1) := by decide +kernel
theorem dX11_coin_21 : decode cX11_coin 21 = .ok (.aload 4, 2) := by decide +kernel
theorem dX11_coin_23 : decode cX11_coin 23 = .ok (.iload_n 2, 1) := by decide +kernel
theorem dX11_coin_24 : decode cX11_coin 24 = .ok (.invokevirtual 185, 3) := by decide +kernel
theorem dX11_coin_27 : decode cX11_coin 27 = .ok (.iload_n 3, 1) := by decide +kernel
theorem dX11_coin_28 : decode cX11_coin 28 = .ok (.ifCond .ne 13, 3) := by decide +kernel
theorem dX11_coin_31 : decode cX11_coin 31 = .ok (.aload_n 0, 1) := by decide +kernel
theorem dX11_coin_32 : decode cX11_coin 32 = .ok (.getfield 59, 3) := by decide +kernel
theorem dX11_coin_35 : decode cX11_coin 35 = .ok (.invokevirtual 189, 3) := by decide +kernel
theorem dX11_coin_38 : decode cX11_coin 38 = .ok (.goto 10, 3) := by decide +kernel
theorem dX11_coin_41 : decode cX11_coin 41 = .ok (.aload_n 0, 1) := by decide +kernel
theorem dX11_coin_42 : decode cX11_coin 42 = .ok (.getfield 59, 3) := by decide +kernel
theorem dX11_coin_45 : decode cX11_coin 45 = .ok (.invokevirtual 192, 3) := by decide +kernel
theorem dX11_coin_48 : decode cX11_coin 48 = .ok (.ireturn, 1) := by decide +kernel
theorem dX11_cases_0 : decode cX11_cases 0 = .ok (.aload_n 0, 1) := by decide +kernel
theorem dX11_cases_1 : decode cX11_cases 1 = .ok (.iload_n 1, 1) := by decide +kernel
theorem dX11_cases_2 : decode cX11_cases 2 = .ok (.invokevirtual 106, 3) := by decide +kernel
theorem dX11_cases_5 : decode cX11_cases 5 = .ok (.astore 4, 2) := by decide +kernel
theorem dX11_cases_7 : decode cX11_cases 7 = .ok (.iload_n 3, 1) := by decide +kernel
theorem dX11_cases_8 : decode cX11_cases 8 = .ok (.aload 4, 2) := by decide +kernel
theorem dX11_cases_10 : decode cX11_cases 10 = .ok (.getfield 43, 3) := by decide +kernel
theorem dX11_cases_13 : decode cX11_cases 13 = .ok (.invokevirtual 160, 3) := by decide +kernel
theorem dX11_cases_16 : decode cX11_cases 16 = .ok (.iconst 1, 1) := by decide +kernel
theorem dX11_cases_17 : decode cX11_cases 17 = .ok (.isub, 1) := by decide +kernel
theorem dX11_cases_18 : decode cX11_cases 18 = .ok (.invokestatic 134, 3) := by decide +kernel
theorem dX11_cases_21 : decode cX11_cases 21 = .ok (.iload_n 2, 1) := by decide +kernel
theorem dX11_cases_22 : decode cX11_cases 22 = .ok (.iconst 0, 1) := by decide +kernel
theorem dX11_cases_23 : decode cX11_cases 23 = .ok (.sipush 400, 3) := by decide +kernel
theorem dX11_cases_26 : decode cX11_cases 26 = .ok (.invokestatic 110, 3) := by decide +kernel
theorem dX11_cases_29 : decode cX11_cases 29 = .ok (.aload_n 0, 1) := by decide +kernel
theorem dX11_cases_30 : decode cX11_cases 30 = .ok (.aload 4, 2) := by decide +kernel
theorem dX11_cases_32 : decode cX11_cases 32 = .ok (.iload_n 2, 1) := by decide +kernel
theorem dX11_cases_33 : decode cX11_cases 33 = .ok (.invokevirtual 185, 3) := by decide +kernel
theorem dX11_cases_36 : decode cX11_cases 36 = .ok (.aload_n 0, 1) := by decide +kernel
theorem dX11_cases_37 : decode cX11_cases 37 = .ok (.getfield 59, 3) := by decide +kernel
theorem dX11_cases_40 : decode cX11_cases 40 = .ok (.getfield 195, 3) := by decide +kernel
theorem dX11_cases_43 : decode cX11_cases 43 = .ok (.iload_n 3, 1) := by decide +kernel
theorem dX11_cases_44 : decode cX11_cases 44 = .ok (.invokevirtual 199, 3) := by decide +kernel
theorem dX11_cases_47 : decode cX11_cases 47 = .ok (.ireturn, 1) := by decide +kernel
theorem dX11_drift_0 : decode cX11_drift 0 = .ok (.aload_n 0, 1) := by decide +kernel
theorem dX11_drift_1 : decode cX11_drift 1 = .ok (.iload_n 1, 1) := by decide +kernel
theorem dX11_drift_2 : decode cX11_drift 2 = .ok (.invokevirtual 106, 3) := by decide +kernel
theorem dX11_drift_5 : decode cX11_drift 5 = .ok (.astore_n 3, 1) := by decide +kernel
theorem dX11_drift_6 : decode cX11_drift 6 = .ok (.iload_n 2, 1) := by decide +kernel
theorem dX11_drift_7 : decode cX11_drift 7 = .ok (.iconst 1, 1) := by decide +kernel
theorem dX11_drift_8 : decode cX11_drift 8 = .ok (.sipush 400, 3) := by decide +kernel
theorem dX11_drift_11 : decode cX11_drift 11 = .ok (.invokestatic 110, 3) := by decide +kernel
theorem dX11_drift_14 : decode cX11_drift 14 = .ok (.aload_n 0, 1) := by decide +kernel
theorem dX11_drift_15 : decode cX11_drift 15 = .ok (.aload_n 3, 1) := by decide +kernel
theorem dX11_drift_16 : decode cX11_drift 16 = .ok (.iload_n 2, 1) := by decide +kernel
theorem dX11_drift_17 : decode cX11_drift 17 = .ok (.iconst 1, 1) := by decide +kernel
theorem dX11_drift_18 : decode cX11_drift 18 = .ok (.isub, 1) := by decide +kernel
theorem dX11_drift_19 : decode cX11_drift 19 = .ok (.invokevirtual 185, 3) := by decide +kernel
theorem dX11_drift_22 : decode cX11_drift 22 = .ok (.aload_n 0, 1) := by decide +kernel
theorem dX11_drift_23 : decode cX11_drift 23 = .ok (.getfield 59, 3) := by decide +kernel
theorem dX11_drift_26 : decode cX11_drift 26 = .ok (.invokevirtual 204, 3) := by decide +kernel
theorem dX11_drift_29 : decode cX11_drift 29 = .ok (.ireturn, 1) := by decide +kernel
theorem dX11_turn_0 : decode cX11_turn 0 = .ok (.aload_n 0, 1) := by decide +kernel
theorem dX11_turn_1 : decode cX11_turn 1 = .ok (.aload_n 0, 1) := by decide +kernel
theorem dX11_turn_2 : decode cX11_turn 2 = .ok (.iload_n 1, 1) := by decide +kernel
theorem dX11_turn_3 : decode cX11_turn 3 = .ok (.invokevirtual 106, 3) := by decide +kernel
theorem dX11_turn_6 : decode cX11_turn 6 = .ok (.iconst 0, 1) := by decide +kernel
theorem dX11_turn_7 : decode cX11_turn 7 = .ok (.invokevirtual 185, 3) := by decide +kernel
theorem dX11_turn_10 : decode cX11_turn 10 = .ok (.iconst 1, 1) := by decide +kernel
theorem dX11_turn_11 : decode cX11_turn 11 = .ok (.istore_n 3, 1) := by decide +kernel
theorem dX11_turn_12 : decode cX11_turn 12 = .ok (.iload_n 3, 1) := by decide +kernel
theorem dX11_turn_13 : decode cX11_turn 13 = .ok (.sipush 400, 3) := by decide +kernel
theorem dX11_turn_16 : decode cX11_turn 16 = .ok (.if_icmp .gt 22, 3) := by decide +kernel
theorem dX11_turn_19 : decode cX11_turn 19 = .ok (.aload_n 0, 1) := by decide +kernel
theorem dX11_turn_20 : decode cX11_turn 20 = .ok (.getfield 59, 3) := by decide +kernel
theorem dX11_turn_23 : decode cX11_turn 23 = .ok (.invokevirtual 204, 3) := by decide +kernel
theorem dX11_turn_26 : decode cX11_turn 26 = .ok (.iload_n 2, 1) := by decide +kernel
theorem dX11_turn_27 : decode cX11_turn 27 = .ok (.if_icmp .ge 5, 3) := by decide +kernel
theorem dX11_turn_30 : decode cX11_turn 30 = .ok (.iload_n 3, 1) := by decide +kernel
theorem dX11_turn_31 : decode cX11_turn 31 = .ok (.ireturn, 1) := by decide +kernel
theorem dX11_turn_32 : decode cX11_turn 32 = .ok (.iinc 3 1, 3) := by decide +kernel
theorem dX11_turn_35 : decode cX11_turn 35 = .ok (.goto (-23), 3) := by decide +kernel
theorem dX11_turn_38 : decode cX11_turn 38 = .ok (.iconst (-1), 1) := by decide +kernel
theorem dX11_turn_39 : decode cX11_turn 39 = .ok (.ireturn, 1) := by decide +kernel
theorem dX11_rest_0 : decode cX11_rest 0 = .ok (.aload_n 0, 1) := by decide +kernel
theorem dX11_rest_1 : decode cX11_rest 1 = .ok (.iload_n 1, 1) := by decide +kernel
theorem dX11_rest_2 : decode cX11_rest 2 = .ok (.invokevirtual 106, 3) := by decide +kernel
theorem dX11_rest_5 : decode cX11_rest 5 = .ok (.astore 4, 2) := by decide +kernel
theorem dX11_rest_7 : decode cX11_rest 7 = .ok (.iload_n 3, 1) := by decide +kernel
theorem dX11_rest_8 : decode cX11_rest 8 = .ok (.iconst 2, 1) := by decide +kernel
theorem dX11_rest_9 : decode cX11_rest 9 = .ok (.invokestatic 134, 3) := by decide +kernel
theorem dX11_rest_12 : decode cX11_rest 12 = .ok (.aload_n 0, 1) := by decide +kernel
theorem dX11_rest_13 : decode cX11_rest 13 = .ok (.getfield 50, 3) := by decide +kernel
theorem dX11_rest_16 : decode cX11_rest 16 = .ok (.aload 4, 2) := by decide +kernel
theorem dX11_rest_18 : decode cX11_rest 18 = .ok (.getfield 43, 3) := by decide +kernel
theorem dX11_rest_21 : decode cX11_rest 21 = .ok (.aload 4, 2) := by decide +kernel
theorem dX11_rest_23 : decode cX11_rest 23 = .ok (.getfield 43, 3) := by decide +kernel
theorem dX11_rest_26 : decode cX11_rest 26 = .ok (.getfield 164, 3) := by decide +kernel
theorem dX11_rest_29 : decode cX11_rest 29 = .ok (.invokevirtual 167, 3) := by decide +kernel
theorem dX11_rest_32 : decode cX11_rest 32 = .ok (.aload_n 0, 1) := by decide +kernel
theorem dX11_rest_33 : decode cX11_rest 33 = .ok (.getfield 75, 3) := by decide +kernel
theorem dX11_rest_36 : decode cX11_rest 36 = .ok (.aload 4, 2) := by decide +kernel
theorem dX11_rest_38 : decode cX11_rest 38 = .ok (.getfield 125, 3) := by decide +kernel
theorem dX11_rest_41 : decode cX11_rest 41 = .ok (.getfield 207, 3) := by decide +kernel
theorem dX11_rest_44 : decode cX11_rest 44 = .ok (.invokevirtual 210, 3) := by decide +kernel
theorem dX11_rest_47 : decode cX11_rest 47 = .ok (.iload_n 2, 1) := by decide +kernel
theorem dX11_rest_48 : decode cX11_rest 48 = .ok (.iconst (-1), 1) := by decide +kernel
theorem dX11_rest_49 : decode cX11_rest 49 = .ok (.if_icmp .ne 11, 3) := by decide +kernel
theorem dX11_rest_52 : decode cX11_rest 52 = .ok (.aload_n 0, 1) := by decide +kernel
theorem dX11_rest_53 : decode cX11_rest 53 = .ok (.getfield 75, 3) := by decide +kernel
theorem dX11_rest_56 : decode cX11_rest 56 = .ok (.invokevirtual 213, 3) := by decide +kernel
theorem dX11_rest_59 : decode cX11_rest 59 = .ok (.ireturn, 1) := by decide +kernel
theorem dX11_rest_60 : decode cX11_rest 60 = .ok (.aload_n 0, 1) := by decide +kernel
theorem dX11_rest_61 : decode cX11_rest 61 = .ok (.getfield 75, 3) := by decide +kernel
theorem dX11_rest_64 : decode cX11_rest 64 = .ok (.iload_n 2, 1) := by decide +kernel
theorem dX11_rest_65 : decode cX11_rest 65 = .ok (.invokevirtual 216, 3) := by decide +kernel
theorem dX11_rest_68 : decode cX11_rest 68 = .ok (.istore 5, 2) := by decide +kernel
theorem dX11_rest_70 : decode cX11_rest 70 = .ok (.iload 5, 2) := by decide +kernel
theorem dX11_rest_72 : decode cX11_rest 72 = .ok (.iconst (-1), 1) := by decide +kernel
theorem dX11_rest_73 : decode cX11_rest 73 = .ok (.if_icmp .ne 13, 3) := by decide +kernel
theorem dX11_rest_76 : decode cX11_rest 76 = .ok (.new 219, 3) := by decide +kernel
theorem dX11_rest_79 : decode cX11_rest 79 = .ok (.dup, 1) := by decide +kernel
theorem dX11_rest_80 : decode cX11_rest 80 = .ok (.ldc 221, 2) := by decide +kernel
theorem dX11_rest_82 : decode cX11_rest 82 = .ok (.invokespecial 223, 3) := by decide +kernel
theorem dX11_rest_85 : decode cX11_rest 85 = .ok (.athrow, 1) := by decide +kernel
theorem dX11_rest_86 : decode cX11_rest 86 = .ok (.iload_n 3, 1) := by decide +kernel
theorem dX11_rest_87 : decode cX11_rest 87 = .ok (.ifCond .ne 8, 3) := by decide +kernel
theorem dX11_rest_90 : decode cX11_rest 90 = .ok (.iload 5, 2) := by decide +kernel
theorem dX11_rest_92 : decode cX11_rest 92 = .ok (.goto 26, 3) := by decide +kernel
theorem dX11_rest_95 : decode cX11_rest 95 = .ok (.iload_n 3, 1) := by decide +kernel
theorem dX11_rest_96 : decode cX11_rest 96 = .ok (.iconst 1, 1) := by decide +kernel
theorem dX11_rest_97 : decode cX11_rest 97 = .ok (.if_icmp .ne 15, 3) := by decide +kernel
theorem dX11_rest_100 : decode cX11_rest 100 = .ok (.aload_n 0, 1) := by decide +kernel
theorem dX11_rest_101 : decode cX11_rest 101 = .ok (.getfield 75, 3) := by decide +kernel
theorem dX11_rest_104 : decode cX11_rest 104 = .ok (.iload 5, 2) := by decide +kernel
theorem dX11_rest_106 : decode cX11_rest 106 = .ok (.invokevirtual 226, 3) := by decide +kernel
theorem dX11_rest_109 : decode cX11_rest 109 = .ok (.goto 9, 3) := by decide +kernel
theorem dX11_rest_112 : decode cX11_rest 112 = .ok (.aload_n 0, 1) := by decide +kernel
theorem dX11_rest_113 : decode cX11_rest 113 = .ok (.iload 5, 2) := by decide +kernel
theorem dX11_rest_115 : decode cX11_rest 115 = .ok (.invokevirtual 229, 3) := by decide +kernel
theorem dX11_rest_118 : decode cX11_rest 118 = .ok (.ireturn, 1) := by decide +kernel
theorem dX11_best_0 : decode cX11_best 0 = .ok (.aload_n 0, 1) := by decide +kernel
theorem dX11_best_1 : decode cX11_best 1 = .ok (.iload_n 1, 1) := by decide +kernel
theorem dX11_best_2 : decode cX11_best 2 = .ok (.invokevirtual 106, 3) := by decide +kernel
theorem dX11_best_5 : decode cX11_best 5 = .ok (.astore 5, 2) := by decide +kernel
theorem dX11_best_7 : decode cX11_best 7 = .ok (.iload 4, 2) := by decide +kernel
theorem dX11_best_9 : decode cX11_best 9 = .ok (.iconst 1, 1) := by decide +kernel
theorem dX11_best_10 : decode cX11_best 10 = .ok (.invokestatic 134, 3) := by decide +kernel
theorem dX11_best_13 : decode cX11_best 13 = .ok (.iload_n 2, 1) := by decide +kernel
theorem dX11_best_14 : decode cX11_best 14 = .ok (.iconst 0, 1) := by decide +kernel
theorem dX11_best_15 : decode cX11_best 15 = .ok (.bipush 60, 2) := by decide +kernel
theorem dX11_best_17 : decode cX11_best 17 = .ok (.invokestatic 110, 3) := by decide +kernel
theorem dX11_best_20 : decode cX11_best 20 = .ok (.aload_n 0, 1) := by decide +kernel
theorem dX11_best_21 : decode cX11_best 21 = .ok (.aload 5, 2) := by decide +kernel
theorem dX11_best_23 : decode cX11_best 23 = .ok (.iload_n 2, 1) := by decide +kernel
theorem dX11_best_24 : decode cX11_best 24 = .ok (.iload_n 3, 1) := by decide +kernel
theorem dX11_best_25 : decode cX11_best 25 = .ok (.invokevirtual 232, 3) := by decide +kernel
theorem dX11_best_28 : decode cX11_best 28 = .ok (.iload 4, 2) := by decide +kernel
theorem dX11_best_30 : decode cX11_best 30 = .ok (.ifCond .ne 10, 3) := by decide +kernel
theorem dX11_best_33 : decode cX11_best 33 = .ok (.aload_n 0, 1) := by decide +kernel
theorem dX11_best_34 : decode cX11_best 34 = .ok (.getfield 93, 3) := by decide +kernel
theorem dX11_best_37 : decode cX11_best 37 = .ok (.goto 7, 3) := by decide +kernel
theorem dX11_best_40 : decode cX11_best 40 = .ok (.aload_n 0, 1) := by decide +kernel
theorem dX11_best_41 : decode cX11_best 41 = .ok (.getfield 96, 3) := by decide +kernel
theorem dX11_best_44 : decode cX11_best 44 = .ok (.ireturn, 1) := by decide +kernel
theorem dX11_would_0 : decode cX11_would 0 = .ok (.aload_n 0, 1) := by decide +kernel
theorem dX11_would_1 : decode cX11_would 1 = .ok (.iload_n 1, 1) := by decide +kernel
theorem dX11_would_2 : decode cX11_would 2 = .ok (.invokevirtual 106, 3) := by decide +kernel
theorem dX11_would_5 : decode cX11_would 5 = .ok (.astore 4, 2) := by decide +kernel
theorem dX11_would_7 : decode cX11_would 7 = .ok (.iload_n 2, 1) := by decide +kernel
theorem dX11_would_8 : decode cX11_would 8 = .ok (.sipush 175, 3) := by decide +kernel
theorem dX11_would_11 : decode cX11_would 11 = .ok (.invokestatic 134, 3) := by decide +kernel
theorem dX11_would_14 : decode cX11_would 14 = .ok (.iload_n 3, 1) := by decide +kernel
theorem dX11_would_15 : decode cX11_would 15 = .ok (.iconst 0, 1) := by decide +kernel
theorem dX11_would_16 : decode cX11_would 16 = .ok (.bipush 60, 2) := by decide +kernel
theorem dX11_would_18 : decode cX11_would 18 = .ok (.invokestatic 110, 3) := by decide +kernel
theorem dX11_would_21 : decode cX11_would 21 = .ok (.aload_n 0, 1) := by decide +kernel
theorem dX11_would_22 : decode cX11_would 22 = .ok (.getfield 89, 3) := by decide +kernel
theorem dX11_would_25 : decode cX11_would 25 = .ok (.iload_n 2, 1) := by decide +kernel
theorem dX11_would_26 : decode cX11_would 26 = .ok (.invokevirtual 182, 3) := by decide +kernel
theorem dX11_would_29 : decode cX11_would 29 = .ok (.aload_n 0, 1) := by decide +kernel
theorem dX11_would_30 : decode cX11_would 30 = .ok (.getfield 50, 3) := by decide +kernel
theorem dX11_would_33 : decode cX11_would 33 = .ok (.aload 4, 2) := by decide +kernel
theorem dX11_would_35 : decode cX11_would 35 = .ok (.getfield 43, 3) := by decide +kernel
theorem dX11_would_38 : decode cX11_would 38 = .ok (.aload_n 0, 1) := by decide +kernel
theorem dX11_would_39 : decode cX11_would 39 = .ok (.getfield 89, 3) := by decide +kernel
theorem dX11_would_42 : decode cX11_would 42 = .ok (.invokevirtual 167, 3) := by decide +kernel
theorem dX11_would_45 : decode cX11_would 45 = .ok (.aload_n 0, 1) := by decide +kernel
theorem dX11_would_46 : decode cX11_would 46 = .ok (.getfield 59, 3) := by decide +kernel
theorem dX11_would_49 : decode cX11_would 49 = .ok (.aload 4, 2) := by decide +kernel
theorem dX11_would_51 : decode cX11_would 51 = .ok (.getfield 125, 3) := by decide +kernel
theorem dX11_would_54 : decode cX11_would 54 = .ok (.getfield 207, 3) := by decide +kernel
theorem dX11_would_57 : decode cX11_would 57 = .ok (.invokevirtual 236, 3) := by decide +kernel
theorem dX11_would_60 : decode cX11_would 60 = .ok (.aload_n 0, 1) := by decide +kernel
theorem dX11_would_61 : decode cX11_would 61 = .ok (.getfield 59, 3) := by decide +kernel
theorem dX11_would_64 : decode cX11_would 64 = .ok (.iload_n 3, 1) := by decide +kernel
theorem dX11_would_65 : decode cX11_would 65 = .ok (.invokevirtual 238, 3) := by decide +kernel
theorem dX11_would_68 : decode cX11_would 68 = .ok (.aload_n 0, 1) := by decide +kernel
theorem dX11_would_69 : decode cX11_would 69 = .ok (.getfield 59, 3) := by decide +kernel
theorem dX11_would_72 : decode cX11_would 72 = .ok (.invokevirtual 189, 3) := by decide +kernel
theorem dX11_would_75 : decode cX11_would 75 = .ok (.ireturn, 1) := by decide +kernel
theorem dX11_card_0 : decode cX11_card 0 = .ok (.aload_n 0, 1) := by decide +kernel
theorem dX11_card_1 : decode cX11_card 1 = .ok (.iload_n 1, 1) := by decide +kernel
theorem dX11_card_2 : decode cX11_card 2 = .ok (.invokevirtual 106, 3) := by decide +kernel
theorem dX11_card_5 : decode cX11_card 5 = .ok (.astore_n 3, 1) := by decide +kernel
theorem dX11_card_6 : decode cX11_card 6 = .ok (.iload_n 2, 1) := by decide +kernel
theorem dX11_card_7 : decode cX11_card 7 = .ok (.iconst 0, 1) := by decide +kernel
theorem dX11_card_8 : decode cX11_card 8 = .ok (.bipush 60, 2) := by decide +kernel
theorem dX11_card_10 : decode cX11_card 10 = .ok (.invokestatic 110, 3) := by decide +kernel
theorem dX11_card_13 : decode cX11_card 13 = .ok (.iconst 0, 1) := by decide +kernel
theorem dX11_card_14 : decode cX11_card 14 = .ok (.istore 4, 2) := by decide +kernel
theorem dX11_card_16 : decode cX11_card 16 = .ok (.iconst (-1), 1) := by decide +kernel
theorem dX11_card_17 : decode cX11_card 17 = .ok (.istore 5, 2) := by decide +kernel
theorem dX11_card_19 : decode cX11_card 19 = .ok (.aload_n 0, 1) := by decide +kernel
theorem dX11_card_20 : decode cX11_card 20 = .ok (.getfield 89, 3) := by decide +kernel
theorem dX11_card_23 : decode cX11_card 23 = .ok (.aload_n 3, 1) := by decide +kernel
theorem dX11_card_24 : decode cX11_card 24 = .ok (.getfield 43, 3) := by decide +kernel
theorem dX11_card_27 : decode cX11_card 27 = .ok (.getfield 164, 3) := by decide +kernel
theorem dX11_card_30 : decode cX11_card 30 = .ok (.invokevirtual 241, 3) := by decide +kernel
theorem dX11_card_33 : decode cX11_card 33 = .ok (.iconst 0, 1) := by decide +kernel
theorem dX11_card_34 : decode cX11_card 34 = .ok (.istore 6, 2) := by decide +kernel
theorem dX11_card_36 : decode cX11_card 36 = .ok (.iload 6, 2) := by decide +kernel
theorem dX11_card_38 : decode cX11_card 38 = .ok (.bipush 11, 2) := by decide +kernel
theorem dX11_card_40 : decode cX11_card 40 = .ok (.if_icmp .ge 99, 3) := by decide +kernel
theorem dX11_card_43 : decode cX11_card 43 = .ok (.aload_n 0, 1) := by decide +kernel
theorem dX11_card_44 : decode cX11_card 44 = .ok (.getfield 89, 3) := by decide +kernel
theorem dX11_card_47 : decode cX11_card 47 = .ok (.iload 6, 2) := by decide +kernel
theorem dX11_card_49 : decode cX11_card 49 = .ok (.iconst 1, 1) := by decide +kernel
theorem dX11_card_50 : decode cX11_card 50 = .ok (.isub, 1) := by decide +kernel
theorem dX11_card_51 : decode cX11_card 51 = .ok (.putfield 245, 3) := by decide +kernel
theorem dX11_card_54 : decode cX11_card 54 = .ok (.aload_n 3, 1) := by decide +kernel
theorem dX11_card_55 : decode cX11_card 55 = .ok (.getfield 43, 3) := by decide +kernel
theorem dX11_card_58 : decode cX11_card 58 = .ok (.aload_n 0, 1) := by decide +kernel
theorem dX11_card_59 : decode cX11_card 59 = .ok (.getfield 89, 3) := by decide +kernel
theorem dX11_card_62 : decode cX11_card 62 = .ok (.invokevirtual 248, 3) := by decide +kernel
theorem dX11_card_65 : decode cX11_card 65 = .ok (.ifCond .eq 6, 3) := by decide +kernel
theorem dX11_card_68 : decode cX11_card 68 = .ok (.goto 65, 3) := by decide +kernel
theorem dX11_card_71 : decode cX11_card 71 = .ok (.aload_n 0, 1) := by decide +kernel
theorem dX11_card_72 : decode cX11_card 72 = .ok (.getfield 50, 3) := by decide +kernel
theorem dX11_card_75 : decode cX11_card 75 = .ok (.aload_n 3, 1) := by decide +kernel
theorem dX11_card_76 : decode cX11_card 76 = .ok (.getfield 43, 3) := by decide +kernel
theorem dX11_card_79 : decode cX11_card 79 = .ok (.aload_n 0, 1) := by decide +kernel
theorem dX11_card_80 : decode cX11_card 80 = .ok (.getfield 89, 3) := by decide +kernel
theorem dX11_card_83 : decode cX11_card 83 = .ok (.invokevirtual 167, 3) := by decide +kernel
theorem dX11_card_86 : decode cX11_card 86 = .ok (.aload_n 0, 1) := by decide +kernel
theorem dX11_card_87 : decode cX11_card 87 = .ok (.getfield 59, 3) := by decide +kernel
theorem dX11_card_90 : decode cX11_card 90 = .ok (.aload_n 3, 1) := by decide +kernel
theorem dX11_card_91 : decode cX11_card 91 = .ok (.getfield 125, 3) := by decide +kernel
theorem dX11_card_94 : decode cX11_card 94 = .ok (.getfield 207, 3) := by decide +kernel
theorem dX11_card_97 : decode cX11_card 97 = .ok (.invokevirtual 236, 3) := by decide +kernel
theorem dX11_card_100 : decode cX11_card 100 = .ok (.aload_n 0, 1) := by decide +kernel
theorem dX11_card_101 : decode cX11_card 101 = .ok (.getfield 59, 3) := by decide +kernel
theorem dX11_card_104 : decode cX11_card 104 = .ok (.iload_n 2, 1) := by decide +kernel
theorem dX11_card_105 : decode cX11_card 105 = .ok (.invokevirtual 238, 3) := by decide +kernel
theorem dX11_card_108 : decode cX11_card 108 = .ok (.aload_n 0, 1) := by decide +kernel
theorem dX11_card_109 : decode cX11_card 109 = .ok (.getfield 59, 3) := by decide +kernel
theorem dX11_card_112 : decode cX11_card 112 = .ok (.invokevirtual 189, 3) := by decide +kernel
theorem dX11_card_115 : decode cX11_card 115 = .ok (.iload 5, 2) := by decide +kernel
theorem dX11_card_117 : decode cX11_card 117 = .ok (.if_icmp .le 16, 3) := by decide +kernel
theorem dX11_card_120 : decode cX11_card 120 = .ok (.aload_n 0, 1) := by decide +kernel
theorem dX11_card_121 : decode cX11_card 121 = .ok (.getfield 59, 3) := by decide +kernel
theorem dX11_card_124 : decode cX11_card 124 = .ok (.invokevirtual 189, 3) := by decide +kernel
theorem dX11_card_127 : decode cX11_card 127 = .ok (.istore 5, 2) := by decide +kernel
theorem dX11_card_129 : decode cX11_card 129 = .ok (.iload 6, 2) := by decide +kernel
theorem dX11_card_131 : decode cX11_card 131 = .ok (.istore 4, 2) := by decide +kernel
theorem dX11_card_133 : decode cX11_card 133 = .ok (.iinc 6 1, 3) := by decide +kernel
theorem dX11_card_136 : decode cX11_card 136 = .ok (.goto (-100), 3) := by decide +kernel
theorem dX11_card_139 : decode cX11_card 139 = .ok (.iload 4, 2) := by decide +kernel
theorem dX11_card_141 : decode cX11_card 141 = .ok (.ireturn, 1) := by decide +kernel
theorem dX11_seeded_0 : decode cX11_seeded 0 = .ok (.aload_n 0, 1) := by decide +kernel
theorem dX11_seeded_1 : decode cX11_seeded 1 = .ok (.iload_n 1, 1) := by decide +kernel
theorem dX11_seeded_2 : decode cX11_seeded 2 = .ok (.invokevirtual 106, 3) := by decide +kernel
theorem dX11_seeded_5 : decode cX11_seeded 5 = .ok (.astore_n 3, 1) := by decide +kernel
theorem dX11_seeded_6 : decode cX11_seeded 6 = .ok (.iload_n 2, 1) := by decide +kernel
theorem dX11_seeded_7 : decode cX11_seeded 7 = .ok (.iconst 0, 1) := by decide +kernel
theorem dX11_seeded_8 : decode cX11_seeded 8 = .ok (.bipush 60, 2) := by decide +kernel
theorem dX11_seeded_10 : decode cX11_seeded 10 = .ok (.invokestatic 110, 3) := by decide +kernel
theorem dX11_seeded_13 : decode cX11_seeded 13 = .ok (.iconst 0, 1) := by decide +kernel
theorem dX11_seeded_14 : decode cX11_seeded 14 = .ok (.istore 4, 2) := by decide +kernel
theorem dX11_seeded_16 : decode cX11_seeded 16 = .ok (.iconst (-1), 1) := by decide +kernel
theorem dX11_seeded_17 : decode cX11_seeded 17 = .ok (.istore 5, 2) := by decide +kernel
theorem dX11_seeded_19 : decode cX11_seeded 19 = .ok (.aload_n 0, 1) := by decide +kernel
theorem dX11_seeded_20 : decode cX11_seeded 20 = .ok (.getfield 50, 3) := by decide +kernel
theorem dX11_seeded_23 : decode cX11_seeded 23 = .ok (.aload_n 3, 1) := by decide +kernel
theorem dX11_seeded_24 : decode cX11_seeded 24 = .ok (.getfield 43, 3) := by decide +kernel
theorem dX11_seeded_27 : decode cX11_seeded 27 = .ok (.aload_n 3, 1) := by decide +kernel
theorem dX11_seeded_28 : decode cX11_seeded 28 = .ok (.getfield 43, 3) := by decide +kernel
theorem dX11_seeded_31 : decode cX11_seeded 31 = .ok (.getfield 164, 3) := by decide +kernel
theorem dX11_seeded_34 : decode cX11_seeded 34 = .ok (.invokevirtual 167, 3) := by decide +kernel
theorem dX11_seeded_37 : decode cX11_seeded 37 = .ok (.iconst 0, 1) := by decide +kernel
theorem dX11_seeded_38 : decode cX11_seeded 38 = .ok (.istore 6, 2) := by decide +kernel
theorem dX11_seeded_40 : decode cX11_seeded 40 = .ok (.iload 6, 2) := by decide +kernel
theorem dX11_seeded_42 : decode cX11_seeded 42 = .ok (.aload_n 3, 1) := by decide +kernel
theorem dX11_seeded_43 : decode cX11_seeded 43 = .ok (.getfield 43, 3) := by decide +kernel
theorem dX11_seeded_46 : decode cX11_seeded 46 = .ok (.invokevirtual 160, 3) := by decide +kernel
theorem dX11_seeded_49 : decode cX11_seeded 49 = .ok (.if_icmp .ge 51, 3) := by decide +kernel
theorem dX11_seeded_52 : decode cX11_seeded 52 = .ok (.aload_n 0, 1) := by decide +kernel
theorem dX11_seeded_53 : decode cX11_seeded 53 = .ok (.getfield 59, 3) := by decide +kernel
theorem dX11_seeded_56 : decode cX11_seeded 56 = .ok (.iload 6, 2) := by decide +kernel
theorem dX11_seeded_58 : decode cX11_seeded 58 = .ok (.invokevirtual 236, 3) := by decide +kernel
theorem dX11_seeded_61 : decode cX11_seeded 61 = .ok (.aload_n 0, 1) := by decide +kernel
theorem dX11_seeded_62 : decode cX11_seeded 62 = .ok (.getfield 59, 3) := by decide +kernel
theorem dX11_seeded_65 : decode cX11_seeded 65 = .ok (.iload_n 2, 1) := by decide +kernel
theorem dX11_seeded_66 : decode cX11_seeded 66 = .ok (.invokevirtual 238, 3) := by decide +kernel
theorem dX11_seeded_69 : decode cX11_seeded 69 = .ok (.aload_n 0, 1) := by decide +kernel
theorem dX11_seeded_70 : decode cX11_seeded 70 = .ok (.getfield 59, 3) := by decide +kernel
theorem dX11_seeded_73 : decode cX11_seeded 73 = .ok (.invokevirtual 189, 3) := by decide +kernel
theorem dX11_seeded_76 : decode cX11_seeded 76 = .ok (.iload 5, 2) := by decide +kernel
theorem dX11_seeded_78 : decode cX11_seeded 78 = .ok (.if_icmp .le 16, 3) := by decide +kernel
theorem dX11_seeded_81 : decode cX11_seeded 81 = .ok (.aload_n 0, 1) := by decide +kernel
theorem dX11_seeded_82 : decode cX11_seeded 82 = .ok (.getfield 59, 3) := by decide +kernel
theorem dX11_seeded_85 : decode cX11_seeded 85 = .ok (.invokevirtual 189, 3) := by decide +kernel
theorem dX11_seeded_88 : decode cX11_seeded 88 = .ok (.istore 5, 2) := by decide +kernel
theorem dX11_seeded_90 : decode cX11_seeded 90 = .ok (.iload 6, 2) := by decide +kernel
theorem dX11_seeded_92 : decode cX11_seeded 92 = .ok (.istore 4, 2) := by decide +kernel
theorem dX11_seeded_94 : decode cX11_seeded 94 = .ok (.iinc 6 1, 3) := by decide +kernel
theorem dX11_seeded_97 : decode cX11_seeded 97 = .ok (.goto (-57), 3) := by decide +kernel
theorem dX11_seeded_100 : decode cX11_seeded 100 = .ok (.iload 4, 2) := by decide +kernel
theorem dX11_seeded_102 : decode cX11_seeded 102 = .ok (.ireturn, 1) := by decide +kernel
theorem dX11_price_0 : decode cX11_price 0 = .ok (.aload_n 0, 1) := by decide +kernel
theorem dX11_price_1 : decode cX11_price 1 = .ok (.iload_n 1, 1) := by decide +kernel
theorem dX11_price_2 : decode cX11_price 2 = .ok (.invokevirtual 106, 3) := by decide +kernel
theorem dX11_price_5 : decode cX11_price 5 = .ok (.astore 4, 2) := by decide +kernel
theorem dX11_price_7 : decode cX11_price 7 = .ok (.iload_n 2, 1) := by decide +kernel
theorem dX11_price_8 : decode cX11_price 8 = .ok (.bipush 9, 2) := by decide +kernel
theorem dX11_price_10 : decode cX11_price 10 = .ok (.invokestatic 134, 3) := by decide +kernel
theorem dX11_price_13 : decode cX11_price 13 = .ok (.iload_n 3, 1) := by decide +kernel
theorem dX11_price_14 : decode cX11_price 14 = .ok (.iconst 2, 1) := by decide +kernel
theorem dX11_price_15 : decode cX11_price 15 = .ok (.invokestatic 134, 3) := by decide +kernel
theorem dX11_price_18 : decode cX11_price 18 = .ok (.aload 4, 2) := by decide +kernel
theorem dX11_price_20 : decode cX11_price 20 = .ok (.getfield 43, 3) := by decide +kernel
theorem dX11_price_23 : decode cX11_price 23 = .ok (.astore 5, 2) := by decide +kernel
theorem dX11_price_25 : decode cX11_price 25 = .ok (.iload_n 3, 1) := by decide +kernel
theorem dX11_price_26 : decode cX11_price 26 = .ok (.ifCond .ne 10, 3) := by decide +kernel
theorem dX11_price_29 : decode cX11_price 29 = .ok (.aload 5, 2) := by decide +kernel
theorem dX11_price_31 : decode cX11_price 31 = .ok (.iload_n 2, 1) := by decide +kernel
theorem dX11_price_32 : decode cX11_price 32 = .ok (.invokevirtual 252, 3) := by decide +kernel
theorem dX11_price_35 : decode cX11_price 35 = .ok (.ireturn, 1) := by decide +kernel
theorem dX11_price_36 : decode cX11_price 36 = .ok (.aload 5, 2) := by decide +kernel
theorem dX11_price_38 : decode cX11_price 38 = .ok (.iload_n 3, 1) := by decide +kernel
theorem dX11_price_39 : decode cX11_price 39 = .ok (.iconst 1, 1) := by decide +kernel
theorem dX11_price_40 : decode cX11_price 40 = .ok (.if_icmp .ne 13, 3) := by decide +kernel
theorem dX11_price_43 : decode cX11_price 43 = .ok (.aload_n 0, 1) := by decide +kernel
theorem dX11_price_44 : decode cX11_price 44 = .ok (.aload 4, 2) := by decide +kernel
theorem dX11_price_46 : decode cX11_price 46 = .ok (.iload_n 2, 1) := by decide +kernel
theorem dX11_price_47 : decode cX11_price 47 = .ok (.invokevirtual 255, 3) := by decide +kernel
theorem dX11_price_50 : decode cX11_price 50 = .ok (.goto 15, 3) := by decide +kernel
theorem dX11_price_53 : decode cX11_price 53 = .ok (.aload 5, 2) := by decide +kernel
theorem dX11_price_55 : decode cX11_price 55 = .ok (.getfield 259, 3) := by decide +kernel
theorem dX11_price_58 : decode cX11_price 58 = .ok (.aload 5, 2) := by decide +kernel
theorem dX11_price_60 : decode cX11_price 60 = .ok (.iload_n 2, 1) := by decide +kernel
theorem dX11_price_61 : decode cX11_price 61 = .ok (.invokevirtual 262, 3) := by decide +kernel
theorem dX11_price_64 : decode cX11_price 64 = .ok (.isub, 1) := by decide +kernel
theorem dX11_price_65 : decode cX11_price 65 = .ok (.invokevirtual 265, 3) := by decide +kernel
theorem dX11_price_68 : decode cX11_price 68 = .ok (.ireturn, 1) := by decide +kernel
theorem dX11_priced_0 : decode cX11_priced 0 = .ok (.aload_n 0, 1) := by decide +kernel
theorem dX11_priced_1 : decode cX11_priced 1 = .ok (.iload_n 1, 1) := by decide +kernel
theorem dX11_priced_2 : decode cX11_priced 2 = .ok (.invokevirtual 106, 3) := by decide +kernel
theorem dX11_priced_5 : decode cX11_priced 5 = .ok (.getfield 43, 3) := by decide +kernel
theorem dX11_priced_8 : decode cX11_priced 8 = .ok (.astore_n 2, 1) := by decide +kernel
theorem dX11_priced_9 : decode cX11_priced 9 = .ok (.iconst 0, 1) := by decide +kernel
theorem dX11_priced_10 : decode cX11_priced 10 = .ok (.istore_n 3, 1) := by decide +kernel
theorem dX11_priced_11 : decode cX11_priced 11 = .ok (.iconst 1, 1) := by decide +kernel
theorem dX11_priced_12 : decode cX11_priced 12 = .ok (.istore 4, 2) := by decide +kernel
theorem dX11_priced_14 : decode cX11_priced 14 = .ok (.iload 4, 2) := by decide +kernel
theorem dX11_priced_16 : decode cX11_priced 16 = .ok (.bipush 9, 2) := by decide +kernel
theorem dX11_priced_18 : decode cX11_priced 18 = .ok (.if_icmp .gt 26, 3) := by decide +kernel
theorem dX11_priced_21 : decode cX11_priced 21 = .ok (.aload_n 2, 1) := by decide +kernel
theorem dX11_priced_22 : decode cX11_priced 22 = .ok (.iload 4, 2) := by decide +kernel
theorem dX11_priced_24 : decode cX11_priced 24 = .ok (.invokevirtual 252, 3) := by decide +kernel
theorem dX11_priced_27 : decode cX11_priced 27 = .ok (.aload_n 2, 1) := by decide +kernel
theorem dX11_priced_28 : decode cX11_priced 28 = .ok (.iload_n 3, 1) := by decide +kernel
theorem dX11_priced_29 : decode cX11_priced 29 = .ok (.invokevirtual 252, 3) := by decide +kernel
theorem dX11_priced_32 : decode cX11_priced 32 = .ok (.if_icmp .le 6, 3) := by decide +kernel
theorem dX11_priced_35 : decode cX11_priced 35 = .ok (.iload 4, 2) := by decide +kernel
theorem dX11_priced_37 : decode cX11_priced 37 = .ok (.istore_n 3, 1) := by decide +kernel
theorem dX11_priced_38 : decode cX11_priced 38 = .ok (.iinc 4 1, 3) := by decide +kernel
theorem dX11_priced_41 : decode cX11_priced 41 = .ok (.goto (-27), 3) := by decide +kernel
theorem dX11_priced_44 : decode cX11_priced 44 = .ok (.iload_n 3, 1) := by decide +kernel
theorem dX11_priced_45 : decode cX11_priced 45 = .ok (.ireturn, 1) := by decide +kernel
theorem dX11_mixed_0 : decode cX11_mixed 0 = .ok (.aload_n 0, 1) := by decide +kernel
theorem dX11_mixed_1 : decode cX11_mixed 1 = .ok (.iload_n 1, 1) := by decide +kernel
theorem dX11_mixed_2 : decode cX11_mixed 2 = .ok (.invokevirtual 106, 3) := by decide +kernel
theorem dX11_mixed_5 : decode cX11_mixed 5 = .ok (.astore 5, 2) := by decide +kernel
theorem dX11_mixed_7 : decode cX11_mixed 7 = .ok (.iload_n 2, 1) := by decide +kernel
theorem dX11_mixed_8 : decode cX11_mixed 8 = .ok (.iconst 0, 1) := by decide +kernel
theorem dX11_mixed_9 : decode cX11_mixed 9 = .ok (.sipush 400, 3) := by decide +kernel
theorem dX11_mixed_12 : decode cX11_mixed 12 = .ok (.invokestatic 110, 3) := by decide +kernel
theorem dX11_mixed_15 : decode cX11_mixed 15 = .ok (.iload_n 3, 1) := by decide +kernel
theorem dX11_mixed_16 : decode cX11_mixed 16 = .ok (.iconst 2, 1) := by decide +kernel
theorem dX11_mixed_17 : decode cX11_mixed 17 = .ok (.bipush 50, 2) := by decide +kernel
theorem dX11_mixed_19 : decode cX11_mixed 19 = .ok (.invokestatic 110, 3) := by decide +kernel
theorem dX11_mixed_22 : decode cX11_mixed 22 = .ok (.iload 4, 2) := by decide +kernel
theorem dX11_mixed_24 : decode cX11_mixed 24 = .ok (.iconst 0, 1) := by decide +kernel
theorem dX11_mixed_25 : decode cX11_mixed 25 = .ok (.bipush 9, 2) := by decide +kernel
theorem dX11_mixed_27 : decode cX11_mixed 27 = .ok (.invokestatic 110, 3) := by decide +kernel
theorem dX11_mixed_30 : decode cX11_mixed 30 = .ok (.iload_n 3, 1) := by decide +kernel
theorem dX11_mixed_31 : decode cX11_mixed 31 = .ok (.ifCond .le 9, 3) := by decide +kernel
theorem dX11_mixed_34 : decode cX11_mixed 34 = .ok (.iload_n 2, 1) := by decide +kernel
theorem dX11_mixed_35 : decode cX11_mixed 35 = .ok (.iload_n 3, 1) := by decide +kernel
theorem dX11_mixed_36 : decode cX11_mixed 36 = .ok (.idiv, 1) := by decide +kernel
theorem dX11_mixed_37 : decode cX11_mixed 37 = .ok (.goto 4, 3) := by decide +kernel
theorem dX11_mixed_40 : decode cX11_mixed 40 = .ok (.iconst 0, 1) := by decide +kernel
theorem dX11_mixed_41 : decode cX11_mixed 41 = .ok (.istore 6, 2) := by decide +kernel
theorem dX11_mixed_43 : decode cX11_mixed 43 = .ok (.aload_n 0, 1) := by decide +kernel
theorem dX11_mixed_44 : decode cX11_mixed 44 = .ok (.aload 5, 2) := by decide +kernel
theorem dX11_mixed_46 : decode cX11_mixed 46 = .ok (.iload_n 2, 1) := by decide +kernel
theorem dX11_mixed_47 : decode cX11_mixed 47 = .ok (.iload 6, 2) := by decide +kernel
theorem dX11_mixed_49 : decode cX11_mixed 49 = .ok (.isub, 1) := by decide +kernel
theorem dX11_mixed_50 : decode cX11_mixed 50 = .ok (.invokevirtual 185, 3) := by decide +kernel
theorem dX11_mixed_53 : decode cX11_mixed 53 = .ok (.aload_n 0, 1) := by decide +kernel
theorem dX11_mixed_54 : decode cX11_mixed 54 = .ok (.getfield 59, 3) := by decide +kernel
theorem dX11_mixed_57 : decode cX11_mixed 57 = .ok (.getfield 268, 3) := by decide +kernel
theorem dX11_mixed_60 : decode cX11_mixed 60 = .ok (.iload 6, 2) := by decide +kernel
theorem dX11_mixed_62 : decode cX11_mixed 62 = .ok (.i2l, 1) := by decide +kernel
theorem dX11_mixed_63 : decode cX11_mixed 63 = .ok (.aload 5, 2) := by decide +kernel
theorem dX11_mixed_65 : decode cX11_mixed 65 = .ok (.getfield 43, 3) := by decide +kernel
theorem dX11_mixed_68 : decode cX11_mixed 68 = .ok (.iload 4, 2) := by decide +kernel
theorem dX11_mixed_70 : decode cX11_mixed 70 = .ok (.invokevirtual 272, 3) := by decide +kernel
theorem dX11_mixed_73 : decode cX11_mixed 73 = .ok (.lmul, 1) := by decide +kernel
theorem dX11_mixed_74 : decode cX11_mixed 74 = .ok (.ladd, 1) := by decide +kernel
theorem dX11_mixed_75 : decode cX11_mixed 75 = .ok (.ldc2_w 276, 3) := by decide +kernel
theorem dX11_mixed_78 : decode cX11_mixed 78 = .ok (.ldiv, 1) := by decide +kernel
theorem dX11_mixed_79 : decode cX11_mixed 79 = .ok (.l2i, 1) := by decide +kernel
theorem dX11_mixed_80 : decode cX11_mixed 80 = .ok (.ireturn, 1) := by decide +kernel
theorem dX11_near_0 : decode cX11_near 0 = .ok (.iload_n 2, 1) := by decide +kernel
theorem dX11_near_1 : decode cX11_near 1 = .ok (.iconst 2, 1) := by decide +kernel
theorem dX11_near_2 : decode cX11_near 2 = .ok (.invokestatic 134, 3) := by decide +kernel
theorem dX11_near_5 : decode cX11_near 5 = .ok (.iload_n 1, 1) := by decide +kernel
theorem dX11_near_6 : decode cX11_near 6 = .ok (.iconst 0, 1) := by decide +kernel
theorem dX11_near_7 : decode cX11_near 7 = .ok (.bipush 60, 2) := by decide +kernel
theorem dX11_near_9 : decode cX11_near 9 = .ok (.invokestatic 110, 3) := by decide +kernel
theorem dX11_near_12 : decode cX11_near 12 = .ok (.aload_n 0, 1) := by decide +kernel
theorem dX11_near_13 : decode cX11_near 13 = .ok (.getfield 50, 3) := by decide +kernel
theorem dX11_near_16 : decode cX11_near 16 = .ok (.aload_n 0, 1) := by decide +kernel
theorem dX11_near_17 : decode cX11_near 17 = .ok (.getfield 19, 3) := by decide +kernel
theorem dX11_near_20 : decode cX11_near 20 = .ok (.getfield 43, 3) := by decide +kernel
theorem dX11_near_23 : decode cX11_near 23 = .ok (.aload_n 0, 1) := by decide +kernel
theorem dX11_near_24 : decode cX11_near 24 = .ok (.getfield 19, 3) := by decide +kernel
theorem dX11_near_27 : decode cX11_near 27 = .ok (.getfield 43, 3) := by decide +kernel
theorem dX11_near_30 : decode cX11_near 30 = .ok (.getfield 164, 3) := by decide +kernel
theorem dX11_near_33 : decode cX11_near 33 = .ok (.invokevirtual 167, 3) := by decide +kernel
theorem dX11_near_36 : decode cX11_near 36 = .ok (.aload_n 0, 1) := by decide +kernel
theorem dX11_near_37 : decode cX11_near 37 = .ok (.getfield 68, 3) := by decide +kernel
theorem dX11_near_40 : decode cX11_near 40 = .ok (.aload_n 0, 1) := by decide +kernel
theorem dX11_near_41 : decode cX11_near 41 = .ok (.getfield 23, 3) := by decide +kernel
theorem dX11_near_44 : decode cX11_near 44 = .ok (.getfield 43, 3) := by decide +kernel
theorem dX11_near_47 : decode cX11_near 47 = .ok (.aload_n 0, 1) := by decide +kernel
theorem dX11_near_48 : decode cX11_near 48 = .ok (.getfield 19, 3) := by decide +kernel
theorem dX11_near_51 : decode cX11_near 51 = .ok (.getfield 125, 3) := by decide +kernel
theorem dX11_near_54 : decode cX11_near 54 = .ok (.getfield 207, 3) := by decide +kernel
theorem dX11_near_57 : decode cX11_near 57 = .ok (.aload_n 0, 1) := by decide +kernel
theorem dX11_near_58 : decode cX11_near 58 = .ok (.getfield 23, 3) := by decide +kernel
theorem dX11_near_61 : decode cX11_near 61 = .ok (.getfield 125, 3) := by decide +kernel
theorem dX11_near_64 : decode cX11_near 64 = .ok (.getfield 207, 3) := by decide +kernel
theorem dX11_near_67 : decode cX11_near 67 = .ok (.invokevirtual 278, 3) := by decide +kernel
theorem dX11_near_70 : decode cX11_near 70 = .ok (.aload_n 0, 1) := by decide +kernel
theorem dX11_near_71 : decode cX11_near 71 = .ok (.getfield 68, 3) := by decide +kernel
theorem dX11_near_74 : decode cX11_near 74 = .ok (.iload_n 1, 1) := by decide +kernel
theorem dX11_near_75 : decode cX11_near 75 = .ok (.invokevirtual 281, 3) := by decide +kernel
theorem dX11_near_78 : decode cX11_near 78 = .ok (.iload_n 2, 1) := by decide +kernel
theorem dX11_near_79 : decode cX11_near 79 = .ok (.ifCond .ne 13, 3) := by decide +kernel
theorem dX11_near_82 : decode cX11_near 82 = .ok (.aload_n 0, 1) := by decide +kernel
theorem dX11_near_83 : decode cX11_near 83 = .ok (.getfield 68, 3) := by decide +kernel
theorem dX11_near_86 : decode cX11_near 86 = .ok (.getfield 282, 3) := by decide +kernel
theorem dX11_near_89 : decode cX11_near 89 = .ok (.goto 25, 3) := by decide +kernel
theorem dX11_near_92 : decode cX11_near 92 = .ok (.iload_n 2, 1) := by decide +kernel
theorem dX11_near_93 : decode cX11_near 93 = .ok (.iconst 1, 1) := by decide +kernel
theorem dX11_near_94 : decode cX11_near 94 = .ok (.if_icmp .ne 13, 3) := by decide +kernel
theorem dX11_near_97 : decode cX11_near 97 = .ok (.aload_n 0, 1) := by decide +kernel
theorem dX11_near_98 : decode cX11_near 98 = .ok (.getfield 68, 3) := by decide +kernel
theorem dX11_near_101 : decode cX11_near 101 = .ok (.getfield 285, 3) := by decide +kernel
theorem dX11_near_104 : decode cX11_near 104 = .ok (.goto 10, 3) := by decide +kernel
theorem dX11_near_107 : decode cX11_near 107 = .ok (.aload_n 0, 1) := by decide +kernel
theorem dX11_near_108 : decode cX11_near 108 = .ok (.getfield 68, 3) := by decide +kernel
theorem dX11_near_111 : decode cX11_near 111 = .ok (.getfield 288, 3) := by decide +kernel
theorem dX11_near_114 : decode cX11_near 114 = .ok (.lstore_n 3, 1) := by decide +kernel
theorem dX11_near_115 : decode cX11_near 115 = .ok (.lload_n 3, 1) := by decide +kernel
theorem dX11_near_116 : decode cX11_near 116 = .ok (.ldc2_w 276, 3) := by decide +kernel
theorem dX11_near_119 : decode cX11_near 119 = .ok (.ldiv, 1) := by decide +kernel
theorem dX11_near_120 : decode cX11_near 120 = .ok (.l2i, 1) := by decide +kernel
theorem dX11_near_121 : decode cX11_near 121 = .ok (.ireturn, 1) := by decide +kernel
theorem dX11_give_0 : decode cX11_give 0 = .ok (.aload_n 0, 1) := by decide +kernel
theorem dX11_give_1 : decode cX11_give 1 = .ok (.iload_n 1, 1) := by decide +kernel
theorem dX11_give_2 : decode cX11_give 2 = .ok (.invokevirtual 106, 3) := by decide +kernel
theorem dX11_give_5 : decode cX11_give 5 = .ok (.astore_n 3, 1) := by decide +kernel
theorem dX11_give_6 : decode cX11_give 6 = .ok (.iload_n 2, 1) := by decide +kernel
theorem dX11_give_7 : decode cX11_give 7 = .ok (.ifCond .lt 22, 3) := by decide +kernel
theorem dX11_give_10 : decode cX11_give 10 = .ok (.iload_n 2, 1) := by decide +kernel
theorem dX11_give_11 : decode cX11_give 11 = .ok (.bipush 9, 2) := by decide +kernel
theorem dX11_give_13 : decode cX11_give 13 = .ok (.if_icmp .gt 16, 3) := by decide +kernel
theorem dX11_give_16 : decode cX11_give 16 = .ok (.aload_n 3, 1) := by decide +kernel
theorem dX11_give_17 : decode cX11_give 17 = .ok (.getfield 125, 3) := by decide +kernel
theorem dX11_give_20 : decode cX11_give 20 = .ok (.getfield 291, 3) := by decide +kernel
theorem dX11_give_23 : decode cX11_give 23 = .ok (.sipush 200, 3) := by decide +kernel
theorem dX11_give_26 : decode cX11_give 26 = .ok (.if_icmp .lt 10, 3) := by decide +kernel
theorem dX11_give_29 : decode cX11_give 29 = .ok (.aload_n 0, 1) := by decide +kernel
theorem dX11_give_30 : decode cX11_give 30 = .ok (.iconst 1, 1) := by decide +kernel
theorem dX11_give_31 : decode cX11_give 31 = .ok (.invokevirtual 121, 3) := by decide +kernel
theorem dX11_give_34 : decode cX11_give 34 = .ok (.iconst (-1), 1) := by decide +kernel
theorem dX11_give_35 : decode cX11_give 35 = .ok (.ireturn, 1) := by decide +kernel
theorem dX11_give_36 : decode cX11_give 36 = .ok (.aload_n 3, 1) := by decide +kernel
theorem dX11_give_37 : decode cX11_give 37 = .ok (.iload_n 2, 1) := by decide +kernel
theorem dX11_give_38 : decode cX11_give 38 = .ok (.invokevirtual 294, 3) := by decide +kernel
theorem dX11_give_41 : decode cX11_give 41 = .ok (.aload_n 3, 1) := by decide +kernel
theorem dX11_give_42 : decode cX11_give 42 = .ok (.getfield 125, 3) := by decide +kernel
theorem dX11_give_45 : decode cX11_give 45 = .ok (.getfield 291, 3) := by decide +kernel
theorem dX11_give_48 : decode cX11_give 48 = .ok (.ireturn, 1) := by decide +kernel
theorem dX11_given_0 : decode cX11_given 0 = .ok (.aload_n 0, 1) := by decide +kernel
theorem dX11_given_1 : decode cX11_given 1 = .ok (.iload_n 1, 1) := by decide +kernel
theorem dX11_given_2 : decode cX11_given 2 = .ok (.invokevirtual 106, 3) := by decide +kernel
theorem dX11_given_5 : decode cX11_given 5 = .ok (.astore 4, 2) := by decide +kernel
theorem dX11_given_7 : decode cX11_given 7 = .ok (.iload_n 3, 1) := by decide +kernel
theorem dX11_given_8 : decode cX11_given 8 = .ok (.iconst 2, 1) := by decide +kernel
theorem dX11_given_9 : decode cX11_given 9 = .ok (.invokestatic 134, 3) := by decide +kernel
theorem dX11_given_12 : decode cX11_given 12 = .ok (.iload_n 2, 1) := by decide +kernel
theorem dX11_given_13 : decode cX11_given 13 = .ok (.aload 4, 2) := by decide +kernel
theorem dX11_given_15 : decode cX11_given 15 = .ok (.getfield 125, 3) := by decide +kernel
theorem dX11_given_18 : decode cX11_given 18 = .ok (.getfield 291, 3) := by decide +kernel
theorem dX11_given_21 : decode cX11_given 21 = .ok (.iconst 1, 1) := by decide +kernel
theorem dX11_given_22 : decode cX11_given 22 = .ok (.isub, 1) := by decide +kernel
theorem dX11_given_23 : decode cX11_given 23 = .ok (.invokestatic 134, 3) := by decide +kernel
theorem dX11_given_26 : decode cX11_given 26 = .ok (.aload_n 0, 1) := by decide +kernel
theorem dX11_given_27 : decode cX11_given 27 = .ok (.aload 4, 2) := by decide +kernel
theorem dX11_given_29 : decode cX11_given 29 = .ok (.invokevirtual 297, 3) := by decide +kernel
theorem dX11_given_32 : decode cX11_given 32 = .ok (.iload_n 3, 1) := by decide +kernel
theorem dX11_given_33 : decode cX11_given 33 = .ok (.ifCond .ne 14, 3) := by decide +kernel
theorem dX11_given_36 : decode cX11_given 36 = .ok (.aload 4, 2) := by decide +kernel
theorem dX11_given_38 : decode cX11_given 38 = .ok (.getfield 125, 3) := by decide +kernel
theorem dX11_given_41 : decode cX11_given 41 = .ok (.getfield 301, 3) := by decide +kernel
theorem dX11_given_44 : decode cX11_given 44 = .ok (.goto 25, 3) := by decide +kernel
theorem dX11_given_47 : decode cX11_given 47 = .ok (.iload_n 3, 1) := by decide +kernel
theorem dX11_given_48 : decode cX11_given 48 = .ok (.iconst 1, 1) := by decide +kernel
theorem dX11_given_49 : decode cX11_given 49 = .ok (.if_icmp .ne 13, 3) := by decide +kernel
theorem dX11_given_52 : decode cX11_given 52 = .ok (.aload_n 0, 1) := by decide +kernel
theorem dX11_given_53 : decode cX11_given 53 = .ok (.getfield 82, 3) := by decide +kernel
theorem dX11_given_56 : decode cX11_given 56 = .ok (.getfield 304, 3) := by decide +kernel
theorem dX11_given_59 : decode cX11_given 59 = .ok (.goto 10, 3) := by decide +kernel
theorem dX11_given_62 : decode cX11_given 62 = .ok (.aload_n 0, 1) := by decide +kernel
theorem dX11_given_63 : decode cX11_given 63 = .ok (.getfield 82, 3) := by decide +kernel
theorem dX11_given_66 : decode cX11_given 66 = .ok (.getfield 306, 3) := by decide +kernel
theorem dX11_given_69 : decode cX11_given 69 = .ok (.iload_n 2, 1) := by decide +kernel
theorem dX11_given_70 : decode cX11_given 70 = .ok (.invokestatic 138, 3) := by decide +kernel
theorem dX11_given_73 : decode cX11_given 73 = .ok (.ireturn, 1) := by decide +kernel
theorem dX11_who_0 : decode cX11_who 0 = .ok (.aload_n 0, 1) := by decide +kernel
theorem dX11_who_1 : decode cX11_who 1 = .ok (.iload_n 1, 1) := by decide +kernel
theorem dX11_who_2 : decode cX11_who 2 = .ok (.invokevirtual 106, 3) := by decide +kernel
theorem dX11_who_5 : decode cX11_who 5 = .ok (.astore 4, 2) := by decide +kernel
theorem dX11_who_7 : decode cX11_who 7 = .ok (.iload_n 2, 1) := by decide +kernel
theorem dX11_who_8 : decode cX11_who 8 = .ok (.aload 4, 2) := by decide +kernel
theorem dX11_who_10 : decode cX11_who 10 = .ok (.getfield 43, 3) := by decide +kernel
theorem dX11_who_13 : decode cX11_who 13 = .ok (.getfield 148, 3) := by decide +kernel
theorem dX11_who_16 : decode cX11_who 16 = .ok (.iconst 1, 1) := by decide +kernel
theorem dX11_who_17 : decode cX11_who 17 = .ok (.isub, 1) := by decide +kernel
theorem dX11_who_18 : decode cX11_who 18 = .ok (.invokestatic 134, 3) := by decide +kernel
theorem dX11_who_21 : decode cX11_who 21 = .ok (.iload_n 3, 1) := by decide +kernel
theorem dX11_who_22 : decode cX11_who 22 = .ok (.iconst 1, 1) := by decide +kernel
theorem dX11_who_23 : decode cX11_who 23 = .ok (.invokestatic 134, 3) := by decide +kernel
theorem dX11_who_26 : decode cX11_who 26 = .ok (.aload_n 0, 1) := by decide +kernel
theorem dX11_who_27 : decode cX11_who 27 = .ok (.aload 4, 2) := by decide +kernel
theorem dX11_who_29 : decode cX11_who 29 = .ok (.invokevirtual 297, 3) := by decide +kernel
theorem dX11_who_32 : decode cX11_who 32 = .ok (.iload_n 3, 1) := by decide +kernel
theorem dX11_who_33 : decode cX11_who 33 = .ok (.ifCond .ne 16, 3) := by decide +kernel
theorem dX11_who_36 : decode cX11_who 36 = .ok (.aload_n 0, 1) := by decide +kernel
theorem dX11_who_37 : decode cX11_who 37 = .ok (.getfield 82, 3) := by decide +kernel
theorem dX11_who_40 : decode cX11_who 40 = .ok (.iconst 1, 1) := by decide +kernel
theorem dX11_who_41 : decode cX11_who 41 = .ok (.iload_n 2, 1) := by decide +kernel
theorem dX11_who_42 : decode cX11_who 42 = .ok (.ishl, 1) := by decide +kernel
theorem dX11_who_43 : decode cX11_who 43 = .ok (.invokevirtual 309, 3) := by decide +kernel
theorem dX11_who_46 : decode cX11_who 46 = .ok (.goto 13, 3) := by decide +kernel
theorem dX11_who_49 : decode cX11_who 49 = .ok (.aload_n 0, 1) := by decide +kernel
theorem dX11_who_50 : decode cX11_who 50 = .ok (.getfield 82, 3) := by decide +kernel
theorem dX11_who_53 : decode cX11_who 53 = .ok (.iconst 1, 1) := by decide +kernel
theorem dX11_who_54 : decode cX11_who 54 = .ok (.iload_n 2, 1) := by decide +kernel
theorem dX11_who_55 : decode cX11_who 55 = .ok (.ishl, 1) := by decide +kernel
theorem dX11_who_56 : decode cX11_who 56 = .ok (.invokevirtual 312, 3) := by decide +kernel
theorem dX11_who_59 : decode cX11_who 59 = .ok (.ireturn, 1) := by decide +kernel
theorem dX11_strange_0 : decode cX11_strange 0 = .ok (.aload_n 0, 1) := by decide +kernel
theorem dX11_strange_1 : decode cX11_strange 1 = .ok (.aload_n 0, 1) := by decide +kernel
theorem dX11_strange_2 : decode cX11_strange 2 = .ok (.iload_n 1, 1) := by decide +kernel
theorem dX11_strange_3 : decode cX11_strange 3 = .ok (.invokevirtual 106, 3) := by decide +kernel
theorem dX11_strange_6 : decode cX11_strange 6 = .ok (.invokevirtual 297, 3) := by decide +kernel
theorem dX11_strange_9 : decode cX11_strange 9 = .ok (.aload_n 0, 1) := by decide +kernel
theorem dX11_strange_10 : decode cX11_strange 10 = .ok (.getfield 82, 3) := by decide +kernel
theorem dX11_strange_13 : decode cX11_strange 13 = .ok (.iconst 0, 1) := by decide +kernel
theorem dX11_strange_14 : decode cX11_strange 14 = .ok (.invokevirtual 309, 3) := by decide +kernel
theorem dX11_strange_17 : decode cX11_strange 17 = .ok (.ireturn, 1) := by decide +kernel
theorem dX11_fewest_0 : decode cX11_fewest 0 = .ok (.aload_n 0, 1) := by decide +kernel
theorem dX11_fewest_1 : decode cX11_fewest 1 = .ok (.aload_n 0, 1) := by decide +kernel
theorem dX11_fewest_2 : decode cX11_fewest 2 = .ok (.iload_n 1, 1) := by decide +kernel
theorem dX11_fewest_3 : decode cX11_fewest 3 = .ok (.invokevirtual 106, 3) := by decide +kernel
theorem dX11_fewest_6 : decode cX11_fewest 6 = .ok (.invokevirtual 297, 3) := by decide +kernel
theorem dX11_fewest_9 : decode cX11_fewest 9 = .ok (.aload_n 0, 1) := by decide +kernel
theorem dX11_fewest_10 : decode cX11_fewest 10 = .ok (.getfield 82, 3) := by decide +kernel
theorem dX11_fewest_13 : decode cX11_fewest 13 = .ok (.invokevirtual 315, 3) := by decide +kernel
theorem dX11_fewest_16 : decode cX11_fewest 16 = .ok (.ireturn, 1) := by decide +kernel
theorem dX11_guess_0 : decode cX11_guess 0 = .ok (.aload_n 0, 1) := by decide +kernel
theorem dX11_guess_1 : decode cX11_guess 1 = .ok (.iload_n 1, 1) := by decide +kernel
theorem dX11_guess_2 : decode cX11_guess 2 = .ok (.invokevirtual 106, 3) := by decide +kernel
theorem dX11_guess_5 : decode cX11_guess 5 = .ok (.astore 5, 2) := by decide +kernel
theorem dX11_guess_7 : decode cX11_guess 7 = .ok (.iload_n 2, 1) := by decide +kernel
theorem dX11_guess_8 : decode cX11_guess 8 = .ok (.iconst 3, 1) := by decide +kernel
theorem dX11_guess_9 : decode cX11_guess 9 = .ok (.invokestatic 134, 3) := by decide +kernel
theorem dX11_guess_12 : decode cX11_guess 12 = .ok (.iload_n 3, 1) := by decide +kernel
theorem dX11_guess_13 : decode cX11_guess 13 = .ok (.aload 5, 2) := by decide +kernel
theorem dX11_guess_15 : decode cX11_guess 15 = .ok (.getfield 43, 3) := by decide +kernel
theorem dX11_guess_18 : decode cX11_guess 18 = .ok (.getfield 148, 3) := by decide +kernel
theorem dX11_guess_21 : decode cX11_guess 21 = .ok (.iconst 1, 1) := by decide +kernel
theorem dX11_guess_22 : decode cX11_guess 22 = .ok (.isub, 1) := by decide +kernel
theorem dX11_guess_23 : decode cX11_guess 23 = .ok (.invokestatic 134, 3) := by decide +kernel
theorem dX11_guess_26 : decode cX11_guess 26 = .ok (.iload 4, 2) := by decide +kernel
theorem dX11_guess_28 : decode cX11_guess 28 = .ok (.ifCond .lt 10, 3) := by decide +kernel
theorem dX11_guess_31 : decode cX11_guess 31 = .ok (.iload 4, 2) := by decide +kernel
theorem dX11_guess_33 : decode cX11_guess 33 = .ok (.bipush 99, 2) := by decide +kernel
theorem dX11_guess_35 : decode cX11_guess 35 = .ok (.if_icmp .le 10, 3) := by decide +kernel
theorem dX11_guess_38 : decode cX11_guess 38 = .ok (.aload_n 0, 1) := by decide +kernel
theorem dX11_guess_39 : decode cX11_guess 39 = .ok (.iconst 2, 1) := by decide +kernel
theorem dX11_guess_40 : decode cX11_guess 40 = .ok (.invokevirtual 121, 3) := by decide +kernel
theorem dX11_guess_43 : decode cX11_guess 43 = .ok (.iconst 0, 1) := by decide +kernel
theorem dX11_guess_44 : decode cX11_guess 44 = .ok (.ireturn, 1) := by decide +kernel
theorem dX11_guess_45 : decode cX11_guess 45 = .ok (.aload 5, 2) := by decide +kernel
theorem dX11_guess_47 : decode cX11_guess 47 = .ok (.getfield 125, 3) := by decide +kernel
theorem dX11_guess_50 : decode cX11_guess 50 = .ok (.getfield 318, 3) := by decide +kernel
theorem dX11_guess_53 : decode cX11_guess 53 = .ok (.iload_n 2, 1) := by decide +kernel
theorem dX11_guess_54 : decode cX11_guess 54 = .ok (.bipush 8, 2) := by decide +kernel
theorem dX11_guess_56 : decode cX11_guess 56 = .ok (.imul, 1) := by decide +kernel
theorem dX11_guess_57 : decode cX11_guess 57 = .ok (.iload_n 3, 1) := by decide +kernel
theorem dX11_guess_58 : decode cX11_guess 58 = .ok (.iadd, 1) := by decide +kernel
theorem dX11_guess_59 : decode cX11_guess 59 = .ok (.iload 4, 2) := by decide +kernel
theorem dX11_guess_61 : decode cX11_guess 61 = .ok (.invokestatic 321, 3) := by decide +kernel
theorem dX11_guess_64 : decode cX11_guess 64 = .ok (.iconst 1, 1) := by decide +kernel
theorem dX11_guess_65 : decode cX11_guess 65 = .ok (.ireturn, 1) := by decide +kernel
theorem dX11_credit_0 : decode cX11_credit 0 = .ok (.aload_n 0, 1) := by decide +kernel
theorem dX11_credit_1 : decode cX11_credit 1 = .ok (.iload_n 1, 1) := by decide +kernel
theorem dX11_credit_2 : decode cX11_credit 2 = .ok (.invokevirtual 106, 3) := by decide +kernel
theorem dX11_credit_5 : decode cX11_credit 5 = .ok (.astore_n 3, 1) := by decide +kernel
theorem dX11_credit_6 : decode cX11_credit 6 = .ok (.iload_n 2, 1) := by decide +kernel
theorem dX11_credit_7 : decode cX11_credit 7 = .ok (.iconst 3, 1) := by decide +kernel
theorem dX11_credit_8 : decode cX11_credit 8 = .ok (.invokestatic 134, 3) := by decide +kernel
theorem dX11_credit_11 : decode cX11_credit 11 = .ok (.aload_n 3, 1) := by decide +kernel
theorem dX11_credit_12 : decode cX11_credit 12 = .ok (.getfield 125, 3) := by decide +kernel
theorem dX11_credit_15 : decode cX11_credit 15 = .ok (.iload_n 2, 1) := by decide +kernel
theorem dX11_credit_16 : decode cX11_credit 16 = .ok (.iconst (-1), 1) := by decide +kernel
theorem dX11_credit_17 : decode cX11_credit 17 = .ok (.invokevirtual 325, 3) := by decide +kernel
theorem dX11_credit_20 : decode cX11_credit 20 = .ok (.ifCond .ne 5, 3) := by decide +kernel
theorem dX11_credit_23 : decode cX11_credit 23 = .ok (.iconst (-1), 1) := by decide +kernel
theorem dX11_credit_24 : decode cX11_credit 24 = .ok (.ireturn, 1) := by decide +kernel
theorem dX11_credit_25 : decode cX11_credit 25 = .ok (.aload_n 0, 1) := by decide +kernel
theorem dX11_credit_26 : decode cX11_credit 26 = .ok (.aload_n 3, 1) := by decide +kernel
theorem dX11_credit_27 : decode cX11_credit 27 = .ok (.invokevirtual 297, 3) := by decide +kernel
theorem dX11_credit_30 : decode cX11_credit 30 = .ok (.aload_n 0, 1) := by decide +kernel
theorem dX11_credit_31 : decode cX11_credit 31 = .ok (.getfield 82, 3) := by decide +kernel
theorem dX11_credit_34 : decode cX11_credit 34 = .ok (.iload_n 2, 1) := by decide +kernel
theorem dX11_credit_35 : decode cX11_credit 35 = .ok (.aload_n 3, 1) := by decide +kernel
theorem dX11_credit_36 : decode cX11_credit 36 = .ok (.getfield 125, 3) := by decide +kernel
theorem dX11_credit_39 : decode cX11_credit 39 = .ok (.invokevirtual 328, 3) := by decide +kernel
theorem dX11_credit_42 : decode cX11_credit 42 = .ok (.ireturn, 1) := by decide +kernel
theorem dX11_drawn_0 : decode cX11_drawn 0 = .ok (.aload_n 0, 1) := by decide +kernel
theorem dX11_drawn_1 : decode cX11_drawn 1 = .ok (.iload_n 1, 1) := by decide +kernel
theorem dX11_drawn_2 : decode cX11_drawn 2 = .ok (.invokevirtual 106, 3) := by decide +kernel
theorem dX11_drawn_5 : decode cX11_drawn 5 = .ok (.astore 4, 2) := by decide +kernel
theorem dX11_drawn_7 : decode cX11_drawn 7 = .ok (.iload_n 2, 1) := by decide +kernel
theorem dX11_drawn_8 : decode cX11_drawn 8 = .ok (.iconst 1, 1) := by decide +kernel
theorem dX11_drawn_9 : decode cX11_drawn 9 = .ok (.sipush 400, 3) := by decide +kernel
theorem dX11_drawn_12 : decode cX11_drawn 12 = .ok (.invokestatic 110, 3) := by decide +kernel
theorem dX11_drawn_15 : decode cX11_drawn 15 = .ok (.aload 4, 2) := by decide +kernel
theorem dX11_drawn_17 : decode cX11_drawn 17 = .ok (.getfield 43, 3) := by decide +kernel
theorem dX11_drawn_20 : decode cX11_drawn 20 = .ok (.getfield 148, 3) := by decide +kernel
theorem dX11_drawn_23 : decode cX11_drawn 23 = .ok (.ifCond .ne 14, 3) := by decide +kernel
theorem dX11_drawn_26 : decode cX11_drawn 26 = .ok (.new 332, 3) := by decide +kernel
theorem dX11_drawn_29 : decode cX11_drawn 29 = .ok (.dup, 1) := by decide +kernel
theorem dX11_drawn_30 : decode cX11_drawn 30 = .ok (.ldc_w 334, 3) := by decide +kernel
theorem dX11_drawn_33 : decode cX11_drawn 33 = .ok (.invokespecial 336, 3) := by decide +kernel
theorem dX11_drawn_36 : decode cX11_drawn 36 = .ok (.athrow, 1) := by decide +kernel
theorem dX11_drawn_37 : decode cX11_drawn 37 = .ok (.aload_n 0, 1) := by decide +kernel
theorem dX11_drawn_38 : decode cX11_drawn 38 = .ok (.getfield 50, 3) := by decide +kernel
theorem dX11_drawn_41 : decode cX11_drawn 41 = .ok (.aload 4, 2) := by decide +kernel
theorem dX11_drawn_43 : decode cX11_drawn 43 = .ok (.getfield 43, 3) := by decide +kernel
theorem dX11_drawn_46 : decode cX11_drawn 46 = .ok (.aload 4, 2) := by decide +kernel
theorem dX11_drawn_48 : decode cX11_drawn 48 = .ok (.getfield 43, 3) := by decide +kernel
theorem dX11_drawn_51 : decode cX11_drawn 51 = .ok (.getfield 164, 3) := by decide +kernel
theorem dX11_drawn_54 : decode cX11_drawn 54 = .ok (.invokevirtual 167, 3) := by decide +kernel
theorem dX11_drawn_57 : decode cX11_drawn 57 = .ok (.aload 4, 2) := by decide +kernel
theorem dX11_drawn_59 : decode cX11_drawn 59 = .ok (.iload_n 3, 1) := by decide +kernel
theorem dX11_drawn_60 : decode cX11_drawn 60 = .ok (.putfield 337, 3) := by decide +kernel
theorem dX11_drawn_63 : decode cX11_drawn 63 = .ok (.iconst 0, 1) := by decide +kernel
theorem dX11_drawn_64 : decode cX11_drawn 64 = .ok (.istore 5, 2) := by decide +kernel
theorem dX11_drawn_66 : decode cX11_drawn 66 = .ok (.iconst 1, 1) := by decide +kernel
theorem dX11_drawn_67 : decode cX11_drawn 67 = .ok (.istore 6, 2) := by decide +kernel
theorem dX11_drawn_69 : decode cX11_drawn 69 = .ok (.iload 6, 2) := by decide +kernel
theorem dX11_drawn_71 : decode cX11_drawn 71 = .ok (.iload_n 2, 1) := by decide +kernel
theorem dX11_drawn_72 : decode cX11_drawn 72 = .ok (.if_icmp .gt 36, 3) := by decide +kernel
theorem dX11_drawn_75 : decode cX11_drawn 75 = .ok (.iload 5, 2) := by decide +kernel
theorem dX11_drawn_77 : decode cX11_drawn 77 = .ok (.aload 4, 2) := by decide +kernel
theorem dX11_drawn_79 : decode cX11_drawn 79 = .ok (.aload_n 0, 1) := by decide +kernel
theorem dX11_drawn_80 : decode cX11_drawn 80 = .ok (.getfield 50, 3) := by decide +kernel
theorem dX11_drawn_83 : decode cX11_drawn 83 = .ok (.invokevirtual 340, 3) := by decide +kernel
theorem dX11_drawn_86 : decode cX11_drawn 86 = .ok (.iadd, 1) := by decide +kernel
theorem dX11_drawn_87 : decode cX11_drawn 87 = .ok (.istore 5, 2) := by decide +kernel
theorem dX11_drawn_89 : decode cX11_drawn 89 = .ok (.iload 6, 2) := by decide +kernel
theorem dX11_drawn_91 : decode cX11_drawn 91 = .ok (.bipush 10, 2) := by decide +kernel
theorem dX11_drawn_93 : decode cX11_drawn 93 = .ok (.irem, 1) := by decide +kernel
theorem dX11_drawn_94 : decode cX11_drawn 94 = .ok (.ifCond .ne 8, 3) := by decide +kernel
theorem dX11_drawn_97 : decode cX11_drawn 97 = .ok (.aload 4, 2) := by decide +kernel
theorem dX11_drawn_99 : decode cX11_drawn 99 = .ok (.invokevirtual 344, 3) := by decide +kernel
theorem dX11_drawn_102 : decode cX11_drawn 102 = .ok (.iinc 6 1, 3) := by decide +kernel
theorem dX11_drawn_105 : decode cX11_drawn 105 = .ok (.goto (-36), 3) := by decide +kernel
theorem dX11_drawn_108 : decode cX11_drawn 108 = .ok (.iload 5, 2) := by decide +kernel
theorem dX11_drawn_110 : decode cX11_drawn 110 = .ok (.ireturn, 1) := by decide +kernel
theorem dX11_empty_0 : decode cX11_empty 0 = .ok (.aload_n 0, 1) := by decide +kernel
theorem dX11_empty_1 : decode cX11_empty 1 = .ok (.iload_n 1, 1) := by decide +kernel
theorem dX11_empty_2 : decode cX11_empty 2 = .ok (.invokevirtual 106, 3) := by decide +kernel
theorem dX11_empty_5 : decode cX11_empty 5 = .ok (.getfield 125, 3) := by decide +kernel
theorem dX11_empty_8 : decode cX11_empty 8 = .ok (.astore_n 2, 1) := by decide +kernel
theorem dX11_empty_9 : decode cX11_empty 9 = .ok (.aload_n 2, 1) := by decide +kernel
theorem dX11_empty_10 : decode cX11_empty 10 = .ok (.getfield 347, 3) := by decide +kernel
theorem dX11_empty_13 : decode cX11_empty 13 = .ok (.istore_n 3, 1) := by decide +kernel
theorem dX11_empty_14 : decode cX11_empty 14 = .ok (.aload_n 2, 1) := by decide +kernel
theorem dX11_empty_15 : decode cX11_empty 15 = .ok (.iconst 0, 1) := by decide +kernel
theorem dX11_empty_16 : decode cX11_empty 16 = .ok (.putfield 347, 3) := by decide +kernel
theorem dX11_empty_19 : decode cX11_empty 19 = .ok (.iload_n 3, 1) := by decide +kernel
theorem dX11_empty_20 : decode cX11_empty 20 = .ok (.ireturn, 1) := by decide +kernel
theorem dX11_image_0 : decode cX11_image 0 = .ok (.aload_n 0, 1) := by decide +kernel
theorem dX11_image_1 : decode cX11_image 1 = .ok (.getfield 19, 3) := by decide +kernel
theorem dX11_image_4 : decode cX11_image 4 = .ok (.getfield 350, 3) := by decide +kernel
theorem dX11_image_7 : decode cX11_image 7 = .ok (.aload_n 0, 1) := by decide +kernel
theorem dX11_image_8 : decode cX11_image 8 = .ok (.getfield 19, 3) := by decide +kernel
theorem dX11_image_11 : decode cX11_image 11 = .ok (.getfield 125, 3) := by decide +kernel
theorem dX11_image_14 : decode cX11_image 14 = .ok (.invokevirtual 353, 3) := by decide +kernel
theorem dX11_image_17 : decode cX11_image 17 = .ok (.aload_n 0, 1) := by decide +kernel
theorem dX11_image_18 : decode cX11_image 18 = .ok (.getfield 23, 3) := by decide +kernel
theorem dX11_image_21 : decode cX11_image 21 = .ok (.getfield 350, 3) := by decide +kernel
theorem dX11_image_24 : decode cX11_image 24 = .ok (.aload_n 0, 1) := by decide +kernel
theorem dX11_image_25 : decode cX11_image 25 = .ok (.getfield 23, 3) := by decide +kernel
theorem dX11_image_28 : decode cX11_image 28 = .ok (.getfield 125, 3) := by decide +kernel
theorem dX11_image_31 : decode cX11_image 31 = .ok (.invokevirtual 353, 3) := by decide +kernel
theorem dX11_image_34 : decode cX11_image 34 = .ok (.aload_n 0, 1) := by decide +kernel
theorem dX11_image_35 : decode cX11_image 35 = .ok (.getfield 26, 3) := by decide +kernel
theorem dX11_image_38 : decode cX11_image 38 = .ok (.aload_n 0, 1) := by decide +kernel
theorem dX11_image_39 : decode cX11_image 39 = .ok (.getfield 30, 3) := by decide +kernel
theorem dX11_image_42 : decode cX11_image 42 = .ok (.invokestatic 356, 3) := by decide +kernel
theorem dX11_image_45 : decode cX11_image 45 = .ok (.aload_n 0, 1) := by decide +kernel
theorem dX11_image_46 : decode cX11_image 46 = .ok (.iconst 1, 1) := by decide +kernel
theorem dX11_image_47 : decode cX11_image 47 = .ok (.putfield 33, 3) := by decide +kernel
theorem dX11_image_50 : decode cX11_image 50 = .ok (.return_, 1) := by decide +kernel
theorem dX11_restore_0 : decode cX11_restore 0 = .ok (.aload_n 0, 1) := by decide +kernel
theorem dX11_restore_1 : decode cX11_restore 1 = .ok (.getfield 33, 3) := by decide +kernel
theorem dX11_restore_4 : decode cX11_restore 4 = .ok (.ifCond .ne 5, 3) := by decide +kernel
theorem dX11_restore_7 : decode cX11_restore 7 = .ok (.iconst 0, 1) := by decide +kernel
theorem dX11_restore_8 : decode cX11_restore 8 = .ok (.ireturn, 1) := by decide +kernel
theorem dX11_restore_9 : decode cX11_restore 9 = .ok (.aload_n 0, 1) := by decide +kernel
theorem dX11_restore_10 : decode cX11_restore 10 = .ok (.getfield 19, 3) := by decide +kernel
theorem dX11_restore_13 : decode cX11_restore 13 = .ok (.getfield 125, 3) := by decide +kernel
theorem dX11_restore_16 : decode cX11_restore 16 = .ok (.aload_n 0, 1) := by decide +kernel
theorem dX11_restore_17 : decode cX11_restore 17 = .ok (.getfield 19, 3) := by decide +kernel
theorem dX11_restore_20 : decode cX11_restore 20 = .ok (.getfield 350, 3) := by decide +kernel
theorem dX11_restore_23 : decode cX11_restore 23 = .ok (.invokevirtual 353, 3) := by decide +kernel
theorem dX11_restore_26 : decode cX11_restore 26 = .ok (.aload_n 0, 1) := by decide +kernel
theorem dX11_restore_27 : decode cX11_restore 27 = .ok (.getfield 23, 3) := by decide +kernel
theorem dX11_restore_30 : decode cX11_restore 30 = .ok (.getfield 125, 3) := by decide +kernel
theorem dX11_restore_33 : decode cX11_restore 33 = .ok (.aload_n 0, 1) := by decide +kernel
theorem dX11_restore_34 : decode cX11_restore 34 = .ok (.getfield 23, 3) := by decide +kernel
theorem dX11_restore_37 : decode cX11_restore 37 = .ok (.getfield 350, 3) := by decide +kernel
theorem dX11_restore_40 : decode cX11_restore 40 = .ok (.invokevirtual 353, 3) := by decide +kernel
theorem dX11_restore_43 : decode cX11_restore 43 = .ok (.aload_n 0, 1) := by decide +kernel
theorem dX11_restore_44 : decode cX11_restore 44 = .ok (.getfield 30, 3) := by decide +kernel
theorem dX11_restore_47 : decode cX11_restore 47 = .ok (.aload_n 0, 1) := by decide +kernel
theorem dX11_restore_48 : decode cX11_restore 48 = .ok (.getfield 26, 3) := by decide +kernel
theorem dX11_restore_51 : decode cX11_restore 51 = .ok (.invokestatic 356, 3) := by decide +kernel
theorem dX11_restore_54 : decode cX11_restore 54 = .ok (.iconst 1, 1) := by decide +kernel
theorem dX11_restore_55 : decode cX11_restore 55 = .ok (.ireturn, 1) := by decide +kernel
theorem dX11_gateOf_0 : decode cX11_gateOf 0 = .ok (.iload_n 1, 1) := by decide +kernel
theorem dX11_gateOf_1 : decode cX11_gateOf 1 = .ok (.iconst 1, 1) := by decide +kernel
theorem dX11_gateOf_2 : decode cX11_gateOf 2 = .ok (.invokestatic 134, 3) := by decide +kernel
theorem dX11_gateOf_5 : decode cX11_gateOf 5 = .ok (.iload_n 1, 1) := by decide +kernel
theorem dX11_gateOf_6 : decode cX11_gateOf 6 = .ok (.ifCond .ne 10, 3) := by decide +kernel
theorem dX11_gateOf_9 : decode cX11_gateOf 9 = .ok (.aload_n 0, 1) := by decide +kernel
theorem dX11_gateOf_10 : decode cX11_gateOf 10 = .ok (.getfield 19, 3) := by decide +kernel
theorem dX11_gateOf_13 : decode cX11_gateOf 13 = .ok (.goto 7, 3) := by decide +kernel
theorem dX11_gateOf_16 : decode cX11_gateOf 16 = .ok (.aload_n 0, 1) := by decide +kernel
theorem dX11_gateOf_17 : decode cX11_gateOf 17 = .ok (.getfield 23, 3) := by decide +kernel
theorem dX11_gateOf_20 : decode cX11_gateOf 20 = .ok (.areturn, 1) := by decide +kernel
theorem dX11_askKnown_0 : decode cX11_askKnown 0 = .ok (.iload_n 0, 1) := by decide +kernel
theorem dX11_askKnown_1 : decode cX11_askKnown 1 = .ok (.ifCond .lt 8, 3) := by decide +kernel
theorem dX11_askKnown_4 : decode cX11_askKnown 4 = .ok (.iload_n 0, 1) := by decide +kernel
theorem dX11_askKnown_5 : decode cX11_askKnown 5 = .ok (.iload_n 1, 1) := by decide +kernel
theorem dX11_askKnown_6 : decode cX11_askKnown 6 = .ok (.if_icmp .le 14, 3) := by decide +kernel
theorem dX11_askKnown_9 : decode cX11_askKnown 9 = .ok (.new 219, 3) := by decide +kernel
theorem dX11_askKnown_12 : decode cX11_askKnown 12 = .ok (.dup, 1) := by decide +kernel
theorem dX11_askKnown_13 : decode cX11_askKnown 13 = .ok (.ldc_w 360, 3) := by decide +kernel
theorem dX11_askKnown_16 : decode cX11_askKnown 16 = .ok (.invokespecial 223, 3) := by decide +kernel
theorem dX11_askKnown_19 : decode cX11_askKnown 19 = .ok (.athrow, 1) := by decide +kernel
theorem dX11_askKnown_20 : decode cX11_askKnown 20 = .ok (.return_, 1) := by decide +kernel
theorem dX11_askRange_0 : decode cX11_askRange 0 = .ok (.iload_n 0, 1) := by decide +kernel
theorem dX11_askRange_1 : decode cX11_askRange 1 = .ok (.iload_n 1, 1) := by decide +kernel
theorem dX11_askRange_2 : decode cX11_askRange 2 = .ok (.if_icmp .lt 8, 3) := by decide +kernel
theorem dX11_askRange_5 : decode cX11_askRange 5 = .ok (.iload_n 0, 1) := by decide +kernel
theorem dX11_askRange_6 : decode cX11_askRange 6 = .ok (.iload_n 2, 1) := by decide +kernel
theorem dX11_askRange_7 : decode cX11_askRange 7 = .ok (.if_icmp .le 14, 3) := by decide +kernel
theorem dX11_askRange_10 : decode cX11_askRange 10 = .ok (.new 332, 3) := by decide +kernel
theorem dX11_askRange_13 : decode cX11_askRange 13 = .ok (.dup, 1) := by decide +kernel
theorem dX11_askRange_14 : decode cX11_askRange 14 = .ok (.ldc_w 362, 3) := by decide +kernel
theorem dX11_askRange_17 : decode cX11_askRange 17 = .ok (.invokespecial 336, 3) := by decide +kernel
theorem dX11_askRange_20 : decode cX11_askRange 20 = .ok (.athrow, 1) := by decide +kernel
theorem dX11_askRange_21 : decode cX11_askRange 21 = .ok (.return_, 1) := by decide +kernel
theorem dX11_refused_0 : decode cX11_refused 0 = .ok (.aload_n 0, 1) := by decide +kernel
theorem dX11_refused_1 : decode cX11_refused 1 = .ok (.getfield 26, 3) := by decide +kernel
theorem dX11_refused_4 : decode cX11_refused 4 = .ok (.iload_n 1, 1) := by decide +kernel
theorem dX11_refused_5 : decode cX11_refused 5 = .ok (.aload_n 0, 1) := by decide +kernel
theorem dX11_refused_6 : decode cX11_refused 6 = .ok (.getfield 26, 3) := by decide +kernel
theorem dX11_refused_9 : decode cX11_refused 9 = .ok (.iload_n 1, 1) := by decide +kernel
theorem dX11_refused_10 : decode cX11_refused 10 = .ok (.invokestatic 138, 3) := by decide +kernel
theorem dX11_refused_13 : decode cX11_refused 13 = .ok (.iconst 1, 1) := by decide +kernel
theorem dX11_refused_14 : decode cX11_refused 14 = .ok (.iadd, 1) := by decide +kernel
theorem dX11_refused_15 : decode cX11_refused 15 = .ok (.invokestatic 321, 3) := by decide +kernel
theorem dX11_refused_18 : decode cX11_refused 18 = .ok (.return_, 1) := by decide +kernel
theorem dX11_walkAlong_0 : decode cX11_walkAlong 0 = .ok (.aload_n 0, 1) := by decide +kernel
theorem dX11_walkAlong_1 : decode cX11_walkAlong 1 = .ok (.getfield 50, 3) := by decide +kernel
theorem dX11_walkAlong_4 : decode cX11_walkAlong 4 = .ok (.aload_n 1, 1) := by decide +kernel
theorem dX11_walkAlong_5 : decode cX11_walkAlong 5 = .ok (.getfield 43, 3) := by decide +kernel
theorem dX11_walkAlong_8 : decode cX11_walkAlong 8 = .ok (.aload_n 1, 1) := by decide +kernel
theorem dX11_walkAlong_9 : decode cX11_walkAlong 9 = .ok (.getfield 43, 3) := by decide +kernel
theorem dX11_walkAlong_12 : decode cX11_walkAlong 12 = .ok (.getfield 164, 3) := by decide +kernel
theorem dX11_walkAlong_15 : decode cX11_walkAlong 15 = .ok (.invokevirtual 167, 3) := by decide +kernel
theorem dX11_walkAlong_18 : decode cX11_walkAlong 18 = .ok (.aload_n 0, 1) := by decide +kernel
theorem dX11_walkAlong_19 : decode cX11_walkAlong 19 = .ok (.getfield 59, 3) := by decide +kernel
theorem dX11_walkAlong_22 : decode cX11_walkAlong 22 = .ok (.aload_n 1, 1) := by decide +kernel
theorem dX11_walkAlong_23 : decode cX11_walkAlong 23 = .ok (.getfield 125, 3) := by decide +kernel
theorem dX11_walkAlong_26 : decode cX11_walkAlong 26 = .ok (.getfield 207, 3) := by decide +kernel
theorem dX11_walkAlong_29 : decode cX11_walkAlong 29 = .ok (.invokevirtual 236, 3) := by decide +kernel
theorem dX11_walkAlong_32 : decode cX11_walkAlong 32 = .ok (.aload_n 0, 1) := by decide +kernel
theorem dX11_walkAlong_33 : decode cX11_walkAlong 33 = .ok (.getfield 59, 3) := by decide +kernel
theorem dX11_walkAlong_36 : decode cX11_walkAlong 36 = .ok (.iload_n 2, 1) := by decide +kernel
theorem dX11_walkAlong_37 : decode cX11_walkAlong 37 = .ok (.invokevirtual 238, 3) := by decide +kernel
theorem dX11_walkAlong_40 : decode cX11_walkAlong 40 = .ok (.return_, 1) := by decide +kernel
theorem dX11_readClues_0 : decode cX11_readClues 0 = .ok (.aload_n 0, 1) := by decide +kernel
theorem dX11_readClues_1 : decode cX11_readClues 1 = .ok (.getfield 50, 3) := by decide +kernel
theorem dX11_readClues_4 : decode cX11_readClues 4 = .ok (.aload_n 1, 1) := by decide +kernel
theorem dX11_readClues_5 : decode cX11_readClues 5 = .ok (.getfield 43, 3) := by decide +kernel
theorem dX11_readClues_8 : decode cX11_readClues 8 = .ok (.aload_n 1, 1) := by decide +kernel
theorem dX11_readClues_9 : decode cX11_readClues 9 = .ok (.getfield 43, 3) := by decide +kernel
theorem dX11_readClues_12 : decode cX11_readClues 12 = .ok (.getfield 164, 3) := by decide +kernel
theorem dX11_readClues_15 : decode cX11_readClues 15 = .ok (.invokevirtual 167, 3) := by decide +kernel
theorem dX11_readClues_18 : decode cX11_readClues 18 = .ok (.aload_n 0, 1) := by decide +kernel
theorem dX11_readClues_19 : decode cX11_readClues 19 = .ok (.getfield 82, 3) := by decide +kernel
theorem dX11_readClues_22 : decode cX11_readClues 22 = .ok (.aload_n 1, 1) := by decide +kernel
theorem dX11_readClues_23 : decode cX11_readClues 23 = .ok (.getfield 125, 3) := by decide +kernel
theorem dX11_readClues_26 : decode cX11_readClues 26 = .ok (.invokevirtual 364, 3) := by decide +kernel
theorem dX11_readClues_29 : decode cX11_readClues 29 = .ok (.return_, 1) := by decide +kernel
theorem dX11_meanFrom_0 : decode cX11_meanFrom 0 = .ok (.aload_n 0, 1) := by decide +kernel
theorem dX11_meanFrom_1 : decode cX11_meanFrom 1 = .ok (.getfield 59, 3) := by decide +kernel
theorem dX11_meanFrom_4 : decode cX11_meanFrom 4 = .ok (.iload_n 1, 1) := by decide +kernel
theorem dX11_meanFrom_5 : decode cX11_meanFrom 5 = .ok (.invokevirtual 236, 3) := by decide +kernel
theorem dX11_meanFrom_8 : decode cX11_meanFrom 8 = .ok (.aload_n 0, 1) := by decide +kernel
theorem dX11_meanFrom_9 : decode cX11_meanFrom 9 = .ok (.getfield 59, 3) := by decide +kernel
theorem dX11_meanFrom_12 : decode cX11_meanFrom 12 = .ok (.sipush 200, 3) := by decide +kernel
theorem dX11_meanFrom_15 : decode cX11_meanFrom 15 = .ok (.invokevirtual 238, 3) := by decide +kernel
theorem dX11_meanFrom_18 : decode cX11_meanFrom 18 = .ok (.aload_n 0, 1) := by decide +kernel
theorem dX11_meanFrom_19 : decode cX11_meanFrom 19 = .ok (.getfield 59, 3) := by decide +kernel
theorem dX11_meanFrom_22 : decode cX11_meanFrom 22 = .ok (.invokevirtual 189, 3) := by decide +kernel
theorem dX11_meanFrom_25 : decode cX11_meanFrom 25 = .ok (.istore_n 2, 1) := by decide +kernel
theorem dX11_meanFrom_26 : decode cX11_meanFrom 26 = .ok (.aload_n 0, 1) := by decide +kernel
theorem dX11_meanFrom_27 : decode cX11_meanFrom 27 = .ok (.getfield 59, 3) := by decide +kernel
theorem dX11_meanFrom_30 : decode cX11_meanFrom 30 = .ok (.sipush 200, 3) := by decide +kernel
theorem dX11_meanFrom_33 : decode cX11_meanFrom 33 = .ok (.invokevirtual 238, 3) := by decide +kernel
theorem dX11_meanFrom_36 : decode cX11_meanFrom 36 = .ok (.aload_n 0, 1) := by decide +kernel
theorem dX11_meanFrom_37 : decode cX11_meanFrom 37 = .ok (.getfield 59, 3) := by decide +kernel
theorem dX11_meanFrom_40 : decode cX11_meanFrom 40 = .ok (.invokevirtual 189, 3) := by decide +kernel
theorem dX11_meanFrom_43 : decode cX11_meanFrom 43 = .ok (.iload_n 2, 1) := by decide +kernel
theorem dX11_meanFrom_44 : decode cX11_meanFrom 44 = .ok (.isub, 1) := by decide +kernel
theorem dX11_meanFrom_45 : decode cX11_meanFrom 45 = .ok (.sipush 200, 3) := by decide +kernel
theorem dX11_meanFrom_48 : decode cX11_meanFrom 48 = .ok (.idiv, 1) := by decide +kernel
theorem dX11_meanFrom_49 : decode cX11_meanFrom 49 = .ok (.ireturn, 1) := by decide +kernel
theorem dX11_searchSettings_0 : decode cX11_searchSettings 0 = .ok (.aload_n 0, 1) := by decide +kernel
theorem dX11_searchSettings_1 : decode cX11_searchSettings 1 = .ok (.iconst (-1), 1) := by decide +kernel
theorem dX11_searchSettings_2 : decode cX11_searchSettings 2 = .ok (.putfield 93, 3) := by decide +kernel
theorem dX11_searchSettings_5 : decode cX11_searchSettings 5 = .ok (.aload_n 0, 1) := by decide +kernel
theorem dX11_searchSettings_6 : decode cX11_searchSettings 6 = .ok (.iconst (-1), 1) := by decide +kernel
theorem dX11_searchSettings_7 : decode cX11_searchSettings 7 = .ok (.putfield 96, 3) := by decide +kernel
theorem dX11_searchSettings_10 : decode cX11_searchSettings 10 = .ok (.iconst 0, 1) := by decide +kernel
theorem dX11_searchSettings_11 : decode cX11_searchSettings 11 = .ok (.istore 4, 2) := by decide +kernel
theorem dX11_searchSettings_13 : decode cX11_searchSettings 13 = .ok (.iload 4, 2) := by decide +kernel
theorem dX11_searchSettings_15 : decode cX11_searchSettings 15 = .ok (.sipush 176, 3) := by decide +kernel
theorem dX11_searchSettings_18 : decode cX11_searchSettings 18 = .ok (.if_icmp .ge 114, 3) := by decide +kernel
theorem dX11_searchSettings_21 : decode cX11_searchSettings 21 = .ok (.aload_n 0, 1) := by decide +kernel
theorem dX11_searchSettings_22 : decode cX11_searchSettings 22 = .ok (.getfield 89, 3) := by decide +kernel
theorem dX11_searchSettings_25 : decode cX11_searchSettings 25 = .ok (.iload 4, 2) := by decide +kernel
theorem dX11_searchSettings_27 : decode cX11_searchSettings 27 = .ok (.invokevirtual 182, 3) := by decide +kernel
theorem dX11_searchSettings_30 : decode cX11_searchSettings 30 = .ok (.aload_n 1, 1) := by decide +kernel
theorem dX11_searchSettings_31 : decode cX11_searchSettings 31 = .ok (.getfield 43, 3) := by decide +kernel
theorem dX11_searchSettings_34 : decode cX11_searchSettings 34 = .ok (.aload_n 0, 1) := by decide +kernel
theorem dX11_searchSettings_35 : decode cX11_searchSettings 35 = .ok (.getfield 89, 3) := by decide +kernel
theorem dX11_searchSettings_38 : decode cX11_searchSettings 38 = .ok (.invokevirtual 366, 3) := by decide +kernel
theorem dX11_searchSettings_41 : decode cX11_searchSettings 41 = .ok (.ifCond .eq 6, 3) := by decide +kernel
theorem dX11_searchSettings_44 : decode cX11_searchSettings 44 = .ok (.goto 82, 3) := by decide +kernel
theorem dX11_searchSettings_47 : decode cX11_searchSettings 47 = .ok (.aload_n 0, 1) := by decide +kernel
theorem dX11_searchSettings_48 : decode cX11_searchSettings 48 = .ok (.getfield 50, 3) := by decide +kernel
theorem dX11_searchSettings_51 : decode cX11_searchSettings 51 = .ok (.aload_n 1, 1) := by decide +kernel
theorem dX11_searchSettings_52 : decode cX11_searchSettings 52 = .ok (.getfield 43, 3) := by decide +kernel
theorem dX11_searchSettings_55 : decode cX11_searchSettings 55 = .ok (.aload_n 0, 1) := by decide +kernel
theorem dX11_searchSettings_56 : decode cX11_searchSettings 56 = .ok (.getfield 89, 3) := by decide +kernel
theorem dX11_searchSettings_59 : decode cX11_searchSettings 59 = .ok (.invokevirtual 167, 3) := by decide +kernel
theorem dX11_searchSettings_62 : decode cX11_searchSettings 62 = .ok (.aload_n 0, 1) := by decide +kernel
theorem dX11_searchSettings_63 : decode cX11_searchSettings 63 = .ok (.getfield 59, 3) := by decide +kernel
theorem dX11_searchSettings_66 : decode cX11_searchSettings 66 = .ok (.aload_n 1, 1) := by decide +kernel
theorem dX11_searchSettings_67 : decode cX11_searchSettings 67 = .ok (.getfield 125, 3) := by decide +kernel
theorem dX11_searchSettings_70 : decode cX11_searchSettings 70 = .ok (.getfield 207, 3) := by decide +kernel
theorem dX11_searchSettings_73 : decode cX11_searchSettings 73 = .ok (.invokevirtual 236, 3) := by decide +kernel
theorem dX11_searchSettings_76 : decode cX11_searchSettings 76 = .ok (.aload_n 0, 1) := by decide +kernel
theorem dX11_searchSettings_77 : decode cX11_searchSettings 77 = .ok (.getfield 59, 3) := by decide +kernel
theorem dX11_searchSettings_80 : decode cX11_searchSettings 80 = .ok (.iload_n 2, 1) := by decide +kernel
theorem dX11_searchSettings_81 : decode cX11_searchSettings 81 = .ok (.invokevirtual 238, 3) := by decide +kernel
theorem dX11_searchSettings_84 : decode cX11_searchSettings 84 = .ok (.aload_n 0, 1) := by decide +kernel
theorem dX11_searchSettings_85 : decode cX11_searchSettings 85 = .ok (.getfield 59, 3) := by decide +kernel
theorem dX11_searchSettings_88 : decode cX11_searchSettings 88 = .ok (.invokevirtual 192, 3) := by decide +kernel
theorem dX11_searchSettings_91 : decode cX11_searchSettings 91 = .ok (.iload_n 3, 1) := by decide +kernel
theorem dX11_searchSettings_92 : decode cX11_searchSettings 92 = .ok (.if_icmp .gt 34, 3) := by decide +kernel
theorem dX11_searchSettings_95 : decode cX11_searchSettings 95 = .ok (.aload_n 0, 1) := by decide +kernel
theorem dX11_searchSettings_96 : decode cX11_searchSettings 96 = .ok (.getfield 59, 3) := by decide +kernel
theorem dX11_searchSettings_99 : decode cX11_searchSettings 99 = .ok (.invokevirtual 189, 3) := by decide +kernel
theorem dX11_searchSettings_102 : decode cX11_searchSettings 102 = .ok (.aload_n 0, 1) := by decide +kernel
theorem dX11_searchSettings_103 : decode cX11_searchSettings 103 = .ok (.getfield 96, 3) := by decide +kernel
theorem dX11_searchSettings_106 : decode cX11_searchSettings 106 = .ok (.if_icmp .le 20, 3) := by decide +kernel
theorem dX11_searchSettings_109 : decode cX11_searchSettings 109 = .ok (.aload_n 0, 1) := by decide +kernel
theorem dX11_searchSettings_110 : decode cX11_searchSettings 110 = .ok (.iload 4, 2) := by decide +kernel
theorem dX11_searchSettings_112 : decode cX11_searchSettings 112 = .ok (.putfield 93, 3) := by decide +kernel
theorem dX11_searchSettings_115 : decode cX11_searchSettings 115 = .ok (.aload_n 0, 1) := by decide +kernel
theorem dX11_searchSettings_116 : decode cX11_searchSettings 116 = .ok (.aload_n 0, 1) := by decide +kernel
theorem dX11_searchSettings_117 : decode cX11_searchSettings 117 = .ok (.getfield 59, 3) := by decide +kernel
theorem dX11_searchSettings_120 : decode cX11_searchSettings 120 = .ok (.invokevirtual 189, 3) := by decide +kernel
theorem dX11_searchSettings_123 : decode cX11_searchSettings 123 = .ok (.putfield 96, 3) := by decide +kernel
theorem dX11_searchSettings_126 : decode cX11_searchSettings 126 = .ok (.iinc 4 1, 3) := by decide +kernel
theorem dX11_searchSettings_129 : decode cX11_searchSettings 129 = .ok (.goto (-116), 3) := by decide +kernel
theorem dX11_searchSettings_132 : decode cX11_searchSettings 132 = .ok (.return_, 1) := by decide +kernel
theorem dX11_soonerOdds_0 : decode cX11_soonerOdds 0 = .ok (.aload_n 1, 1) := by decide +kernel
theorem dX11_soonerOdds_1 : decode cX11_soonerOdds 1 = .ok (.getfield 43, 3) := by decide +kernel
theorem dX11_soonerOdds_4 : decode cX11_soonerOdds 4 = .ok (.astore_n 3, 1) := by decide +kernel
theorem dX11_soonerOdds_5 : decode cX11_soonerOdds 5 = .ok (.aload_n 0, 1) := by decide +kernel
theorem dX11_soonerOdds_6 : decode cX11_soonerOdds 6 = .ok (.getfield 50, 3) := by decide +kernel
theorem dX11_soonerOdds_9 : decode cX11_soonerOdds 9 = .ok (.aload_n 3, 1) := by decide +kernel
theorem dX11_soonerOdds_10 : decode cX11_soonerOdds 10 = .ok (.aload_n 3, 1) := by decide +kernel
theorem dX11_soonerOdds_11 : decode cX11_soonerOdds 11 = .ok (.getfield 164, 3) := by decide +kernel
theorem dX11_soonerOdds_14 : decode cX11_soonerOdds 14 = .ok (.invokevirtual 167, 3) := by decide +kernel
theorem dX11_soonerOdds_17 : decode cX11_soonerOdds 17 = .ok (.iconst 0, 1) := by decide +kernel
theorem dX11_soonerOdds_18 : decode cX11_soonerOdds 18 = .ok (.istore 4, 2) := by decide +kernel
theorem dX11_soonerOdds_20 : decode cX11_soonerOdds 20 = .ok (.iconst 0, 1) := by decide +kernel
theorem dX11_soonerOdds_21 : decode cX11_soonerOdds 21 = .ok (.istore 5, 2) := by decide +kernel
theorem dX11_soonerOdds_23 : decode cX11_soonerOdds 23 = .ok (.iload 5, 2) := by decide +kernel
theorem dX11_soonerOdds_25 : decode cX11_soonerOdds 25 = .ok (.aload_n 3, 1) := by decide +kernel
theorem dX11_soonerOdds_26 : decode cX11_soonerOdds 26 = .ok (.getfield 148, 3) := by decide +kernel
theorem dX11_soonerOdds_29 : decode cX11_soonerOdds 29 = .ok (.if_icmp .ge 64, 3) := by decide +kernel
theorem dX11_soonerOdds_32 : decode cX11_soonerOdds 32 = .ok (.aload_n 0, 1) := by decide +kernel
theorem dX11_soonerOdds_33 : decode cX11_soonerOdds 33 = .ok (.getfield 50, 3) := by decide +kernel
theorem dX11_soonerOdds_36 : decode cX11_soonerOdds 36 = .ok (.iload 5, 2) := by decide +kernel
theorem dX11_soonerOdds_38 : decode cX11_soonerOdds 38 = .ok (.aload_n 1, 1) := by decide +kernel
theorem dX11_soonerOdds_39 : decode cX11_soonerOdds 39 = .ok (.getfield 125, 3) := by decide +kernel
theorem dX11_soonerOdds_42 : decode cX11_soonerOdds 42 = .ok (.getfield 207, 3) := by decide +kernel
theorem dX11_soonerOdds_45 : decode cX11_soonerOdds 45 = .ok (.iconst 0, 1) := by decide +kernel
theorem dX11_soonerOdds_46 : decode cX11_soonerOdds 46 = .ok (.invokevirtual 171, 3) := by decide +kernel
theorem dX11_soonerOdds_49 : decode cX11_soonerOdds 49 = .ok (.istore 6, 2) := by decide +kernel
theorem dX11_soonerOdds_51 : decode cX11_soonerOdds 51 = .ok (.iload 6, 2) := by decide +kernel
theorem dX11_soonerOdds_53 : decode cX11_soonerOdds 53 = .ok (.iconst (-1), 1) := by decide +kernel
theorem dX11_soonerOdds_54 : decode cX11_soonerOdds 54 = .ok (.if_icmp .eq 33, 3) := by decide +kernel
theorem dX11_soonerOdds_57 : decode cX11_soonerOdds 57 = .ok (.aload_n 3, 1) := by decide +kernel
theorem dX11_soonerOdds_58 : decode cX11_soonerOdds 58 = .ok (.iload 5, 2) := by decide +kernel
theorem dX11_soonerOdds_60 : decode cX11_soonerOdds 60 = .ok (.iload_n 2, 1) := by decide +kernel
theorem dX11_soonerOdds_61 : decode cX11_soonerOdds 61 = .ok (.invokevirtual 369, 3) := by decide +kernel
theorem dX11_soonerOdds_64 : decode cX11_soonerOdds 64 = .ok (.ifCond .eq 9, 3) := by decide +kernel
theorem dX11_soonerOdds_67 : decode cX11_soonerOdds 67 = .ok (.iload 6, 2) := by decide +kernel
theorem dX11_soonerOdds_69 : decode cX11_soonerOdds 69 = .ok (.iload_n 2, 1) := by decide +kernel
theorem dX11_soonerOdds_70 : decode cX11_soonerOdds 70 = .ok (.if_icmp .ge 17, 3) := by decide +kernel
theorem dX11_soonerOdds_73 : decode cX11_soonerOdds 73 = .ok (.iload 4, 2) := by decide +kernel
theorem dX11_soonerOdds_75 : decode cX11_soonerOdds 75 = .ok (.aload_n 3, 1) := by decide +kernel
theorem dX11_soonerOdds_76 : decode cX11_soonerOdds 76 = .ok (.getfield 151, 3) := by decide +kernel
theorem dX11_soonerOdds_79 : decode cX11_soonerOdds 79 = .ok (.iload 5, 2) := by decide +kernel
theorem dX11_soonerOdds_81 : decode cX11_soonerOdds 81 = .ok (.invokestatic 138, 3) := by decide +kernel
theorem dX11_soonerOdds_84 : decode cX11_soonerOdds 84 = .ok (.iadd, 1) := by decide +kernel
theorem dX11_soonerOdds_85 : decode cX11_soonerOdds 85 = .ok (.istore 4, 2) := by decide +kernel
theorem dX11_soonerOdds_87 : decode cX11_soonerOdds 87 = .ok (.iinc 5 1, 3) := by decide +kernel
theorem dX11_soonerOdds_90 : decode cX11_soonerOdds 90 = .ok (.goto (-67), 3) := by decide +kernel
theorem dX11_soonerOdds_93 : decode cX11_soonerOdds 93 = .ok (.iload 4, 2) := by decide +kernel
theorem dX11_soonerOdds_95 : decode cX11_soonerOdds 95 = .ok (.ireturn, 1) := by decide +kernel
theorem dX11_at_0 : decode cX11_at 0 = .ok (.iload_n 1, 1) := by decide +kernel
theorem dX11_at_1 : decode cX11_at 1 = .ok (.ifCond .lt 15, 3) := by decide +kernel
theorem dX11_at_4 : decode cX11_at 4 = .ok (.iload_n 1, 1) := by decide +kernel
theorem dX11_at_5 : decode cX11_at 5 = .ok (.aload_n 0, 1) := by decide +kernel
theorem dX11_at_6 : decode cX11_at 6 = .ok (.arraylength, 1) := by decide +kernel
theorem dX11_at_7 : decode cX11_at 7 = .ok (.if_icmp .ge 9, 3) := by decide +kernel
theorem dX11_at_10 : decode cX11_at 10 = .ok (.aload_n 0, 1) := by decide +kernel
theorem dX11_at_11 : decode cX11_at 11 = .ok (.iload_n 1, 1) := by decide +kernel
theorem dX11_at_12 : decode cX11_at 12 = .ok (.iaload, 1) := by decide +kernel
theorem dX11_at_13 : decode cX11_at 13 = .ok (.goto 4, 3) := by decide +kernel
theorem dX11_at_16 : decode cX11_at 16 = .ok (.iconst 0, 1) := by decide +kernel
theorem dX11_at_17 : decode cX11_at 17 = .ok (.ireturn, 1) := by decide +kernel
theorem dX11_put_0 : decode cX11_put 0 = .ok (.iload_n 1, 1) := by decide +kernel
theorem dX11_put_1 : decode cX11_put 1 = .ok (.ifCond .lt 13, 3) := by decide +kernel
theorem dX11_put_4 : decode cX11_put 4 = .ok (.iload_n 1, 1) := by decide +kernel
theorem dX11_put_5 : decode cX11_put 5 = .ok (.aload_n 0, 1) := by decide +kernel
theorem dX11_put_6 : decode cX11_put 6 = .ok (.arraylength, 1) := by decide +kernel
theorem dX11_put_7 : decode cX11_put 7 = .ok (.if_icmp .ge 7, 3) := by decide +kernel
theorem dX11_put_10 : decode cX11_put 10 = .ok (.aload_n 0, 1) := by decide +kernel
theorem dX11_put_11 : decode cX11_put 11 = .ok (.iload_n 1, 1) := by decide +kernel
theorem dX11_put_12 : decode cX11_put 12 = .ok (.iload_n 2, 1) := by decide +kernel
theorem dX11_put_13 : decode cX11_put 13 = .ok (.iastore, 1) := by decide +kernel
theorem dX11_put_14 : decode cX11_put 14 = .ok (.return_, 1) := by decide +kernel
theorem dX11_copy_0 : decode cX11_copy 0 = .ok (.iconst 0, 1) := by decide +kernel
theorem dX11_copy_1 : decode cX11_copy 1 = .ok (.istore_n 2, 1) := by decide +kernel
theorem dX11_copy_2 : decode cX11_copy 2 = .ok (.iload_n 2, 1) := by decide +kernel
theorem dX11_copy_3 : decode cX11_copy 3 = .ok (.aload_n 0, 1) := by decide +kernel
theorem dX11_copy_4 : decode cX11_copy 4 = .ok (.arraylength, 1) := by decide +kernel
theorem dX11_copy_5 : decode cX11_copy 5 = .ok (.if_icmp .ge 21, 3) := by decide +kernel
theorem dX11_copy_8 : decode cX11_copy 8 = .ok (.iload_n 2, 1) := by decide +kernel
theorem dX11_copy_9 : decode cX11_copy 9 = .ok (.aload_n 1, 1) := by decide +kernel
theorem dX11_copy_10 : decode cX11_copy 10 = .ok (.arraylength, 1) := by decide +kernel
theorem dX11_copy_11 : decode cX11_copy 11 = .ok (.if_icmp .ge 15, 3) := by decide +kernel
theorem dX11_copy_14 : decode cX11_copy 14 = .ok (.aload_n 1, 1) := by decide +kernel
theorem dX11_copy_15 : decode cX11_copy 15 = .ok (.iload_n 2, 1) := by decide +kernel
theorem dX11_copy_16 : decode cX11_copy 16 = .ok (.aload_n 0, 1) := by decide +kernel
theorem dX11_copy_17 : decode cX11_copy 17 = .ok (.iload_n 2, 1) := by decide +kernel
theorem dX11_copy_18 : decode cX11_copy 18 = .ok (.iaload, 1) := by decide +kernel
theorem dX11_copy_19 : decode cX11_copy 19 = .ok (.iastore, 1) := by decide +kernel
theorem dX11_copy_20 : decode cX11_copy 20 = .ok (.iinc 2 1, 3) := by decide +kernel
theorem dX11_copy_23 : decode cX11_copy 23 = .ok (.goto (-21), 3) := by decide +kernel
theorem dX11_copy_26 : decode cX11_copy 26 = .ok (.return_, 1) := by decide +kernel

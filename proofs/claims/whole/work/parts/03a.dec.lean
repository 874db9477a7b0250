theorem dX0_init_0 : decode cX0_init 0 = .ok (.aload_n 0, 1) := by decide +kernel
theorem dX0_init_1 : decode cX0_init 1 = .ok (.invokespecial 3, 3) := by decide +kernel
theorem dX0_init_4 : decode cX0_init 4 = .ok (.aload_n 0, 1) := by decide +kernel
theorem dX0_init_5 : decode cX0_init 5 = .ok (.iconst 0, 1) := by decide +kernel
theorem dX0_init_6 : decode cX0_init 6 = .ok (.putfield 9, 3) := by decide +kernel
theorem dX0_init_9 : decode cX0_init 9 = .ok (.aload_n 0, 1) := by decide +kernel
theorem dX0_init_10 : decode cX0_init 10 = .ok (.iconst 0, 1) := by decide +kernel
theorem dX0_init_11 : decode cX0_init 11 = .ok (.putfield 15, 3) := by decide +kernel
theorem dX0_init_14 : decode cX0_init 14 = .ok (.aload_n 0, 1) := by decide +kernel
theorem dX0_init_15 : decode cX0_init 15 = .ok (.iconst 0, 1) := by decide +kernel
theorem dX0_init_16 : decode cX0_init 16 = .ok (.putfield 18, 3) := by decide +kernel
theorem dX0_init_19 : decode cX0_init 19 = .ok (.aload_n 0, 1) := by decide +kernel
theorem dX0_init_20 : decode cX0_init 20 = .ok (.iconst 0, 1) := by decide +kernel
theorem dX0_init_21 : decode cX0_init 21 = .ok (.putfield 21, 3) := by decide +kernel
theorem dX0_init_24 : decode cX0_init 24 = .ok (.aload_n 0, 1) := by decide +kernel
theorem dX0_init_25 : decode cX0_init 25 = .ok (.iconst 0, 1) := by decide +kernel
theorem dX0_init_26 : decode cX0_init 26 = .ok (.putfield 24, 3) := by decide +kernel
theorem dX0_init_29 : decode cX0_init 29 = .ok (.aload_n 0, 1) := by decide +kernel
theorem dX0_init_30 : decode cX0_init 30 = .ok (.sipush 200, 3) := by decide +kernel
theorem dX0_init_33 : decode cX0_init 33 = .ok (.newarray .int, 2) := by decide +kernel
theorem dX0_init_35 : decode cX0_init 35 = .ok (.putfield 27, 3) := by decide +kernel
theorem dX0_init_38 : decode cX0_init 38 = .ok (.aload_n 0, 1) := by decide +kernel
theorem dX0_init_39 : decode cX0_init 39 = .ok (.bipush 32, 2) := by decide +kernel
theorem dX0_init_41 : decode cX0_init 41 = .ok (.newarray .int, 2) := by decide +kernel
theorem dX0_init_43 : decode cX0_init 43 = .ok (.putfield 31, 3) := by decide +kernel
theorem dX0_init_46 : decode cX0_init 46 = .ok (.return_, 1) := by decide +kernel
theorem dX0_clear_0 : decode cX0_clear 0 = .ok (.aload_n 0, 1) := by decide +kernel
theorem dX0_clear_1 : decode cX0_clear 1 = .ok (.iconst 0, 1) := by decide +kernel
theorem dX0_clear_2 : decode cX0_clear 2 = .ok (.invokevirtual 34, 3) := by decide +kernel
theorem dX0_clear_5 : decode cX0_clear 5 = .ok (.aload_n 0, 1) := by decide +kernel
theorem dX0_clear_6 : decode cX0_clear 6 = .ok (.iconst 0, 1) := by decide +kernel
theorem dX0_clear_7 : decode cX0_clear 7 = .ok (.putfield 21, 3) := by decide +kernel
theorem dX0_clear_10 : decode cX0_clear 10 = .ok (.aload_n 0, 1) := by decide +kernel
theorem dX0_clear_11 : decode cX0_clear 11 = .ok (.iconst 0, 1) := by decide +kernel
theorem dX0_clear_12 : decode cX0_clear 12 = .ok (.putfield 24, 3) := by decide +kernel
theorem dX0_clear_15 : decode cX0_clear 15 = .ok (.aload_n 0, 1) := by decide +kernel
theorem dX0_clear_16 : decode cX0_clear 16 = .ok (.getfield 31, 3) := by decide +kernel
theorem dX0_clear_19 : decode cX0_clear 19 = .ok (.iconst 0, 1) := by decide +kernel
theorem dX0_clear_20 : decode cX0_clear 20 = .ok (.invokestatic 38, 3) := by decide +kernel
theorem dX0_clear_23 : decode cX0_clear 23 = .ok (.return_, 1) := by decide +kernel
theorem dX0_beginAt_0 : decode cX0_beginAt 0 = .ok (.aload_n 0, 1) := by decide +kernel
theorem dX0_beginAt_1 : decode cX0_beginAt 1 = .ok (.iload_n 1, 1) := by decide +kernel
theorem dX0_beginAt_2 : decode cX0_beginAt 2 = .ok (.putfield 9, 3) := by decide +kernel
theorem dX0_beginAt_5 : decode cX0_beginAt 5 = .ok (.aload_n 0, 1) := by decide +kernel
theorem dX0_beginAt_6 : decode cX0_beginAt 6 = .ok (.iload_n 1, 1) := by decide +kernel
theorem dX0_beginAt_7 : decode cX0_beginAt 7 = .ok (.putfield 15, 3) := by decide +kernel
theorem dX0_beginAt_10 : decode cX0_beginAt 10 = .ok (.aload_n 0, 1) := by decide +kernel
theorem dX0_beginAt_11 : decode cX0_beginAt 11 = .ok (.iconst 0, 1) := by decide +kernel
theorem dX0_beginAt_12 : decode cX0_beginAt 12 = .ok (.putfield 18, 3) := by decide +kernel
theorem dX0_beginAt_15 : decode cX0_beginAt 15 = .ok (.return_, 1) := by decide +kernel
theorem dX0_becomeLike_0 : decode cX0_becomeLike 0 = .ok (.aload_n 0, 1) := by decide +kernel
theorem dX0_becomeLike_1 : decode cX0_becomeLike 1 = .ok (.aload_n 1, 1) := by decide +kernel
theorem dX0_becomeLike_2 : decode cX0_becomeLike 2 = .ok (.getfield 9, 3) := by decide +kernel
theorem dX0_becomeLike_5 : decode cX0_becomeLike 5 = .ok (.putfield 9, 3) := by decide +kernel
theorem dX0_becomeLike_8 : decode cX0_becomeLike 8 = .ok (.aload_n 0, 1) := by decide +kernel
theorem dX0_becomeLike_9 : decode cX0_becomeLike 9 = .ok (.aload_n 1, 1) := by decide +kernel
theorem dX0_becomeLike_10 : decode cX0_becomeLike 10 = .ok (.getfield 15, 3) := by decide +kernel
theorem dX0_becomeLike_13 : decode cX0_becomeLike 13 = .ok (.putfield 15, 3) := by decide +kernel
theorem dX0_becomeLike_16 : decode cX0_becomeLike 16 = .ok (.aload_n 0, 1) := by decide +kernel
theorem dX0_becomeLike_17 : decode cX0_becomeLike 17 = .ok (.aload_n 1, 1) := by decide +kernel
theorem dX0_becomeLike_18 : decode cX0_becomeLike 18 = .ok (.getfield 18, 3) := by decide +kernel
theorem dX0_becomeLike_21 : decode cX0_becomeLike 21 = .ok (.putfield 18, 3) := by decide +kernel
theorem dX0_becomeLike_24 : decode cX0_becomeLike 24 = .ok (.aload_n 0, 1) := by decide +kernel
theorem dX0_becomeLike_25 : decode cX0_becomeLike 25 = .ok (.aload_n 1, 1) := by decide +kernel
theorem dX0_becomeLike_26 : decode cX0_becomeLike 26 = .ok (.getfield 21, 3) := by decide +kernel
theorem dX0_becomeLike_29 : decode cX0_becomeLike 29 = .ok (.putfield 21, 3) := by decide +kernel
theorem dX0_becomeLike_32 : decode cX0_becomeLike 32 = .ok (.aload_n 0, 1) := by decide +kernel
theorem dX0_becomeLike_33 : decode cX0_becomeLike 33 = .ok (.aload_n 1, 1) := by decide +kernel
theorem dX0_becomeLike_34 : decode cX0_becomeLike 34 = .ok (.getfield 24, 3) := by decide +kernel
theorem dX0_becomeLike_37 : decode cX0_becomeLike 37 = .ok (.putfield 24, 3) := by decide +kernel
theorem dX0_becomeLike_40 : decode cX0_becomeLike 40 = .ok (.aload_n 1, 1) := by decide +kernel
theorem dX0_becomeLike_41 : decode cX0_becomeLike 41 = .ok (.getfield 27, 3) := by decide +kernel
theorem dX0_becomeLike_44 : decode cX0_becomeLike 44 = .ok (.aload_n 0, 1) := by decide +kernel
theorem dX0_becomeLike_45 : decode cX0_becomeLike 45 = .ok (.getfield 27, 3) := by decide +kernel
theorem dX0_becomeLike_48 : decode cX0_becomeLike 48 = .ok (.invokestatic 44, 3) := by decide +kernel
theorem dX0_becomeLike_51 : decode cX0_becomeLike 51 = .ok (.aload_n 1, 1) := by decide +kernel
theorem dX0_becomeLike_52 : decode cX0_becomeLike 52 = .ok (.getfield 31, 3) := by decide +kernel
theorem dX0_becomeLike_55 : decode cX0_becomeLike 55 = .ok (.aload_n 0, 1) := by decide +kernel
theorem dX0_becomeLike_56 : decode cX0_becomeLike 56 = .ok (.getfield 31, 3) := by decide +kernel
theorem dX0_becomeLike_59 : decode cX0_becomeLike 59 = .ok (.invokestatic 44, 3) := by decide +kernel
theorem dX0_becomeLike_62 : decode cX0_becomeLike 62 = .ok (.return_, 1) := by decide +kernel
theorem dX0_told_0 : decode cX0_told 0 = .ok (.iload_n 1, 1) := by decide +kernel
theorem dX0_told_1 : decode cX0_told 1 = .ok (.tableswitch 51 9 12 #[31, 36, 41, 46], 31) := by decide +kernel
theorem dX0_told_32 : decode cX0_told 32 = .ok (.aload_n 0, 1) := by decide +kernel
theorem dX0_told_33 : decode cX0_told 33 = .ok (.getfield 9, 3) := by decide +kernel
theorem dX0_told_36 : decode cX0_told 36 = .ok (.ireturn, 1) := by decide +kernel
theorem dX0_told_37 : decode cX0_told 37 = .ok (.aload_n 0, 1) := by decide +kernel
theorem dX0_told_38 : decode cX0_told 38 = .ok (.getfield 18, 3) := by decide +kernel
theorem dX0_told_41 : decode cX0_told 41 = .ok (.ireturn, 1) := by decide +kernel
theorem dX0_told_42 : decode cX0_told 42 = .ok (.aload_n 0, 1) := by decide +kernel
theorem dX0_told_43 : decode cX0_told 43 = .ok (.getfield 21, 3) := by decide +kernel
theorem dX0_told_46 : decode cX0_told 46 = .ok (.ireturn, 1) := by decide +kernel
theorem dX0_told_47 : decode cX0_told 47 = .ok (.aload_n 0, 1) := by decide +kernel
theorem dX0_told_48 : decode cX0_told 48 = .ok (.getfield 24, 3) := by decide +kernel
theorem dX0_told_51 : decode cX0_told 51 = .ok (.ireturn, 1) := by decide +kernel
theorem dX0_told_52 : decode cX0_told 52 = .ok (.aload_n 0, 1) := by decide +kernel
theorem dX0_told_53 : decode cX0_told 53 = .ok (.getfield 15, 3) := by decide +kernel
theorem dX0_told_56 : decode cX0_told 56 = .ok (.ireturn, 1) := by decide +kernel
theorem dX0_write_0 : decode cX0_write 0 = .ok (.aload_n 0, 1) := by decide +kernel
theorem dX0_write_1 : decode cX0_write 1 = .ok (.getfield 18, 3) := by decide +kernel
theorem dX0_write_4 : decode cX0_write 4 = .ok (.sipush 200, 3) := by decide +kernel
theorem dX0_write_7 : decode cX0_write 7 = .ok (.if_icmp .ge 25, 3) := by decide +kernel
theorem dX0_write_10 : decode cX0_write 10 = .ok (.aload_n 0, 1) := by decide +kernel
theorem dX0_write_11 : decode cX0_write 11 = .ok (.getfield 27, 3) := by decide +kernel
theorem dX0_write_14 : decode cX0_write 14 = .ok (.aload_n 0, 1) := by decide +kernel
theorem dX0_write_15 : decode cX0_write 15 = .ok (.getfield 18, 3) := by decide +kernel
theorem dX0_write_18 : decode cX0_write 18 = .ok (.iload_n 1, 1) := by decide +kernel
theorem dX0_write_19 : decode cX0_write 19 = .ok (.invokestatic 48, 3) := by decide +kernel
theorem dX0_write_22 : decode cX0_write 22 = .ok (.aload_n 0, 1) := by decide +kernel
theorem dX0_write_23 : decode cX0_write 23 = .ok (.dup, 1) := by decide +kernel
theorem dX0_write_24 : decode cX0_write 24 = .ok (.getfield 18, 3) := by decide +kernel
theorem dX0_write_27 : decode cX0_write 27 = .ok (.iconst 1, 1) := by decide +kernel
theorem dX0_write_28 : decode cX0_write 28 = .ok (.iadd, 1) := by decide +kernel
theorem dX0_write_29 : decode cX0_write 29 = .ok (.putfield 18, 3) := by decide +kernel
theorem dX0_write_32 : decode cX0_write 32 = .ok (.return_, 1) := by decide +kernel
theorem dX0_guessedOdds_0 : decode cX0_guessedOdds 0 = .ok (.iconst 0, 1) := by decide +kernel
theorem dX0_guessedOdds_1 : decode cX0_guessedOdds 1 = .ok (.istore_n 3, 1) := by decide +kernel
theorem dX0_guessedOdds_2 : decode cX0_guessedOdds 2 = .ok (.iconst 0, 1) := by decide +kernel
theorem dX0_guessedOdds_3 : decode cX0_guessedOdds 3 = .ok (.istore 4, 2) := by decide +kernel
theorem dX0_guessedOdds_5 : decode cX0_guessedOdds 5 = .ok (.iload 4, 2) := by decide +kernel
theorem dX0_guessedOdds_7 : decode cX0_guessedOdds 7 = .ok (.bipush 8, 2) := by decide +kernel
theorem dX0_guessedOdds_9 : decode cX0_guessedOdds 9 = .ok (.if_icmp .ge 36, 3) := by decide +kernel
theorem dX0_guessedOdds_12 : decode cX0_guessedOdds 12 = .ok (.iload_n 2, 1) := by decide +kernel
theorem dX0_guessedOdds_13 : decode cX0_guessedOdds 13 = .ok (.iload 4, 2) := by decide +kernel
theorem dX0_guessedOdds_15 : decode cX0_guessedOdds 15 = .ok (.ishr, 1) := by decide +kernel
theorem dX0_guessedOdds_16 : decode cX0_guessedOdds 16 = .ok (.iconst 1, 1) := by decide +kernel
theorem dX0_guessedOdds_17 : decode cX0_guessedOdds 17 = .ok (.iand, 1) := by decide +kernel
theorem dX0_guessedOdds_18 : decode cX0_guessedOdds 18 = .ok (.iconst 1, 1) := by decide +kernel
theorem dX0_guessedOdds_19 : decode cX0_guessedOdds 19 = .ok (.if_icmp .ne 20, 3) := by decide +kernel
theorem dX0_guessedOdds_22 : decode cX0_guessedOdds 22 = .ok (.iload_n 3, 1) := by decide +kernel
theorem dX0_guessedOdds_23 : decode cX0_guessedOdds 23 = .ok (.aload_n 0, 1) := by decide +kernel
theorem dX0_guessedOdds_24 : decode cX0_guessedOdds 24 = .ok (.getfield 31, 3) := by decide +kernel
theorem dX0_guessedOdds_27 : decode cX0_guessedOdds 27 = .ok (.iload_n 1, 1) := by decide +kernel
theorem dX0_guessedOdds_28 : decode cX0_guessedOdds 28 = .ok (.bipush 8, 2) := by decide +kernel
theorem dX0_guessedOdds_30 : decode cX0_guessedOdds 30 = .ok (.imul, 1) := by decide +kernel
theorem dX0_guessedOdds_31 : decode cX0_guessedOdds 31 = .ok (.iload 4, 2) := by decide +kernel
theorem dX0_guessedOdds_33 : decode cX0_guessedOdds 33 = .ok (.iadd, 1) := by decide +kernel
theorem dX0_guessedOdds_34 : decode cX0_guessedOdds 34 = .ok (.invokestatic 52, 3) := by decide +kernel
theorem dX0_guessedOdds_37 : decode cX0_guessedOdds 37 = .ok (.iadd, 1) := by decide +kernel
theorem dX0_guessedOdds_38 : decode cX0_guessedOdds 38 = .ok (.istore_n 3, 1) := by decide +kernel
theorem dX0_guessedOdds_39 : decode cX0_guessedOdds 39 = .ok (.iinc 4 1, 3) := by decide +kernel
theorem dX0_guessedOdds_42 : decode cX0_guessedOdds 42 = .ok (.goto (-37), 3) := by decide +kernel
theorem dX0_guessedOdds_45 : decode cX0_guessedOdds 45 = .ok (.iload_n 3, 1) := by decide +kernel
theorem dX0_guessedOdds_46 : decode cX0_guessedOdds 46 = .ok (.ireturn, 1) := by decide +kernel
theorem dX1_init_0 : decode cX1_init 0 = .ok (.aload_n 0, 1) := by decide +kernel
theorem dX1_init_1 : decode cX1_init 1 = .ok (.invokespecial 1, 3) := by decide +kernel
theorem dX1_init_4 : decode cX1_init 4 = .ok (.aload_n 0, 1) := by decide +kernel
theorem dX1_init_5 : decode cX1_init 5 = .ok (.iconst 0, 1) := by decide +kernel
theorem dX1_init_6 : decode cX1_init 6 = .ok (.putfield 7, 3) := by decide +kernel
theorem dX1_init_9 : decode cX1_init 9 = .ok (.aload_n 0, 1) := by decide +kernel
theorem dX1_init_10 : decode cX1_init 10 = .ok (.aload_n 1, 1) := by decide +kernel
theorem dX1_init_11 : decode cX1_init 11 = .ok (.putfield 13, 3) := by decide +kernel
theorem dX1_init_14 : decode cX1_init 14 = .ok (.aload_n 0, 1) := by decide +kernel
theorem dX1_init_15 : decode cX1_init 15 = .ok (.aload_n 2, 1) := by decide +kernel
theorem dX1_init_16 : decode cX1_init 16 = .ok (.putfield 17, 3) := by decide +kernel
theorem dX1_init_19 : decode cX1_init 19 = .ok (.return_, 1) := by decide +kernel
theorem dX1_clear_0 : decode cX1_clear 0 = .ok (.iconst 0, 1) := by decide +kernel
theorem dX1_clear_1 : decode cX1_clear 1 = .ok (.istore_n 1, 1) := by decide +kernel
theorem dX1_clear_2 : decode cX1_clear 2 = .ok (.iload_n 1, 1) := by decide +kernel
theorem dX1_clear_3 : decode cX1_clear 3 = .ok (.aload_n 0, 1) := by decide +kernel
theorem dX1_clear_4 : decode cX1_clear 4 = .ok (.getfield 7, 3) := by decide +kernel
theorem dX1_clear_7 : decode cX1_clear 7 = .ok (.if_icmp .ge 25, 3) := by decide +kernel
theorem dX1_clear_10 : decode cX1_clear 10 = .ok (.aload_n 0, 1) := by decide +kernel
theorem dX1_clear_11 : decode cX1_clear 11 = .ok (.getfield 13, 3) := by decide +kernel
theorem dX1_clear_14 : decode cX1_clear 14 = .ok (.aload_n 0, 1) := by decide +kernel
theorem dX1_clear_15 : decode cX1_clear 15 = .ok (.getfield 17, 3) := by decide +kernel
theorem dX1_clear_18 : decode cX1_clear 18 = .ok (.iload_n 1, 1) := by decide +kernel
theorem dX1_clear_19 : decode cX1_clear 19 = .ok (.invokestatic 20, 3) := by decide +kernel
theorem dX1_clear_22 : decode cX1_clear 22 = .ok (.iconst 0, 1) := by decide +kernel
theorem dX1_clear_23 : decode cX1_clear 23 = .ok (.invokestatic 26, 3) := by decide +kernel
theorem dX1_clear_26 : decode cX1_clear 26 = .ok (.iinc 1 1, 3) := by decide +kernel
theorem dX1_clear_29 : decode cX1_clear 29 = .ok (.goto (-27), 3) := by decide +kernel
theorem dX1_clear_32 : decode cX1_clear 32 = .ok (.aload_n 0, 1) := by decide +kernel
theorem dX1_clear_33 : decode cX1_clear 33 = .ok (.iconst 0, 1) := by decide +kernel
theorem dX1_clear_34 : decode cX1_clear 34 = .ok (.putfield 7, 3) := by decide +kernel
theorem dX1_clear_37 : decode cX1_clear 37 = .ok (.return_, 1) := by decide +kernel
theorem dX1_add_0 : decode cX1_add 0 = .ok (.iload_n 2, 1) := by decide +kernel
theorem dX1_add_1 : decode cX1_add 1 = .ok (.ifCond .ne 4, 3) := by decide +kernel
theorem dX1_add_4 : decode cX1_add 4 = .ok (.return_, 1) := by decide +kernel
theorem dX1_add_5 : decode cX1_add 5 = .ok (.aload_n 0, 1) := by decide +kernel
theorem dX1_add_6 : decode cX1_add 6 = .ok (.getfield 13, 3) := by decide +kernel
theorem dX1_add_9 : decode cX1_add 9 = .ok (.iload_n 1, 1) := by decide +kernel
theorem dX1_add_10 : decode cX1_add 10 = .ok (.invokestatic 20, 3) := by decide +kernel
theorem dX1_add_13 : decode cX1_add 13 = .ok (.istore_n 3, 1) := by decide +kernel
theorem dX1_add_14 : decode cX1_add 14 = .ok (.iload_n 3, 1) := by decide +kernel
theorem dX1_add_15 : decode cX1_add 15 = .ok (.ifCond .ne 25, 3) := by decide +kernel
theorem dX1_add_18 : decode cX1_add 18 = .ok (.aload_n 0, 1) := by decide +kernel
theorem dX1_add_19 : decode cX1_add 19 = .ok (.getfield 17, 3) := by decide +kernel
theorem dX1_add_22 : decode cX1_add 22 = .ok (.aload_n 0, 1) := by decide +kernel
theorem dX1_add_23 : decode cX1_add 23 = .ok (.getfield 7, 3) := by decide +kernel
theorem dX1_add_26 : decode cX1_add 26 = .ok (.iload_n 1, 1) := by decide +kernel
theorem dX1_add_27 : decode cX1_add 27 = .ok (.invokestatic 26, 3) := by decide +kernel
theorem dX1_add_30 : decode cX1_add 30 = .ok (.aload_n 0, 1) := by decide +kernel
theorem dX1_add_31 : decode cX1_add 31 = .ok (.dup, 1) := by decide +kernel
theorem dX1_add_32 : decode cX1_add 32 = .ok (.getfield 7, 3) := by decide +kernel
theorem dX1_add_35 : decode cX1_add 35 = .ok (.iconst 1, 1) := by decide +kernel
theorem dX1_add_36 : decode cX1_add 36 = .ok (.iadd, 1) := by decide +kernel
theorem dX1_add_37 : decode cX1_add 37 = .ok (.putfield 7, 3) := by decide +kernel
theorem dX1_add_40 : decode cX1_add 40 = .ok (.aload_n 0, 1) := by decide +kernel
theorem dX1_add_41 : decode cX1_add 41 = .ok (.getfield 13, 3) := by decide +kernel
theorem dX1_add_44 : decode cX1_add 44 = .ok (.iload_n 1, 1) := by decide +kernel
theorem dX1_add_45 : decode cX1_add 45 = .ok (.iload_n 3, 1) := by decide +kernel
theorem dX1_add_46 : decode cX1_add 46 = .ok (.iload_n 2, 1) := by decide +kernel
theorem dX1_add_47 : decode cX1_add 47 = .ok (.iadd, 1) := by decide +kernel
theorem dX1_add_48 : decode cX1_add 48 = .ok (.invokestatic 26, 3) := by decide +kernel
theorem dX1_add_51 : decode cX1_add 51 = .ok (.return_, 1) := by decide +kernel
theorem dX1_isLike_0 : decode cX1_isLike 0 = .ok (.aload_n 0, 1) := by decide +kernel
theorem dX1_isLike_1 : decode cX1_isLike 1 = .ok (.getfield 7, 3) := by decide +kernel
theorem dX1_isLike_4 : decode cX1_isLike 4 = .ok (.aload_n 1, 1) := by decide +kernel
theorem dX1_isLike_5 : decode cX1_isLike 5 = .ok (.getfield 7, 3) := by decide +kernel
theorem dX1_isLike_8 : decode cX1_isLike 8 = .ok (.if_icmp .eq 5, 3) := by decide +kernel
theorem dX1_isLike_11 : decode cX1_isLike 11 = .ok (.iconst 0, 1) := by decide +kernel
theorem dX1_isLike_12 : decode cX1_isLike 12 = .ok (.ireturn, 1) := by decide +kernel
theorem dX1_isLike_13 : decode cX1_isLike 13 = .ok (.iconst 0, 1) := by decide +kernel
theorem dX1_isLike_14 : decode cX1_isLike 14 = .ok (.istore_n 2, 1) := by decide +kernel
theorem dX1_isLike_15 : decode cX1_isLike 15 = .ok (.iload_n 2, 1) := by decide +kernel
theorem dX1_isLike_16 : decode cX1_isLike 16 = .ok (.aload_n 0, 1) := by decide +kernel
theorem dX1_isLike_17 : decode cX1_isLike 17 = .ok (.getfield 7, 3) := by decide +kernel
theorem dX1_isLike_20 : decode cX1_isLike 20 = .ok (.if_icmp .ge 33, 3) := by decide +kernel
theorem dX1_isLike_23 : decode cX1_isLike 23 = .ok (.aload_n 0, 1) := by decide +kernel
theorem dX1_isLike_24 : decode cX1_isLike 24 = .ok (.getfield 17, 3) := by decide +kernel
theorem dX1_isLike_27 : decode cX1_isLike 27 = .ok (.iload_n 2, 1) := by decide +kernel
theorem dX1_isLike_28 : decode cX1_isLike 28 = .ok (.invokestatic 20, 3) := by decide +kernel
theorem dX1_isLike_31 : decode cX1_isLike 31 = .ok (.istore_n 3, 1) := by decide +kernel
theorem dX1_isLike_32 : decode cX1_isLike 32 = .ok (.aload_n 0, 1) := by decide +kernel
theorem dX1_isLike_33 : decode cX1_isLike 33 = .ok (.iload_n 3, 1) := by decide +kernel
theorem dX1_isLike_34 : decode cX1_isLike 34 = .ok (.invokevirtual 30, 3) := by decide +kernel
theorem dX1_isLike_37 : decode cX1_isLike 37 = .ok (.aload_n 1, 1) := by decide +kernel
theorem dX1_isLike_38 : decode cX1_isLike 38 = .ok (.iload_n 3, 1) := by decide +kernel
theorem dX1_isLike_39 : decode cX1_isLike 39 = .ok (.invokevirtual 30, 3) := by decide +kernel
theorem dX1_isLike_42 : decode cX1_isLike 42 = .ok (.if_icmp .eq 5, 3) := by decide +kernel
theorem dX1_isLike_45 : decode cX1_isLike 45 = .ok (.iconst 0, 1) := by decide +kernel
theorem dX1_isLike_46 : decode cX1_isLike 46 = .ok (.ireturn, 1) := by decide +kernel
theorem dX1_isLike_47 : decode cX1_isLike 47 = .ok (.iinc 2 1, 3) := by decide +kernel
theorem dX1_isLike_50 : decode cX1_isLike 50 = .ok (.goto (-35), 3) := by decide +kernel
theorem dX1_isLike_53 : decode cX1_isLike 53 = .ok (.iconst 1, 1) := by decide +kernel
theorem dX1_isLike_54 : decode cX1_isLike 54 = .ok (.ireturn, 1) := by decide +kernel
theorem dX1_placeOf_0 : decode cX1_placeOf 0 = .ok (.aload_n 0, 1) := by decide +kernel
theorem dX1_placeOf_1 : decode cX1_placeOf 1 = .ok (.getfield 17, 3) := by decide +kernel
theorem dX1_placeOf_4 : decode cX1_placeOf 4 = .ok (.iload_n 1, 1) := by decide +kernel
theorem dX1_placeOf_5 : decode cX1_placeOf 5 = .ok (.invokestatic 20, 3) := by decide +kernel
theorem dX1_placeOf_8 : decode cX1_placeOf 8 = .ok (.ireturn, 1) := by decide +kernel
theorem dX1_amountOf_0 : decode cX1_amountOf 0 = .ok (.aload_n 0, 1) := by decide +kernel
theorem dX1_amountOf_1 : decode cX1_amountOf 1 = .ok (.getfield 13, 3) := by decide +kernel
theorem dX1_amountOf_4 : decode cX1_amountOf 4 = .ok (.iload_n 1, 1) := by decide +kernel
theorem dX1_amountOf_5 : decode cX1_amountOf 5 = .ok (.invokestatic 20, 3) := by decide +kernel
theorem dX1_amountOf_8 : decode cX1_amountOf 8 = .ok (.ireturn, 1) := by decide +kernel
theorem dX2_init_0 : decode cX2_init 0 = .ok (.aload_n 0, 1) := by decide +kernel
theorem dX2_init_1 : decode cX2_init 1 = .ok (.invokespecial 3, 3) := by decide +kernel
theorem dX2_init_4 : decode cX2_init 4 = .ok (.aload_n 0, 1) := by decide +kernel
theorem dX2_init_5 : decode cX2_init 5 = .ok (.sipush 200, 3) := by decide +kernel
theorem dX2_init_8 : decode cX2_init 8 = .ok (.newarray .int, 2) := by decide +kernel
theorem dX2_init_10 : decode cX2_init 10 = .ok (.putfield 9, 3) := by decide +kernel
theorem dX2_init_13 : decode cX2_init 13 = .ok (.aload_n 0, 1) := by decide +kernel
theorem dX2_init_14 : decode cX2_init 14 = .ok (.sipush 200, 3) := by decide +kernel
theorem dX2_init_17 : decode cX2_init 17 = .ok (.newarray .int, 2) := by decide +kernel
theorem dX2_init_19 : decode cX2_init 19 = .ok (.putfield 15, 3) := by decide +kernel
theorem dX2_init_22 : decode cX2_init 22 = .ok (.aload_n 0, 1) := by decide +kernel
theorem dX2_init_23 : decode cX2_init 23 = .ok (.iconst 0, 1) := by decide +kernel
theorem dX2_init_24 : decode cX2_init 24 = .ok (.putfield 18, 3) := by decide +kernel
theorem dX2_init_27 : decode cX2_init 27 = .ok (.aload_n 0, 1) := by decide +kernel
theorem dX2_init_28 : decode cX2_init 28 = .ok (.iconst 4, 1) := by decide +kernel
theorem dX2_init_29 : decode cX2_init 29 = .ok (.newarray .int, 2) := by decide +kernel
theorem dX2_init_31 : decode cX2_init 31 = .ok (.putfield 22, 3) := by decide +kernel
theorem dX2_init_34 : decode cX2_init 34 = .ok (.aload_n 0, 1) := by decide +kernel
theorem dX2_init_35 : decode cX2_init 35 = .ok (.iconst 4, 1) := by decide +kernel
theorem dX2_init_36 : decode cX2_init 36 = .ok (.newarray .int, 2) := by decide +kernel
theorem dX2_init_38 : decode cX2_init 38 = .ok (.putfield 25, 3) := by decide +kernel
theorem dX2_init_41 : decode cX2_init 41 = .ok (.aload_n 0, 1) := by decide +kernel
theorem dX2_init_42 : decode cX2_init 42 = .ok (.aload_n 1, 1) := by decide +kernel
theorem dX2_init_43 : decode cX2_init 43 = .ok (.putfield 28, 3) := by decide +kernel
theorem dX2_init_46 : decode cX2_init 46 = .ok (.return_, 1) := by decide +kernel
theorem dX2_read_0 : decode cX2_read 0 = .ok (.aload_n 0, 1) := by decide +kernel
theorem dX2_read_1 : decode cX2_read 1 = .ok (.aload_n 1, 1) := by decide +kernel
theorem dX2_read_2 : decode cX2_read 2 = .ok (.getfield 32, 3) := by decide +kernel
theorem dX2_read_5 : decode cX2_read 5 = .ok (.putfield 18, 3) := by decide +kernel
theorem dX2_read_8 : decode cX2_read 8 = .ok (.aload_n 1, 1) := by decide +kernel
theorem dX2_read_9 : decode cX2_read 9 = .ok (.getfield 35, 3) := by decide +kernel
theorem dX2_read_12 : decode cX2_read 12 = .ok (.istore_n 2, 1) := by decide +kernel
theorem dX2_read_13 : decode cX2_read 13 = .ok (.iconst 0, 1) := by decide +kernel
theorem dX2_read_14 : decode cX2_read 14 = .ok (.istore_n 3, 1) := by decide +kernel
theorem dX2_read_15 : decode cX2_read 15 = .ok (.iload_n 3, 1) := by decide +kernel
theorem dX2_read_16 : decode cX2_read 16 = .ok (.aload_n 0, 1) := by decide +kernel
theorem dX2_read_17 : decode cX2_read 17 = .ok (.getfield 18, 3) := by decide +kernel
theorem dX2_read_20 : decode cX2_read 20 = .ok (.if_icmp .ge 57, 3) := by decide +kernel
theorem dX2_read_23 : decode cX2_read 23 = .ok (.aload_n 1, 1) := by decide +kernel
theorem dX2_read_24 : decode cX2_read 24 = .ok (.getfield 38, 3) := by decide +kernel
theorem dX2_read_27 : decode cX2_read 27 = .ok (.iload_n 3, 1) := by decide +kernel
theorem dX2_read_28 : decode cX2_read 28 = .ok (.invokestatic 41, 3) := by decide +kernel
theorem dX2_read_31 : decode cX2_read 31 = .ok (.istore 4, 2) := by decide +kernel
theorem dX2_read_33 : decode cX2_read 33 = .ok (.aload_n 0, 1) := by decide +kernel
theorem dX2_read_34 : decode cX2_read 34 = .ok (.getfield 9, 3) := by decide +kernel
theorem dX2_read_37 : decode cX2_read 37 = .ok (.iload_n 3, 1) := by decide +kernel
theorem dX2_read_38 : decode cX2_read 38 = .ok (.iload_n 2, 1) := by decide +kernel
theorem dX2_read_39 : decode cX2_read 39 = .ok (.invokestatic 45, 3) := by decide +kernel
theorem dX2_read_42 : decode cX2_read 42 = .ok (.aload_n 0, 1) := by decide +kernel
theorem dX2_read_43 : decode cX2_read 43 = .ok (.getfield 15, 3) := by decide +kernel
theorem dX2_read_46 : decode cX2_read 46 = .ok (.iload_n 3, 1) := by decide +kernel
theorem dX2_read_47 : decode cX2_read 47 = .ok (.aload_n 0, 1) := by decide +kernel
theorem dX2_read_48 : decode cX2_read 48 = .ok (.iload 4, 2) := by decide +kernel
theorem dX2_read_50 : decode cX2_read 50 = .ok (.iload_n 2, 1) := by decide +kernel
theorem dX2_read_51 : decode cX2_read 51 = .ok (.invokevirtual 49, 3) := by decide +kernel
theorem dX2_read_54 : decode cX2_read 54 = .ok (.invokestatic 45, 3) := by decide +kernel
theorem dX2_read_57 : decode cX2_read 57 = .ok (.aload_n 0, 1) := by decide +kernel
theorem dX2_read_58 : decode cX2_read 58 = .ok (.getfield 28, 3) := by decide +kernel
theorem dX2_read_61 : decode cX2_read 61 = .ok (.getfield 53, 3) := by decide +kernel
theorem dX2_read_64 : decode cX2_read 64 = .ok (.iload_n 2, 1) := by decide +kernel
theorem dX2_read_65 : decode cX2_read 65 = .ok (.iload 4, 2) := by decide +kernel
theorem dX2_read_67 : decode cX2_read 67 = .ok (.invokevirtual 59, 3) := by decide +kernel
theorem dX2_read_70 : decode cX2_read 70 = .ok (.istore_n 2, 1) := by decide +kernel
theorem dX2_read_71 : decode cX2_read 71 = .ok (.iinc 3 1, 3) := by decide +kernel
theorem dX2_read_74 : decode cX2_read 74 = .ok (.goto (-59), 3) := by decide +kernel
theorem dX2_read_77 : decode cX2_read 77 = .ok (.return_, 1) := by decide +kernel
theorem dX2_whoGives_0 : decode cX2_whoGives 0 = .ok (.iconst 0, 1) := by decide +kernel
theorem dX2_whoGives_1 : decode cX2_whoGives 1 = .ok (.istore_n 3, 1) := by decide +kernel
theorem dX2_whoGives_2 : decode cX2_whoGives 2 = .ok (.iconst 0, 1) := by decide +kernel
theorem dX2_whoGives_3 : decode cX2_whoGives 3 = .ok (.istore 4, 2) := by decide +kernel
theorem dX2_whoGives_5 : decode cX2_whoGives 5 = .ok (.iload 4, 2) := by decide +kernel
theorem dX2_whoGives_7 : decode cX2_whoGives 7 = .ok (.aload_n 0, 1) := by decide +kernel
theorem dX2_whoGives_8 : decode cX2_whoGives 8 = .ok (.getfield 28, 3) := by decide +kernel
theorem dX2_whoGives_11 : decode cX2_whoGives 11 = .ok (.getfield 53, 3) := by decide +kernel
theorem dX2_whoGives_14 : decode cX2_whoGives 14 = .ok (.getfield 64, 3) := by decide +kernel
theorem dX2_whoGives_17 : decode cX2_whoGives 17 = .ok (.if_icmp .ge 31, 3) := by decide +kernel
theorem dX2_whoGives_20 : decode cX2_whoGives 20 = .ok (.aload_n 0, 1) := by decide +kernel
theorem dX2_whoGives_21 : decode cX2_whoGives 21 = .ok (.getfield 28, 3) := by decide +kernel
theorem dX2_whoGives_24 : decode cX2_whoGives 24 = .ok (.iload 4, 2) := by decide +kernel
theorem dX2_whoGives_26 : decode cX2_whoGives 26 = .ok (.iload_n 2, 1) := by decide +kernel
theorem dX2_whoGives_27 : decode cX2_whoGives 27 = .ok (.iconst 0, 1) := by decide +kernel
theorem dX2_whoGives_28 : decode cX2_whoGives 28 = .ok (.invokevirtual 67, 3) := by decide +kernel
theorem dX2_whoGives_31 : decode cX2_whoGives 31 = .ok (.iload_n 1, 1) := by decide +kernel
theorem dX2_whoGives_32 : decode cX2_whoGives 32 = .ok (.if_icmp .ne 10, 3) := by decide +kernel
theorem dX2_whoGives_35 : decode cX2_whoGives 35 = .ok (.iload_n 3, 1) := by decide +kernel
theorem dX2_whoGives_36 : decode cX2_whoGives 36 = .ok (.iconst 1, 1) := by decide +kernel
theorem dX2_whoGives_37 : decode cX2_whoGives 37 = .ok (.iload 4, 2) := by decide +kernel
theorem dX2_whoGives_39 : decode cX2_whoGives 39 = .ok (.ishl, 1) := by decide +kernel
theorem dX2_whoGives_40 : decode cX2_whoGives 40 = .ok (.ior, 1) := by decide +kernel
theorem dX2_whoGives_41 : decode cX2_whoGives 41 = .ok (.istore_n 3, 1) := by decide +kernel
theorem dX2_whoGives_42 : decode cX2_whoGives 42 = .ok (.iinc 4 1, 3) := by decide +kernel
theorem dX2_whoGives_45 : decode cX2_whoGives 45 = .ok (.goto (-40), 3) := by decide +kernel
theorem dX2_whoGives_48 : decode cX2_whoGives 48 = .ok (.iload_n 3, 1) := by decide +kernel
theorem dX2_whoGives_49 : decode cX2_whoGives 49 = .ok (.ireturn, 1) := by decide +kernel
theorem dX2_howManyWith_0 : decode cX2_howManyWith 0 = .ok (.iconst 0, 1) := by decide +kernel
theorem dX2_howManyWith_1 : decode cX2_howManyWith 1 = .ok (.istore_n 2, 1) := by decide +kernel
theorem dX2_howManyWith_2 : decode cX2_howManyWith 2 = .ok (.iconst 0, 1) := by decide +kernel
theorem dX2_howManyWith_3 : decode cX2_howManyWith 3 = .ok (.istore_n 3, 1) := by decide +kernel
theorem dX2_howManyWith_4 : decode cX2_howManyWith 4 = .ok (.iload_n 3, 1) := by decide +kernel
theorem dX2_howManyWith_5 : decode cX2_howManyWith 5 = .ok (.aload_n 0, 1) := by decide +kernel
theorem dX2_howManyWith_6 : decode cX2_howManyWith 6 = .ok (.getfield 18, 3) := by decide +kernel
theorem dX2_howManyWith_9 : decode cX2_howManyWith 9 = .ok (.if_icmp .ge 29, 3) := by decide +kernel
theorem dX2_howManyWith_12 : decode cX2_howManyWith 12 = .ok (.iload_n 2, 1) := by decide +kernel
theorem dX2_howManyWith_13 : decode cX2_howManyWith 13 = .ok (.aload_n 0, 1) := by decide +kernel
theorem dX2_howManyWith_14 : decode cX2_howManyWith 14 = .ok (.getfield 15, 3) := by decide +kernel
theorem dX2_howManyWith_17 : decode cX2_howManyWith 17 = .ok (.iload_n 3, 1) := by decide +kernel
theorem dX2_howManyWith_18 : decode cX2_howManyWith 18 = .ok (.invokestatic 41, 3) := by decide +kernel
theorem dX2_howManyWith_21 : decode cX2_howManyWith 21 = .ok (.iload_n 1, 1) := by decide +kernel
theorem dX2_howManyWith_22 : decode cX2_howManyWith 22 = .ok (.if_icmp .ne 7, 3) := by decide +kernel
theorem dX2_howManyWith_25 : decode cX2_howManyWith 25 = .ok (.iconst 1, 1) := by decide +kernel
theorem dX2_howManyWith_26 : decode cX2_howManyWith 26 = .ok (.goto 4, 3) := by decide +kernel
theorem dX2_howManyWith_29 : decode cX2_howManyWith 29 = .ok (.iconst 0, 1) := by decide +kernel
theorem dX2_howManyWith_30 : decode cX2_howManyWith 30 = .ok (.iadd, 1) := by decide +kernel
theorem dX2_howManyWith_31 : decode cX2_howManyWith 31 = .ok (.istore_n 2, 1) := by decide +kernel
theorem dX2_howManyWith_32 : decode cX2_howManyWith 32 = .ok (.iinc 3 1, 3) := by decide +kernel
theorem dX2_howManyWith_35 : decode cX2_howManyWith 35 = .ok (.goto (-31), 3) := by decide +kernel
theorem dX2_howManyWith_38 : decode cX2_howManyWith 38 = .ok (.iload_n 2, 1) := by decide +kernel
theorem dX2_howManyWith_39 : decode cX2_howManyWith 39 = .ok (.ireturn, 1) := by decide +kernel
theorem dX2_howManyBy_0 : decode cX2_howManyBy 0 = .ok (.iconst 0, 1) := by decide +kernel
theorem dX2_howManyBy_1 : decode cX2_howManyBy 1 = .ok (.istore_n 2, 1) := by decide +kernel
theorem dX2_howManyBy_2 : decode cX2_howManyBy 2 = .ok (.iconst 0, 1) := by decide +kernel
theorem dX2_howManyBy_3 : decode cX2_howManyBy 3 = .ok (.istore_n 3, 1) := by decide +kernel
theorem dX2_howManyBy_4 : decode cX2_howManyBy 4 = .ok (.iload_n 3, 1) := by decide +kernel
theorem dX2_howManyBy_5 : decode cX2_howManyBy 5 = .ok (.aload_n 0, 1) := by decide +kernel
theorem dX2_howManyBy_6 : decode cX2_howManyBy 6 = .ok (.getfield 18, 3) := by decide +kernel
theorem dX2_howManyBy_9 : decode cX2_howManyBy 9 = .ok (.if_icmp .ge 30, 3) := by decide +kernel
theorem dX2_howManyBy_12 : decode cX2_howManyBy 12 = .ok (.iload_n 2, 1) := by decide +kernel
theorem dX2_howManyBy_13 : decode cX2_howManyBy 13 = .ok (.aload_n 0, 1) := by decide +kernel
theorem dX2_howManyBy_14 : decode cX2_howManyBy 14 = .ok (.getfield 15, 3) := by decide +kernel
theorem dX2_howManyBy_17 : decode cX2_howManyBy 17 = .ok (.iload_n 3, 1) := by decide +kernel
theorem dX2_howManyBy_18 : decode cX2_howManyBy 18 = .ok (.invokestatic 41, 3) := by decide +kernel
theorem dX2_howManyBy_21 : decode cX2_howManyBy 21 = .ok (.iload_n 1, 1) := by decide +kernel
theorem dX2_howManyBy_22 : decode cX2_howManyBy 22 = .ok (.iand, 1) := by decide +kernel
theorem dX2_howManyBy_23 : decode cX2_howManyBy 23 = .ok (.ifCond .eq 7, 3) := by decide +kernel
theorem dX2_howManyBy_26 : decode cX2_howManyBy 26 = .ok (.iconst 1, 1) := by decide +kernel
theorem dX2_howManyBy_27 : decode cX2_howManyBy 27 = .ok (.goto 4, 3) := by decide +kernel
theorem dX2_howManyBy_30 : decode cX2_howManyBy 30 = .ok (.iconst 0, 1) := by decide +kernel
theorem dX2_howManyBy_31 : decode cX2_howManyBy 31 = .ok (.iadd, 1) := by decide +kernel
theorem dX2_howManyBy_32 : decode cX2_howManyBy 32 = .ok (.istore_n 2, 1) := by decide +kernel
theorem dX2_howManyBy_33 : decode cX2_howManyBy 33 = .ok (.iinc 3 1, 3) := by decide +kernel
theorem dX2_howManyBy_36 : decode cX2_howManyBy 36 = .ok (.goto (-32), 3) := by decide +kernel
theorem dX2_howManyBy_39 : decode cX2_howManyBy 39 = .ok (.iload_n 2, 1) := by decide +kernel
theorem dX2_howManyBy_40 : decode cX2_howManyBy 40 = .ok (.ireturn, 1) := by decide +kernel
theorem dX2_fewestSorts_0 : decode cX2_fewestSorts 0 = .ok (.sipush 255, 3) := by decide +kernel
theorem dX2_fewestSorts_3 : decode cX2_fewestSorts 3 = .ok (.istore_n 1, 1) := by decide +kernel
theorem dX2_fewestSorts_4 : decode cX2_fewestSorts 4 = .ok (.sipush 255, 3) := by decide +kernel
theorem dX2_fewestSorts_7 : decode cX2_fewestSorts 7 = .ok (.istore_n 2, 1) := by decide +kernel
theorem dX2_fewestSorts_8 : decode cX2_fewestSorts 8 = .ok (.iload_n 2, 1) := by decide +kernel
theorem dX2_fewestSorts_9 : decode cX2_fewestSorts 9 = .ok (.ifCond .lt 30, 3) := by decide +kernel
theorem dX2_fewestSorts_12 : decode cX2_fewestSorts 12 = .ok (.iload_n 2, 1) := by decide +kernel
theorem dX2_fewestSorts_13 : decode cX2_fewestSorts 13 = .ok (.invokestatic 71, 3) := by decide +kernel
theorem dX2_fewestSorts_16 : decode cX2_fewestSorts 16 = .ok (.iload_n 1, 1) := by decide +kernel
theorem dX2_fewestSorts_17 : decode cX2_fewestSorts 17 = .ok (.invokestatic 71, 3) := by decide +kernel
theorem dX2_fewestSorts_20 : decode cX2_fewestSorts 20 = .ok (.if_icmp .gt 13, 3) := by decide +kernel
theorem dX2_fewestSorts_23 : decode cX2_fewestSorts 23 = .ok (.aload_n 0, 1) := by decide +kernel
theorem dX2_fewestSorts_24 : decode cX2_fewestSorts 24 = .ok (.iload_n 2, 1) := by decide +kernel
theorem dX2_fewestSorts_25 : decode cX2_fewestSorts 25 = .ok (.invokevirtual 77, 3) := by decide +kernel
theorem dX2_fewestSorts_28 : decode cX2_fewestSorts 28 = .ok (.ifCond .eq 5, 3) := by decide +kernel
theorem dX2_fewestSorts_31 : decode cX2_fewestSorts 31 = .ok (.iload_n 2, 1) := by decide +kernel
theorem dX2_fewestSorts_32 : decode cX2_fewestSorts 32 = .ok (.istore_n 1, 1) := by decide +kernel
theorem dX2_fewestSorts_33 : decode cX2_fewestSorts 33 = .ok (.iinc 2 (-1), 3) := by decide +kernel
theorem dX2_fewestSorts_36 : decode cX2_fewestSorts 36 = .ok (.goto (-28), 3) := by decide +kernel
theorem dX2_fewestSorts_39 : decode cX2_fewestSorts 39 = .ok (.iload_n 1, 1) := by decide +kernel
theorem dX2_fewestSorts_40 : decode cX2_fewestSorts 40 = .ok (.ireturn, 1) := by decide +kernel
theorem dX2_explainAll_0 : decode cX2_explainAll 0 = .ok (.iconst 0, 1) := by decide +kernel
theorem dX2_explainAll_1 : decode cX2_explainAll 1 = .ok (.istore_n 2, 1) := by decide +kernel
theorem dX2_explainAll_2 : decode cX2_explainAll 2 = .ok (.iload_n 2, 1) := by decide +kernel
theorem dX2_explainAll_3 : decode cX2_explainAll 3 = .ok (.aload_n 0, 1) := by decide +kernel
theorem dX2_explainAll_4 : decode cX2_explainAll 4 = .ok (.getfield 18, 3) := by decide +kernel
theorem dX2_explainAll_7 : decode cX2_explainAll 7 = .ok (.if_icmp .ge 30, 3) := by decide +kernel
theorem dX2_explainAll_10 : decode cX2_explainAll 10 = .ok (.aload_n 0, 1) := by decide +kernel
theorem dX2_explainAll_11 : decode cX2_explainAll 11 = .ok (.getfield 15, 3) := by decide +kernel
theorem dX2_explainAll_14 : decode cX2_explainAll 14 = .ok (.iload_n 2, 1) := by decide +kernel
theorem dX2_explainAll_15 : decode cX2_explainAll 15 = .ok (.invokestatic 41, 3) := by decide +kernel
theorem dX2_explainAll_18 : decode cX2_explainAll 18 = .ok (.istore_n 3, 1) := by decide +kernel
theorem dX2_explainAll_19 : decode cX2_explainAll 19 = .ok (.iload_n 3, 1) := by decide +kernel
theorem dX2_explainAll_20 : decode cX2_explainAll 20 = .ok (.ifCond .eq 11, 3) := by decide +kernel
theorem dX2_explainAll_23 : decode cX2_explainAll 23 = .ok (.iload_n 3, 1) := by decide +kernel
theorem dX2_explainAll_24 : decode cX2_explainAll 24 = .ok (.iload_n 1, 1) := by decide +kernel
theorem dX2_explainAll_25 : decode cX2_explainAll 25 = .ok (.iand, 1) := by decide +kernel
theorem dX2_explainAll_26 : decode cX2_explainAll 26 = .ok (.ifCond .ne 5, 3) := by decide +kernel
theorem dX2_explainAll_29 : decode cX2_explainAll 29 = .ok (.iconst 0, 1) := by decide +kernel
theorem dX2_explainAll_30 : decode cX2_explainAll 30 = .ok (.ireturn, 1) := by decide +kernel
theorem dX2_explainAll_31 : decode cX2_explainAll 31 = .ok (.iinc 2 1, 3) := by decide +kernel
theorem dX2_explainAll_34 : decode cX2_explainAll 34 = .ok (.goto (-32), 3) := by decide +kernel
theorem dX2_explainAll_37 : decode cX2_explainAll 37 = .ok (.iconst 1, 1) := by decide +kernel
theorem dX2_explainAll_38 : decode cX2_explainAll 38 = .ok (.ireturn, 1) := by decide +kernel
theorem dX2_creditOf_0 : decode cX2_creditOf 0 = .ok (.iconst 0, 1) := by decide +kernel
theorem dX2_creditOf_1 : decode cX2_creditOf 1 = .ok (.istore_n 3, 1) := by decide +kernel
theorem dX2_creditOf_2 : decode cX2_creditOf 2 = .ok (.iconst 0, 1) := by decide +kernel
theorem dX2_creditOf_3 : decode cX2_creditOf 3 = .ok (.istore 4, 2) := by decide +kernel
theorem dX2_creditOf_5 : decode cX2_creditOf 5 = .ok (.iload 4, 2) := by decide +kernel
theorem dX2_creditOf_7 : decode cX2_creditOf 7 = .ok (.iconst 4, 1) := by decide +kernel
theorem dX2_creditOf_8 : decode cX2_creditOf 8 = .ok (.if_icmp .ge 27, 3) := by decide +kernel
theorem dX2_creditOf_11 : decode cX2_creditOf 11 = .ok (.iload_n 3, 1) := by decide +kernel
theorem dX2_creditOf_12 : decode cX2_creditOf 12 = .ok (.aload_n 2, 1) := by decide +kernel
theorem dX2_creditOf_13 : decode cX2_creditOf 13 = .ok (.iload 4, 2) := by decide +kernel
theorem dX2_creditOf_15 : decode cX2_creditOf 15 = .ok (.iconst (-1), 1) := by decide +kernel
theorem dX2_creditOf_16 : decode cX2_creditOf 16 = .ok (.invokevirtual 81, 3) := by decide +kernel
theorem dX2_creditOf_19 : decode cX2_creditOf 19 = .ok (.ifCond .le 7, 3) := by decide +kernel
theorem dX2_creditOf_22 : decode cX2_creditOf 22 = .ok (.iconst 1, 1) := by decide +kernel
theorem dX2_creditOf_23 : decode cX2_creditOf 23 = .ok (.goto 4, 3) := by decide +kernel
theorem dX2_creditOf_26 : decode cX2_creditOf 26 = .ok (.iconst 0, 1) := by decide +kernel
theorem dX2_creditOf_27 : decode cX2_creditOf 27 = .ok (.iadd, 1) := by decide +kernel
theorem dX2_creditOf_28 : decode cX2_creditOf 28 = .ok (.istore_n 3, 1) := by decide +kernel
theorem dX2_creditOf_29 : decode cX2_creditOf 29 = .ok (.iinc 4 1, 3) := by decide +kernel
theorem dX2_creditOf_32 : decode cX2_creditOf 32 = .ok (.goto (-27), 3) := by decide +kernel
theorem dX2_creditOf_35 : decode cX2_creditOf 35 = .ok (.iconst 0, 1) := by decide +kernel
theorem dX2_creditOf_36 : decode cX2_creditOf 36 = .ok (.istore 4, 2) := by decide +kernel
theorem dX2_creditOf_38 : decode cX2_creditOf 38 = .ok (.iload 4, 2) := by decide +kernel
theorem dX2_creditOf_40 : decode cX2_creditOf 40 = .ok (.iconst 4, 1) := by decide +kernel
theorem dX2_creditOf_41 : decode cX2_creditOf 41 = .ok (.if_icmp .ge 52, 3) := by decide +kernel
theorem dX2_creditOf_44 : decode cX2_creditOf 44 = .ok (.iload_n 3, 1) := by decide +kernel
theorem dX2_creditOf_45 : decode cX2_creditOf 45 = .ok (.ifCond .le 17, 3) := by decide +kernel
theorem dX2_creditOf_48 : decode cX2_creditOf 48 = .ok (.aload_n 2, 1) := by decide +kernel
theorem dX2_creditOf_49 : decode cX2_creditOf 49 = .ok (.iload 4, 2) := by decide +kernel
theorem dX2_creditOf_51 : decode cX2_creditOf 51 = .ok (.iconst (-1), 1) := by decide +kernel
theorem dX2_creditOf_52 : decode cX2_creditOf 52 = .ok (.invokevirtual 81, 3) := by decide +kernel
theorem dX2_creditOf_55 : decode cX2_creditOf 55 = .ok (.ifCond .le 7, 3) := by decide +kernel
theorem dX2_creditOf_58 : decode cX2_creditOf 58 = .ok (.iconst 1, 1) := by decide +kernel
theorem dX2_creditOf_59 : decode cX2_creditOf 59 = .ok (.goto 4, 3) := by decide +kernel
theorem dX2_creditOf_62 : decode cX2_creditOf 62 = .ok (.iconst 0, 1) := by decide +kernel
theorem dX2_creditOf_63 : decode cX2_creditOf 63 = .ok (.istore 5, 2) := by decide +kernel
theorem dX2_creditOf_65 : decode cX2_creditOf 65 = .ok (.aload_n 0, 1) := by decide +kernel
theorem dX2_creditOf_66 : decode cX2_creditOf 66 = .ok (.getfield 22, 3) := by decide +kernel
theorem dX2_creditOf_69 : decode cX2_creditOf 69 = .ok (.iload 4, 2) := by decide +kernel
theorem dX2_creditOf_71 : decode cX2_creditOf 71 = .ok (.iload 5, 2) := by decide +kernel
theorem dX2_creditOf_73 : decode cX2_creditOf 73 = .ok (.ifCond .eq 10, 3) := by decide +kernel
theorem dX2_creditOf_76 : decode cX2_creditOf 76 = .ok (.ldc 84, 2) := by decide +kernel
theorem dX2_creditOf_78 : decode cX2_creditOf 78 = .ok (.iload_n 3, 1) := by decide +kernel
theorem dX2_creditOf_79 : decode cX2_creditOf 79 = .ok (.idiv, 1) := by decide +kernel
theorem dX2_creditOf_80 : decode cX2_creditOf 80 = .ok (.goto 4, 3) := by decide +kernel
theorem dX2_creditOf_83 : decode cX2_creditOf 83 = .ok (.iconst 0, 1) := by decide +kernel
theorem dX2_creditOf_84 : decode cX2_creditOf 84 = .ok (.invokestatic 45, 3) := by decide +kernel
theorem dX2_creditOf_87 : decode cX2_creditOf 87 = .ok (.iinc 4 1, 3) := by decide +kernel
theorem dX2_creditOf_90 : decode cX2_creditOf 90 = .ok (.goto (-52), 3) := by decide +kernel
theorem dX2_creditOf_93 : decode cX2_creditOf 93 = .ok (.iconst 0, 1) := by decide +kernel
theorem dX2_creditOf_94 : decode cX2_creditOf 94 = .ok (.istore 4, 2) := by decide +kernel
theorem dX2_creditOf_96 : decode cX2_creditOf 96 = .ok (.iload 4, 2) := by decide +kernel
theorem dX2_creditOf_98 : decode cX2_creditOf 98 = .ok (.aload_n 0, 1) := by decide +kernel
theorem dX2_creditOf_99 : decode cX2_creditOf 99 = .ok (.getfield 18, 3) := by decide +kernel
theorem dX2_creditOf_102 : decode cX2_creditOf 102 = .ok (.if_icmp .ge 23, 3) := by decide +kernel
theorem dX2_creditOf_105 : decode cX2_creditOf 105 = .ok (.aload_n 0, 1) := by decide +kernel
theorem dX2_creditOf_106 : decode cX2_creditOf 106 = .ok (.aload_n 0, 1) := by decide +kernel
theorem dX2_creditOf_107 : decode cX2_creditOf 107 = .ok (.getfield 15, 3) := by decide +kernel
theorem dX2_creditOf_110 : decode cX2_creditOf 110 = .ok (.iload 4, 2) := by decide +kernel
theorem dX2_creditOf_112 : decode cX2_creditOf 112 = .ok (.invokestatic 41, 3) := by decide +kernel
theorem dX2_creditOf_115 : decode cX2_creditOf 115 = .ok (.aload_n 2, 1) := by decide +kernel
theorem dX2_creditOf_116 : decode cX2_creditOf 116 = .ok (.invokevirtual 85, 3) := by decide +kernel
theorem dX2_creditOf_119 : decode cX2_creditOf 119 = .ok (.iinc 4 1, 3) := by decide +kernel
theorem dX2_creditOf_122 : decode cX2_creditOf 122 = .ok (.goto (-26), 3) := by decide +kernel
theorem dX2_creditOf_125 : decode cX2_creditOf 125 = .ok (.aload_n 0, 1) := by decide +kernel
theorem dX2_creditOf_126 : decode cX2_creditOf 126 = .ok (.getfield 22, 3) := by decide +kernel
theorem dX2_creditOf_129 : decode cX2_creditOf 129 = .ok (.iload_n 1, 1) := by decide +kernel
theorem dX2_creditOf_130 : decode cX2_creditOf 130 = .ok (.invokestatic 41, 3) := by decide +kernel
theorem dX2_creditOf_133 : decode cX2_creditOf 133 = .ok (.ireturn, 1) := by decide +kernel
theorem dX2_weigh_0 : decode cX2_weigh 0 = .ok (.lconst 0, 1) := by decide +kernel
theorem dX2_weigh_1 : decode cX2_weigh 1 = .ok (.lstore_n 3, 1) := by decide +kernel
theorem dX2_weigh_2 : decode cX2_weigh 2 = .ok (.iconst 0, 1) := by decide +kernel
theorem dX2_weigh_3 : decode cX2_weigh 3 = .ok (.istore 5, 2) := by decide +kernel
theorem dX2_weigh_5 : decode cX2_weigh 5 = .ok (.iload 5, 2) := by decide +kernel
theorem dX2_weigh_7 : decode cX2_weigh 7 = .ok (.iconst 4, 1) := by decide +kernel
theorem dX2_weigh_8 : decode cX2_weigh 8 = .ok (.if_icmp .ge 46, 3) := by decide +kernel
theorem dX2_weigh_11 : decode cX2_weigh 11 = .ok (.aload_n 0, 1) := by decide +kernel
theorem dX2_weigh_12 : decode cX2_weigh 12 = .ok (.getfield 22, 3) := by decide +kernel
theorem dX2_weigh_15 : decode cX2_weigh 15 = .ok (.iload 5, 2) := by decide +kernel
theorem dX2_weigh_17 : decode cX2_weigh 17 = .ok (.invokestatic 41, 3) := by decide +kernel
theorem dX2_weigh_20 : decode cX2_weigh 20 = .ok (.aload_n 0, 1) := by decide +kernel
theorem dX2_weigh_21 : decode cX2_weigh 21 = .ok (.iload 5, 2) := by decide +kernel
theorem dX2_weigh_23 : decode cX2_weigh 23 = .ok (.iload_n 1, 1) := by decide +kernel
theorem dX2_weigh_24 : decode cX2_weigh 24 = .ok (.aload_n 2, 1) := by decide +kernel
theorem dX2_weigh_25 : decode cX2_weigh 25 = .ok (.invokevirtual 89, 3) := by decide +kernel
theorem dX2_weigh_28 : decode cX2_weigh 28 = .ok (.imul, 1) := by decide +kernel
theorem dX2_weigh_29 : decode cX2_weigh 29 = .ok (.istore 6, 2) := by decide +kernel
theorem dX2_weigh_31 : decode cX2_weigh 31 = .ok (.aload_n 0, 1) := by decide +kernel
theorem dX2_weigh_32 : decode cX2_weigh 32 = .ok (.getfield 25, 3) := by decide +kernel
theorem dX2_weigh_35 : decode cX2_weigh 35 = .ok (.iload 5, 2) := by decide +kernel
theorem dX2_weigh_37 : decode cX2_weigh 37 = .ok (.iload 6, 2) := by decide +kernel
theorem dX2_weigh_39 : decode cX2_weigh 39 = .ok (.invokestatic 45, 3) := by decide +kernel
theorem dX2_weigh_42 : decode cX2_weigh 42 = .ok (.lload_n 3, 1) := by decide +kernel
theorem dX2_weigh_43 : decode cX2_weigh 43 = .ok (.iload 6, 2) := by decide +kernel
theorem dX2_weigh_45 : decode cX2_weigh 45 = .ok (.i2l, 1) := by decide +kernel
theorem dX2_weigh_46 : decode cX2_weigh 46 = .ok (.ladd, 1) := by decide +kernel
theorem dX2_weigh_47 : decode cX2_weigh 47 = .ok (.lstore_n 3, 1) := by decide +kernel
theorem dX2_weigh_48 : decode cX2_weigh 48 = .ok (.iinc 5 1, 3) := by decide +kernel
theorem dX2_weigh_51 : decode cX2_weigh 51 = .ok (.goto (-46), 3) := by decide +kernel
theorem dX2_weigh_54 : decode cX2_weigh 54 = .ok (.iconst 0, 1) := by decide +kernel
theorem dX2_weigh_55 : decode cX2_weigh 55 = .ok (.istore 5, 2) := by decide +kernel
theorem dX2_weigh_57 : decode cX2_weigh 57 = .ok (.iload 5, 2) := by decide +kernel
theorem dX2_weigh_59 : decode cX2_weigh 59 = .ok (.iconst 4, 1) := by decide +kernel
theorem dX2_weigh_60 : decode cX2_weigh 60 = .ok (.if_icmp .ge 41, 3) := by decide +kernel
theorem dX2_weigh_63 : decode cX2_weigh 63 = .ok (.lload_n 3, 1) := by decide +kernel
theorem dX2_weigh_64 : decode cX2_weigh 64 = .ok (.lconst 0, 1) := by decide +kernel
theorem dX2_weigh_65 : decode cX2_weigh 65 = .ok (.lcmp, 1) := by decide +kernel
theorem dX2_weigh_66 : decode cX2_weigh 66 = .ok (.ifCond .le 35, 3) := by decide +kernel
theorem dX2_weigh_69 : decode cX2_weigh 69 = .ok (.aload_n 0, 1) := by decide +kernel
theorem dX2_weigh_70 : decode cX2_weigh 70 = .ok (.getfield 22, 3) := by decide +kernel
theorem dX2_weigh_73 : decode cX2_weigh 73 = .ok (.iload 5, 2) := by decide +kernel
theorem dX2_weigh_75 : decode cX2_weigh 75 = .ok (.aload_n 0, 1) := by decide +kernel
theorem dX2_weigh_76 : decode cX2_weigh 76 = .ok (.getfield 25, 3) := by decide +kernel
theorem dX2_weigh_79 : decode cX2_weigh 79 = .ok (.iload 5, 2) := by decide +kernel
theorem dX2_weigh_81 : decode cX2_weigh 81 = .ok (.invokestatic 41, 3) := by decide +kernel
theorem dX2_weigh_84 : decode cX2_weigh 84 = .ok (.i2l, 1) := by decide +kernel
theorem dX2_weigh_85 : decode cX2_weigh 85 = .ok (.ldc2_w 93, 3) := by decide +kernel
theorem dX2_weigh_88 : decode cX2_weigh 88 = .ok (.lmul, 1) := by decide +kernel
theorem dX2_weigh_89 : decode cX2_weigh 89 = .ok (.lload_n 3, 1) := by decide +kernel
theorem dX2_weigh_90 : decode cX2_weigh 90 = .ok (.ldiv, 1) := by decide +kernel
theorem dX2_weigh_91 : decode cX2_weigh 91 = .ok (.l2i, 1) := by decide +kernel
theorem dX2_weigh_92 : decode cX2_weigh 92 = .ok (.invokestatic 45, 3) := by decide +kernel
theorem dX2_weigh_95 : decode cX2_weigh 95 = .ok (.iinc 5 1, 3) := by decide +kernel
theorem dX2_weigh_98 : decode cX2_weigh 98 = .ok (.goto (-41), 3) := by decide +kernel
theorem dX2_weigh_101 : decode cX2_weigh 101 = .ok (.return_, 1) := by decide +kernel
theorem dX2_weight_0 : decode cX2_weight 0 = .ok (.aload_n 3, 1) := by decide +kernel
theorem dX2_weight_1 : decode cX2_weight 1 = .ok (.iload_n 1, 1) := by decide +kernel
theorem dX2_weight_2 : decode cX2_weight 2 = .ok (.iconst (-1), 1) := by decide +kernel
theorem dX2_weight_3 : decode cX2_weight 3 = .ok (.invokevirtual 81, 3) := by decide +kernel
theorem dX2_weight_6 : decode cX2_weight 6 = .ok (.istore 4, 2) := by decide +kernel
theorem dX2_weight_8 : decode cX2_weight 8 = .ok (.iload 4, 2) := by decide +kernel
theorem dX2_weight_10 : decode cX2_weight 10 = .ok (.ifCond .le 19, 3) := by decide +kernel
theorem dX2_weight_13 : decode cX2_weight 13 = .ok (.sipush 1000, 3) := by decide +kernel
theorem dX2_weight_16 : decode cX2_weight 16 = .ok (.aload_n 3, 1) := by decide +kernel
theorem dX2_weight_17 : decode cX2_weight 17 = .ok (.iload_n 1, 1) := by decide +kernel
theorem dX2_weight_18 : decode cX2_weight 18 = .ok (.iload_n 2, 1) := by decide +kernel
theorem dX2_weight_19 : decode cX2_weight 19 = .ok (.invokevirtual 81, 3) := by decide +kernel
theorem dX2_weight_22 : decode cX2_weight 22 = .ok (.imul, 1) := by decide +kernel
theorem dX2_weight_23 : decode cX2_weight 23 = .ok (.iload 4, 2) := by decide +kernel
theorem dX2_weight_25 : decode cX2_weight 25 = .ok (.idiv, 1) := by decide +kernel
theorem dX2_weight_26 : decode cX2_weight 26 = .ok (.goto 4, 3) := by decide +kernel
theorem dX2_weight_29 : decode cX2_weight 29 = .ok (.iconst 0, 1) := by decide +kernel
theorem dX2_weight_30 : decode cX2_weight 30 = .ok (.istore 5, 2) := by decide +kernel
theorem dX2_weight_32 : decode cX2_weight 32 = .ok (.iload 5, 2) := by decide +kernel
theorem dX2_weight_34 : decode cX2_weight 34 = .ok (.iconst 1, 1) := by decide +kernel
theorem dX2_weight_35 : decode cX2_weight 35 = .ok (.if_icmp .ge 7, 3) := by decide +kernel
theorem dX2_weight_38 : decode cX2_weight 38 = .ok (.iconst 1, 1) := by decide +kernel
theorem dX2_weight_39 : decode cX2_weight 39 = .ok (.goto 5, 3) := by decide +kernel
theorem dX2_weight_42 : decode cX2_weight 42 = .ok (.iload 5, 2) := by decide +kernel
theorem dX2_weight_44 : decode cX2_weight 44 = .ok (.ireturn, 1) := by decide +kernel
theorem dX3_init_0 : decode cX3_init 0 = .ok (.aload_n 0, 1) := by decide +kernel
theorem dX3_init_1 : decode cX3_init 1 = .ok (.invokespecial 3, 3) := by decide +kernel
theorem dX3_init_4 : decode cX3_init 4 = .ok (.aload_n 0, 1) := by decide +kernel
theorem dX3_init_5 : decode cX3_init 5 = .ok (.new 9, 3) := by decide +kernel
theorem dX3_init_8 : decode cX3_init 8 = .ok (.dup, 1) := by decide +kernel
theorem dX3_init_9 : decode cX3_init 9 = .ok (.sipush 10000, 3) := by decide +kernel
theorem dX3_init_12 : decode cX3_init 12 = .ok (.newarray .int, 2) := by decide +kernel
theorem dX3_init_14 : decode cX3_init 14 = .ok (.sipush 10000, 3) := by decide +kernel
theorem dX3_init_17 : decode cX3_init 17 = .ok (.newarray .int, 2) := by decide +kernel
theorem dX3_init_19 : decode cX3_init 19 = .ok (.invokespecial 13, 3) := by decide +kernel
theorem dX3_init_22 : decode cX3_init 22 = .ok (.putfield 16, 3) := by decide +kernel
theorem dX3_init_25 : decode cX3_init 25 = .ok (.aload_n 0, 1) := by decide +kernel
theorem dX3_init_26 : decode cX3_init 26 = .ok (.new 9, 3) := by decide +kernel
theorem dX3_init_29 : decode cX3_init 29 = .ok (.dup, 1) := by decide +kernel
theorem dX3_init_30 : decode cX3_init 30 = .ok (.sipush 10000, 3) := by decide +kernel
theorem dX3_init_33 : decode cX3_init 33 = .ok (.newarray .int, 2) := by decide +kernel
theorem dX3_init_35 : decode cX3_init 35 = .ok (.sipush 10000, 3) := by decide +kernel
theorem dX3_init_38 : decode cX3_init 38 = .ok (.newarray .int, 2) := by decide +kernel
theorem dX3_init_40 : decode cX3_init 40 = .ok (.invokespecial 13, 3) := by decide +kernel
theorem dX3_init_43 : decode cX3_init 43 = .ok (.putfield 20, 3) := by decide +kernel
theorem dX3_init_46 : decode cX3_init 46 = .ok (.aload_n 0, 1) := by decide +kernel
theorem dX3_init_47 : decode cX3_init 47 = .ok (.lconst 0, 1) := by decide +kernel
theorem dX3_init_48 : decode cX3_init 48 = .ok (.putfield 23, 3) := by decide +kernel
theorem dX3_init_51 : decode cX3_init 51 = .ok (.aload_n 0, 1) := by decide +kernel
theorem dX3_init_52 : decode cX3_init 52 = .ok (.lconst 0, 1) := by decide +kernel
theorem dX3_init_53 : decode cX3_init 53 = .ok (.putfield 27, 3) := by decide +kernel
theorem dX3_init_56 : decode cX3_init 56 = .ok (.aload_n 0, 1) := by decide +kernel
theorem dX3_init_57 : decode cX3_init 57 = .ok (.lconst 0, 1) := by decide +kernel
theorem dX3_init_58 : decode cX3_init 58 = .ok (.putfield 30, 3) := by decide +kernel
theorem dX3_init_61 : decode cX3_init 61 = .ok (.aload_n 0, 1) := by decide +kernel
theorem dX3_init_62 : decode cX3_init 62 = .ok (.aload_n 1, 1) := by decide +kernel
theorem dX3_init_63 : decode cX3_init 63 = .ok (.putfield 33, 3) := by decide +kernel
theorem dX3_init_66 : decode cX3_init 66 = .ok (.aload_n 0, 1) := by decide +kernel
theorem dX3_init_67 : decode cX3_init 67 = .ok (.new 37, 3) := by decide +kernel
theorem dX3_init_70 : decode cX3_init 70 = .ok (.dup, 1) := by decide +kernel
theorem dX3_init_71 : decode cX3_init 71 = .ok (.aload_n 2, 1) := by decide +kernel
theorem dX3_init_72 : decode cX3_init 72 = .ok (.sipush 8000, 3) := by decide +kernel
theorem dX3_init_75 : decode cX3_init 75 = .ok (.newarray .int, 2) := by decide +kernel
theorem dX3_init_77 : decode cX3_init 77 = .ok (.invokespecial 39, 3) := by decide +kernel
theorem dX3_init_80 : decode cX3_init 80 = .ok (.putfield 42, 3) := by decide +kernel
theorem dX3_init_83 : decode cX3_init 83 = .ok (.return_, 1) := by decide +kernel
theorem dX3_begin_0 : decode cX3_begin 0 = .ok (.aload_n 0, 1) := by decide +kernel
theorem dX3_begin_1 : decode cX3_begin 1 = .ok (.getfield 42, 3) := by decide +kernel
theorem dX3_begin_4 : decode cX3_begin 4 = .ok (.aload_n 1, 1) := by decide +kernel
theorem dX3_begin_5 : decode cX3_begin 5 = .ok (.aload_n 1, 1) := by decide +kernel
theorem dX3_begin_6 : decode cX3_begin 6 = .ok (.getfield 45, 3) := by decide +kernel
theorem dX3_begin_9 : decode cX3_begin 9 = .ok (.invokevirtual 51, 3) := by decide +kernel
theorem dX3_begin_12 : decode cX3_begin 12 = .ok (.aload_n 0, 1) := by decide +kernel
theorem dX3_begin_13 : decode cX3_begin 13 = .ok (.lconst 0, 1) := by decide +kernel
theorem dX3_begin_14 : decode cX3_begin 14 = .ok (.putfield 23, 3) := by decide +kernel
theorem dX3_begin_17 : decode cX3_begin 17 = .ok (.aload_n 0, 1) := by decide +kernel
theorem dX3_begin_18 : decode cX3_begin 18 = .ok (.lconst 0, 1) := by decide +kernel
theorem dX3_begin_19 : decode cX3_begin 19 = .ok (.putfield 27, 3) := by decide +kernel
theorem dX3_begin_22 : decode cX3_begin 22 = .ok (.aload_n 0, 1) := by decide +kernel
theorem dX3_begin_23 : decode cX3_begin 23 = .ok (.lconst 0, 1) := by decide +kernel
theorem dX3_begin_24 : decode cX3_begin 24 = .ok (.putfield 30, 3) := by decide +kernel
theorem dX3_begin_27 : decode cX3_begin 27 = .ok (.aload_n 0, 1) := by decide +kernel
theorem dX3_begin_28 : decode cX3_begin 28 = .ok (.getfield 16, 3) := by decide +kernel
theorem dX3_begin_31 : decode cX3_begin 31 = .ok (.invokevirtual 55, 3) := by decide +kernel
theorem dX3_begin_34 : decode cX3_begin 34 = .ok (.aload_n 0, 1) := by decide +kernel
theorem dX3_begin_35 : decode cX3_begin 35 = .ok (.getfield 16, 3) := by decide +kernel
theorem dX3_begin_38 : decode cX3_begin 38 = .ok (.iload_n 2, 1) := by decide +kernel
theorem dX3_begin_39 : decode cX3_begin 39 = .ok (.bipush 100, 2) := by decide +kernel
theorem dX3_begin_41 : decode cX3_begin 41 = .ok (.imul, 1) := by decide +kernel
theorem dX3_begin_42 : decode cX3_begin 42 = .ok (.iload_n 3, 1) := by decide +kernel
theorem dX3_begin_43 : decode cX3_begin 43 = .ok (.iadd, 1) := by decide +kernel
theorem dX3_begin_44 : decode cX3_begin 44 = .ok (.ldc 58, 2) := by decide +kernel
theorem dX3_begin_46 : decode cX3_begin 46 = .ok (.invokevirtual 59, 3) := by decide +kernel
theorem dX3_begin_49 : decode cX3_begin 49 = .ok (.return_, 1) := by decide +kernel
theorem dX3_go_0 : decode cX3_go 0 = .ok (.iconst 0, 1) := by decide +kernel
theorem dX3_go_1 : decode cX3_go 1 = .ok (.istore_n 2, 1) := by decide +kernel
theorem dX3_go_2 : decode cX3_go 2 = .ok (.iload_n 2, 1) := by decide +kernel
theorem dX3_go_3 : decode cX3_go 3 = .ok (.iload_n 1, 1) := by decide +kernel
theorem dX3_go_4 : decode cX3_go 4 = .ok (.if_icmp .ge 78, 3) := by decide +kernel
theorem dX3_go_7 : decode cX3_go 7 = .ok (.aload_n 0, 1) := by decide +kernel
theorem dX3_go_8 : decode cX3_go 8 = .ok (.getfield 33, 3) := by decide +kernel
theorem dX3_go_11 : decode cX3_go 11 = .ok (.getfield 63, 3) := by decide +kernel
theorem dX3_go_14 : decode cX3_go 14 = .ok (.getfield 67, 3) := by decide +kernel
theorem dX3_go_17 : decode cX3_go 17 = .ok (.ifCond .le 65, 3) := by decide +kernel
theorem dX3_go_20 : decode cX3_go 20 = .ok (.aload_n 0, 1) := by decide +kernel
theorem dX3_go_21 : decode cX3_go 21 = .ok (.getfield 20, 3) := by decide +kernel
theorem dX3_go_24 : decode cX3_go 24 = .ok (.invokevirtual 55, 3) := by decide +kernel
theorem dX3_go_27 : decode cX3_go 27 = .ok (.iconst 0, 1) := by decide +kernel
theorem dX3_go_28 : decode cX3_go 28 = .ok (.istore_n 3, 1) := by decide +kernel
theorem dX3_go_29 : decode cX3_go 29 = .ok (.iload_n 3, 1) := by decide +kernel
theorem dX3_go_30 : decode cX3_go 30 = .ok (.aload_n 0, 1) := by decide +kernel
theorem dX3_go_31 : decode cX3_go 31 = .ok (.getfield 16, 3) := by decide +kernel
theorem dX3_go_34 : decode cX3_go 34 = .ok (.getfield 71, 3) := by decide +kernel
theorem dX3_go_37 : decode cX3_go 37 = .ok (.if_icmp .ge 21, 3) := by decide +kernel
theorem dX3_go_40 : decode cX3_go 40 = .ok (.aload_n 0, 1) := by decide +kernel
theorem dX3_go_41 : decode cX3_go 41 = .ok (.aload_n 0, 1) := by decide +kernel
theorem dX3_go_42 : decode cX3_go 42 = .ok (.getfield 16, 3) := by decide +kernel
theorem dX3_go_45 : decode cX3_go 45 = .ok (.iload_n 3, 1) := by decide +kernel
theorem dX3_go_46 : decode cX3_go 46 = .ok (.invokevirtual 74, 3) := by decide +kernel
theorem dX3_go_49 : decode cX3_go 49 = .ok (.invokevirtual 78, 3) := by decide +kernel
theorem dX3_go_52 : decode cX3_go 52 = .ok (.iinc 3 1, 3) := by decide +kernel
theorem dX3_go_55 : decode cX3_go 55 = .ok (.goto (-26), 3) := by decide +kernel
theorem dX3_go_58 : decode cX3_go 58 = .ok (.aload_n 0, 1) := by decide +kernel
theorem dX3_go_59 : decode cX3_go 59 = .ok (.getfield 16, 3) := by decide +kernel
theorem dX3_go_62 : decode cX3_go 62 = .ok (.astore_n 3, 1) := by decide +kernel
theorem dX3_go_63 : decode cX3_go 63 = .ok (.aload_n 0, 1) := by decide +kernel
theorem dX3_go_64 : decode cX3_go 64 = .ok (.aload_n 0, 1) := by decide +kernel
theorem dX3_go_65 : decode cX3_go 65 = .ok (.getfield 20, 3) := by decide +kernel
theorem dX3_go_68 : decode cX3_go 68 = .ok (.putfield 16, 3) := by decide +kernel
theorem dX3_go_71 : decode cX3_go 71 = .ok (.aload_n 0, 1) := by decide +kernel
theorem dX3_go_72 : decode cX3_go 72 = .ok (.aload_n 3, 1) := by decide +kernel
theorem dX3_go_73 : decode cX3_go 73 = .ok (.putfield 20, 3) := by decide +kernel
theorem dX3_go_76 : decode cX3_go 76 = .ok (.iinc 2 1, 3) := by decide +kernel
theorem dX3_go_79 : decode cX3_go 79 = .ok (.goto (-77), 3) := by decide +kernel
theorem dX3_go_82 : decode cX3_go 82 = .ok (.return_, 1) := by decide +kernel
theorem dX3_share_0 : decode cX3_share 0 = .ok (.aload_n 0, 1) := by decide +kernel
theorem dX3_share_1 : decode cX3_share 1 = .ok (.getfield 33, 3) := by decide +kernel
theorem dX3_share_4 : decode cX3_share 4 = .ok (.getfield 63, 3) := by decide +kernel
theorem dX3_share_7 : decode cX3_share 7 = .ok (.astore_n 2, 1) := by decide +kernel
theorem dX3_share_8 : decode cX3_share 8 = .ok (.aload_n 0, 1) := by decide +kernel
theorem dX3_share_9 : decode cX3_share 9 = .ok (.getfield 16, 3) := by decide +kernel
theorem dX3_share_12 : decode cX3_share 12 = .ok (.iload_n 1, 1) := by decide +kernel
theorem dX3_share_13 : decode cX3_share 13 = .ok (.invokevirtual 82, 3) := by decide +kernel
theorem dX3_share_16 : decode cX3_share 16 = .ok (.istore_n 3, 1) := by decide +kernel
theorem dX3_share_17 : decode cX3_share 17 = .ok (.iload_n 1, 1) := by decide +kernel
theorem dX3_share_18 : decode cX3_share 18 = .ok (.bipush 100, 2) := by decide +kernel
theorem dX3_share_20 : decode cX3_share 20 = .ok (.idiv, 1) := by decide +kernel
theorem dX3_share_21 : decode cX3_share 21 = .ok (.istore 4, 2) := by decide +kernel
theorem dX3_share_23 : decode cX3_share 23 = .ok (.iload_n 3, 1) := by decide +kernel
theorem dX3_share_24 : decode cX3_share 24 = .ok (.istore 5, 2) := by decide +kernel
theorem dX3_share_26 : decode cX3_share 26 = .ok (.iconst 0, 1) := by decide +kernel
theorem dX3_share_27 : decode cX3_share 27 = .ok (.istore 6, 2) := by decide +kernel
theorem dX3_share_29 : decode cX3_share 29 = .ok (.iload 6, 2) := by decide +kernel
theorem dX3_share_31 : decode cX3_share 31 = .ok (.aload_n 2, 1) := by decide +kernel
theorem dX3_share_32 : decode cX3_share 32 = .ok (.getfield 67, 3) := by decide +kernel
theorem dX3_share_35 : decode cX3_share 35 = .ok (.if_icmp .ge 121, 3) := by decide +kernel
theorem dX3_share_38 : decode cX3_share 38 = .ok (.aload_n 2, 1) := by decide +kernel
theorem dX3_share_39 : decode cX3_share 39 = .ok (.iload 6, 2) := by decide +kernel
theorem dX3_share_41 : decode cX3_share 41 = .ok (.iload_n 3, 1) := by decide +kernel
theorem dX3_share_42 : decode cX3_share 42 = .ok (.iload 5, 2) := by decide +kernel
theorem dX3_share_44 : decode cX3_share 44 = .ok (.invokevirtual 85, 3) := by decide +kernel
theorem dX3_share_47 : decode cX3_share 47 = .ok (.istore 7, 2) := by decide +kernel
theorem dX3_share_49 : decode cX3_share 49 = .ok (.iload 5, 2) := by decide +kernel
theorem dX3_share_51 : decode cX3_share 51 = .ok (.iload 7, 2) := by decide +kernel
theorem dX3_share_53 : decode cX3_share 53 = .ok (.isub, 1) := by decide +kernel
theorem dX3_share_54 : decode cX3_share 54 = .ok (.istore 5, 2) := by decide +kernel
theorem dX3_share_56 : decode cX3_share 56 = .ok (.aload_n 0, 1) := by decide +kernel
theorem dX3_share_57 : decode cX3_share 57 = .ok (.getfield 33, 3) := by decide +kernel
theorem dX3_share_60 : decode cX3_share 60 = .ok (.iload 6, 2) := by decide +kernel
theorem dX3_share_62 : decode cX3_share 62 = .ok (.iload 4, 2) := by decide +kernel
theorem dX3_share_64 : decode cX3_share 64 = .ok (.iconst 0, 1) := by decide +kernel
theorem dX3_share_65 : decode cX3_share 65 = .ok (.invokevirtual 89, 3) := by decide +kernel
theorem dX3_share_68 : decode cX3_share 68 = .ok (.istore 8, 2) := by decide +kernel
theorem dX3_share_70 : decode cX3_share 70 = .ok (.iload 8, 2) := by decide +kernel
theorem dX3_share_72 : decode cX3_share 72 = .ok (.iconst (-1), 1) := by decide +kernel
theorem dX3_share_73 : decode cX3_share 73 = .ok (.if_icmp .ne 7, 3) := by decide +kernel
theorem dX3_share_76 : decode cX3_share 76 = .ok (.iconst 0, 1) := by decide +kernel
theorem dX3_share_77 : decode cX3_share 77 = .ok (.goto 5, 3) := by decide +kernel
theorem dX3_share_80 : decode cX3_share 80 = .ok (.iload 8, 2) := by decide +kernel
theorem dX3_share_82 : decode cX3_share 82 = .ok (.istore 9, 2) := by decide +kernel
theorem dX3_share_84 : decode cX3_share 84 = .ok (.iload 8, 2) := by decide +kernel
theorem dX3_share_86 : decode cX3_share 86 = .ok (.iconst (-1), 1) := by decide +kernel
theorem dX3_share_87 : decode cX3_share 87 = .ok (.if_icmp .ne 8, 3) := by decide +kernel
theorem dX3_share_90 : decode cX3_share 90 = .ok (.iload 4, 2) := by decide +kernel
theorem dX3_share_92 : decode cX3_share 92 = .ok (.goto 11, 3) := by decide +kernel
theorem dX3_share_95 : decode cX3_share 95 = .ok (.aload_n 2, 1) := by decide +kernel
theorem dX3_share_96 : decode cX3_share 96 = .ok (.iload 4, 2) := by decide +kernel
theorem dX3_share_98 : decode cX3_share 98 = .ok (.iload 8, 2) := by decide +kernel
theorem dX3_share_100 : decode cX3_share 100 = .ok (.invokevirtual 92, 3) := by decide +kernel
theorem dX3_share_103 : decode cX3_share 103 = .ok (.istore 10, 2) := by decide +kernel
theorem dX3_share_105 : decode cX3_share 105 = .ok (.aload_n 0, 1) := by decide +kernel
theorem dX3_share_106 : decode cX3_share 106 = .ok (.dup, 1) := by decide +kernel
theorem dX3_share_107 : decode cX3_share 107 = .ok (.getfield 23, 3) := by decide +kernel
theorem dX3_share_110 : decode cX3_share 110 = .ok (.iload 7, 2) := by decide +kernel
theorem dX3_share_112 : decode cX3_share 112 = .ok (.i2l, 1) := by decide +kernel
theorem dX3_share_113 : decode cX3_share 113 = .ok (.iload 9, 2) := by decide +kernel
theorem dX3_share_115 : decode cX3_share 115 = .ok (.i2l, 1) := by decide +kernel
theorem dX3_share_116 : decode cX3_share 116 = .ok (.lmul, 1) := by decide +kernel
theorem dX3_share_117 : decode cX3_share 117 = .ok (.ladd, 1) := by decide +kernel
theorem dX3_share_118 : decode cX3_share 118 = .ok (.putfield 23, 3) := by decide +kernel
theorem dX3_share_121 : decode cX3_share 121 = .ok (.aload_n 0, 1) := by decide +kernel
theorem dX3_share_122 : decode cX3_share 122 = .ok (.getfield 20, 3) := by decide +kernel
theorem dX3_share_125 : decode cX3_share 125 = .ok (.iload 10, 2) := by decide +kernel
theorem dX3_share_127 : decode cX3_share 127 = .ok (.bipush 100, 2) := by decide +kernel
theorem dX3_share_129 : decode cX3_share 129 = .ok (.imul, 1) := by decide +kernel
theorem dX3_share_130 : decode cX3_share 130 = .ok (.aload_n 0, 1) := by decide +kernel
theorem dX3_share_131 : decode cX3_share 131 = .ok (.iload 6, 2) := by decide +kernel
theorem dX3_share_133 : decode cX3_share 133 = .ok (.iload_n 1, 1) := by decide +kernel
theorem dX3_share_134 : decode cX3_share 134 = .ok (.bipush 100, 2) := by decide +kernel
theorem dX3_share_136 : decode cX3_share 136 = .ok (.irem, 1) := by decide +kernel
theorem dX3_share_137 : decode cX3_share 137 = .ok (.iload 9, 2) := by decide +kernel
theorem dX3_share_139 : decode cX3_share 139 = .ok (.iload 7, 2) := by decide +kernel
theorem dX3_share_141 : decode cX3_share 141 = .ok (.invokevirtual 96, 3) := by decide +kernel
theorem dX3_share_144 : decode cX3_share 144 = .ok (.iadd, 1) := by decide +kernel
theorem dX3_share_145 : decode cX3_share 145 = .ok (.iload 7, 2) := by decide +kernel
theorem dX3_share_147 : decode cX3_share 147 = .ok (.invokevirtual 59, 3) := by decide +kernel
theorem dX3_share_150 : decode cX3_share 150 = .ok (.iinc 6 1, 3) := by decide +kernel
theorem dX3_share_153 : decode cX3_share 153 = .ok (.goto (-124), 3) := by decide +kernel
theorem dX3_share_156 : decode cX3_share 156 = .ok (.return_, 1) := by decide +kernel
theorem dX3_goesOn_0 : decode cX3_goesOn 0 = .ok (.iload_n 1, 1) := by decide +kernel
theorem dX3_goesOn_1 : decode cX3_goesOn 1 = .ok (.aload_n 0, 1) := by decide +kernel
theorem dX3_goesOn_2 : decode cX3_goesOn 2 = .ok (.getfield 42, 3) := by decide +kernel
theorem dX3_goesOn_5 : decode cX3_goesOn 5 = .ok (.getfield 63, 3) := by decide +kernel
theorem dX3_goesOn_8 : decode cX3_goesOn 8 = .ok (.getfield 67, 3) := by decide +kernel
theorem dX3_goesOn_11 : decode cX3_goesOn 11 = .ok (.if_icmp .lt 5, 3) := by decide +kernel
theorem dX3_goesOn_14 : decode cX3_goesOn 14 = .ok (.iload_n 2, 1) := by decide +kernel
theorem dX3_goesOn_15 : decode cX3_goesOn 15 = .ok (.ireturn, 1) := by decide +kernel
theorem dX3_goesOn_16 : decode cX3_goesOn 16 = .ok (.aload_n 0, 1) := by decide +kernel
theorem dX3_goesOn_17 : decode cX3_goesOn 17 = .ok (.getfield 42, 3) := by decide +kernel
theorem dX3_goesOn_20 : decode cX3_goesOn 20 = .ok (.iload_n 1, 1) := by decide +kernel
theorem dX3_goesOn_21 : decode cX3_goesOn 21 = .ok (.iload_n 2, 1) := by decide +kernel
theorem dX3_goesOn_22 : decode cX3_goesOn 22 = .ok (.iload_n 3, 1) := by decide +kernel
theorem dX3_goesOn_23 : decode cX3_goesOn 23 = .ok (.invokevirtual 89, 3) := by decide +kernel
theorem dX3_goesOn_26 : decode cX3_goesOn 26 = .ok (.istore 5, 2) := by decide +kernel
theorem dX3_goesOn_28 : decode cX3_goesOn 28 = .ok (.iload 5, 2) := by decide +kernel
theorem dX3_goesOn_30 : decode cX3_goesOn 30 = .ok (.iconst (-1), 1) := by decide +kernel
theorem dX3_goesOn_31 : decode cX3_goesOn 31 = .ok (.if_icmp .ne 17, 3) := by decide +kernel
theorem dX3_goesOn_34 : decode cX3_goesOn 34 = .ok (.aload_n 0, 1) := by decide +kernel
theorem dX3_goesOn_35 : decode cX3_goesOn 35 = .ok (.dup, 1) := by decide +kernel
theorem dX3_goesOn_36 : decode cX3_goesOn 36 = .ok (.getfield 30, 3) := by decide +kernel
theorem dX3_goesOn_39 : decode cX3_goesOn 39 = .ok (.iload 4, 2) := by decide +kernel
theorem dX3_goesOn_41 : decode cX3_goesOn 41 = .ok (.i2l, 1) := by decide +kernel
theorem dX3_goesOn_42 : decode cX3_goesOn 42 = .ok (.ladd, 1) := by decide +kernel
theorem dX3_goesOn_43 : decode cX3_goesOn 43 = .ok (.putfield 30, 3) := by decide +kernel
theorem dX3_goesOn_46 : decode cX3_goesOn 46 = .ok (.iload_n 2, 1) := by decide +kernel
theorem dX3_goesOn_47 : decode cX3_goesOn 47 = .ok (.ireturn, 1) := by decide +kernel
theorem dX3_goesOn_48 : decode cX3_goesOn 48 = .ok (.aload_n 0, 1) := by decide +kernel
theorem dX3_goesOn_49 : decode cX3_goesOn 49 = .ok (.dup, 1) := by decide +kernel
theorem dX3_goesOn_50 : decode cX3_goesOn 50 = .ok (.getfield 27, 3) := by decide +kernel
theorem dX3_goesOn_53 : decode cX3_goesOn 53 = .ok (.iload 4, 2) := by decide +kernel
theorem dX3_goesOn_55 : decode cX3_goesOn 55 = .ok (.i2l, 1) := by decide +kernel
theorem dX3_goesOn_56 : decode cX3_goesOn 56 = .ok (.iload 5, 2) := by decide +kernel
theorem dX3_goesOn_58 : decode cX3_goesOn 58 = .ok (.i2l, 1) := by decide +kernel
theorem dX3_goesOn_59 : decode cX3_goesOn 59 = .ok (.lmul, 1) := by decide +kernel
theorem dX3_goesOn_60 : decode cX3_goesOn 60 = .ok (.ladd, 1) := by decide +kernel
theorem dX3_goesOn_61 : decode cX3_goesOn 61 = .ok (.putfield 27, 3) := by decide +kernel
theorem dX3_goesOn_64 : decode cX3_goesOn 64 = .ok (.aload_n 0, 1) := by decide +kernel
theorem dX3_goesOn_65 : decode cX3_goesOn 65 = .ok (.getfield 42, 3) := by decide +kernel
theorem dX3_goesOn_68 : decode cX3_goesOn 68 = .ok (.getfield 63, 3) := by decide +kernel
theorem dX3_goesOn_71 : decode cX3_goesOn 71 = .ok (.iload_n 2, 1) := by decide +kernel
theorem dX3_goesOn_72 : decode cX3_goesOn 72 = .ok (.iload 5, 2) := by decide +kernel
theorem dX3_goesOn_74 : decode cX3_goesOn 74 = .ok (.invokevirtual 92, 3) := by decide +kernel
theorem dX3_goesOn_77 : decode cX3_goesOn 77 = .ok (.ireturn, 1) := by decide +kernel
theorem dX4_init_0 : decode cX4_init 0 = .ok (.aload_n 0, 1) := by decide +kernel
theorem dX4_init_1 : decode cX4_init 1 = .ok (.invokespecial 3, 3) := by decide +kernel
theorem dX4_init_4 : decode cX4_init 4 = .ok (.aload_n 0, 1) := by decide +kernel
theorem dX4_init_5 : decode cX4_init 5 = .ok (.new 9, 3) := by decide +kernel
theorem dX4_init_8 : decode cX4_init 8 = .ok (.dup, 1) := by decide +kernel
theorem dX4_init_9 : decode cX4_init 9 = .ok (.invokespecial 11, 3) := by decide +kernel
theorem dX4_init_12 : decode cX4_init 12 = .ok (.putfield 12, 3) := by decide +kernel
theorem dX4_init_15 : decode cX4_init 15 = .ok (.aload_n 0, 1) := by decide +kernel
theorem dX4_init_16 : decode cX4_init 16 = .ok (.new 18, 3) := by decide +kernel
theorem dX4_init_19 : decode cX4_init 19 = .ok (.dup, 1) := by decide +kernel
theorem dX4_init_20 : decode cX4_init 20 = .ok (.invokespecial 20, 3) := by decide +kernel
theorem dX4_init_23 : decode cX4_init 23 = .ok (.putfield 21, 3) := by decide +kernel
theorem dX4_init_26 : decode cX4_init 26 = .ok (.aload_n 0, 1) := by decide +kernel
theorem dX4_init_27 : decode cX4_init 27 = .ok (.new 18, 3) := by decide +kernel
theorem dX4_init_30 : decode cX4_init 30 = .ok (.dup, 1) := by decide +kernel
theorem dX4_init_31 : decode cX4_init 31 = .ok (.invokespecial 20, 3) := by decide +kernel
theorem dX4_init_34 : decode cX4_init 34 = .ok (.putfield 25, 3) := by decide +kernel
theorem dX4_init_37 : decode cX4_init 37 = .ok (.aload_n 0, 1) := by decide +kernel
theorem dX4_init_38 : decode cX4_init 38 = .ok (.iconst 0, 1) := by decide +kernel
theorem dX4_init_39 : decode cX4_init 39 = .ok (.putfield 28, 3) := by decide +kernel
theorem dX4_init_42 : decode cX4_init 42 = .ok (.return_, 1) := by decide +kernel
theorem dX4_goOnWith_0 : decode cX4_goOnWith 0 = .ok (.aload_n 0, 1) := by decide +kernel
theorem dX4_goOnWith_1 : decode cX4_goOnWith 1 = .ok (.getfield 21, 3) := by decide +kernel
theorem dX4_goOnWith_4 : decode cX4_goOnWith 4 = .ok (.iload_n 1, 1) := by decide +kernel
theorem dX4_goOnWith_5 : decode cX4_goOnWith 5 = .ok (.invokevirtual 32, 3) := by decide +kernel
theorem dX4_goOnWith_8 : decode cX4_goOnWith 8 = .ok (.aload_n 0, 1) := by decide +kernel
theorem dX4_goOnWith_9 : decode cX4_goOnWith 9 = .ok (.getfield 21, 3) := by decide +kernel
theorem dX4_goOnWith_12 : decode cX4_goOnWith 12 = .ok (.aload_n 0, 1) := by decide +kernel
theorem dX4_goOnWith_13 : decode cX4_goOnWith 13 = .ok (.getfield 12, 3) := by decide +kernel
theorem dX4_goOnWith_16 : decode cX4_goOnWith 16 = .ok (.aload_n 0, 1) := by decide +kernel
theorem dX4_goOnWith_17 : decode cX4_goOnWith 17 = .ok (.getfield 21, 3) := by decide +kernel
theorem dX4_goOnWith_20 : decode cX4_goOnWith 20 = .ok (.getfield 36, 3) := by decide +kernel
theorem dX4_goOnWith_23 : decode cX4_goOnWith 23 = .ok (.iload_n 1, 1) := by decide +kernel
theorem dX4_goOnWith_24 : decode cX4_goOnWith 24 = .ok (.invokevirtual 39, 3) := by decide +kernel
theorem dX4_goOnWith_27 : decode cX4_goOnWith 27 = .ok (.putfield 36, 3) := by decide +kernel
theorem dX4_goOnWith_30 : decode cX4_goOnWith 30 = .ok (.return_, 1) := by decide +kernel
theorem dX4_comesOne_0 : decode cX4_comesOne 0 = .ok (.aload_n 1, 1) := by decide +kernel
theorem dX4_comesOne_1 : decode cX4_comesOne 1 = .ok (.aload_n 0, 1) := by decide +kernel
theorem dX4_comesOne_2 : decode cX4_comesOne 2 = .ok (.invokevirtual 43, 3) := by decide +kernel
theorem dX4_comesOne_5 : decode cX4_comesOne 5 = .ok (.aload_n 0, 1) := by decide +kernel
theorem dX4_comesOne_6 : decode cX4_comesOne 6 = .ok (.getfield 21, 3) := by decide +kernel
theorem dX4_comesOne_9 : decode cX4_comesOne 9 = .ok (.getfield 36, 3) := by decide +kernel
theorem dX4_comesOne_12 : decode cX4_comesOne 12 = .ok (.iconst 0, 1) := by decide +kernel
theorem dX4_comesOne_13 : decode cX4_comesOne 13 = .ok (.invokevirtual 47, 3) := by decide +kernel
theorem dX4_comesOne_16 : decode cX4_comesOne 16 = .ok (.istore_n 2, 1) := by decide +kernel
theorem dX4_comesOne_17 : decode cX4_comesOne 17 = .ok (.iload_n 2, 1) := by decide +kernel
theorem dX4_comesOne_18 : decode cX4_comesOne 18 = .ok (.iconst (-1), 1) := by decide +kernel
theorem dX4_comesOne_19 : decode cX4_comesOne 19 = .ok (.if_icmp .ne 5, 3) := by decide +kernel
theorem dX4_comesOne_22 : decode cX4_comesOne 22 = .ok (.iconst 0, 1) := by decide +kernel
theorem dX4_comesOne_23 : decode cX4_comesOne 23 = .ok (.ireturn, 1) := by decide +kernel
theorem dX4_comesOne_24 : decode cX4_comesOne 24 = .ok (.aload_n 0, 1) := by decide +kernel
theorem dX4_comesOne_25 : decode cX4_comesOne 25 = .ok (.iload_n 2, 1) := by decide +kernel
theorem dX4_comesOne_26 : decode cX4_comesOne 26 = .ok (.invokevirtual 53, 3) := by decide +kernel
theorem dX4_comesOne_29 : decode cX4_comesOne 29 = .ok (.aload_n 0, 1) := by decide +kernel
theorem dX4_comesOne_30 : decode cX4_comesOne 30 = .ok (.getfield 21, 3) := by decide +kernel
theorem dX4_comesOne_33 : decode cX4_comesOne 33 = .ok (.dup, 1) := by decide +kernel
theorem dX4_comesOne_34 : decode cX4_comesOne 34 = .ok (.getfield 56, 3) := by decide +kernel
theorem dX4_comesOne_37 : decode cX4_comesOne 37 = .ok (.iload_n 2, 1) := by decide +kernel
theorem dX4_comesOne_38 : decode cX4_comesOne 38 = .ok (.iadd, 1) := by decide +kernel
theorem dX4_comesOne_39 : decode cX4_comesOne 39 = .ok (.putfield 56, 3) := by decide +kernel
theorem dX4_comesOne_42 : decode cX4_comesOne 42 = .ok (.iload_n 2, 1) := by decide +kernel
theorem dX4_comesOne_43 : decode cX4_comesOne 43 = .ok (.ireturn, 1) := by decide +kernel
theorem dX4_comesThief_0 : decode cX4_comesThief 0 = .ok (.aload_n 0, 1) := by decide +kernel
theorem dX4_comesThief_1 : decode cX4_comesThief 1 = .ok (.getfield 21, 3) := by decide +kernel
theorem dX4_comesThief_4 : decode cX4_comesThief 4 = .ok (.getfield 56, 3) := by decide +kernel
theorem dX4_comesThief_7 : decode cX4_comesThief 7 = .ok (.aload_n 0, 1) := by decide +kernel
theorem dX4_comesThief_8 : decode cX4_comesThief 8 = .ok (.getfield 12, 3) := by decide +kernel
theorem dX4_comesThief_11 : decode cX4_comesThief 11 = .ok (.getfield 59, 3) := by decide +kernel
theorem dX4_comesThief_14 : decode cX4_comesThief 14 = .ok (.if_icmp .lt 46, 3) := by decide +kernel
theorem dX4_comesThief_17 : decode cX4_comesThief 17 = .ok (.aload_n 0, 1) := by decide +kernel
theorem dX4_comesThief_18 : decode cX4_comesThief 18 = .ok (.bipush 100, 2) := by decide +kernel
theorem dX4_comesThief_20 : decode cX4_comesThief 20 = .ok (.invokevirtual 62, 3) := by decide +kernel
theorem dX4_comesThief_23 : decode cX4_comesThief 23 = .ok (.aload_n 0, 1) := by decide +kernel
theorem dX4_comesThief_24 : decode cX4_comesThief 24 = .ok (.getfield 12, 3) := by decide +kernel
theorem dX4_comesThief_27 : decode cX4_comesThief 27 = .ok (.getfield 66, 3) := by decide +kernel
theorem dX4_comesThief_30 : decode cX4_comesThief 30 = .ok (.if_icmp .ge 30, 3) := by decide +kernel
theorem dX4_comesThief_33 : decode cX4_comesThief 33 = .ok (.aload_n 0, 1) := by decide +kernel
theorem dX4_comesThief_34 : decode cX4_comesThief 34 = .ok (.getfield 21, 3) := by decide +kernel
theorem dX4_comesThief_37 : decode cX4_comesThief 37 = .ok (.dup, 1) := by decide +kernel
theorem dX4_comesThief_38 : decode cX4_comesThief 38 = .ok (.getfield 69, 3) := by decide +kernel
theorem dX4_comesThief_41 : decode cX4_comesThief 41 = .ok (.aload_n 0, 1) := by decide +kernel
theorem dX4_comesThief_42 : decode cX4_comesThief 42 = .ok (.getfield 21, 3) := by decide +kernel
theorem dX4_comesThief_45 : decode cX4_comesThief 45 = .ok (.getfield 56, 3) := by decide +kernel
theorem dX4_comesThief_48 : decode cX4_comesThief 48 = .ok (.iadd, 1) := by decide +kernel
theorem dX4_comesThief_49 : decode cX4_comesThief 49 = .ok (.putfield 69, 3) := by decide +kernel
theorem dX4_comesThief_52 : decode cX4_comesThief 52 = .ok (.aload_n 0, 1) := by decide +kernel
theorem dX4_comesThief_53 : decode cX4_comesThief 53 = .ok (.getfield 21, 3) := by decide +kernel
theorem dX4_comesThief_56 : decode cX4_comesThief 56 = .ok (.iconst 0, 1) := by decide +kernel
theorem dX4_comesThief_57 : decode cX4_comesThief 57 = .ok (.putfield 56, 3) := by decide +kernel
theorem dX4_comesThief_60 : decode cX4_comesThief 60 = .ok (.return_, 1) := by decide +kernel
theorem dX4_drawSort_0 : decode cX4_drawSort 0 = .ok (.aload_n 0, 1) := by decide +kernel
theorem dX4_drawSort_1 : decode cX4_drawSort 1 = .ok (.aload_n 0, 1) := by decide +kernel
theorem dX4_drawSort_2 : decode cX4_drawSort 2 = .ok (.getfield 12, 3) := by decide +kernel
theorem dX4_drawSort_5 : decode cX4_drawSort 5 = .ok (.getfield 72, 3) := by decide +kernel
theorem dX4_drawSort_8 : decode cX4_drawSort 8 = .ok (.invokevirtual 62, 3) := by decide +kernel
theorem dX4_drawSort_11 : decode cX4_drawSort 11 = .ok (.istore_n 1, 1) := by decide +kernel
theorem dX4_drawSort_12 : decode cX4_drawSort 12 = .ok (.iconst 0, 1) := by decide +kernel
theorem dX4_drawSort_13 : decode cX4_drawSort 13 = .ok (.istore_n 2, 1) := by decide +kernel
theorem dX4_drawSort_14 : decode cX4_drawSort 14 = .ok (.iconst 0, 1) := by decide +kernel
theorem dX4_drawSort_15 : decode cX4_drawSort 15 = .ok (.istore_n 3, 1) := by decide +kernel
theorem dX4_drawSort_16 : decode cX4_drawSort 16 = .ok (.iload_n 3, 1) := by decide +kernel
theorem dX4_drawSort_17 : decode cX4_drawSort 17 = .ok (.aload_n 0, 1) := by decide +kernel
theorem dX4_drawSort_18 : decode cX4_drawSort 18 = .ok (.getfield 12, 3) := by decide +kernel
theorem dX4_drawSort_21 : decode cX4_drawSort 21 = .ok (.getfield 75, 3) := by decide +kernel
theorem dX4_drawSort_24 : decode cX4_drawSort 24 = .ok (.if_icmp .ge 30, 3) := by decide +kernel
theorem dX4_drawSort_27 : decode cX4_drawSort 27 = .ok (.iload_n 2, 1) := by decide +kernel
theorem dX4_drawSort_28 : decode cX4_drawSort 28 = .ok (.aload_n 0, 1) := by decide +kernel
theorem dX4_drawSort_29 : decode cX4_drawSort 29 = .ok (.getfield 12, 3) := by decide +kernel
theorem dX4_drawSort_32 : decode cX4_drawSort 32 = .ok (.getfield 78, 3) := by decide +kernel
theorem dX4_drawSort_35 : decode cX4_drawSort 35 = .ok (.iload_n 3, 1) := by decide +kernel
theorem dX4_drawSort_36 : decode cX4_drawSort 36 = .ok (.invokestatic 82, 3) := by decide +kernel
theorem dX4_drawSort_39 : decode cX4_drawSort 39 = .ok (.iadd, 1) := by decide +kernel
theorem dX4_drawSort_40 : decode cX4_drawSort 40 = .ok (.istore_n 2, 1) := by decide +kernel
theorem dX4_drawSort_41 : decode cX4_drawSort 41 = .ok (.iload_n 2, 1) := by decide +kernel
theorem dX4_drawSort_42 : decode cX4_drawSort 42 = .ok (.iload_n 1, 1) := by decide +kernel
theorem dX4_drawSort_43 : decode cX4_drawSort 43 = .ok (.if_icmp .le 5, 3) := by decide +kernel
theorem dX4_drawSort_46 : decode cX4_drawSort 46 = .ok (.iload_n 3, 1) := by decide +kernel
theorem dX4_drawSort_47 : decode cX4_drawSort 47 = .ok (.ireturn, 1) := by decide +kernel
theorem dX4_drawSort_48 : decode cX4_drawSort 48 = .ok (.iinc 3 1, 3) := by decide +kernel
theorem dX4_drawSort_51 : decode cX4_drawSort 51 = .ok (.goto (-35), 3) := by decide +kernel
theorem dX4_drawSort_54 : decode cX4_drawSort 54 = .ok (.iconst 0, 1) := by decide +kernel
theorem dX4_drawSort_55 : decode cX4_drawSort 55 = .ok (.ireturn, 1) := by decide +kernel
theorem dX4_draw_0 : decode cX4_draw 0 = .ok (.aload_n 0, 1) := by decide +kernel
theorem dX4_draw_1 : decode cX4_draw 1 = .ok (.aload_n 0, 1) := by decide +kernel
theorem dX4_draw_2 : decode cX4_draw 2 = .ok (.getfield 28, 3) := by decide +kernel
theorem dX4_draw_5 : decode cX4_draw 5 = .ok (.ldc 86, 2) := by decide +kernel
theorem dX4_draw_7 : decode cX4_draw 7 = .ok (.imul, 1) := by decide +kernel
theorem dX4_draw_8 : decode cX4_draw 8 = .ok (.sipush 12345, 3) := by decide +kernel
theorem dX4_draw_11 : decode cX4_draw 11 = .ok (.iadd, 1) := by decide +kernel
theorem dX4_draw_12 : decode cX4_draw 12 = .ok (.putfield 28, 3) := by decide +kernel
theorem dX4_draw_15 : decode cX4_draw 15 = .ok (.iload_n 1, 1) := by decide +kernel
theorem dX4_draw_16 : decode cX4_draw 16 = .ok (.ifCond .le 19, 3) := by decide +kernel
theorem dX4_draw_19 : decode cX4_draw 19 = .ok (.aload_n 0, 1) := by decide +kernel
theorem dX4_draw_20 : decode cX4_draw 20 = .ok (.getfield 28, 3) := by decide +kernel
theorem dX4_draw_23 : decode cX4_draw 23 = .ok (.bipush 16, 2) := by decide +kernel
theorem dX4_draw_25 : decode cX4_draw 25 = .ok (.iushr, 1) := by decide +kernel
theorem dX4_draw_26 : decode cX4_draw 26 = .ok (.sipush 32767, 3) := by decide +kernel
theorem dX4_draw_29 : decode cX4_draw 29 = .ok (.iand, 1) := by decide +kernel
theorem dX4_draw_30 : decode cX4_draw 30 = .ok (.iload_n 1, 1) := by decide +kernel
theorem dX4_draw_31 : decode cX4_draw 31 = .ok (.irem, 1) := by decide +kernel
theorem dX4_draw_32 : decode cX4_draw 32 = .ok (.goto 4, 3) := by decide +kernel
theorem dX4_draw_35 : decode cX4_draw 35 = .ok (.iconst 0, 1) := by decide +kernel
theorem dX4_draw_36 : decode cX4_draw 36 = .ok (.ireturn, 1) := by decide +kernel
theorem dX5_init_0 : decode cX5_init 0 = .ok (.aload_n 0, 1) := by decide +kernel
theorem dX5_init_1 : decode cX5_init 1 = .ok (.invokespecial 3, 3) := by decide +kernel
theorem dX5_init_4 : decode cX5_init 4 = .ok (.aload_n 0, 1) := by decide +kernel
theorem dX5_init_5 : decode cX5_init 5 = .ok (.bipush 9, 2) := by decide +kernel
theorem dX5_init_7 : decode cX5_init 7 = .ok (.newarray .int, 2) := by decide +kernel
theorem dX5_init_9 : decode cX5_init 9 = .ok (.putfield 9, 3) := by decide +kernel
theorem dX5_init_12 : decode cX5_init 12 = .ok (.aload_n 0, 1) := by decide +kernel
theorem dX5_init_13 : decode cX5_init 13 = .ok (.bipush 64, 2) := by decide +kernel
theorem dX5_init_15 : decode cX5_init 15 = .ok (.newarray .int, 2) := by decide +kernel
theorem dX5_init_17 : decode cX5_init 17 = .ok (.putfield 15, 3) := by decide +kernel
theorem dX5_init_20 : decode cX5_init 20 = .ok (.aload_n 0, 1) := by decide +kernel
theorem dX5_init_21 : decode cX5_init 21 = .ok (.aload_n 1, 1) := by decide +kernel
theorem dX5_init_22 : decode cX5_init 22 = .ok (.putfield 18, 3) := by decide +kernel
theorem dX5_init_25 : decode cX5_init 25 = .ok (.aload_n 0, 1) := by decide +kernel
theorem dX5_init_26 : decode cX5_init 26 = .ok (.aload_n 1, 1) := by decide +kernel
theorem dX5_init_27 : decode cX5_init 27 = .ok (.getfield 22, 3) := by decide +kernel
theorem dX5_init_30 : decode cX5_init 30 = .ok (.putfield 28, 3) := by decide +kernel
theorem dX5_init_33 : decode cX5_init 33 = .ok (.aload_n 0, 1) := by decide +kernel
theorem dX5_init_34 : decode cX5_init 34 = .ok (.aload_n 2, 1) := by decide +kernel
theorem dX5_init_35 : decode cX5_init 35 = .ok (.putfield 29, 3) := by decide +kernel
theorem dX5_init_38 : decode cX5_init 38 = .ok (.return_, 1) := by decide +kernel
theorem dX5_begin_0 : decode cX5_begin 0 = .ok (.aload_n 0, 1) := by decide +kernel
theorem dX5_begin_1 : decode cX5_begin 1 = .ok (.aload_n 1, 1) := by decide +kernel
theorem dX5_begin_2 : decode cX5_begin 2 = .ok (.putfield 18, 3) := by decide +kernel
theorem dX5_begin_5 : decode cX5_begin 5 = .ok (.aload_n 0, 1) := by decide +kernel
theorem dX5_begin_6 : decode cX5_begin 6 = .ok (.aload_n 2, 1) := by decide +kernel
theorem dX5_begin_7 : decode cX5_begin 7 = .ok (.putfield 28, 3) := by decide +kernel
theorem dX5_begin_10 : decode cX5_begin 10 = .ok (.aload_n 0, 1) := by decide +kernel
theorem dX5_begin_11 : decode cX5_begin 11 = .ok (.getfield 29, 3) := by decide +kernel
theorem dX5_begin_14 : decode cX5_begin 14 = .ok (.bipush (-2), 2) := by decide +kernel
theorem dX5_begin_16 : decode cX5_begin 16 = .ok (.invokestatic 32, 3) := by decide +kernel
theorem dX5_begin_19 : decode cX5_begin 19 = .ok (.return_, 1) := by decide +kernel
theorem dX5_giftAt_0 : decode cX5_giftAt 0 = .ok (.aload_n 0, 1) := by decide +kernel
theorem dX5_giftAt_1 : decode cX5_giftAt 1 = .ok (.getfield 28, 3) := by decide +kernel
theorem dX5_giftAt_4 : decode cX5_giftAt 4 = .ok (.getfield 38, 3) := by decide +kernel
theorem dX5_giftAt_7 : decode cX5_giftAt 7 = .ok (.iconst 1, 1) := by decide +kernel
theorem dX5_giftAt_8 : decode cX5_giftAt 8 = .ok (.if_icmp .ne 7, 3) := by decide +kernel
theorem dX5_giftAt_11 : decode cX5_giftAt 11 = .ok (.iload_n 2, 1) := by decide +kernel
theorem dX5_giftAt_12 : decode cX5_giftAt 12 = .ok (.goto 4, 3) := by decide +kernel
theorem dX5_giftAt_15 : decode cX5_giftAt 15 = .ok (.iconst 0, 1) := by decide +kernel
theorem dX5_giftAt_16 : decode cX5_giftAt 16 = .ok (.istore 4, 2) := by decide +kernel
theorem dX5_giftAt_18 : decode cX5_giftAt 18 = .ok (.iload_n 3, 1) := by decide +kernel
theorem dX5_giftAt_19 : decode cX5_giftAt 19 = .ok (.bipush 8, 2) := by decide +kernel
theorem dX5_giftAt_21 : decode cX5_giftAt 21 = .ok (.imul, 1) := by decide +kernel
theorem dX5_giftAt_22 : decode cX5_giftAt 22 = .ok (.iload_n 1, 1) := by decide +kernel
theorem dX5_giftAt_23 : decode cX5_giftAt 23 = .ok (.iadd, 1) := by decide +kernel
theorem dX5_giftAt_24 : decode cX5_giftAt 24 = .ok (.bipush 100, 2) := by decide +kernel
theorem dX5_giftAt_26 : decode cX5_giftAt 26 = .ok (.imul, 1) := by decide +kernel
theorem dX5_giftAt_27 : decode cX5_giftAt 27 = .ok (.iload 4, 2) := by decide +kernel
theorem dX5_giftAt_29 : decode cX5_giftAt 29 = .ok (.iadd, 1) := by decide +kernel
theorem dX5_giftAt_30 : decode cX5_giftAt 30 = .ok (.istore 5, 2) := by decide +kernel
theorem dX5_giftAt_32 : decode cX5_giftAt 32 = .ok (.aload_n 0, 1) := by decide +kernel
theorem dX5_giftAt_33 : decode cX5_giftAt 33 = .ok (.getfield 29, 3) := by decide +kernel
theorem dX5_giftAt_36 : decode cX5_giftAt 36 = .ok (.iload 5, 2) := by decide +kernel
theorem dX5_giftAt_38 : decode cX5_giftAt 38 = .ok (.invokestatic 44, 3) := by decide +kernel
theorem dX5_giftAt_41 : decode cX5_giftAt 41 = .ok (.istore 6, 2) := by decide +kernel
theorem dX5_giftAt_43 : decode cX5_giftAt 43 = .ok (.iload 6, 2) := by decide +kernel
theorem dX5_giftAt_45 : decode cX5_giftAt 45 = .ok (.bipush (-2), 2) := by decide +kernel
theorem dX5_giftAt_47 : decode cX5_giftAt 47 = .ok (.if_icmp .ne 56, 3) := by decide +kernel
theorem dX5_giftAt_50 : decode cX5_giftAt 50 = .ok (.aload_n 0, 1) := by decide +kernel
theorem dX5_giftAt_51 : decode cX5_giftAt 51 = .ok (.iload_n 1, 1) := by decide +kernel
theorem dX5_giftAt_52 : decode cX5_giftAt 52 = .ok (.iload 4, 2) := by decide +kernel
theorem dX5_giftAt_54 : decode cX5_giftAt 54 = .ok (.iload_n 3, 1) := by decide +kernel
theorem dX5_giftAt_55 : decode cX5_giftAt 55 = .ok (.invokevirtual 48, 3) := by decide +kernel
theorem dX5_giftAt_58 : decode cX5_giftAt 58 = .ok (.aload_n 0, 1) := by decide +kernel
theorem dX5_giftAt_59 : decode cX5_giftAt 59 = .ok (.aload_n 0, 1) := by decide +kernel
theorem dX5_giftAt_60 : decode cX5_giftAt 60 = .ok (.aload_n 0, 1) := by decide +kernel
theorem dX5_giftAt_61 : decode cX5_giftAt 61 = .ok (.getfield 18, 3) := by decide +kernel
theorem dX5_giftAt_64 : decode cX5_giftAt 64 = .ok (.getfield 52, 3) := by decide +kernel
theorem dX5_giftAt_67 : decode cX5_giftAt 67 = .ok (.iload_n 1, 1) := by decide +kernel
theorem dX5_giftAt_68 : decode cX5_giftAt 68 = .ok (.invokestatic 44, 3) := by decide +kernel
theorem dX5_giftAt_71 : decode cX5_giftAt 71 = .ok (.aload_n 0, 1) := by decide +kernel
theorem dX5_giftAt_72 : decode cX5_giftAt 72 = .ok (.getfield 18, 3) := by decide +kernel
theorem dX5_giftAt_75 : decode cX5_giftAt 75 = .ok (.getfield 52, 3) := by decide +kernel
theorem dX5_giftAt_78 : decode cX5_giftAt 78 = .ok (.iload_n 1, 1) := by decide +kernel
theorem dX5_giftAt_79 : decode cX5_giftAt 79 = .ok (.iconst 1, 1) := by decide +kernel
theorem dX5_giftAt_80 : decode cX5_giftAt 80 = .ok (.iadd, 1) := by decide +kernel
theorem dX5_giftAt_81 : decode cX5_giftAt 81 = .ok (.invokestatic 44, 3) := by decide +kernel
theorem dX5_giftAt_84 : decode cX5_giftAt 84 = .ok (.invokevirtual 55, 3) := by decide +kernel
theorem dX5_giftAt_87 : decode cX5_giftAt 87 = .ok (.invokevirtual 59, 3) := by decide +kernel
theorem dX5_giftAt_90 : decode cX5_giftAt 90 = .ok (.istore 6, 2) := by decide +kernel
theorem dX5_giftAt_92 : decode cX5_giftAt 92 = .ok (.aload_n 0, 1) := by decide +kernel
theorem dX5_giftAt_93 : decode cX5_giftAt 93 = .ok (.getfield 29, 3) := by decide +kernel
theorem dX5_giftAt_96 : decode cX5_giftAt 96 = .ok (.iload 5, 2) := by decide +kernel
theorem dX5_giftAt_98 : decode cX5_giftAt 98 = .ok (.iload 6, 2) := by decide +kernel
theorem dX5_giftAt_100 : decode cX5_giftAt 100 = .ok (.invokestatic 63, 3) := by decide +kernel
theorem dX5_giftAt_103 : decode cX5_giftAt 103 = .ok (.iload 6, 2) := by decide +kernel
theorem dX5_giftAt_105 : decode cX5_giftAt 105 = .ok (.ireturn, 1) := by decide +kernel
theorem dX5_look_0 : decode cX5_look 0 = .ok (.aload_n 0, 1) := by decide +kernel
theorem dX5_look_1 : decode cX5_look 1 = .ok (.getfield 18, 3) := by decide +kernel
theorem dX5_look_4 : decode cX5_look 4 = .ok (.getfield 67, 3) := by decide +kernel
theorem dX5_look_7 : decode cX5_look 7 = .ok (.iload_n 1, 1) := by decide +kernel
theorem dX5_look_8 : decode cX5_look 8 = .ok (.invokestatic 44, 3) := by decide +kernel
theorem dX5_look_11 : decode cX5_look 11 = .ok (.iload_n 3, 1) := by decide +kernel
theorem dX5_look_12 : decode cX5_look 12 = .ok (.isub, 1) := by decide +kernel
theorem dX5_look_13 : decode cX5_look 13 = .ok (.istore 4, 2) := by decide +kernel
theorem dX5_look_15 : decode cX5_look 15 = .ok (.aload_n 0, 1) := by decide +kernel
theorem dX5_look_16 : decode cX5_look 16 = .ok (.getfield 9, 3) := by decide +kernel
theorem dX5_look_19 : decode cX5_look 19 = .ok (.iconst 0, 1) := by decide +kernel
theorem dX5_look_20 : decode cX5_look 20 = .ok (.aload_n 0, 1) := by decide +kernel
theorem dX5_look_21 : decode cX5_look 21 = .ok (.getfield 18, 3) := by decide +kernel
theorem dX5_look_24 : decode cX5_look 24 = .ok (.getfield 70, 3) := by decide +kernel
theorem dX5_look_27 : decode cX5_look 27 = .ok (.iload_n 1, 1) := by decide +kernel
theorem dX5_look_28 : decode cX5_look 28 = .ok (.invokestatic 44, 3) := by decide +kernel
theorem dX5_look_31 : decode cX5_look 31 = .ok (.invokestatic 63, 3) := by decide +kernel
theorem dX5_look_34 : decode cX5_look 34 = .ok (.aload_n 0, 1) := by decide +kernel
theorem dX5_look_35 : decode cX5_look 35 = .ok (.getfield 9, 3) := by decide +kernel
theorem dX5_look_38 : decode cX5_look 38 = .ok (.iconst 1, 1) := by decide +kernel
theorem dX5_look_39 : decode cX5_look 39 = .ok (.iload 4, 2) := by decide +kernel
theorem dX5_look_41 : decode cX5_look 41 = .ok (.ifCond .ge 7, 3) := by decide +kernel
theorem dX5_look_44 : decode cX5_look 44 = .ok (.iconst 0, 1) := by decide +kernel
theorem dX5_look_45 : decode cX5_look 45 = .ok (.goto 5, 3) := by decide +kernel
theorem dX5_look_48 : decode cX5_look 48 = .ok (.iload 4, 2) := by decide +kernel
theorem dX5_look_50 : decode cX5_look 50 = .ok (.invokestatic 63, 3) := by decide +kernel
theorem dX5_look_53 : decode cX5_look 53 = .ok (.aload_n 0, 1) := by decide +kernel
theorem dX5_look_54 : decode cX5_look 54 = .ok (.getfield 9, 3) := by decide +kernel
theorem dX5_look_57 : decode cX5_look 57 = .ok (.iconst 2, 1) := by decide +kernel
theorem dX5_look_58 : decode cX5_look 58 = .ok (.iload_n 2, 1) := by decide +kernel
theorem dX5_look_59 : decode cX5_look 59 = .ok (.bipush 10, 2) := by decide +kernel
theorem dX5_look_61 : decode cX5_look 61 = .ok (.irem, 1) := by decide +kernel
theorem dX5_look_62 : decode cX5_look 62 = .ok (.invokestatic 63, 3) := by decide +kernel
theorem dX5_look_65 : decode cX5_look 65 = .ok (.aload_n 0, 1) := by decide +kernel
theorem dX5_look_66 : decode cX5_look 66 = .ok (.getfield 9, 3) := by decide +kernel
theorem dX5_look_69 : decode cX5_look 69 = .ok (.iconst 3, 1) := by decide +kernel
theorem dX5_look_70 : decode cX5_look 70 = .ok (.aload_n 0, 1) := by decide +kernel
theorem dX5_look_71 : decode cX5_look 71 = .ok (.getfield 18, 3) := by decide +kernel
theorem dX5_look_74 : decode cX5_look 74 = .ok (.iload_n 2, 1) := by decide +kernel
theorem dX5_look_75 : decode cX5_look 75 = .ok (.invokevirtual 73, 3) := by decide +kernel
theorem dX5_look_78 : decode cX5_look 78 = .ok (.invokestatic 63, 3) := by decide +kernel
theorem dX5_look_81 : decode cX5_look 81 = .ok (.aload_n 0, 1) := by decide +kernel
theorem dX5_look_82 : decode cX5_look 82 = .ok (.getfield 9, 3) := by decide +kernel
theorem dX5_look_85 : decode cX5_look 85 = .ok (.iconst 4, 1) := by decide +kernel
theorem dX5_look_86 : decode cX5_look 86 = .ok (.aload_n 0, 1) := by decide +kernel
theorem dX5_look_87 : decode cX5_look 87 = .ok (.getfield 28, 3) := by decide +kernel
theorem dX5_look_90 : decode cX5_look 90 = .ok (.getfield 76, 3) := by decide +kernel
theorem dX5_look_93 : decode cX5_look 93 = .ok (.iconst (-1), 1) := by decide +kernel
theorem dX5_look_94 : decode cX5_look 94 = .ok (.if_icmp .ne 7, 3) := by decide +kernel
theorem dX5_look_97 : decode cX5_look 97 = .ok (.iconst 0, 1) := by decide +kernel
theorem dX5_look_98 : decode cX5_look 98 = .ok (.goto 10, 3) := by decide +kernel
theorem dX5_look_101 : decode cX5_look 101 = .ok (.aload_n 0, 1) := by decide +kernel
theorem dX5_look_102 : decode cX5_look 102 = .ok (.getfield 28, 3) := by decide +kernel
theorem dX5_look_105 : decode cX5_look 105 = .ok (.getfield 76, 3) := by decide +kernel
theorem dX5_look_108 : decode cX5_look 108 = .ok (.invokestatic 63, 3) := by decide +kernel
theorem dX5_look_111 : decode cX5_look 111 = .ok (.aload_n 0, 1) := by decide +kernel
theorem dX5_look_112 : decode cX5_look 112 = .ok (.getfield 9, 3) := by decide +kernel
theorem dX5_look_115 : decode cX5_look 115 = .ok (.iconst 5, 1) := by decide +kernel
theorem dX5_look_116 : decode cX5_look 116 = .ok (.aload_n 0, 1) := by decide +kernel
theorem dX5_look_117 : decode cX5_look 117 = .ok (.getfield 28, 3) := by decide +kernel
theorem dX5_look_120 : decode cX5_look 120 = .ok (.getfield 76, 3) := by decide +kernel
theorem dX5_look_123 : decode cX5_look 123 = .ok (.iconst (-1), 1) := by decide +kernel
theorem dX5_look_124 : decode cX5_look 124 = .ok (.if_icmp .ne 7, 3) := by decide +kernel
theorem dX5_look_127 : decode cX5_look 127 = .ok (.iconst 0, 1) := by decide +kernel
theorem dX5_look_128 : decode cX5_look 128 = .ok (.goto 4, 3) := by decide +kernel
theorem dX5_look_131 : decode cX5_look 131 = .ok (.iconst 1, 1) := by decide +kernel
theorem dX5_look_132 : decode cX5_look 132 = .ok (.invokestatic 63, 3) := by decide +kernel
theorem dX5_look_135 : decode cX5_look 135 = .ok (.aload_n 0, 1) := by decide +kernel
theorem dX5_look_136 : decode cX5_look 136 = .ok (.getfield 9, 3) := by decide +kernel
theorem dX5_look_139 : decode cX5_look 139 = .ok (.bipush 6, 2) := by decide +kernel
theorem dX5_look_141 : decode cX5_look 141 = .ok (.aload_n 0, 1) := by decide +kernel
theorem dX5_look_142 : decode cX5_look 142 = .ok (.getfield 28, 3) := by decide +kernel
theorem dX5_look_145 : decode cX5_look 145 = .ok (.getfield 79, 3) := by decide +kernel
theorem dX5_look_148 : decode cX5_look 148 = .ok (.invokestatic 63, 3) := by decide +kernel
theorem dX5_look_151 : decode cX5_look 151 = .ok (.aload_n 0, 1) := by decide +kernel
theorem dX5_look_152 : decode cX5_look 152 = .ok (.getfield 9, 3) := by decide +kernel
theorem dX5_look_155 : decode cX5_look 155 = .ok (.bipush 7, 2) := by decide +kernel
theorem dX5_look_157 : decode cX5_look 157 = .ok (.aload_n 0, 1) := by decide +kernel
theorem dX5_look_158 : decode cX5_look 158 = .ok (.getfield 28, 3) := by decide +kernel
theorem dX5_look_161 : decode cX5_look 161 = .ok (.getfield 38, 3) := by decide +kernel
theorem dX5_look_164 : decode cX5_look 164 = .ok (.invokestatic 63, 3) := by decide +kernel
theorem dX5_look_167 : decode cX5_look 167 = .ok (.aload_n 0, 1) := by decide +kernel
theorem dX5_look_168 : decode cX5_look 168 = .ok (.getfield 9, 3) := by decide +kernel
theorem dX5_look_171 : decode cX5_look 171 = .ok (.bipush 8, 2) := by decide +kernel
theorem dX5_look_173 : decode cX5_look 173 = .ok (.aload_n 0, 1) := by decide +kernel
theorem dX5_look_174 : decode cX5_look 174 = .ok (.getfield 28, 3) := by decide +kernel
theorem dX5_look_177 : decode cX5_look 177 = .ok (.getfield 82, 3) := by decide +kernel
theorem dX5_look_180 : decode cX5_look 180 = .ok (.invokestatic 63, 3) := by decide +kernel
theorem dX5_look_183 : decode cX5_look 183 = .ok (.return_, 1) := by decide +kernel
theorem dX5_kept_0 : decode cX5_kept 0 = .ok (.aload_n 0, 1) := by decide +kernel
theorem dX5_kept_1 : decode cX5_kept 1 = .ok (.getfield 9, 3) := by decide +kernel
theorem dX5_kept_4 : decode cX5_kept 4 = .ok (.iconst 1, 1) := by decide +kernel
theorem dX5_kept_5 : decode cX5_kept 5 = .ok (.invokestatic 44, 3) := by decide +kernel
theorem dX5_kept_8 : decode cX5_kept 8 = .ok (.istore_n 2, 1) := by decide +kernel
theorem dX5_kept_9 : decode cX5_kept 9 = .ok (.aload_n 0, 1) := by decide +kernel
theorem dX5_kept_10 : decode cX5_kept 10 = .ok (.getfield 28, 3) := by decide +kernel
theorem dX5_kept_13 : decode cX5_kept 13 = .ok (.getfield 82, 3) := by decide +kernel
theorem dX5_kept_16 : decode cX5_kept 16 = .ok (.istore_n 3, 1) := by decide +kernel
theorem dX5_kept_17 : decode cX5_kept 17 = .ok (.iload_n 1, 1) := by decide +kernel
theorem dX5_kept_18 : decode cX5_kept 18 = .ok (.ifCond .ge 7, 3) := by decide +kernel
theorem dX5_kept_21 : decode cX5_kept 21 = .ok (.iconst 0, 1) := by decide +kernel
theorem dX5_kept_22 : decode cX5_kept 22 = .ok (.goto 13, 3) := by decide +kernel
theorem dX5_kept_25 : decode cX5_kept 25 = .ok (.iload_n 1, 1) := by decide +kernel
theorem dX5_kept_26 : decode cX5_kept 26 = .ok (.iload_n 2, 1) := by decide +kernel
theorem dX5_kept_27 : decode cX5_kept 27 = .ok (.if_icmp .le 7, 3) := by decide +kernel
theorem dX5_kept_30 : decode cX5_kept 30 = .ok (.iload_n 2, 1) := by decide +kernel
theorem dX5_kept_31 : decode cX5_kept 31 = .ok (.goto 4, 3) := by decide +kernel
theorem dX5_kept_34 : decode cX5_kept 34 = .ok (.iload_n 1, 1) := by decide +kernel
theorem dX5_kept_35 : decode cX5_kept 35 = .ok (.istore 4, 2) := by decide +kernel
theorem dX5_kept_37 : decode cX5_kept 37 = .ok (.iload 4, 2) := by decide +kernel
theorem dX5_kept_39 : decode cX5_kept 39 = .ok (.iload_n 3, 1) := by decide +kernel
theorem dX5_kept_40 : decode cX5_kept 40 = .ok (.if_icmp .lt 6, 3) := by decide +kernel
theorem dX5_kept_43 : decode cX5_kept 43 = .ok (.iload 4, 2) := by decide +kernel
theorem dX5_kept_45 : decode cX5_kept 45 = .ok (.ireturn, 1) := by decide +kernel
theorem dX5_kept_46 : decode cX5_kept 46 = .ok (.aload_n 0, 1) := by decide +kernel
theorem dX5_kept_47 : decode cX5_kept 47 = .ok (.getfield 9, 3) := by decide +kernel
theorem dX5_kept_50 : decode cX5_kept 50 = .ok (.iconst 0, 1) := by decide +kernel
theorem dX5_kept_51 : decode cX5_kept 51 = .ok (.invokestatic 44, 3) := by decide +kernel
theorem dX5_kept_54 : decode cX5_kept 54 = .ok (.iload_n 3, 1) := by decide +kernel
theorem dX5_kept_55 : decode cX5_kept 55 = .ok (.if_icmp .lt 12, 3) := by decide +kernel
theorem dX5_kept_58 : decode cX5_kept 58 = .ok (.iload_n 2, 1) := by decide +kernel
theorem dX5_kept_59 : decode cX5_kept 59 = .ok (.iload_n 3, 1) := by decide +kernel
theorem dX5_kept_60 : decode cX5_kept 60 = .ok (.if_icmp .lt 7, 3) := by decide +kernel
theorem dX5_kept_63 : decode cX5_kept 63 = .ok (.iload_n 3, 1) := by decide +kernel
theorem dX5_kept_64 : decode cX5_kept 64 = .ok (.goto 4, 3) := by decide +kernel
theorem dX5_kept_67 : decode cX5_kept 67 = .ok (.iconst (-1), 1) := by decide +kernel
theorem dX5_kept_68 : decode cX5_kept 68 = .ok (.ireturn, 1) := by decide +kernel
theorem dX5_worked_0 : decode cX5_worked 0 = .ok (.iconst 0, 1) := by decide +kernel
theorem dX5_worked_1 : decode cX5_worked 1 = .ok (.istore_n 3, 1) := by decide +kernel
theorem dX5_worked_2 : decode cX5_worked 2 = .ok (.iload_n 1, 1) := by decide +kernel
theorem dX5_worked_3 : decode cX5_worked 3 = .ok (.istore 4, 2) := by decide +kernel
theorem dX5_worked_5 : decode cX5_worked 5 = .ok (.iload 4, 2) := by decide +kernel
theorem dX5_worked_7 : decode cX5_worked 7 = .ok (.iload_n 2, 1) := by decide +kernel
theorem dX5_worked_8 : decode cX5_worked 8 = .ok (.if_icmp .ge 146, 3) := by decide +kernel
theorem dX5_worked_11 : decode cX5_worked 11 = .ok (.aload_n 0, 1) := by decide +kernel
theorem dX5_worked_12 : decode cX5_worked 12 = .ok (.getfield 18, 3) := by decide +kernel
theorem dX5_worked_15 : decode cX5_worked 15 = .ok (.getfield 85, 3) := by decide +kernel
theorem dX5_worked_18 : decode cX5_worked 18 = .ok (.iload 4, 2) := by decide +kernel
theorem dX5_worked_20 : decode cX5_worked 20 = .ok (.invokestatic 44, 3) := by decide +kernel
theorem dX5_worked_23 : decode cX5_worked 23 = .ok (.istore 5, 2) := by decide +kernel
theorem dX5_worked_25 : decode cX5_worked 25 = .ok (.iload 5, 2) := by decide +kernel
theorem dX5_worked_27 : decode cX5_worked 27 = .ok (.sipush 2000, 3) := by decide +kernel
theorem dX5_worked_30 : decode cX5_worked 30 = .ok (.if_icmp .ge 43, 3) := by decide +kernel
theorem dX5_worked_33 : decode cX5_worked 33 = .ok (.aload_n 0, 1) := by decide +kernel
theorem dX5_worked_34 : decode cX5_worked 34 = .ok (.getfield 15, 3) := by decide +kernel
theorem dX5_worked_37 : decode cX5_worked 37 = .ok (.iload_n 3, 1) := by decide +kernel
theorem dX5_worked_38 : decode cX5_worked 38 = .ok (.iload 5, 2) := by decide +kernel
theorem dX5_worked_40 : decode cX5_worked 40 = .ok (.sipush 1000, 3) := by decide +kernel
theorem dX5_worked_43 : decode cX5_worked 43 = .ok (.if_icmp .ge 8, 3) := by decide +kernel
theorem dX5_worked_46 : decode cX5_worked 46 = .ok (.iload 5, 2) := by decide +kernel
theorem dX5_worked_48 : decode cX5_worked 48 = .ok (.goto 16, 3) := by decide +kernel
theorem dX5_worked_51 : decode cX5_worked 51 = .ok (.aload_n 0, 1) := by decide +kernel
theorem dX5_worked_52 : decode cX5_worked 52 = .ok (.getfield 9, 3) := by decide +kernel
theorem dX5_worked_55 : decode cX5_worked 55 = .ok (.iload 5, 2) := by decide +kernel
theorem dX5_worked_57 : decode cX5_worked 57 = .ok (.sipush 1000, 3) := by decide +kernel
theorem dX5_worked_60 : decode cX5_worked 60 = .ok (.isub, 1) := by decide +kernel
theorem dX5_worked_61 : decode cX5_worked 61 = .ok (.invokestatic 44, 3) := by decide +kernel
theorem dX5_worked_64 : decode cX5_worked 64 = .ok (.invokestatic 63, 3) := by decide +kernel
theorem dX5_worked_67 : decode cX5_worked 67 = .ok (.iinc 3 1, 3) := by decide +kernel
theorem dX5_worked_70 : decode cX5_worked 70 = .ok (.goto 78, 3) := by decide +kernel
theorem dX5_worked_73 : decode cX5_worked 73 = .ok (.iload 5, 2) := by decide +kernel
theorem dX5_worked_75 : decode cX5_worked 75 = .ok (.sipush 2033, 3) := by decide +kernel
theorem dX5_worked_78 : decode cX5_worked 78 = .ok (.if_icmp .ne 34, 3) := by decide +kernel
theorem dX5_worked_81 : decode cX5_worked 81 = .ok (.aload_n 0, 1) := by decide +kernel
theorem dX5_worked_82 : decode cX5_worked 82 = .ok (.getfield 15, 3) := by decide +kernel
theorem dX5_worked_85 : decode cX5_worked 85 = .ok (.iload_n 3, 1) := by decide +kernel
theorem dX5_worked_86 : decode cX5_worked 86 = .ok (.iconst 1, 1) := by decide +kernel
theorem dX5_worked_87 : decode cX5_worked 87 = .ok (.isub, 1) := by decide +kernel
theorem dX5_worked_88 : decode cX5_worked 88 = .ok (.aload_n 0, 1) := by decide +kernel
theorem dX5_worked_89 : decode cX5_worked 89 = .ok (.getfield 15, 3) := by decide +kernel
theorem dX5_worked_92 : decode cX5_worked 92 = .ok (.iload_n 3, 1) := by decide +kernel
theorem dX5_worked_93 : decode cX5_worked 93 = .ok (.iconst 1, 1) := by decide +kernel
theorem dX5_worked_94 : decode cX5_worked 94 = .ok (.isub, 1) := by decide +kernel
theorem dX5_worked_95 : decode cX5_worked 95 = .ok (.invokestatic 44, 3) := by decide +kernel
theorem dX5_worked_98 : decode cX5_worked 98 = .ok (.ifCond .ne 7, 3) := by decide +kernel
theorem dX5_worked_101 : decode cX5_worked 101 = .ok (.iconst 1, 1) := by decide +kernel
theorem dX5_worked_102 : decode cX5_worked 102 = .ok (.goto 4, 3) := by decide +kernel
theorem dX5_worked_105 : decode cX5_worked 105 = .ok (.iconst 0, 1) := by decide +kernel
theorem dX5_worked_106 : decode cX5_worked 106 = .ok (.invokestatic 63, 3) := by decide +kernel
theorem dX5_worked_109 : decode cX5_worked 109 = .ok (.goto 39, 3) := by decide +kernel
theorem dX5_worked_112 : decode cX5_worked 112 = .ok (.iinc 3 (-1), 3) := by decide +kernel
theorem dX5_worked_115 : decode cX5_worked 115 = .ok (.aload_n 0, 1) := by decide +kernel
theorem dX5_worked_116 : decode cX5_worked 116 = .ok (.getfield 15, 3) := by decide +kernel
theorem dX5_worked_119 : decode cX5_worked 119 = .ok (.iload_n 3, 1) := by decide +kernel
theorem dX5_worked_120 : decode cX5_worked 120 = .ok (.iconst 1, 1) := by decide +kernel
theorem dX5_worked_121 : decode cX5_worked 121 = .ok (.isub, 1) := by decide +kernel
theorem dX5_worked_122 : decode cX5_worked 122 = .ok (.iload 5, 2) := by decide +kernel
theorem dX5_worked_124 : decode cX5_worked 124 = .ok (.aload_n 0, 1) := by decide +kernel
theorem dX5_worked_125 : decode cX5_worked 125 = .ok (.getfield 15, 3) := by decide +kernel
theorem dX5_worked_128 : decode cX5_worked 128 = .ok (.iload_n 3, 1) := by decide +kernel
theorem dX5_worked_129 : decode cX5_worked 129 = .ok (.iconst 1, 1) := by decide +kernel
theorem dX5_worked_130 : decode cX5_worked 130 = .ok (.isub, 1) := by decide +kernel
theorem dX5_worked_131 : decode cX5_worked 131 = .ok (.invokestatic 44, 3) := by decide +kernel
theorem dX5_worked_134 : decode cX5_worked 134 = .ok (.aload_n 0, 1) := by decide +kernel
theorem dX5_worked_135 : decode cX5_worked 135 = .ok (.getfield 15, 3) := by decide +kernel
theorem dX5_worked_138 : decode cX5_worked 138 = .ok (.iload_n 3, 1) := by decide +kernel
theorem dX5_worked_139 : decode cX5_worked 139 = .ok (.invokestatic 44, 3) := by decide +kernel
theorem dX5_worked_142 : decode cX5_worked 142 = .ok (.invokestatic 88, 3) := by decide +kernel
theorem dX5_worked_145 : decode cX5_worked 145 = .ok (.invokestatic 63, 3) := by decide +kernel
theorem dX5_worked_148 : decode cX5_worked 148 = .ok (.iinc 4 1, 3) := by decide +kernel
theorem dX5_worked_151 : decode cX5_worked 151 = .ok (.goto (-146), 3) := by decide +kernel
theorem dX5_worked_154 : decode cX5_worked 154 = .ok (.aload_n 0, 1) := by decide +kernel
theorem dX5_worked_155 : decode cX5_worked 155 = .ok (.getfield 15, 3) := by decide +kernel
theorem dX5_worked_158 : decode cX5_worked 158 = .ok (.iconst 0, 1) := by decide +kernel
theorem dX5_worked_159 : decode cX5_worked 159 = .ok (.invokestatic 44, 3) := by decide +kernel
theorem dX5_worked_162 : decode cX5_worked 162 = .ok (.ireturn, 1) := by decide +kernel
theorem dX5_joined_0 : decode cX5_joined 0 = .ok (.iload_n 0, 1) := by decide +kernel
theorem dX5_joined_1 : decode cX5_joined 1 = .ok (.sipush 2000, 3) := by decide +kernel
theorem dX5_joined_4 : decode cX5_joined 4 = .ok (.isub, 1) := by decide +kernel
theorem dX5_joined_5 : decode cX5_joined 5 = .ok (.tableswitch 171 38 61 #[157, 171, 171, 171, 119, 111, 171, 115, 171, 123, 171, 171, 171, 171, 171, 171, 171, 171, 171, 171, 171, 171, 135, 146], 111) := by decide +kernel
theorem dX5_joined_116 : decode cX5_joined 116 = .ok (.iload_n 1, 1) := by decide +kernel
theorem dX5_joined_117 : decode cX5_joined 117 = .ok (.iload_n 2, 1) := by decide +kernel
theorem dX5_joined_118 : decode cX5_joined 118 = .ok (.iadd, 1) := by decide +kernel
theorem dX5_joined_119 : decode cX5_joined 119 = .ok (.ireturn, 1) := by decide +kernel
theorem dX5_joined_120 : decode cX5_joined 120 = .ok (.iload_n 1, 1) := by decide +kernel
theorem dX5_joined_121 : decode cX5_joined 121 = .ok (.iload_n 2, 1) := by decide +kernel
theorem dX5_joined_122 : decode cX5_joined 122 = .ok (.isub, 1) := by decide +kernel
theorem dX5_joined_123 : decode cX5_joined 123 = .ok (.ireturn, 1) := by decide +kernel
theorem dX5_joined_124 : decode cX5_joined 124 = .ok (.iload_n 1, 1) := by decide +kernel
theorem dX5_joined_125 : decode cX5_joined 125 = .ok (.iload_n 2, 1) := by decide +kernel
theorem dX5_joined_126 : decode cX5_joined 126 = .ok (.imul, 1) := by decide +kernel
theorem dX5_joined_127 : decode cX5_joined 127 = .ok (.ireturn, 1) := by decide +kernel
theorem dX5_joined_128 : decode cX5_joined 128 = .ok (.iload_n 2, 1) := by decide +kernel
theorem dX5_joined_129 : decode cX5_joined 129 = .ok (.ifCond .ne 7, 3) := by decide +kernel
theorem dX5_joined_132 : decode cX5_joined 132 = .ok (.iconst 0, 1) := by decide +kernel
theorem dX5_joined_133 : decode cX5_joined 133 = .ok (.goto 6, 3) := by decide +kernel
theorem dX5_joined_136 : decode cX5_joined 136 = .ok (.iload_n 1, 1) := by decide +kernel
theorem dX5_joined_137 : decode cX5_joined 137 = .ok (.iload_n 2, 1) := by decide +kernel
theorem dX5_joined_138 : decode cX5_joined 138 = .ok (.idiv, 1) := by decide +kernel
theorem dX5_joined_139 : decode cX5_joined 139 = .ok (.ireturn, 1) := by decide +kernel
theorem dX5_joined_140 : decode cX5_joined 140 = .ok (.iload_n 1, 1) := by decide +kernel
theorem dX5_joined_141 : decode cX5_joined 141 = .ok (.iload_n 2, 1) := by decide +kernel
theorem dX5_joined_142 : decode cX5_joined 142 = .ok (.if_icmp .ge 7, 3) := by decide +kernel
theorem dX5_joined_145 : decode cX5_joined 145 = .ok (.iconst 1, 1) := by decide +kernel
theorem dX5_joined_146 : decode cX5_joined 146 = .ok (.goto 4, 3) := by decide +kernel
theorem dX5_joined_149 : decode cX5_joined 149 = .ok (.iconst 0, 1) := by decide +kernel
theorem dX5_joined_150 : decode cX5_joined 150 = .ok (.ireturn, 1) := by decide +kernel
theorem dX5_joined_151 : decode cX5_joined 151 = .ok (.iload_n 1, 1) := by decide +kernel
theorem dX5_joined_152 : decode cX5_joined 152 = .ok (.iload_n 2, 1) := by decide +kernel
theorem dX5_joined_153 : decode cX5_joined 153 = .ok (.if_icmp .ne 7, 3) := by decide +kernel
theorem dX5_joined_156 : decode cX5_joined 156 = .ok (.iconst 1, 1) := by decide +kernel
theorem dX5_joined_157 : decode cX5_joined 157 = .ok (.goto 4, 3) := by decide +kernel
theorem dX5_joined_160 : decode cX5_joined 160 = .ok (.iconst 0, 1) := by decide +kernel
theorem dX5_joined_161 : decode cX5_joined 161 = .ok (.ireturn, 1) := by decide +kernel
theorem dX5_joined_162 : decode cX5_joined 162 = .ok (.iload_n 1, 1) := by decide +kernel
theorem dX5_joined_163 : decode cX5_joined 163 = .ok (.ifCond .eq 11, 3) := by decide +kernel
theorem dX5_joined_166 : decode cX5_joined 166 = .ok (.iload_n 2, 1) := by decide +kernel
theorem dX5_joined_167 : decode cX5_joined 167 = .ok (.ifCond .eq 7, 3) := by decide +kernel
theorem dX5_joined_170 : decode cX5_joined 170 = .ok (.iconst 1, 1) := by decide +kernel
theorem dX5_joined_171 : decode cX5_joined 171 = .ok (.goto 4, 3) := by decide +kernel
theorem dX5_joined_174 : decode cX5_joined 174 = .ok (.iconst 0, 1) := by decide +kernel
theorem dX5_joined_175 : decode cX5_joined 175 = .ok (.ireturn, 1) := by decide +kernel
theorem dX5_joined_176 : decode cX5_joined 176 = .ok (.iload_n 1, 1) := by decide +kernel
theorem dX5_joined_177 : decode cX5_joined 177 = .ok (.ifCond .ne 7, 3) := by decide +kernel
theorem dX5_joined_180 : decode cX5_joined 180 = .ok (.iload_n 2, 1) := by decide +kernel
theorem dX5_joined_181 : decode cX5_joined 181 = .ok (.ifCond .eq 7, 3) := by decide +kernel
theorem dX5_joined_184 : decode cX5_joined 184 = .ok (.iconst 1, 1) := by decide +kernel
theorem dX5_joined_185 : decode cX5_joined 185 = .ok (.goto 4, 3) := by decide +kernel
theorem dX5_joined_188 : decode cX5_joined 188 = .ok (.iconst 0, 1) := by decide +kernel
theorem dX5_joined_189 : decode cX5_joined 189 = .ok (.ireturn, 1) := by decide +kernel
theorem dX6_init_0 : decode cX6_init 0 = .ok (.aload_n 0, 1) := by decide +kernel
theorem dX6_init_1 : decode cX6_init 1 = .ok (.invokespecial 3, 3) := by decide +kernel
theorem dX6_init_4 : decode cX6_init 4 = .ok (.aload_n 0, 1) := by decide +kernel
theorem dX6_init_5 : decode cX6_init 5 = .ok (.sipush 700, 3) := by decide +kernel
theorem dX6_init_8 : decode cX6_init 8 = .ok (.newarray .int, 2) := by decide +kernel
theorem dX6_init_10 : decode cX6_init 10 = .ok (.putfield 9, 3) := by decide +kernel
theorem dX6_init_13 : decode cX6_init 13 = .ok (.aload_n 0, 1) := by decide +kernel
theorem dX6_init_14 : decode cX6_init 14 = .ok (.iconst 0, 1) := by decide +kernel
theorem dX6_init_15 : decode cX6_init 15 = .ok (.putfield 15, 3) := by decide +kernel
theorem dX6_init_18 : decode cX6_init 18 = .ok (.aload_n 0, 1) := by decide +kernel
theorem dX6_init_19 : decode cX6_init 19 = .ok (.iconst (-1), 1) := by decide +kernel
theorem dX6_init_20 : decode cX6_init 20 = .ok (.putfield 19, 3) := by decide +kernel
theorem dX6_init_23 : decode cX6_init 23 = .ok (.aload_n 0, 1) := by decide +kernel
theorem dX6_init_24 : decode cX6_init 24 = .ok (.new 22, 3) := by decide +kernel
theorem dX6_init_27 : decode cX6_init 27 = .ok (.dup, 1) := by decide +kernel
theorem dX6_init_28 : decode cX6_init 28 = .ok (.invokespecial 24, 3) := by decide +kernel
theorem dX6_init_31 : decode cX6_init 31 = .ok (.putfield 25, 3) := by decide +kernel
theorem dX6_init_34 : decode cX6_init 34 = .ok (.aload_n 0, 1) := by decide +kernel
theorem dX6_init_35 : decode cX6_init 35 = .ok (.iconst 0, 1) := by decide +kernel
theorem dX6_init_36 : decode cX6_init 36 = .ok (.putfield 29, 3) := by decide +kernel
theorem dX6_init_39 : decode cX6_init 39 = .ok (.aload_n 0, 1) := by decide +kernel
theorem dX6_init_40 : decode cX6_init 40 = .ok (.iconst 0, 1) := by decide +kernel
theorem dX6_init_41 : decode cX6_init 41 = .ok (.putfield 32, 3) := by decide +kernel
theorem dX6_init_44 : decode cX6_init 44 = .ok (.aload_n 0, 1) := by decide +kernel
theorem dX6_init_45 : decode cX6_init 45 = .ok (.iconst 0, 1) := by decide +kernel
theorem dX6_init_46 : decode cX6_init 46 = .ok (.putfield 35, 3) := by decide +kernel
theorem dX6_init_49 : decode cX6_init 49 = .ok (.aload_n 0, 1) := by decide +kernel
theorem dX6_init_50 : decode cX6_init 50 = .ok (.iconst 0, 1) := by decide +kernel
theorem dX6_init_51 : decode cX6_init 51 = .ok (.putfield 38, 3) := by decide +kernel
theorem dX6_init_54 : decode cX6_init 54 = .ok (.aload_n 0, 1) := by decide +kernel
theorem dX6_init_55 : decode cX6_init 55 = .ok (.iconst 0, 1) := by decide +kernel
theorem dX6_init_56 : decode cX6_init 56 = .ok (.putfield 41, 3) := by decide +kernel
theorem dX6_init_59 : decode cX6_init 59 = .ok (.aload_n 0, 1) := by decide +kernel
theorem dX6_init_60 : decode cX6_init 60 = .ok (.iconst 0, 1) := by decide +kernel
theorem dX6_init_61 : decode cX6_init 61 = .ok (.putfield 44, 3) := by decide +kernel
theorem dX6_init_64 : decode cX6_init 64 = .ok (.aload_n 0, 1) := by decide +kernel
theorem dX6_init_65 : decode cX6_init 65 = .ok (.iconst 0, 1) := by decide +kernel
theorem dX6_init_66 : decode cX6_init 66 = .ok (.putfield 47, 3) := by decide +kernel
theorem dX6_init_69 : decode cX6_init 69 = .ok (.aload_n 0, 1) := by decide +kernel
theorem dX6_init_70 : decode cX6_init 70 = .ok (.iconst 0, 1) := by decide +kernel
theorem dX6_init_71 : decode cX6_init 71 = .ok (.putfield 50, 3) := by decide +kernel
theorem dX6_init_74 : decode cX6_init 74 = .ok (.return_, 1) := by decide +kernel
theorem dX6_take_0 : decode cX6_take 0 = .ok (.bipush 24, 2) := by decide +kernel
theorem dX6_take_2 : decode cX6_take 2 = .ok (.istore_n 2, 1) := by decide +kernel
theorem dX6_take_3 : decode cX6_take 3 = .ok (.iload_n 2, 1) := by decide +kernel
theorem dX6_take_4 : decode cX6_take 4 = .ok (.ifCond .lt 37, 3) := by decide +kernel
theorem dX6_take_7 : decode cX6_take 7 = .ok (.aload_n 0, 1) := by decide +kernel
theorem dX6_take_8 : decode cX6_take 8 = .ok (.getfield 9, 3) := by decide +kernel
theorem dX6_take_11 : decode cX6_take 11 = .ok (.aload_n 0, 1) := by decide +kernel
theorem dX6_take_12 : decode cX6_take 12 = .ok (.getfield 15, 3) := by decide +kernel
theorem dX6_take_15 : decode cX6_take 15 = .ok (.iload_n 1, 1) := by decide +kernel
theorem dX6_take_16 : decode cX6_take 16 = .ok (.iload_n 2, 1) := by decide +kernel
theorem dX6_take_17 : decode cX6_take 17 = .ok (.iushr, 1) := by decide +kernel
theorem dX6_take_18 : decode cX6_take 18 = .ok (.sipush 255, 3) := by decide +kernel
theorem dX6_take_21 : decode cX6_take 21 = .ok (.iand, 1) := by decide +kernel
theorem dX6_take_22 : decode cX6_take 22 = .ok (.invokestatic 53, 3) := by decide +kernel
theorem dX6_take_25 : decode cX6_take 25 = .ok (.aload_n 0, 1) := by decide +kernel
theorem dX6_take_26 : decode cX6_take 26 = .ok (.dup, 1) := by decide +kernel
theorem dX6_take_27 : decode cX6_take 27 = .ok (.getfield 15, 3) := by decide +kernel
theorem dX6_take_30 : decode cX6_take 30 = .ok (.iconst 1, 1) := by decide +kernel
theorem dX6_take_31 : decode cX6_take 31 = .ok (.iadd, 1) := by decide +kernel
theorem dX6_take_32 : decode cX6_take 32 = .ok (.putfield 15, 3) := by decide +kernel
theorem dX6_take_35 : decode cX6_take 35 = .ok (.iinc 2 (-8), 3) := by decide +kernel
theorem dX6_take_38 : decode cX6_take 38 = .ok (.goto (-35), 3) := by decide +kernel
theorem dX6_take_41 : decode cX6_take 41 = .ok (.return_, 1) := by decide +kernel
theorem dX6_read_0 : decode cX6_read 0 = .ok (.aload_n 0, 1) := by decide +kernel
theorem dX6_read_1 : decode cX6_read 1 = .ok (.iload_n 1, 1) := by decide +kernel
theorem dX6_read_2 : decode cX6_read 2 = .ok (.putfield 29, 3) := by decide +kernel
theorem dX6_read_5 : decode cX6_read 5 = .ok (.aload_n 0, 1) := by decide +kernel
theorem dX6_read_6 : decode cX6_read 6 = .ok (.iconst 0, 1) := by decide +kernel
theorem dX6_read_7 : decode cX6_read 7 = .ok (.putfield 35, 3) := by decide +kernel
theorem dX6_read_10 : decode cX6_read 10 = .ok (.aload_n 0, 1) := by decide +kernel
theorem dX6_read_11 : decode cX6_read 11 = .ok (.iconst 0, 1) := by decide +kernel
theorem dX6_read_12 : decode cX6_read 12 = .ok (.putfield 47, 3) := by decide +kernel
theorem dX6_read_15 : decode cX6_read 15 = .ok (.aload_n 0, 1) := by decide +kernel
theorem dX6_read_16 : decode cX6_read 16 = .ok (.iconst 0, 1) := by decide +kernel
theorem dX6_read_17 : decode cX6_read 17 = .ok (.putfield 50, 3) := by decide +kernel
theorem dX6_read_20 : decode cX6_read 20 = .ok (.aload_n 0, 1) := by decide +kernel
theorem dX6_read_21 : decode cX6_read 21 = .ok (.iconst 0, 1) := by decide +kernel
theorem dX6_read_22 : decode cX6_read 22 = .ok (.putfield 15, 3) := by decide +kernel
theorem dX6_read_25 : decode cX6_read 25 = .ok (.aload_n 0, 1) := by decide +kernel
theorem dX6_read_26 : decode cX6_read 26 = .ok (.getfield 25, 3) := by decide +kernel
theorem dX6_read_29 : decode cX6_read 29 = .ok (.invokevirtual 57, 3) := by decide +kernel
theorem dX6_read_32 : decode cX6_read 32 = .ok (.aload_n 0, 1) := by decide +kernel
theorem dX6_read_33 : decode cX6_read 33 = .ok (.invokevirtual 60, 3) := by decide +kernel
theorem dX6_read_36 : decode cX6_read 36 = .ok (.iconst 0, 1) := by decide +kernel
theorem dX6_read_37 : decode cX6_read 37 = .ok (.istore_n 2, 1) := by decide +kernel
theorem dX6_read_38 : decode cX6_read 38 = .ok (.iload_n 2, 1) := by decide +kernel
theorem dX6_read_39 : decode cX6_read 39 = .ok (.sipush 700, 3) := by decide +kernel
theorem dX6_read_42 : decode cX6_read 42 = .ok (.if_icmp .ge 26, 3) := by decide +kernel
theorem dX6_read_45 : decode cX6_read 45 = .ok (.aload_n 0, 1) := by decide +kernel
theorem dX6_read_46 : decode cX6_read 46 = .ok (.getfield 38, 3) := by decide +kernel
theorem dX6_read_49 : decode cX6_read 49 = .ok (.ifCond .eq 19, 3) := by decide +kernel
theorem dX6_read_52 : decode cX6_read 52 = .ok (.aload_n 0, 1) := by decide +kernel
theorem dX6_read_53 : decode cX6_read 53 = .ok (.invokevirtual 63, 3) := by decide +kernel
theorem dX6_read_56 : decode cX6_read 56 = .ok (.ifCond .ne 6, 3) := by decide +kernel
theorem dX6_read_59 : decode cX6_read 59 = .ok (.goto 9, 3) := by decide +kernel
theorem dX6_read_62 : decode cX6_read 62 = .ok (.iinc 2 1, 3) := by decide +kernel
theorem dX6_read_65 : decode cX6_read 65 = .ok (.goto (-27), 3) := by decide +kernel
theorem dX6_read_68 : decode cX6_read 68 = .ok (.aload_n 0, 1) := by decide +kernel
theorem dX6_read_69 : decode cX6_read 69 = .ok (.getfield 50, 3) := by decide +kernel
theorem dX6_read_72 : decode cX6_read 72 = .ok (.ireturn, 1) := by decide +kernel
theorem dX6_clause_0 : decode cX6_clause 0 = .ok (.aload_n 0, 1) := by decide +kernel
theorem dX6_clause_1 : decode cX6_clause 1 = .ok (.ldc 67, 2) := by decide +kernel
theorem dX6_clause_3 : decode cX6_clause 3 = .ok (.invokevirtual 69, 3) := by decide +kernel
theorem dX6_clause_6 : decode cX6_clause 6 = .ok (.ifCond .eq 11, 3) := by decide +kernel
theorem dX6_clause_9 : decode cX6_clause 9 = .ok (.aload_n 0, 1) := by decide +kernel
theorem dX6_clause_10 : decode cX6_clause 10 = .ok (.invokevirtual 73, 3) := by decide +kernel
theorem dX6_clause_13 : decode cX6_clause 13 = .ok (.istore_n 1, 1) := by decide +kernel
theorem dX6_clause_14 : decode cX6_clause 14 = .ok (.goto 202, 3) := by decide +kernel
theorem dX6_clause_17 : decode cX6_clause 17 = .ok (.aload_n 0, 1) := by decide +kernel
theorem dX6_clause_18 : decode cX6_clause 18 = .ok (.ldc 76, 2) := by decide +kernel
theorem dX6_clause_20 : decode cX6_clause 20 = .ok (.invokevirtual 69, 3) := by decide +kernel
theorem dX6_clause_23 : decode cX6_clause 23 = .ok (.ifCond .eq 27, 3) := by decide +kernel
theorem dX6_clause_26 : decode cX6_clause 26 = .ok (.aload_n 0, 1) := by decide +kernel
theorem dX6_clause_27 : decode cX6_clause 27 = .ok (.iconst 1, 1) := by decide +kernel
theorem dX6_clause_28 : decode cX6_clause 28 = .ok (.invokevirtual 78, 3) := by decide +kernel
theorem dX6_clause_31 : decode cX6_clause 31 = .ok (.ifCond .eq 14, 3) := by decide +kernel
theorem dX6_clause_34 : decode cX6_clause 34 = .ok (.aload_n 0, 1) := by decide +kernel
theorem dX6_clause_35 : decode cX6_clause 35 = .ok (.invokevirtual 82, 3) := by decide +kernel
theorem dX6_clause_38 : decode cX6_clause 38 = .ok (.ifCond .eq 7, 3) := by decide +kernel
theorem dX6_clause_41 : decode cX6_clause 41 = .ok (.iconst 1, 1) := by decide +kernel
theorem dX6_clause_42 : decode cX6_clause 42 = .ok (.goto 4, 3) := by decide +kernel
theorem dX6_clause_45 : decode cX6_clause 45 = .ok (.iconst 0, 1) := by decide +kernel
theorem dX6_clause_46 : decode cX6_clause 46 = .ok (.istore_n 1, 1) := by decide +kernel
theorem dX6_clause_47 : decode cX6_clause 47 = .ok (.goto 169, 3) := by decide +kernel
theorem dX6_clause_50 : decode cX6_clause 50 = .ok (.aload_n 0, 1) := by decide +kernel
theorem dX6_clause_51 : decode cX6_clause 51 = .ok (.ldc 85, 2) := by decide +kernel
theorem dX6_clause_53 : decode cX6_clause 53 = .ok (.invokevirtual 69, 3) := by decide +kernel
theorem dX6_clause_56 : decode cX6_clause 56 = .ok (.ifCond .eq 27, 3) := by decide +kernel
theorem dX6_clause_59 : decode cX6_clause 59 = .ok (.aload_n 0, 1) := by decide +kernel
theorem dX6_clause_60 : decode cX6_clause 60 = .ok (.iconst 2, 1) := by decide +kernel
theorem dX6_clause_61 : decode cX6_clause 61 = .ok (.invokevirtual 78, 3) := by decide +kernel
theorem dX6_clause_64 : decode cX6_clause 64 = .ok (.ifCond .eq 14, 3) := by decide +kernel
theorem dX6_clause_67 : decode cX6_clause 67 = .ok (.aload_n 0, 1) := by decide +kernel
theorem dX6_clause_68 : decode cX6_clause 68 = .ok (.invokevirtual 87, 3) := by decide +kernel
theorem dX6_clause_71 : decode cX6_clause 71 = .ok (.ifCond .eq 7, 3) := by decide +kernel
theorem dX6_clause_74 : decode cX6_clause 74 = .ok (.iconst 1, 1) := by decide +kernel
theorem dX6_clause_75 : decode cX6_clause 75 = .ok (.goto 4, 3) := by decide +kernel
theorem dX6_clause_78 : decode cX6_clause 78 = .ok (.iconst 0, 1) := by decide +kernel
theorem dX6_clause_79 : decode cX6_clause 79 = .ok (.istore_n 1, 1) := by decide +kernel
theorem dX6_clause_80 : decode cX6_clause 80 = .ok (.goto 136, 3) := by decide +kernel
theorem dX6_clause_83 : decode cX6_clause 83 = .ok (.aload_n 0, 1) := by decide +kernel
theorem dX6_clause_84 : decode cX6_clause 84 = .ok (.ldc 90, 2) := by decide +kernel
theorem dX6_clause_86 : decode cX6_clause 86 = .ok (.invokevirtual 69, 3) := by decide +kernel
theorem dX6_clause_89 : decode cX6_clause 89 = .ok (.ifCond .eq 23, 3) := by decide +kernel
theorem dX6_clause_92 : decode cX6_clause 92 = .ok (.aload_n 0, 1) := by decide +kernel
theorem dX6_clause_93 : decode cX6_clause 93 = .ok (.iconst 4, 1) := by decide +kernel
theorem dX6_clause_94 : decode cX6_clause 94 = .ok (.invokevirtual 78, 3) := by decide +kernel
theorem dX6_clause_97 : decode cX6_clause 97 = .ok (.istore_n 1, 1) := by decide +kernel
theorem dX6_clause_98 : decode cX6_clause 98 = .ok (.aload_n 0, 1) := by decide +kernel
theorem dX6_clause_99 : decode cX6_clause 99 = .ok (.getfield 25, 3) := by decide +kernel
theorem dX6_clause_102 : decode cX6_clause 102 = .ok (.getfield 92, 3) := by decide +kernel
theorem dX6_clause_105 : decode cX6_clause 105 = .ok (.iconst 1, 1) := by decide +kernel
theorem dX6_clause_106 : decode cX6_clause 106 = .ok (.putfield 96, 3) := by decide +kernel
theorem dX6_clause_109 : decode cX6_clause 109 = .ok (.goto 107, 3) := by decide +kernel
theorem dX6_clause_112 : decode cX6_clause 112 = .ok (.aload_n 0, 1) := by decide +kernel
theorem dX6_clause_113 : decode cX6_clause 113 = .ok (.ldc 100, 2) := by decide +kernel
theorem dX6_clause_115 : decode cX6_clause 115 = .ok (.invokevirtual 69, 3) := by decide +kernel
theorem dX6_clause_118 : decode cX6_clause 118 = .ok (.ifCond .eq 24, 3) := by decide +kernel
theorem dX6_clause_121 : decode cX6_clause 121 = .ok (.aload_n 0, 1) := by decide +kernel
theorem dX6_clause_122 : decode cX6_clause 122 = .ok (.bipush 8, 2) := by decide +kernel
theorem dX6_clause_124 : decode cX6_clause 124 = .ok (.invokevirtual 78, 3) := by decide +kernel
theorem dX6_clause_127 : decode cX6_clause 127 = .ok (.istore_n 1, 1) := by decide +kernel
theorem dX6_clause_128 : decode cX6_clause 128 = .ok (.aload_n 0, 1) := by decide +kernel
theorem dX6_clause_129 : decode cX6_clause 129 = .ok (.getfield 25, 3) := by decide +kernel
theorem dX6_clause_132 : decode cX6_clause 132 = .ok (.getfield 92, 3) := by decide +kernel
theorem dX6_clause_135 : decode cX6_clause 135 = .ok (.iconst 1, 1) := by decide +kernel
theorem dX6_clause_136 : decode cX6_clause 136 = .ok (.putfield 102, 3) := by decide +kernel
theorem dX6_clause_139 : decode cX6_clause 139 = .ok (.goto 77, 3) := by decide +kernel
theorem dX6_clause_142 : decode cX6_clause 142 = .ok (.aload_n 0, 1) := by decide +kernel
theorem dX6_clause_143 : decode cX6_clause 143 = .ok (.ldc 104, 2) := by decide +kernel
theorem dX6_clause_145 : decode cX6_clause 145 = .ok (.invokevirtual 69, 3) := by decide +kernel
theorem dX6_clause_148 : decode cX6_clause 148 = .ok (.ifCond .eq 28, 3) := by decide +kernel
theorem dX6_clause_151 : decode cX6_clause 151 = .ok (.aload_n 0, 1) := by decide +kernel
theorem dX6_clause_152 : decode cX6_clause 152 = .ok (.bipush 16, 2) := by decide +kernel
theorem dX6_clause_154 : decode cX6_clause 154 = .ok (.invokevirtual 78, 3) := by decide +kernel
theorem dX6_clause_157 : decode cX6_clause 157 = .ok (.ifCond .eq 14, 3) := by decide +kernel
theorem dX6_clause_160 : decode cX6_clause 160 = .ok (.aload_n 0, 1) := by decide +kernel
theorem dX6_clause_161 : decode cX6_clause 161 = .ok (.invokevirtual 106, 3) := by decide +kernel
theorem dX6_clause_164 : decode cX6_clause 164 = .ok (.ifCond .eq 7, 3) := by decide +kernel
theorem dX6_clause_167 : decode cX6_clause 167 = .ok (.iconst 1, 1) := by decide +kernel
theorem dX6_clause_168 : decode cX6_clause 168 = .ok (.goto 4, 3) := by decide +kernel
theorem dX6_clause_171 : decode cX6_clause 171 = .ok (.iconst 0, 1) := by decide +kernel
theorem dX6_clause_172 : decode cX6_clause 172 = .ok (.istore_n 1, 1) := by decide +kernel
theorem dX6_clause_173 : decode cX6_clause 173 = .ok (.goto 43, 3) := by decide +kernel
theorem dX6_clause_176 : decode cX6_clause 176 = .ok (.aload_n 0, 1) := by decide +kernel
theorem dX6_clause_177 : decode cX6_clause 177 = .ok (.ldc 109, 2) := by decide +kernel
theorem dX6_clause_179 : decode cX6_clause 179 = .ok (.invokevirtual 69, 3) := by decide +kernel
theorem dX6_clause_182 : decode cX6_clause 182 = .ok (.ifCond .eq 28, 3) := by decide +kernel
theorem dX6_clause_185 : decode cX6_clause 185 = .ok (.aload_n 0, 1) := by decide +kernel
theorem dX6_clause_186 : decode cX6_clause 186 = .ok (.bipush 32, 2) := by decide +kernel
theorem dX6_clause_188 : decode cX6_clause 188 = .ok (.invokevirtual 78, 3) := by decide +kernel
theorem dX6_clause_191 : decode cX6_clause 191 = .ok (.ifCond .eq 14, 3) := by decide +kernel
theorem dX6_clause_194 : decode cX6_clause 194 = .ok (.aload_n 0, 1) := by decide +kernel
theorem dX6_clause_195 : decode cX6_clause 195 = .ok (.invokevirtual 111, 3) := by decide +kernel
theorem dX6_clause_198 : decode cX6_clause 198 = .ok (.ifCond .eq 7, 3) := by decide +kernel
theorem dX6_clause_201 : decode cX6_clause 201 = .ok (.iconst 1, 1) := by decide +kernel
theorem dX6_clause_202 : decode cX6_clause 202 = .ok (.goto 4, 3) := by decide +kernel
theorem dX6_clause_205 : decode cX6_clause 205 = .ok (.iconst 0, 1) := by decide +kernel
theorem dX6_clause_206 : decode cX6_clause 206 = .ok (.istore_n 1, 1) := by decide +kernel
theorem dX6_clause_207 : decode cX6_clause 207 = .ok (.goto 9, 3) := by decide +kernel
theorem dX6_clause_210 : decode cX6_clause 210 = .ok (.aload_n 0, 1) := by decide +kernel
theorem dX6_clause_211 : decode cX6_clause 211 = .ok (.iconst 1, 1) := by decide +kernel
theorem dX6_clause_212 : decode cX6_clause 212 = .ok (.invokevirtual 114, 3) := by decide +kernel
theorem dX6_clause_215 : decode cX6_clause 215 = .ok (.istore_n 1, 1) := by decide +kernel
theorem dX6_clause_216 : decode cX6_clause 216 = .ok (.iload_n 1, 1) := by decide +kernel
theorem dX6_clause_217 : decode cX6_clause 217 = .ok (.ifCond .eq 16, 3) := by decide +kernel
theorem dX6_clause_220 : decode cX6_clause 220 = .ok (.aload_n 0, 1) := by decide +kernel
theorem dX6_clause_221 : decode cX6_clause 221 = .ok (.bipush 59, 2) := by decide +kernel
theorem dX6_clause_223 : decode cX6_clause 223 = .ok (.invokevirtual 117, 3) := by decide +kernel
theorem dX6_clause_226 : decode cX6_clause 226 = .ok (.ifCond .eq 7, 3) := by decide +kernel
theorem dX6_clause_229 : decode cX6_clause 229 = .ok (.iconst 1, 1) := by decide +kernel
theorem dX6_clause_230 : decode cX6_clause 230 = .ok (.goto 4, 3) := by decide +kernel
theorem dX6_clause_233 : decode cX6_clause 233 = .ok (.iconst 0, 1) := by decide +kernel
theorem dX6_clause_234 : decode cX6_clause 234 = .ok (.ireturn, 1) := by decide +kernel
theorem dX6_sortClause_0 : decode cX6_sortClause 0 = .ok (.aload_n 0, 1) := by decide +kernel
theorem dX6_sortClause_1 : decode cX6_sortClause 1 = .ok (.getfield 25, 3) := by decide +kernel
theorem dX6_sortClause_4 : decode cX6_sortClause 4 = .ok (.getfield 120, 3) := by decide +kernel
theorem dX6_sortClause_7 : decode cX6_sortClause 7 = .ok (.istore_n 1, 1) := by decide +kernel
theorem dX6_sortClause_8 : decode cX6_sortClause 8 = .ok (.iload_n 1, 1) := by decide +kernel
theorem dX6_sortClause_9 : decode cX6_sortClause 9 = .ok (.bipush 8, 2) := by decide +kernel
theorem dX6_sortClause_11 : decode cX6_sortClause 11 = .ok (.if_icmp .lt 9, 3) := by decide +kernel
theorem dX6_sortClause_14 : decode cX6_sortClause 14 = .ok (.aload_n 0, 1) := by decide +kernel
theorem dX6_sortClause_15 : decode cX6_sortClause 15 = .ok (.iconst 2, 1) := by decide +kernel
theorem dX6_sortClause_16 : decode cX6_sortClause 16 = .ok (.invokevirtual 114, 3) := by decide +kernel
theorem dX6_sortClause_19 : decode cX6_sortClause 19 = .ok (.ireturn, 1) := by decide +kernel
theorem dX6_sortClause_20 : decode cX6_sortClause 20 = .ok (.aload_n 0, 1) := by decide +kernel
theorem dX6_sortClause_21 : decode cX6_sortClause 21 = .ok (.invokevirtual 60, 3) := by decide +kernel
theorem dX6_sortClause_24 : decode cX6_sortClause 24 = .ok (.aload_n 0, 1) := by decide +kernel
theorem dX6_sortClause_25 : decode cX6_sortClause 25 = .ok (.iconst 1, 1) := by decide +kernel
theorem dX6_sortClause_26 : decode cX6_sortClause 26 = .ok (.bipush 99, 2) := by decide +kernel
theorem dX6_sortClause_28 : decode cX6_sortClause 28 = .ok (.invokevirtual 123, 3) := by decide +kernel
theorem dX6_sortClause_31 : decode cX6_sortClause 31 = .ok (.ifCond .ne 5, 3) := by decide +kernel
theorem dX6_sortClause_34 : decode cX6_sortClause 34 = .ok (.iconst 0, 1) := by decide +kernel
theorem dX6_sortClause_35 : decode cX6_sortClause 35 = .ok (.ireturn, 1) := by decide +kernel
theorem dX6_sortClause_36 : decode cX6_sortClause 36 = .ok (.aload_n 0, 1) := by decide +kernel
theorem dX6_sortClause_37 : decode cX6_sortClause 37 = .ok (.getfield 25, 3) := by decide +kernel
theorem dX6_sortClause_40 : decode cX6_sortClause 40 = .ok (.getfield 127, 3) := by decide +kernel
theorem dX6_sortClause_43 : decode cX6_sortClause 43 = .ok (.iload_n 1, 1) := by decide +kernel
theorem dX6_sortClause_44 : decode cX6_sortClause 44 = .ok (.aload_n 0, 1) := by decide +kernel
theorem dX6_sortClause_45 : decode cX6_sortClause 45 = .ok (.getfield 44, 3) := by decide +kernel
theorem dX6_sortClause_48 : decode cX6_sortClause 48 = .ok (.invokestatic 53, 3) := by decide +kernel
theorem dX6_sortClause_51 : decode cX6_sortClause 51 = .ok (.aload_n 0, 1) := by decide +kernel
theorem dX6_sortClause_52 : decode cX6_sortClause 52 = .ok (.ldc 130, 2) := by decide +kernel
theorem dX6_sortClause_54 : decode cX6_sortClause 54 = .ok (.invokevirtual 132, 3) := by decide +kernel
theorem dX6_sortClause_57 : decode cX6_sortClause 57 = .ok (.ifCond .eq 13, 3) := by decide +kernel
theorem dX6_sortClause_60 : decode cX6_sortClause 60 = .ok (.aload_n 0, 1) := by decide +kernel
theorem dX6_sortClause_61 : decode cX6_sortClause 61 = .ok (.iconst 0, 1) := by decide +kernel
theorem dX6_sortClause_62 : decode cX6_sortClause 62 = .ok (.bipush 99, 2) := by decide +kernel
theorem dX6_sortClause_64 : decode cX6_sortClause 64 = .ok (.invokevirtual 123, 3) := by decide +kernel
theorem dX6_sortClause_67 : decode cX6_sortClause 67 = .ok (.ifCond .ne 5, 3) := by decide +kernel
theorem dX6_sortClause_70 : decode cX6_sortClause 70 = .ok (.iconst 0, 1) := by decide +kernel
theorem dX6_sortClause_71 : decode cX6_sortClause 71 = .ok (.ireturn, 1) := by decide +kernel
theorem dX6_sortClause_72 : decode cX6_sortClause 72 = .ok (.aload_n 0, 1) := by decide +kernel
theorem dX6_sortClause_73 : decode cX6_sortClause 73 = .ok (.getfield 25, 3) := by decide +kernel
theorem dX6_sortClause_76 : decode cX6_sortClause 76 = .ok (.getfield 135, 3) := by decide +kernel
theorem dX6_sortClause_79 : decode cX6_sortClause 79 = .ok (.iload_n 1, 1) := by decide +kernel
theorem dX6_sortClause_80 : decode cX6_sortClause 80 = .ok (.aload_n 0, 1) := by decide +kernel
theorem dX6_sortClause_81 : decode cX6_sortClause 81 = .ok (.getfield 44, 3) := by decide +kernel
theorem dX6_sortClause_84 : decode cX6_sortClause 84 = .ok (.invokestatic 53, 3) := by decide +kernel
theorem dX6_sortClause_87 : decode cX6_sortClause 87 = .ok (.aload_n 0, 1) := by decide +kernel
theorem dX6_sortClause_88 : decode cX6_sortClause 88 = .ok (.ldc 137, 2) := by decide +kernel
theorem dX6_sortClause_90 : decode cX6_sortClause 90 = .ok (.invokevirtual 132, 3) := by decide +kernel
theorem dX6_sortClause_93 : decode cX6_sortClause 93 = .ok (.ifCond .eq 13, 3) := by decide +kernel
theorem dX6_sortClause_96 : decode cX6_sortClause 96 = .ok (.aload_n 0, 1) := by decide +kernel
theorem dX6_sortClause_97 : decode cX6_sortClause 97 = .ok (.iconst 0, 1) := by decide +kernel
theorem dX6_sortClause_98 : decode cX6_sortClause 98 = .ok (.bipush 9, 2) := by decide +kernel
theorem dX6_sortClause_100 : decode cX6_sortClause 100 = .ok (.invokevirtual 123, 3) := by decide +kernel
theorem dX6_sortClause_103 : decode cX6_sortClause 103 = .ok (.ifCond .ne 5, 3) := by decide +kernel
theorem dX6_sortClause_106 : decode cX6_sortClause 106 = .ok (.iconst 0, 1) := by decide +kernel
theorem dX6_sortClause_107 : decode cX6_sortClause 107 = .ok (.ireturn, 1) := by decide +kernel
theorem dX6_sortClause_108 : decode cX6_sortClause 108 = .ok (.aload_n 0, 1) := by decide +kernel
theorem dX6_sortClause_109 : decode cX6_sortClause 109 = .ok (.getfield 25, 3) := by decide +kernel
theorem dX6_sortClause_112 : decode cX6_sortClause 112 = .ok (.getfield 139, 3) := by decide +kernel
theorem dX6_sortClause_115 : decode cX6_sortClause 115 = .ok (.iload_n 1, 1) := by decide +kernel
theorem dX6_sortClause_116 : decode cX6_sortClause 116 = .ok (.aload_n 0, 1) := by decide +kernel
theorem dX6_sortClause_117 : decode cX6_sortClause 117 = .ok (.getfield 44, 3) := by decide +kernel
theorem dX6_sortClause_120 : decode cX6_sortClause 120 = .ok (.invokestatic 53, 3) := by decide +kernel
theorem dX6_sortClause_123 : decode cX6_sortClause 123 = .ok (.aload_n 0, 1) := by decide +kernel
theorem dX6_sortClause_124 : decode cX6_sortClause 124 = .ok (.ldc 141, 2) := by decide +kernel
theorem dX6_sortClause_126 : decode cX6_sortClause 126 = .ok (.invokevirtual 132, 3) := by decide +kernel
theorem dX6_sortClause_129 : decode cX6_sortClause 129 = .ok (.ifCond .eq 11, 3) := by decide +kernel
theorem dX6_sortClause_132 : decode cX6_sortClause 132 = .ok (.aload_n 0, 1) := by decide +kernel
theorem dX6_sortClause_133 : decode cX6_sortClause 133 = .ok (.iconst 0, 1) := by decide +kernel
theorem dX6_sortClause_134 : decode cX6_sortClause 134 = .ok (.invokevirtual 143, 3) := by decide +kernel
theorem dX6_sortClause_137 : decode cX6_sortClause 137 = .ok (.ifCond .ne 5, 3) := by decide +kernel
theorem dX6_sortClause_140 : decode cX6_sortClause 140 = .ok (.iconst 0, 1) := by decide +kernel
theorem dX6_sortClause_141 : decode cX6_sortClause 141 = .ok (.ireturn, 1) := by decide +kernel
theorem dX6_sortClause_142 : decode cX6_sortClause 142 = .ok (.aload_n 0, 1) := by decide +kernel
theorem dX6_sortClause_143 : decode cX6_sortClause 143 = .ok (.getfield 25, 3) := by decide +kernel
theorem dX6_sortClause_146 : decode cX6_sortClause 146 = .ok (.invokevirtual 146, 3) := by decide +kernel
theorem dX6_sortClause_149 : decode cX6_sortClause 149 = .ok (.iconst 1, 1) := by decide +kernel
theorem dX6_sortClause_150 : decode cX6_sortClause 150 = .ok (.ireturn, 1) := by decide +kernel
theorem dX6_sightClause_0 : decode cX6_sightClause 0 = .ok (.aload_n 0, 1) := by decide +kernel
theorem dX6_sightClause_1 : decode cX6_sightClause 1 = .ok (.iconst 0, 1) := by decide +kernel
theorem dX6_sightClause_2 : decode cX6_sightClause 2 = .ok (.iconst 2, 1) := by decide +kernel
theorem dX6_sightClause_3 : decode cX6_sightClause 3 = .ok (.invokevirtual 123, 3) := by decide +kernel
theorem dX6_sightClause_6 : decode cX6_sightClause 6 = .ok (.istore_n 1, 1) := by decide +kernel
theorem dX6_sightClause_7 : decode cX6_sightClause 7 = .ok (.aload_n 0, 1) := by decide +kernel
theorem dX6_sightClause_8 : decode cX6_sightClause 8 = .ok (.getfield 25, 3) := by decide +kernel
theorem dX6_sightClause_11 : decode cX6_sightClause 11 = .ok (.aload_n 0, 1) := by decide +kernel
theorem dX6_sightClause_12 : decode cX6_sightClause 12 = .ok (.getfield 44, 3) := by decide +kernel
theorem dX6_sightClause_15 : decode cX6_sightClause 15 = .ok (.putfield 149, 3) := by decide +kernel
theorem dX6_sightClause_18 : decode cX6_sightClause 18 = .ok (.iload_n 1, 1) := by decide +kernel
theorem dX6_sightClause_19 : decode cX6_sightClause 19 = .ok (.ireturn, 1) := by decide +kernel
theorem dX6_cardClause_0 : decode cX6_cardClause 0 = .ok (.aload_n 0, 1) := by decide +kernel
theorem dX6_cardClause_1 : decode cX6_cardClause 1 = .ok (.iconst 0, 1) := by decide +kernel
theorem dX6_cardClause_2 : decode cX6_cardClause 2 = .ok (.bipush 9, 2) := by decide +kernel
theorem dX6_cardClause_4 : decode cX6_cardClause 4 = .ok (.invokevirtual 123, 3) := by decide +kernel
theorem dX6_cardClause_7 : decode cX6_cardClause 7 = .ok (.istore_n 1, 1) := by decide +kernel
theorem dX6_cardClause_8 : decode cX6_cardClause 8 = .ok (.aload_n 0, 1) := by decide +kernel
theorem dX6_cardClause_9 : decode cX6_cardClause 9 = .ok (.getfield 25, 3) := by decide +kernel
theorem dX6_cardClause_12 : decode cX6_cardClause 12 = .ok (.getfield 92, 3) := by decide +kernel
theorem dX6_cardClause_15 : decode cX6_cardClause 15 = .ok (.aload_n 0, 1) := by decide +kernel
theorem dX6_cardClause_16 : decode cX6_cardClause 16 = .ok (.getfield 44, 3) := by decide +kernel
theorem dX6_cardClause_19 : decode cX6_cardClause 19 = .ok (.putfield 151, 3) := by decide +kernel
theorem dX6_cardClause_22 : decode cX6_cardClause 22 = .ok (.iload_n 1, 1) := by decide +kernel
theorem dX6_cardClause_23 : decode cX6_cardClause 23 = .ok (.ireturn, 1) := by decide +kernel
theorem dX6_leastClause_0 : decode cX6_leastClause 0 = .ok (.aload_n 0, 1) := by decide +kernel
theorem dX6_leastClause_1 : decode cX6_leastClause 1 = .ok (.iconst 0, 1) := by decide +kernel
theorem dX6_leastClause_2 : decode cX6_leastClause 2 = .ok (.bipush 9, 2) := by decide +kernel
theorem dX6_leastClause_4 : decode cX6_leastClause 4 = .ok (.invokevirtual 123, 3) := by decide +kernel
theorem dX6_leastClause_7 : decode cX6_leastClause 7 = .ok (.istore_n 1, 1) := by decide +kernel
theorem dX6_leastClause_8 : decode cX6_leastClause 8 = .ok (.aload_n 0, 1) := by decide +kernel
theorem dX6_leastClause_9 : decode cX6_leastClause 9 = .ok (.getfield 25, 3) := by decide +kernel
theorem dX6_leastClause_12 : decode cX6_leastClause 12 = .ok (.getfield 92, 3) := by decide +kernel
theorem dX6_leastClause_15 : decode cX6_leastClause 15 = .ok (.aload_n 0, 1) := by decide +kernel
theorem dX6_leastClause_16 : decode cX6_leastClause 16 = .ok (.getfield 44, 3) := by decide +kernel
theorem dX6_leastClause_19 : decode cX6_leastClause 19 = .ok (.putfield 153, 3) := by decide +kernel
theorem dX6_leastClause_22 : decode cX6_leastClause 22 = .ok (.iload_n 1, 1) := by decide +kernel
theorem dX6_leastClause_23 : decode cX6_leastClause 23 = .ok (.ireturn, 1) := by decide +kernel
theorem dX6_thiefClause_0 : decode cX6_thiefClause 0 = .ok (.aload_n 0, 1) := by decide +kernel
theorem dX6_thiefClause_1 : decode cX6_thiefClause 1 = .ok (.iconst 0, 1) := by decide +kernel
theorem dX6_thiefClause_2 : decode cX6_thiefClause 2 = .ok (.bipush 100, 2) := by decide +kernel
theorem dX6_thiefClause_4 : decode cX6_thiefClause 4 = .ok (.invokevirtual 123, 3) := by decide +kernel
theorem dX6_thiefClause_7 : decode cX6_thiefClause 7 = .ok (.ifCond .ne 5, 3) := by decide +kernel
theorem dX6_thiefClause_10 : decode cX6_thiefClause 10 = .ok (.iconst 0, 1) := by decide +kernel
theorem dX6_thiefClause_11 : decode cX6_thiefClause 11 = .ok (.ireturn, 1) := by decide +kernel
theorem dX6_thiefClause_12 : decode cX6_thiefClause 12 = .ok (.aload_n 0, 1) := by decide +kernel
theorem dX6_thiefClause_13 : decode cX6_thiefClause 13 = .ok (.getfield 25, 3) := by decide +kernel
theorem dX6_thiefClause_16 : decode cX6_thiefClause 16 = .ok (.aload_n 0, 1) := by decide +kernel
theorem dX6_thiefClause_17 : decode cX6_thiefClause 17 = .ok (.getfield 44, 3) := by decide +kernel
theorem dX6_thiefClause_20 : decode cX6_thiefClause 20 = .ok (.putfield 155, 3) := by decide +kernel
theorem dX6_thiefClause_23 : decode cX6_thiefClause 23 = .ok (.aload_n 0, 1) := by decide +kernel
theorem dX6_thiefClause_24 : decode cX6_thiefClause 24 = .ok (.iconst 1, 1) := by decide +kernel
theorem dX6_thiefClause_25 : decode cX6_thiefClause 25 = .ok (.sipush 999, 3) := by decide +kernel
theorem dX6_thiefClause_28 : decode cX6_thiefClause 28 = .ok (.invokevirtual 123, 3) := by decide +kernel
theorem dX6_thiefClause_31 : decode cX6_thiefClause 31 = .ok (.istore_n 1, 1) := by decide +kernel
theorem dX6_thiefClause_32 : decode cX6_thiefClause 32 = .ok (.aload_n 0, 1) := by decide +kernel
theorem dX6_thiefClause_33 : decode cX6_thiefClause 33 = .ok (.getfield 25, 3) := by decide +kernel
theorem dX6_thiefClause_36 : decode cX6_thiefClause 36 = .ok (.aload_n 0, 1) := by decide +kernel
theorem dX6_thiefClause_37 : decode cX6_thiefClause 37 = .ok (.getfield 44, 3) := by decide +kernel
theorem dX6_thiefClause_40 : decode cX6_thiefClause 40 = .ok (.putfield 158, 3) := by decide +kernel
theorem dX6_thiefClause_43 : decode cX6_thiefClause 43 = .ok (.iload_n 1, 1) := by decide +kernel
theorem dX6_thiefClause_44 : decode cX6_thiefClause 44 = .ok (.ireturn, 1) := by decide +kernel
theorem dX6_either_0 : decode cX6_either 0 = .ok (.iload_n 1, 1) := by decide +kernel
theorem dX6_either_1 : decode cX6_either 1 = .ok (.iconst 5, 1) := by decide +kernel
theorem dX6_either_2 : decode cX6_either 2 = .ok (.if_icmp .le 38, 3) := by decide +kernel
theorem dX6_either_5 : decode cX6_either 5 = .ok (.aload_n 0, 1) := by decide +kernel
theorem dX6_either_6 : decode cX6_either 6 = .ok (.aload_n 0, 1) := by decide +kernel
theorem dX6_either_7 : decode cX6_either 7 = .ok (.getfield 38, 3) := by decide +kernel
theorem dX6_either_10 : decode cX6_either 10 = .ok (.iconst 2, 1) := by decide +kernel
theorem dX6_either_11 : decode cX6_either 11 = .ok (.if_icmp .eq 20, 3) := by decide +kernel
theorem dX6_either_14 : decode cX6_either 14 = .ok (.aload_n 0, 1) := by decide +kernel
theorem dX6_either_15 : decode cX6_either 15 = .ok (.getfield 38, 3) := by decide +kernel
theorem dX6_either_18 : decode cX6_either 18 = .ok (.iconst 1, 1) := by decide +kernel
theorem dX6_either_19 : decode cX6_either 19 = .ok (.if_icmp .eq 12, 3) := by decide +kernel
theorem dX6_either_22 : decode cX6_either 22 = .ok (.aload_n 0, 1) := by decide +kernel
theorem dX6_either_23 : decode cX6_either 23 = .ok (.getfield 38, 3) := by decide +kernel
theorem dX6_either_26 : decode cX6_either 26 = .ok (.bipush 40, 2) := by decide +kernel
theorem dX6_either_28 : decode cX6_either 28 = .ok (.if_icmp .ne 7, 3) := by decide +kernel
theorem dX6_either_31 : decode cX6_either 31 = .ok (.iconst 2, 1) := by decide +kernel
theorem dX6_either_32 : decode cX6_either 32 = .ok (.goto 4, 3) := by decide +kernel
theorem dX6_either_35 : decode cX6_either 35 = .ok (.iconst 1, 1) := by decide +kernel
theorem dX6_either_36 : decode cX6_either 36 = .ok (.invokevirtual 114, 3) := by decide +kernel
theorem dX6_either_39 : decode cX6_either 39 = .ok (.ireturn, 1) := by decide +kernel
theorem dX6_either_40 : decode cX6_either 40 = .ok (.aload_n 0, 1) := by decide +kernel
theorem dX6_either_41 : decode cX6_either 41 = .ok (.iload_n 1, 1) := by decide +kernel
theorem dX6_either_42 : decode cX6_either 42 = .ok (.invokevirtual 161, 3) := by decide +kernel
theorem dX6_either_45 : decode cX6_either 45 = .ok (.istore_n 2, 1) := by decide +kernel
theorem dX6_either_46 : decode cX6_either 46 = .ok (.iconst 0, 1) := by decide +kernel
theorem dX6_either_47 : decode cX6_either 47 = .ok (.istore_n 3, 1) := by decide +kernel
theorem dX6_either_48 : decode cX6_either 48 = .ok (.iload_n 3, 1) := by decide +kernel
theorem dX6_either_49 : decode cX6_either 49 = .ok (.sipush 700, 3) := by decide +kernel
theorem dX6_either_52 : decode cX6_either 52 = .ok (.if_icmp .ge 42, 3) := by decide +kernel
theorem dX6_either_55 : decode cX6_either 55 = .ok (.iload_n 2, 1) := by decide +kernel
theorem dX6_either_56 : decode cX6_either 56 = .ok (.ifCond .eq 38, 3) := by decide +kernel
theorem dX6_either_59 : decode cX6_either 59 = .ok (.aload_n 0, 1) := by decide +kernel
theorem dX6_either_60 : decode cX6_either 60 = .ok (.ldc 164, 2) := by decide +kernel
theorem dX6_either_62 : decode cX6_either 62 = .ok (.invokevirtual 69, 3) := by decide +kernel
theorem dX6_either_65 : decode cX6_either 65 = .ok (.ifCond .eq 29, 3) := by decide +kernel
theorem dX6_either_68 : decode cX6_either 68 = .ok (.aload_n 0, 1) := by decide +kernel
theorem dX6_either_69 : decode cX6_either 69 = .ok (.invokevirtual 60, 3) := by decide +kernel
theorem dX6_either_72 : decode cX6_either 72 = .ok (.aload_n 0, 1) := by decide +kernel
theorem dX6_either_73 : decode cX6_either 73 = .ok (.iload_n 1, 1) := by decide +kernel
theorem dX6_either_74 : decode cX6_either 74 = .ok (.invokevirtual 161, 3) := by decide +kernel
theorem dX6_either_77 : decode cX6_either 77 = .ok (.istore_n 2, 1) := by decide +kernel
theorem dX6_either_78 : decode cX6_either 78 = .ok (.aload_n 0, 1) := by decide +kernel
theorem dX6_either_79 : decode cX6_either 79 = .ok (.getfield 25, 3) := by decide +kernel
theorem dX6_either_82 : decode cX6_either 82 = .ok (.sipush 2124, 3) := by decide +kernel
theorem dX6_either_85 : decode cX6_either 85 = .ok (.invokevirtual 166, 3) := by decide +kernel
theorem dX6_either_88 : decode cX6_either 88 = .ok (.iinc 3 1, 3) := by decide +kernel
theorem dX6_either_91 : decode cX6_either 91 = .ok (.goto (-43), 3) := by decide +kernel
theorem dX6_either_94 : decode cX6_either 94 = .ok (.iload_n 2, 1) := by decide +kernel
theorem dX6_either_95 : decode cX6_either 95 = .ok (.ireturn, 1) := by decide +kernel
theorem dX6_both_0 : decode cX6_both 0 = .ok (.aload_n 0, 1) := by decide +kernel
theorem dX6_both_1 : decode cX6_both 1 = .ok (.iload_n 1, 1) := by decide +kernel
theorem dX6_both_2 : decode cX6_both 2 = .ok (.invokevirtual 170, 3) := by decide +kernel
theorem dX6_both_5 : decode cX6_both 5 = .ok (.istore_n 2, 1) := by decide +kernel
theorem dX6_both_6 : decode cX6_both 6 = .ok (.iconst 0, 1) := by decide +kernel
theorem dX6_both_7 : decode cX6_both 7 = .ok (.istore_n 3, 1) := by decide +kernel
theorem dX6_both_8 : decode cX6_both 8 = .ok (.iload_n 3, 1) := by decide +kernel
theorem dX6_both_9 : decode cX6_both 9 = .ok (.sipush 700, 3) := by decide +kernel
theorem dX6_both_12 : decode cX6_both 12 = .ok (.if_icmp .ge 42, 3) := by decide +kernel
theorem dX6_both_15 : decode cX6_both 15 = .ok (.iload_n 2, 1) := by decide +kernel
theorem dX6_both_16 : decode cX6_both 16 = .ok (.ifCond .eq 38, 3) := by decide +kernel
theorem dX6_both_19 : decode cX6_both 19 = .ok (.aload_n 0, 1) := by decide +kernel
theorem dX6_both_20 : decode cX6_both 20 = .ok (.ldc 173, 2) := by decide +kernel
theorem dX6_both_22 : decode cX6_both 22 = .ok (.invokevirtual 69, 3) := by decide +kernel
theorem dX6_both_25 : decode cX6_both 25 = .ok (.ifCond .eq 29, 3) := by decide +kernel
theorem dX6_both_28 : decode cX6_both 28 = .ok (.aload_n 0, 1) := by decide +kernel
theorem dX6_both_29 : decode cX6_both 29 = .ok (.invokevirtual 60, 3) := by decide +kernel
theorem dX6_both_32 : decode cX6_both 32 = .ok (.aload_n 0, 1) := by decide +kernel
theorem dX6_both_33 : decode cX6_both 33 = .ok (.iload_n 1, 1) := by decide +kernel
theorem dX6_both_34 : decode cX6_both 34 = .ok (.invokevirtual 170, 3) := by decide +kernel
theorem dX6_both_37 : decode cX6_both 37 = .ok (.istore_n 2, 1) := by decide +kernel
theorem dX6_both_38 : decode cX6_both 38 = .ok (.aload_n 0, 1) := by decide +kernel
theorem dX6_both_39 : decode cX6_both 39 = .ok (.getfield 25, 3) := by decide +kernel
theorem dX6_both_42 : decode cX6_both 42 = .ok (.sipush 2038, 3) := by decide +kernel
theorem dX6_both_45 : decode cX6_both 45 = .ok (.invokevirtual 166, 3) := by decide +kernel
theorem dX6_both_48 : decode cX6_both 48 = .ok (.iinc 3 1, 3) := by decide +kernel
theorem dX6_both_51 : decode cX6_both 51 = .ok (.goto (-43), 3) := by decide +kernel
theorem dX6_both_54 : decode cX6_both 54 = .ok (.iload_n 2, 1) := by decide +kernel
theorem dX6_both_55 : decode cX6_both 55 = .ok (.ireturn, 1) := by decide +kernel
theorem dX6_negation_0 : decode cX6_negation 0 = .ok (.iconst 0, 1) := by decide +kernel
theorem dX6_negation_1 : decode cX6_negation 1 = .ok (.istore_n 2, 1) := by decide +kernel
theorem dX6_negation_2 : decode cX6_negation 2 = .ok (.iload_n 2, 1) := by decide +kernel
theorem dX6_negation_3 : decode cX6_negation 3 = .ok (.bipush 6, 2) := by decide +kernel
theorem dX6_negation_5 : decode cX6_negation 5 = .ok (.if_icmp .ge 22, 3) := by decide +kernel
theorem dX6_negation_8 : decode cX6_negation 8 = .ok (.aload_n 0, 1) := by decide +kernel
theorem dX6_negation_9 : decode cX6_negation 9 = .ok (.ldc 175, 2) := by decide +kernel
theorem dX6_negation_11 : decode cX6_negation 11 = .ok (.invokevirtual 69, 3) := by decide +kernel
theorem dX6_negation_14 : decode cX6_negation 14 = .ok (.ifCond .eq 13, 3) := by decide +kernel
theorem dX6_negation_17 : decode cX6_negation 17 = .ok (.iinc 2 1, 3) := by decide +kernel
theorem dX6_negation_20 : decode cX6_negation 20 = .ok (.aload_n 0, 1) := by decide +kernel
theorem dX6_negation_21 : decode cX6_negation 21 = .ok (.invokevirtual 60, 3) := by decide +kernel
theorem dX6_negation_24 : decode cX6_negation 24 = .ok (.goto (-22), 3) := by decide +kernel
theorem dX6_negation_27 : decode cX6_negation 27 = .ok (.iload_n 2, 1) := by decide +kernel
theorem dX6_negation_28 : decode cX6_negation 28 = .ok (.bipush 6, 2) := by decide +kernel
theorem dX6_negation_30 : decode cX6_negation 30 = .ok (.if_icmp .ne 18, 3) := by decide +kernel
theorem dX6_negation_33 : decode cX6_negation 33 = .ok (.aload_n 0, 1) := by decide +kernel
theorem dX6_negation_34 : decode cX6_negation 34 = .ok (.ldc 175, 2) := by decide +kernel
theorem dX6_negation_36 : decode cX6_negation 36 = .ok (.invokevirtual 69, 3) := by decide +kernel
theorem dX6_negation_39 : decode cX6_negation 39 = .ok (.ifCond .eq 9, 3) := by decide +kernel
theorem dX6_negation_42 : decode cX6_negation 42 = .ok (.aload_n 0, 1) := by decide +kernel
theorem dX6_negation_43 : decode cX6_negation 43 = .ok (.iconst 2, 1) := by decide +kernel
theorem dX6_negation_44 : decode cX6_negation 44 = .ok (.invokevirtual 114, 3) := by decide +kernel
theorem dX6_negation_47 : decode cX6_negation 47 = .ok (.ireturn, 1) := by decide +kernel
theorem dX6_negation_48 : decode cX6_negation 48 = .ok (.aload_n 0, 1) := by decide +kernel
theorem dX6_negation_49 : decode cX6_negation 49 = .ok (.iload_n 1, 1) := by decide +kernel
theorem dX6_negation_50 : decode cX6_negation 50 = .ok (.invokevirtual 177, 3) := by decide +kernel
theorem dX6_negation_53 : decode cX6_negation 53 = .ok (.istore_n 3, 1) := by decide +kernel
theorem dX6_negation_54 : decode cX6_negation 54 = .ok (.iconst 0, 1) := by decide +kernel
theorem dX6_negation_55 : decode cX6_negation 55 = .ok (.istore 4, 2) := by decide +kernel
theorem dX6_negation_57 : decode cX6_negation 57 = .ok (.iload 4, 2) := by decide +kernel
theorem dX6_negation_59 : decode cX6_negation 59 = .ok (.iload_n 2, 1) := by decide +kernel
theorem dX6_negation_60 : decode cX6_negation 60 = .ok (.if_icmp .ge 19, 3) := by decide +kernel
theorem dX6_negation_63 : decode cX6_negation 63 = .ok (.aload_n 0, 1) := by decide +kernel
theorem dX6_negation_64 : decode cX6_negation 64 = .ok (.getfield 25, 3) := by decide +kernel
theorem dX6_negation_67 : decode cX6_negation 67 = .ok (.sipush 2033, 3) := by decide +kernel
theorem dX6_negation_70 : decode cX6_negation 70 = .ok (.invokevirtual 166, 3) := by decide +kernel
theorem dX6_negation_73 : decode cX6_negation 73 = .ok (.iinc 4 1, 3) := by decide +kernel
theorem dX6_negation_76 : decode cX6_negation 76 = .ok (.goto (-19), 3) := by decide +kernel
theorem dX6_negation_79 : decode cX6_negation 79 = .ok (.iload_n 3, 1) := by decide +kernel
theorem dX6_negation_80 : decode cX6_negation 80 = .ok (.ireturn, 1) := by decide +kernel
theorem dX6_test_0 : decode cX6_test 0 = .ok (.aload_n 0, 1) := by decide +kernel
theorem dX6_test_1 : decode cX6_test 1 = .ok (.iload_n 1, 1) := by decide +kernel
theorem dX6_test_2 : decode cX6_test 2 = .ok (.invokevirtual 180, 3) := by decide +kernel
theorem dX6_test_5 : decode cX6_test 5 = .ok (.istore_n 2, 1) := by decide +kernel
theorem dX6_test_6 : decode cX6_test 6 = .ok (.iload_n 2, 1) := by decide +kernel
theorem dX6_test_7 : decode cX6_test 7 = .ok (.ifCond .eq 48, 3) := by decide +kernel
theorem dX6_test_10 : decode cX6_test 10 = .ok (.aload_n 0, 1) := by decide +kernel
theorem dX6_test_11 : decode cX6_test 11 = .ok (.getfield 38, 3) := by decide +kernel
theorem dX6_test_14 : decode cX6_test 14 = .ok (.bipush 60, 2) := by decide +kernel
theorem dX6_test_16 : decode cX6_test 16 = .ok (.if_icmp .eq 12, 3) := by decide +kernel
theorem dX6_test_19 : decode cX6_test 19 = .ok (.aload_n 0, 1) := by decide +kernel
theorem dX6_test_20 : decode cX6_test 20 = .ok (.getfield 38, 3) := by decide +kernel
theorem dX6_test_23 : decode cX6_test 23 = .ok (.bipush 61, 2) := by decide +kernel
theorem dX6_test_25 : decode cX6_test 25 = .ok (.if_icmp .ne 30, 3) := by decide +kernel
theorem dX6_test_28 : decode cX6_test 28 = .ok (.sipush 2000, 3) := by decide +kernel
theorem dX6_test_31 : decode cX6_test 31 = .ok (.aload_n 0, 1) := by decide +kernel
theorem dX6_test_32 : decode cX6_test 32 = .ok (.getfield 38, 3) := by decide +kernel
theorem dX6_test_35 : decode cX6_test 35 = .ok (.iadd, 1) := by decide +kernel
theorem dX6_test_36 : decode cX6_test 36 = .ok (.istore_n 3, 1) := by decide +kernel
theorem dX6_test_37 : decode cX6_test 37 = .ok (.aload_n 0, 1) := by decide +kernel
theorem dX6_test_38 : decode cX6_test 38 = .ok (.invokevirtual 60, 3) := by decide +kernel
theorem dX6_test_41 : decode cX6_test 41 = .ok (.aload_n 0, 1) := by decide +kernel
theorem dX6_test_42 : decode cX6_test 42 = .ok (.iload_n 1, 1) := by decide +kernel
theorem dX6_test_43 : decode cX6_test 43 = .ok (.invokevirtual 180, 3) := by decide +kernel
theorem dX6_test_46 : decode cX6_test 46 = .ok (.istore_n 2, 1) := by decide +kernel
theorem dX6_test_47 : decode cX6_test 47 = .ok (.aload_n 0, 1) := by decide +kernel
theorem dX6_test_48 : decode cX6_test 48 = .ok (.getfield 25, 3) := by decide +kernel
theorem dX6_test_51 : decode cX6_test 51 = .ok (.iload_n 3, 1) := by decide +kernel
theorem dX6_test_52 : decode cX6_test 52 = .ok (.invokevirtual 166, 3) := by decide +kernel
theorem dX6_test_55 : decode cX6_test 55 = .ok (.iload_n 2, 1) := by decide +kernel
theorem dX6_test_56 : decode cX6_test 56 = .ok (.ireturn, 1) := by decide +kernel
theorem dX6_sum_0 : decode cX6_sum 0 = .ok (.aload_n 0, 1) := by decide +kernel
theorem dX6_sum_1 : decode cX6_sum 1 = .ok (.iload_n 1, 1) := by decide +kernel
theorem dX6_sum_2 : decode cX6_sum 2 = .ok (.invokevirtual 183, 3) := by decide +kernel
theorem dX6_sum_5 : decode cX6_sum 5 = .ok (.istore_n 2, 1) := by decide +kernel
theorem dX6_sum_6 : decode cX6_sum 6 = .ok (.iconst 0, 1) := by decide +kernel
theorem dX6_sum_7 : decode cX6_sum 7 = .ok (.istore_n 3, 1) := by decide +kernel
theorem dX6_sum_8 : decode cX6_sum 8 = .ok (.iload_n 3, 1) := by decide +kernel
theorem dX6_sum_9 : decode cX6_sum 9 = .ok (.sipush 700, 3) := by decide +kernel
theorem dX6_sum_12 : decode cX6_sum 12 = .ok (.if_icmp .ge 60, 3) := by decide +kernel
theorem dX6_sum_15 : decode cX6_sum 15 = .ok (.iload_n 2, 1) := by decide +kernel
theorem dX6_sum_16 : decode cX6_sum 16 = .ok (.ifCond .eq 56, 3) := by decide +kernel
theorem dX6_sum_19 : decode cX6_sum 19 = .ok (.aload_n 0, 1) := by decide +kernel
theorem dX6_sum_20 : decode cX6_sum 20 = .ok (.getfield 38, 3) := by decide +kernel
theorem dX6_sum_23 : decode cX6_sum 23 = .ok (.bipush 43, 2) := by decide +kernel
theorem dX6_sum_25 : decode cX6_sum 25 = .ok (.if_icmp .eq 12, 3) := by decide +kernel
theorem dX6_sum_28 : decode cX6_sum 28 = .ok (.aload_n 0, 1) := by decide +kernel
theorem dX6_sum_29 : decode cX6_sum 29 = .ok (.getfield 38, 3) := by decide +kernel
theorem dX6_sum_32 : decode cX6_sum 32 = .ok (.bipush 45, 2) := by decide +kernel
theorem dX6_sum_34 : decode cX6_sum 34 = .ok (.if_icmp .ne 38, 3) := by decide +kernel
theorem dX6_sum_37 : decode cX6_sum 37 = .ok (.sipush 2000, 3) := by decide +kernel
theorem dX6_sum_40 : decode cX6_sum 40 = .ok (.aload_n 0, 1) := by decide +kernel
theorem dX6_sum_41 : decode cX6_sum 41 = .ok (.getfield 38, 3) := by decide +kernel
theorem dX6_sum_44 : decode cX6_sum 44 = .ok (.iadd, 1) := by decide +kernel
theorem dX6_sum_45 : decode cX6_sum 45 = .ok (.istore 4, 2) := by decide +kernel
theorem dX6_sum_47 : decode cX6_sum 47 = .ok (.aload_n 0, 1) := by decide +kernel
theorem dX6_sum_48 : decode cX6_sum 48 = .ok (.invokevirtual 60, 3) := by decide +kernel
theorem dX6_sum_51 : decode cX6_sum 51 = .ok (.aload_n 0, 1) := by decide +kernel
theorem dX6_sum_52 : decode cX6_sum 52 = .ok (.iload_n 1, 1) := by decide +kernel
theorem dX6_sum_53 : decode cX6_sum 53 = .ok (.invokevirtual 183, 3) := by decide +kernel
theorem dX6_sum_56 : decode cX6_sum 56 = .ok (.istore_n 2, 1) := by decide +kernel
theorem dX6_sum_57 : decode cX6_sum 57 = .ok (.aload_n 0, 1) := by decide +kernel
theorem dX6_sum_58 : decode cX6_sum 58 = .ok (.getfield 25, 3) := by decide +kernel
theorem dX6_sum_61 : decode cX6_sum 61 = .ok (.iload 4, 2) := by decide +kernel
theorem dX6_sum_63 : decode cX6_sum 63 = .ok (.invokevirtual 166, 3) := by decide +kernel
theorem dX6_sum_66 : decode cX6_sum 66 = .ok (.iinc 3 1, 3) := by decide +kernel
theorem dX6_sum_69 : decode cX6_sum 69 = .ok (.goto (-61), 3) := by decide +kernel
theorem dX6_sum_72 : decode cX6_sum 72 = .ok (.iload_n 2, 1) := by decide +kernel
theorem dX6_sum_73 : decode cX6_sum 73 = .ok (.ireturn, 1) := by decide +kernel
theorem dX6_product_0 : decode cX6_product 0 = .ok (.aload_n 0, 1) := by decide +kernel
theorem dX6_product_1 : decode cX6_product 1 = .ok (.iload_n 1, 1) := by decide +kernel
theorem dX6_product_2 : decode cX6_product 2 = .ok (.invokevirtual 186, 3) := by decide +kernel
theorem dX6_product_5 : decode cX6_product 5 = .ok (.istore_n 2, 1) := by decide +kernel
theorem dX6_product_6 : decode cX6_product 6 = .ok (.iconst 0, 1) := by decide +kernel
theorem dX6_product_7 : decode cX6_product 7 = .ok (.istore_n 3, 1) := by decide +kernel
theorem dX6_product_8 : decode cX6_product 8 = .ok (.iload_n 3, 1) := by decide +kernel
theorem dX6_product_9 : decode cX6_product 9 = .ok (.sipush 700, 3) := by decide +kernel
theorem dX6_product_12 : decode cX6_product 12 = .ok (.if_icmp .ge 60, 3) := by decide +kernel
theorem dX6_product_15 : decode cX6_product 15 = .ok (.iload_n 2, 1) := by decide +kernel
theorem dX6_product_16 : decode cX6_product 16 = .ok (.ifCond .eq 56, 3) := by decide +kernel
theorem dX6_product_19 : decode cX6_product 19 = .ok (.aload_n 0, 1) := by decide +kernel
theorem dX6_product_20 : decode cX6_product 20 = .ok (.getfield 38, 3) := by decide +kernel
theorem dX6_product_23 : decode cX6_product 23 = .ok (.bipush 42, 2) := by decide +kernel
theorem dX6_product_25 : decode cX6_product 25 = .ok (.if_icmp .eq 12, 3) := by decide +kernel
theorem dX6_product_28 : decode cX6_product 28 = .ok (.aload_n 0, 1) := by decide +kernel
theorem dX6_product_29 : decode cX6_product 29 = .ok (.getfield 38, 3) := by decide +kernel
theorem dX6_product_32 : decode cX6_product 32 = .ok (.bipush 47, 2) := by decide +kernel
theorem dX6_product_34 : decode cX6_product 34 = .ok (.if_icmp .ne 38, 3) := by decide +kernel
theorem dX6_product_37 : decode cX6_product 37 = .ok (.sipush 2000, 3) := by decide +kernel
theorem dX6_product_40 : decode cX6_product 40 = .ok (.aload_n 0, 1) := by decide +kernel
theorem dX6_product_41 : decode cX6_product 41 = .ok (.getfield 38, 3) := by decide +kernel
theorem dX6_product_44 : decode cX6_product 44 = .ok (.iadd, 1) := by decide +kernel
theorem dX6_product_45 : decode cX6_product 45 = .ok (.istore 4, 2) := by decide +kernel
theorem dX6_product_47 : decode cX6_product 47 = .ok (.aload_n 0, 1) := by decide +kernel
theorem dX6_product_48 : decode cX6_product 48 = .ok (.invokevirtual 60, 3) := by decide +kernel
theorem dX6_product_51 : decode cX6_product 51 = .ok (.aload_n 0, 1) := by decide +kernel
theorem dX6_product_52 : decode cX6_product 52 = .ok (.iload_n 1, 1) := by decide +kernel
theorem dX6_product_53 : decode cX6_product 53 = .ok (.invokevirtual 186, 3) := by decide +kernel
theorem dX6_product_56 : decode cX6_product 56 = .ok (.istore_n 2, 1) := by decide +kernel
theorem dX6_product_57 : decode cX6_product 57 = .ok (.aload_n 0, 1) := by decide +kernel
theorem dX6_product_58 : decode cX6_product 58 = .ok (.getfield 25, 3) := by decide +kernel
theorem dX6_product_61 : decode cX6_product 61 = .ok (.iload 4, 2) := by decide +kernel
theorem dX6_product_63 : decode cX6_product 63 = .ok (.invokevirtual 166, 3) := by decide +kernel
theorem dX6_product_66 : decode cX6_product 66 = .ok (.iinc 3 1, 3) := by decide +kernel
theorem dX6_product_69 : decode cX6_product 69 = .ok (.goto (-61), 3) := by decide +kernel
theorem dX6_product_72 : decode cX6_product 72 = .ok (.iload_n 2, 1) := by decide +kernel
theorem dX6_product_73 : decode cX6_product 73 = .ok (.ireturn, 1) := by decide +kernel
theorem dX6_part_0 : decode cX6_part 0 = .ok (.aload_n 0, 1) := by decide +kernel
theorem dX6_part_1 : decode cX6_part 1 = .ok (.getfield 38, 3) := by decide +kernel
theorem dX6_part_4 : decode cX6_part 4 = .ok (.bipush 40, 2) := by decide +kernel
theorem dX6_part_6 : decode cX6_part 6 = .ok (.if_icmp .ne 32, 3) := by decide +kernel
theorem dX6_part_9 : decode cX6_part 9 = .ok (.aload_n 0, 1) := by decide +kernel
theorem dX6_part_10 : decode cX6_part 10 = .ok (.invokevirtual 60, 3) := by decide +kernel
theorem dX6_part_13 : decode cX6_part 13 = .ok (.aload_n 0, 1) := by decide +kernel
theorem dX6_part_14 : decode cX6_part 14 = .ok (.iload_n 1, 1) := by decide +kernel
theorem dX6_part_15 : decode cX6_part 15 = .ok (.iconst 1, 1) := by decide +kernel
theorem dX6_part_16 : decode cX6_part 16 = .ok (.iadd, 1) := by decide +kernel
theorem dX6_part_17 : decode cX6_part 17 = .ok (.invokevirtual 143, 3) := by decide +kernel
theorem dX6_part_20 : decode cX6_part 20 = .ok (.ifCond .eq 16, 3) := by decide +kernel
theorem dX6_part_23 : decode cX6_part 23 = .ok (.aload_n 0, 1) := by decide +kernel
theorem dX6_part_24 : decode cX6_part 24 = .ok (.bipush 41, 2) := by decide +kernel
theorem dX6_part_26 : decode cX6_part 26 = .ok (.invokevirtual 117, 3) := by decide +kernel
theorem dX6_part_29 : decode cX6_part 29 = .ok (.ifCond .eq 7, 3) := by decide +kernel
theorem dX6_part_32 : decode cX6_part 32 = .ok (.iconst 1, 1) := by decide +kernel
theorem dX6_part_33 : decode cX6_part 33 = .ok (.goto 4, 3) := by decide +kernel
theorem dX6_part_36 : decode cX6_part 36 = .ok (.iconst 0, 1) := by decide +kernel
theorem dX6_part_37 : decode cX6_part 37 = .ok (.ireturn, 1) := by decide +kernel
theorem dX6_part_38 : decode cX6_part 38 = .ok (.aload_n 0, 1) := by decide +kernel
theorem dX6_part_39 : decode cX6_part 39 = .ok (.getfield 38, 3) := by decide +kernel
theorem dX6_part_42 : decode cX6_part 42 = .ok (.iconst 1, 1) := by decide +kernel
theorem dX6_part_43 : decode cX6_part 43 = .ok (.if_icmp .ne 33, 3) := by decide +kernel
theorem dX6_part_46 : decode cX6_part 46 = .ok (.aload_n 0, 1) := by decide +kernel
theorem dX6_part_47 : decode cX6_part 47 = .ok (.invokevirtual 189, 3) := by decide +kernel
theorem dX6_part_50 : decode cX6_part 50 = .ok (.istore_n 2, 1) := by decide +kernel
theorem dX6_part_51 : decode cX6_part 51 = .ok (.iload_n 2, 1) := by decide +kernel
theorem dX6_part_52 : decode cX6_part 52 = .ok (.iconst (-1), 1) := by decide +kernel
theorem dX6_part_53 : decode cX6_part 53 = .ok (.if_icmp .ne 9, 3) := by decide +kernel
theorem dX6_part_56 : decode cX6_part 56 = .ok (.aload_n 0, 1) := by decide +kernel
theorem dX6_part_57 : decode cX6_part 57 = .ok (.iconst 3, 1) := by decide +kernel
theorem dX6_part_58 : decode cX6_part 58 = .ok (.invokevirtual 114, 3) := by decide +kernel
theorem dX6_part_61 : decode cX6_part 61 = .ok (.ireturn, 1) := by decide +kernel
theorem dX6_part_62 : decode cX6_part 62 = .ok (.aload_n 0, 1) := by decide +kernel
theorem dX6_part_63 : decode cX6_part 63 = .ok (.getfield 25, 3) := by decide +kernel
theorem dX6_part_66 : decode cX6_part 66 = .ok (.iload_n 2, 1) := by decide +kernel
theorem dX6_part_67 : decode cX6_part 67 = .ok (.invokevirtual 193, 3) := by decide +kernel
theorem dX6_part_70 : decode cX6_part 70 = .ok (.aload_n 0, 1) := by decide +kernel
theorem dX6_part_71 : decode cX6_part 71 = .ok (.invokevirtual 60, 3) := by decide +kernel
theorem dX6_part_74 : decode cX6_part 74 = .ok (.iconst 1, 1) := by decide +kernel
theorem dX6_part_75 : decode cX6_part 75 = .ok (.ireturn, 1) := by decide +kernel
theorem dX6_part_76 : decode cX6_part 76 = .ok (.aload_n 0, 1) := by decide +kernel
theorem dX6_part_77 : decode cX6_part 77 = .ok (.iconst 0, 1) := by decide +kernel
theorem dX6_part_78 : decode cX6_part 78 = .ok (.sipush 999, 3) := by decide +kernel
theorem dX6_part_81 : decode cX6_part 81 = .ok (.invokevirtual 123, 3) := by decide +kernel
theorem dX6_part_84 : decode cX6_part 84 = .ok (.istore_n 2, 1) := by decide +kernel
theorem dX6_part_85 : decode cX6_part 85 = .ok (.aload_n 0, 1) := by decide +kernel
theorem dX6_part_86 : decode cX6_part 86 = .ok (.getfield 25, 3) := by decide +kernel
theorem dX6_part_89 : decode cX6_part 89 = .ok (.aload_n 0, 1) := by decide +kernel
theorem dX6_part_90 : decode cX6_part 90 = .ok (.getfield 44, 3) := by decide +kernel
theorem dX6_part_93 : decode cX6_part 93 = .ok (.invokevirtual 166, 3) := by decide +kernel
theorem dX6_part_96 : decode cX6_part 96 = .ok (.iload_n 2, 1) := by decide +kernel
theorem dX6_part_97 : decode cX6_part 97 = .ok (.ireturn, 1) := by decide +kernel
theorem dX6_valueAsked_0 : decode cX6_valueAsked 0 = .ok (.aload_n 0, 1) := by decide +kernel
theorem dX6_valueAsked_1 : decode cX6_valueAsked 1 = .ok (.ldc 130, 2) := by decide +kernel
theorem dX6_valueAsked_3 : decode cX6_valueAsked 3 = .ok (.invokevirtual 69, 3) := by decide +kernel
theorem dX6_valueAsked_6 : decode cX6_valueAsked 6 = .ok (.ifCond .eq 7, 3) := by decide +kernel
theorem dX6_valueAsked_9 : decode cX6_valueAsked 9 = .ok (.iconst 0, 1) := by decide +kernel
theorem dX6_valueAsked_10 : decode cX6_valueAsked 10 = .ok (.goto 111, 3) := by decide +kernel
theorem dX6_valueAsked_13 : decode cX6_valueAsked 13 = .ok (.aload_n 0, 1) := by decide +kernel
theorem dX6_valueAsked_14 : decode cX6_valueAsked 14 = .ok (.ldc 137, 2) := by decide +kernel
theorem dX6_valueAsked_16 : decode cX6_valueAsked 16 = .ok (.invokevirtual 69, 3) := by decide +kernel
theorem dX6_valueAsked_19 : decode cX6_valueAsked 19 = .ok (.ifCond .eq 7, 3) := by decide +kernel
theorem dX6_valueAsked_22 : decode cX6_valueAsked 22 = .ok (.iconst 1, 1) := by decide +kernel
theorem dX6_valueAsked_23 : decode cX6_valueAsked 23 = .ok (.goto 98, 3) := by decide +kernel
theorem dX6_valueAsked_26 : decode cX6_valueAsked 26 = .ok (.aload_n 0, 1) := by decide +kernel
theorem dX6_valueAsked_27 : decode cX6_valueAsked 27 = .ok (.ldc 196, 2) := by decide +kernel
theorem dX6_valueAsked_29 : decode cX6_valueAsked 29 = .ok (.invokevirtual 69, 3) := by decide +kernel
theorem dX6_valueAsked_32 : decode cX6_valueAsked 32 = .ok (.ifCond .eq 7, 3) := by decide +kernel
theorem dX6_valueAsked_35 : decode cX6_valueAsked 35 = .ok (.iconst 2, 1) := by decide +kernel
theorem dX6_valueAsked_36 : decode cX6_valueAsked 36 = .ok (.goto 85, 3) := by decide +kernel
theorem dX6_valueAsked_39 : decode cX6_valueAsked 39 = .ok (.aload_n 0, 1) := by decide +kernel
theorem dX6_valueAsked_40 : decode cX6_valueAsked 40 = .ok (.ldc 198, 2) := by decide +kernel
theorem dX6_valueAsked_42 : decode cX6_valueAsked 42 = .ok (.invokevirtual 69, 3) := by decide +kernel
theorem dX6_valueAsked_45 : decode cX6_valueAsked 45 = .ok (.ifCond .eq 7, 3) := by decide +kernel
theorem dX6_valueAsked_48 : decode cX6_valueAsked 48 = .ok (.iconst 3, 1) := by decide +kernel
theorem dX6_valueAsked_49 : decode cX6_valueAsked 49 = .ok (.goto 72, 3) := by decide +kernel
theorem dX6_valueAsked_52 : decode cX6_valueAsked 52 = .ok (.aload_n 0, 1) := by decide +kernel
theorem dX6_valueAsked_53 : decode cX6_valueAsked 53 = .ok (.ldc 85, 2) := by decide +kernel
theorem dX6_valueAsked_55 : decode cX6_valueAsked 55 = .ok (.invokevirtual 69, 3) := by decide +kernel
theorem dX6_valueAsked_58 : decode cX6_valueAsked 58 = .ok (.ifCond .eq 7, 3) := by decide +kernel
theorem dX6_valueAsked_61 : decode cX6_valueAsked 61 = .ok (.iconst 4, 1) := by decide +kernel
theorem dX6_valueAsked_62 : decode cX6_valueAsked 62 = .ok (.goto 59, 3) := by decide +kernel
theorem dX6_valueAsked_65 : decode cX6_valueAsked 65 = .ok (.aload_n 0, 1) := by decide +kernel
theorem dX6_valueAsked_66 : decode cX6_valueAsked 66 = .ok (.ldc 200, 2) := by decide +kernel
theorem dX6_valueAsked_68 : decode cX6_valueAsked 68 = .ok (.invokevirtual 69, 3) := by decide +kernel
theorem dX6_valueAsked_71 : decode cX6_valueAsked 71 = .ok (.ifCond .eq 7, 3) := by decide +kernel
theorem dX6_valueAsked_74 : decode cX6_valueAsked 74 = .ok (.iconst 5, 1) := by decide +kernel
theorem dX6_valueAsked_75 : decode cX6_valueAsked 75 = .ok (.goto 46, 3) := by decide +kernel
theorem dX6_valueAsked_78 : decode cX6_valueAsked 78 = .ok (.aload_n 0, 1) := by decide +kernel
theorem dX6_valueAsked_79 : decode cX6_valueAsked 79 = .ok (.ldc 90, 2) := by decide +kernel
theorem dX6_valueAsked_81 : decode cX6_valueAsked 81 = .ok (.invokevirtual 69, 3) := by decide +kernel
theorem dX6_valueAsked_84 : decode cX6_valueAsked 84 = .ok (.ifCond .eq 8, 3) := by decide +kernel
theorem dX6_valueAsked_87 : decode cX6_valueAsked 87 = .ok (.bipush 6, 2) := by decide +kernel
theorem dX6_valueAsked_89 : decode cX6_valueAsked 89 = .ok (.goto 32, 3) := by decide +kernel
theorem dX6_valueAsked_92 : decode cX6_valueAsked 92 = .ok (.aload_n 0, 1) := by decide +kernel
theorem dX6_valueAsked_93 : decode cX6_valueAsked 93 = .ok (.ldc 100, 2) := by decide +kernel
theorem dX6_valueAsked_95 : decode cX6_valueAsked 95 = .ok (.invokevirtual 69, 3) := by decide +kernel
theorem dX6_valueAsked_98 : decode cX6_valueAsked 98 = .ok (.ifCond .eq 8, 3) := by decide +kernel
theorem dX6_valueAsked_101 : decode cX6_valueAsked 101 = .ok (.bipush 7, 2) := by decide +kernel
theorem dX6_valueAsked_103 : decode cX6_valueAsked 103 = .ok (.goto 18, 3) := by decide +kernel
theorem dX6_valueAsked_106 : decode cX6_valueAsked 106 = .ok (.aload_n 0, 1) := by decide +kernel
theorem dX6_valueAsked_107 : decode cX6_valueAsked 107 = .ok (.ldc 104, 2) := by decide +kernel
theorem dX6_valueAsked_109 : decode cX6_valueAsked 109 = .ok (.invokevirtual 69, 3) := by decide +kernel
theorem dX6_valueAsked_112 : decode cX6_valueAsked 112 = .ok (.ifCond .eq 8, 3) := by decide +kernel
theorem dX6_valueAsked_115 : decode cX6_valueAsked 115 = .ok (.bipush 8, 2) := by decide +kernel
theorem dX6_valueAsked_117 : decode cX6_valueAsked 117 = .ok (.goto 4, 3) := by decide +kernel
theorem dX6_valueAsked_120 : decode cX6_valueAsked 120 = .ok (.iconst (-1), 1) := by decide +kernel
theorem dX6_valueAsked_121 : decode cX6_valueAsked 121 = .ok (.ireturn, 1) := by decide +kernel
theorem dX6_refuse_0 : decode cX6_refuse 0 = .ok (.aload_n 0, 1) := by decide +kernel
theorem dX6_refuse_1 : decode cX6_refuse 1 = .ok (.iload_n 1, 1) := by decide +kernel
theorem dX6_refuse_2 : decode cX6_refuse 2 = .ok (.putfield 50, 3) := by decide +kernel
theorem dX6_refuse_5 : decode cX6_refuse 5 = .ok (.aload_n 0, 1) := by decide +kernel
theorem dX6_refuse_6 : decode cX6_refuse 6 = .ok (.aload_n 0, 1) := by decide +kernel
theorem dX6_refuse_7 : decode cX6_refuse 7 = .ok (.getfield 32, 3) := by decide +kernel
theorem dX6_refuse_10 : decode cX6_refuse 10 = .ok (.putfield 19, 3) := by decide +kernel
theorem dX6_refuse_13 : decode cX6_refuse 13 = .ok (.iconst 0, 1) := by decide +kernel
theorem dX6_refuse_14 : decode cX6_refuse 14 = .ok (.ireturn, 1) := by decide +kernel
theorem dX6_once_0 : decode cX6_once 0 = .ok (.aload_n 0, 1) := by decide +kernel
theorem dX6_once_1 : decode cX6_once 1 = .ok (.getfield 47, 3) := by decide +kernel
theorem dX6_once_4 : decode cX6_once 4 = .ok (.iload_n 1, 1) := by decide +kernel
theorem dX6_once_5 : decode cX6_once 5 = .ok (.iand, 1) := by decide +kernel
theorem dX6_once_6 : decode cX6_once 6 = .ok (.ifCond .eq 9, 3) := by decide +kernel
theorem dX6_once_9 : decode cX6_once 9 = .ok (.aload_n 0, 1) := by decide +kernel
theorem dX6_once_10 : decode cX6_once 10 = .ok (.iconst 4, 1) := by decide +kernel
theorem dX6_once_11 : decode cX6_once 11 = .ok (.invokevirtual 114, 3) := by decide +kernel
theorem dX6_once_14 : decode cX6_once 14 = .ok (.ireturn, 1) := by decide +kernel
theorem dX6_once_15 : decode cX6_once 15 = .ok (.aload_n 0, 1) := by decide +kernel
theorem dX6_once_16 : decode cX6_once 16 = .ok (.dup, 1) := by decide +kernel
theorem dX6_once_17 : decode cX6_once 17 = .ok (.getfield 47, 3) := by decide +kernel
theorem dX6_once_20 : decode cX6_once 20 = .ok (.iload_n 1, 1) := by decide +kernel
theorem dX6_once_21 : decode cX6_once 21 = .ok (.ior, 1) := by decide +kernel
theorem dX6_once_22 : decode cX6_once 22 = .ok (.putfield 47, 3) := by decide +kernel
theorem dX6_once_25 : decode cX6_once 25 = .ok (.aload_n 0, 1) := by decide +kernel
theorem dX6_once_26 : decode cX6_once 26 = .ok (.invokevirtual 60, 3) := by decide +kernel
theorem dX6_once_29 : decode cX6_once 29 = .ok (.iconst 1, 1) := by decide +kernel
theorem dX6_once_30 : decode cX6_once 30 = .ok (.ireturn, 1) := by decide +kernel
theorem dX6_word_0 : decode cX6_word 0 = .ok (.aload_n 0, 1) := by decide +kernel
theorem dX6_word_1 : decode cX6_word 1 = .ok (.aload_n 1, 1) := by decide +kernel
theorem dX6_word_2 : decode cX6_word 2 = .ok (.invokevirtual 69, 3) := by decide +kernel
theorem dX6_word_5 : decode cX6_word 5 = .ok (.ifCond .ne 9, 3) := by decide +kernel
theorem dX6_word_8 : decode cX6_word 8 = .ok (.aload_n 0, 1) := by decide +kernel
theorem dX6_word_9 : decode cX6_word 9 = .ok (.iconst 1, 1) := by decide +kernel
theorem dX6_word_10 : decode cX6_word 10 = .ok (.invokevirtual 114, 3) := by decide +kernel
theorem dX6_word_13 : decode cX6_word 13 = .ok (.ireturn, 1) := by decide +kernel
theorem dX6_word_14 : decode cX6_word 14 = .ok (.aload_n 0, 1) := by decide +kernel
theorem dX6_word_15 : decode cX6_word 15 = .ok (.invokevirtual 60, 3) := by decide +kernel
theorem dX6_word_18 : decode cX6_word 18 = .ok (.iconst 1, 1) := by decide +kernel
theorem dX6_word_19 : decode cX6_word 19 = .ok (.ireturn, 1) := by decide +kernel
theorem dX6_sign_0 : decode cX6_sign 0 = .ok (.aload_n 0, 1) := by decide +kernel
theorem dX6_sign_1 : decode cX6_sign 1 = .ok (.getfield 38, 3) := by decide +kernel
theorem dX6_sign_4 : decode cX6_sign 4 = .ok (.iload_n 1, 1) := by decide +kernel
theorem dX6_sign_5 : decode cX6_sign 5 = .ok (.if_icmp .eq 9, 3) := by decide +kernel
theorem dX6_sign_8 : decode cX6_sign 8 = .ok (.aload_n 0, 1) := by decide +kernel
theorem dX6_sign_9 : decode cX6_sign 9 = .ok (.iconst 1, 1) := by decide +kernel
theorem dX6_sign_10 : decode cX6_sign 10 = .ok (.invokevirtual 114, 3) := by decide +kernel
theorem dX6_sign_13 : decode cX6_sign 13 = .ok (.ireturn, 1) := by decide +kernel
theorem dX6_sign_14 : decode cX6_sign 14 = .ok (.aload_n 0, 1) := by decide +kernel
theorem dX6_sign_15 : decode cX6_sign 15 = .ok (.invokevirtual 60, 3) := by decide +kernel
theorem dX6_sign_18 : decode cX6_sign 18 = .ok (.iconst 1, 1) := by decide +kernel
theorem dX6_sign_19 : decode cX6_sign 19 = .ok (.ireturn, 1) := by decide +kernel
theorem dX6_numberFrom_0 : decode cX6_numberFrom 0 = .ok (.aload_n 0, 1) := by decide +kernel
theorem dX6_numberFrom_1 : decode cX6_numberFrom 1 = .ok (.getfield 38, 3) := by decide +kernel
theorem dX6_numberFrom_4 : decode cX6_numberFrom 4 = .ok (.iconst 2, 1) := by decide +kernel
theorem dX6_numberFrom_5 : decode cX6_numberFrom 5 = .ok (.if_icmp .eq 9, 3) := by decide +kernel
theorem dX6_numberFrom_8 : decode cX6_numberFrom 8 = .ok (.aload_n 0, 1) := by decide +kernel
theorem dX6_numberFrom_9 : decode cX6_numberFrom 9 = .ok (.iconst 1, 1) := by decide +kernel
theorem dX6_numberFrom_10 : decode cX6_numberFrom 10 = .ok (.invokevirtual 114, 3) := by decide +kernel
theorem dX6_numberFrom_13 : decode cX6_numberFrom 13 = .ok (.ireturn, 1) := by decide +kernel
theorem dX6_numberFrom_14 : decode cX6_numberFrom 14 = .ok (.aload_n 0, 1) := by decide +kernel
theorem dX6_numberFrom_15 : decode cX6_numberFrom 15 = .ok (.getfield 41, 3) := by decide +kernel
theorem dX6_numberFrom_18 : decode cX6_numberFrom 18 = .ok (.iload_n 1, 1) := by decide +kernel
theorem dX6_numberFrom_19 : decode cX6_numberFrom 19 = .ok (.if_icmp .lt 11, 3) := by decide +kernel
theorem dX6_numberFrom_22 : decode cX6_numberFrom 22 = .ok (.aload_n 0, 1) := by decide +kernel
theorem dX6_numberFrom_23 : decode cX6_numberFrom 23 = .ok (.getfield 41, 3) := by decide +kernel
theorem dX6_numberFrom_26 : decode cX6_numberFrom 26 = .ok (.iload_n 2, 1) := by decide +kernel
theorem dX6_numberFrom_27 : decode cX6_numberFrom 27 = .ok (.if_icmp .le 9, 3) := by decide +kernel
theorem dX6_numberFrom_30 : decode cX6_numberFrom 30 = .ok (.aload_n 0, 1) := by decide +kernel
theorem dX6_numberFrom_31 : decode cX6_numberFrom 31 = .ok (.iconst 2, 1) := by decide +kernel
theorem dX6_numberFrom_32 : decode cX6_numberFrom 32 = .ok (.invokevirtual 114, 3) := by decide +kernel
theorem dX6_numberFrom_35 : decode cX6_numberFrom 35 = .ok (.ireturn, 1) := by decide +kernel
theorem dX6_numberFrom_36 : decode cX6_numberFrom 36 = .ok (.aload_n 0, 1) := by decide +kernel
theorem dX6_numberFrom_37 : decode cX6_numberFrom 37 = .ok (.aload_n 0, 1) := by decide +kernel
theorem dX6_numberFrom_38 : decode cX6_numberFrom 38 = .ok (.getfield 41, 3) := by decide +kernel
theorem dX6_numberFrom_41 : decode cX6_numberFrom 41 = .ok (.putfield 44, 3) := by decide +kernel
theorem dX6_numberFrom_44 : decode cX6_numberFrom 44 = .ok (.aload_n 0, 1) := by decide +kernel
theorem dX6_numberFrom_45 : decode cX6_numberFrom 45 = .ok (.invokevirtual 60, 3) := by decide +kernel
theorem dX6_numberFrom_48 : decode cX6_numberFrom 48 = .ok (.iconst 1, 1) := by decide +kernel
theorem dX6_numberFrom_49 : decode cX6_numberFrom 49 = .ok (.ireturn, 1) := by decide +kernel
theorem dX6_isWord_0 : decode cX6_isWord 0 = .ok (.aload_n 0, 1) := by decide +kernel
theorem dX6_isWord_1 : decode cX6_isWord 1 = .ok (.getfield 38, 3) := by decide +kernel
theorem dX6_isWord_4 : decode cX6_isWord 4 = .ok (.iconst 1, 1) := by decide +kernel
theorem dX6_isWord_5 : decode cX6_isWord 5 = .ok (.if_icmp .ne 19, 3) := by decide +kernel
theorem dX6_isWord_8 : decode cX6_isWord 8 = .ok (.aload_n 0, 1) := by decide +kernel
theorem dX6_isWord_9 : decode cX6_isWord 9 = .ok (.getfield 35, 3) := by decide +kernel
theorem dX6_isWord_12 : decode cX6_isWord 12 = .ok (.aload_n 0, 1) := by decide +kernel
theorem dX6_isWord_13 : decode cX6_isWord 13 = .ok (.getfield 32, 3) := by decide +kernel
theorem dX6_isWord_16 : decode cX6_isWord 16 = .ok (.isub, 1) := by decide +kernel
theorem dX6_isWord_17 : decode cX6_isWord 17 = .ok (.aload_n 1, 1) := by decide +kernel
theorem dX6_isWord_18 : decode cX6_isWord 18 = .ok (.invokevirtual 201, 3) := by decide +kernel
theorem dX6_isWord_21 : decode cX6_isWord 21 = .ok (.if_icmp .eq 5, 3) := by decide +kernel
theorem dX6_isWord_24 : decode cX6_isWord 24 = .ok (.iconst 0, 1) := by decide +kernel
theorem dX6_isWord_25 : decode cX6_isWord 25 = .ok (.ireturn, 1) := by decide +kernel
theorem dX6_isWord_26 : decode cX6_isWord 26 = .ok (.iconst 0, 1) := by decide +kernel
theorem dX6_isWord_27 : decode cX6_isWord 27 = .ok (.istore_n 2, 1) := by decide +kernel
theorem dX6_isWord_28 : decode cX6_isWord 28 = .ok (.iload_n 2, 1) := by decide +kernel
theorem dX6_isWord_29 : decode cX6_isWord 29 = .ok (.aload_n 1, 1) := by decide +kernel
theorem dX6_isWord_30 : decode cX6_isWord 30 = .ok (.invokevirtual 201, 3) := by decide +kernel
theorem dX6_isWord_33 : decode cX6_isWord 33 = .ok (.if_icmp .ge 32, 3) := by decide +kernel
theorem dX6_isWord_36 : decode cX6_isWord 36 = .ok (.aload_n 0, 1) := by decide +kernel
theorem dX6_isWord_37 : decode cX6_isWord 37 = .ok (.getfield 9, 3) := by decide +kernel
theorem dX6_isWord_40 : decode cX6_isWord 40 = .ok (.aload_n 0, 1) := by decide +kernel
theorem dX6_isWord_41 : decode cX6_isWord 41 = .ok (.getfield 32, 3) := by decide +kernel
theorem dX6_isWord_44 : decode cX6_isWord 44 = .ok (.iload_n 2, 1) := by decide +kernel
theorem dX6_isWord_45 : decode cX6_isWord 45 = .ok (.iadd, 1) := by decide +kernel
theorem dX6_isWord_46 : decode cX6_isWord 46 = .ok (.invokestatic 206, 3) := by decide +kernel
theorem dX6_isWord_49 : decode cX6_isWord 49 = .ok (.aload_n 1, 1) := by decide +kernel
theorem dX6_isWord_50 : decode cX6_isWord 50 = .ok (.iload_n 2, 1) := by decide +kernel
theorem dX6_isWord_51 : decode cX6_isWord 51 = .ok (.invokevirtual 210, 3) := by decide +kernel
theorem dX6_isWord_54 : decode cX6_isWord 54 = .ok (.if_icmp .eq 5, 3) := by decide +kernel
theorem dX6_isWord_57 : decode cX6_isWord 57 = .ok (.iconst 0, 1) := by decide +kernel
theorem dX6_isWord_58 : decode cX6_isWord 58 = .ok (.ireturn, 1) := by decide +kernel
theorem dX6_isWord_59 : decode cX6_isWord 59 = .ok (.iinc 2 1, 3) := by decide +kernel
theorem dX6_isWord_62 : decode cX6_isWord 62 = .ok (.goto (-34), 3) := by decide +kernel
theorem dX6_isWord_65 : decode cX6_isWord 65 = .ok (.iconst 1, 1) := by decide +kernel
theorem dX6_isWord_66 : decode cX6_isWord 66 = .ok (.ireturn, 1) := by decide +kernel
theorem dX6_advance_0 : decode cX6_advance 0 = .ok (.aload_n 0, 1) := by decide +kernel
theorem dX6_advance_1 : decode cX6_advance 1 = .ok (.aload_n 0, 1) := by decide +kernel
theorem dX6_advance_2 : decode cX6_advance 2 = .ok (.getfield 35, 3) := by decide +kernel
theorem dX6_advance_5 : decode cX6_advance 5 = .ok (.putfield 32, 3) := by decide +kernel
theorem dX6_advance_8 : decode cX6_advance 8 = .ok (.aload_n 0, 1) := by decide +kernel
theorem dX6_advance_9 : decode cX6_advance 9 = .ok (.getfield 32, 3) := by decide +kernel
theorem dX6_advance_12 : decode cX6_advance 12 = .ok (.aload_n 0, 1) := by decide +kernel
theorem dX6_advance_13 : decode cX6_advance 13 = .ok (.getfield 29, 3) := by decide +kernel
theorem dX6_advance_16 : decode cX6_advance 16 = .ok (.if_icmp .ge 33, 3) := by decide +kernel
theorem dX6_advance_19 : decode cX6_advance 19 = .ok (.aload_n 0, 1) := by decide +kernel
theorem dX6_advance_20 : decode cX6_advance 20 = .ok (.getfield 9, 3) := by decide +kernel
theorem dX6_advance_23 : decode cX6_advance 23 = .ok (.aload_n 0, 1) := by decide +kernel
theorem dX6_advance_24 : decode cX6_advance 24 = .ok (.getfield 32, 3) := by decide +kernel
theorem dX6_advance_27 : decode cX6_advance 27 = .ok (.invokestatic 206, 3) := by decide +kernel
theorem dX6_advance_30 : decode cX6_advance 30 = .ok (.invokestatic 214, 3) := by decide +kernel
theorem dX6_advance_33 : decode cX6_advance 33 = .ok (.ifCond .eq 16, 3) := by decide +kernel
theorem dX6_advance_36 : decode cX6_advance 36 = .ok (.aload_n 0, 1) := by decide +kernel
theorem dX6_advance_37 : decode cX6_advance 37 = .ok (.dup, 1) := by decide +kernel
theorem dX6_advance_38 : decode cX6_advance 38 = .ok (.getfield 32, 3) := by decide +kernel
theorem dX6_advance_41 : decode cX6_advance 41 = .ok (.iconst 1, 1) := by decide +kernel
theorem dX6_advance_42 : decode cX6_advance 42 = .ok (.iadd, 1) := by decide +kernel
theorem dX6_advance_43 : decode cX6_advance 43 = .ok (.putfield 32, 3) := by decide +kernel
theorem dX6_advance_46 : decode cX6_advance 46 = .ok (.goto (-38), 3) := by decide +kernel
theorem dX6_advance_49 : decode cX6_advance 49 = .ok (.aload_n 0, 1) := by decide +kernel
theorem dX6_advance_50 : decode cX6_advance 50 = .ok (.aload_n 0, 1) := by decide +kernel
theorem dX6_advance_51 : decode cX6_advance 51 = .ok (.getfield 32, 3) := by decide +kernel
theorem dX6_advance_54 : decode cX6_advance 54 = .ok (.putfield 35, 3) := by decide +kernel
theorem dX6_advance_57 : decode cX6_advance 57 = .ok (.aload_n 0, 1) := by decide +kernel
theorem dX6_advance_58 : decode cX6_advance 58 = .ok (.getfield 9, 3) := by decide +kernel
theorem dX6_advance_61 : decode cX6_advance 61 = .ok (.aload_n 0, 1) := by decide +kernel
theorem dX6_advance_62 : decode cX6_advance 62 = .ok (.getfield 32, 3) := by decide +kernel
theorem dX6_advance_65 : decode cX6_advance 65 = .ok (.invokestatic 206, 3) := by decide +kernel
theorem dX6_advance_68 : decode cX6_advance 68 = .ok (.istore_n 1, 1) := by decide +kernel
theorem dX6_advance_69 : decode cX6_advance 69 = .ok (.aload_n 0, 1) := by decide +kernel
theorem dX6_advance_70 : decode cX6_advance 70 = .ok (.getfield 32, 3) := by decide +kernel
theorem dX6_advance_73 : decode cX6_advance 73 = .ok (.aload_n 0, 1) := by decide +kernel
theorem dX6_advance_74 : decode cX6_advance 74 = .ok (.getfield 29, 3) := by decide +kernel
theorem dX6_advance_77 : decode cX6_advance 77 = .ok (.if_icmp .lt 11, 3) := by decide +kernel
theorem dX6_advance_80 : decode cX6_advance 80 = .ok (.aload_n 0, 1) := by decide +kernel
theorem dX6_advance_81 : decode cX6_advance 81 = .ok (.iconst 0, 1) := by decide +kernel
theorem dX6_advance_82 : decode cX6_advance 82 = .ok (.putfield 38, 3) := by decide +kernel
theorem dX6_advance_85 : decode cX6_advance 85 = .ok (.goto 101, 3) := by decide +kernel
theorem dX6_advance_88 : decode cX6_advance 88 = .ok (.iload_n 1, 1) := by decide +kernel
theorem dX6_advance_89 : decode cX6_advance 89 = .ok (.invokestatic 217, 3) := by decide +kernel
theorem dX6_advance_92 : decode cX6_advance 92 = .ok (.ifCond .eq 49, 3) := by decide +kernel
theorem dX6_advance_95 : decode cX6_advance 95 = .ok (.aload_n 0, 1) := by decide +kernel
theorem dX6_advance_96 : decode cX6_advance 96 = .ok (.iconst 1, 1) := by decide +kernel
theorem dX6_advance_97 : decode cX6_advance 97 = .ok (.putfield 38, 3) := by decide +kernel
theorem dX6_advance_100 : decode cX6_advance 100 = .ok (.aload_n 0, 1) := by decide +kernel
theorem dX6_advance_101 : decode cX6_advance 101 = .ok (.getfield 35, 3) := by decide +kernel
theorem dX6_advance_104 : decode cX6_advance 104 = .ok (.aload_n 0, 1) := by decide +kernel
theorem dX6_advance_105 : decode cX6_advance 105 = .ok (.getfield 29, 3) := by decide +kernel
theorem dX6_advance_108 : decode cX6_advance 108 = .ok (.if_icmp .ge 78, 3) := by decide +kernel
theorem dX6_advance_111 : decode cX6_advance 111 = .ok (.aload_n 0, 1) := by decide +kernel
theorem dX6_advance_112 : decode cX6_advance 112 = .ok (.getfield 9, 3) := by decide +kernel
theorem dX6_advance_115 : decode cX6_advance 115 = .ok (.aload_n 0, 1) := by decide +kernel
theorem dX6_advance_116 : decode cX6_advance 116 = .ok (.getfield 35, 3) := by decide +kernel
theorem dX6_advance_119 : decode cX6_advance 119 = .ok (.invokestatic 206, 3) := by decide +kernel
theorem dX6_advance_122 : decode cX6_advance 122 = .ok (.invokestatic 217, 3) := by decide +kernel
theorem dX6_advance_125 : decode cX6_advance 125 = .ok (.ifCond .eq 61, 3) := by decide +kernel
theorem dX6_advance_128 : decode cX6_advance 128 = .ok (.aload_n 0, 1) := by decide +kernel
theorem dX6_advance_129 : decode cX6_advance 129 = .ok (.dup, 1) := by decide +kernel
theorem dX6_advance_130 : decode cX6_advance 130 = .ok (.getfield 35, 3) := by decide +kernel
theorem dX6_advance_133 : decode cX6_advance 133 = .ok (.iconst 1, 1) := by decide +kernel
theorem dX6_advance_134 : decode cX6_advance 134 = .ok (.iadd, 1) := by decide +kernel
theorem dX6_advance_135 : decode cX6_advance 135 = .ok (.putfield 35, 3) := by decide +kernel
theorem dX6_advance_138 : decode cX6_advance 138 = .ok (.goto (-38), 3) := by decide +kernel
theorem dX6_advance_141 : decode cX6_advance 141 = .ok (.iload_n 1, 1) := by decide +kernel
theorem dX6_advance_142 : decode cX6_advance 142 = .ok (.invokestatic 220, 3) := by decide +kernel
theorem dX6_advance_145 : decode cX6_advance 145 = .ok (.ifCond .eq 15, 3) := by decide +kernel
theorem dX6_advance_148 : decode cX6_advance 148 = .ok (.aload_n 0, 1) := by decide +kernel
theorem dX6_advance_149 : decode cX6_advance 149 = .ok (.iconst 2, 1) := by decide +kernel
theorem dX6_advance_150 : decode cX6_advance 150 = .ok (.putfield 38, 3) := by decide +kernel
theorem dX6_advance_153 : decode cX6_advance 153 = .ok (.aload_n 0, 1) := by decide +kernel
theorem dX6_advance_154 : decode cX6_advance 154 = .ok (.invokevirtual 223, 3) := by decide +kernel
theorem dX6_advance_157 : decode cX6_advance 157 = .ok (.goto 29, 3) := by decide +kernel
theorem dX6_advance_160 : decode cX6_advance 160 = .ok (.aload_n 0, 1) := by decide +kernel
theorem dX6_advance_161 : decode cX6_advance 161 = .ok (.iload_n 1, 1) := by decide +kernel
theorem dX6_advance_162 : decode cX6_advance 162 = .ok (.invokestatic 226, 3) := by decide +kernel
theorem dX6_advance_165 : decode cX6_advance 165 = .ok (.ifCond .eq 7, 3) := by decide +kernel
theorem dX6_advance_168 : decode cX6_advance 168 = .ok (.iload_n 1, 1) := by decide +kernel
theorem dX6_advance_169 : decode cX6_advance 169 = .ok (.goto 4, 3) := by decide +kernel
theorem dX6_advance_172 : decode cX6_advance 172 = .ok (.iconst 3, 1) := by decide +kernel
theorem dX6_advance_173 : decode cX6_advance 173 = .ok (.putfield 38, 3) := by decide +kernel
theorem dX6_advance_176 : decode cX6_advance 176 = .ok (.aload_n 0, 1) := by decide +kernel
theorem dX6_advance_177 : decode cX6_advance 177 = .ok (.dup, 1) := by decide +kernel
theorem dX6_advance_178 : decode cX6_advance 178 = .ok (.getfield 35, 3) := by decide +kernel
theorem dX6_advance_181 : decode cX6_advance 181 = .ok (.iconst 1, 1) := by decide +kernel
theorem dX6_advance_182 : decode cX6_advance 182 = .ok (.iadd, 1) := by decide +kernel
theorem dX6_advance_183 : decode cX6_advance 183 = .ok (.putfield 35, 3) := by decide +kernel
theorem dX6_advance_186 : decode cX6_advance 186 = .ok (.return_, 1) := by decide +kernel
theorem dX6_readNumber_0 : decode cX6_readNumber 0 = .ok (.aload_n 0, 1) := by decide +kernel
theorem dX6_readNumber_1 : decode cX6_readNumber 1 = .ok (.iconst 0, 1) := by decide +kernel
theorem dX6_readNumber_2 : decode cX6_readNumber 2 = .ok (.putfield 41, 3) := by decide +kernel
theorem dX6_readNumber_5 : decode cX6_readNumber 5 = .ok (.aload_n 0, 1) := by decide +kernel
theorem dX6_readNumber_6 : decode cX6_readNumber 6 = .ok (.getfield 35, 3) := by decide +kernel
theorem dX6_readNumber_9 : decode cX6_readNumber 9 = .ok (.aload_n 0, 1) := by decide +kernel
theorem dX6_readNumber_10 : decode cX6_readNumber 10 = .ok (.getfield 29, 3) := by decide +kernel
theorem dX6_readNumber_13 : decode cX6_readNumber 13 = .ok (.if_icmp .ge 78, 3) := by decide +kernel
theorem dX6_readNumber_16 : decode cX6_readNumber 16 = .ok (.aload_n 0, 1) := by decide +kernel
theorem dX6_readNumber_17 : decode cX6_readNumber 17 = .ok (.getfield 9, 3) := by decide +kernel
theorem dX6_readNumber_20 : decode cX6_readNumber 20 = .ok (.aload_n 0, 1) := by decide +kernel
theorem dX6_readNumber_21 : decode cX6_readNumber 21 = .ok (.getfield 35, 3) := by decide +kernel
theorem dX6_readNumber_24 : decode cX6_readNumber 24 = .ok (.invokestatic 206, 3) := by decide +kernel
theorem dX6_readNumber_27 : decode cX6_readNumber 27 = .ok (.invokestatic 220, 3) := by decide +kernel
theorem dX6_readNumber_30 : decode cX6_readNumber 30 = .ok (.ifCond .eq 61, 3) := by decide +kernel
theorem dX6_readNumber_33 : decode cX6_readNumber 33 = .ok (.aload_n 0, 1) := by decide +kernel
theorem dX6_readNumber_34 : decode cX6_readNumber 34 = .ok (.aload_n 0, 1) := by decide +kernel
theorem dX6_readNumber_35 : decode cX6_readNumber 35 = .ok (.getfield 35, 3) := by decide +kernel
theorem dX6_readNumber_38 : decode cX6_readNumber 38 = .ok (.aload_n 0, 1) := by decide +kernel
theorem dX6_readNumber_39 : decode cX6_readNumber 39 = .ok (.getfield 32, 3) := by decide +kernel
theorem dX6_readNumber_42 : decode cX6_readNumber 42 = .ok (.isub, 1) := by decide +kernel
theorem dX6_readNumber_43 : decode cX6_readNumber 43 = .ok (.iconst 3, 1) := by decide +kernel
theorem dX6_readNumber_44 : decode cX6_readNumber 44 = .ok (.if_icmp .ge 28, 3) := by decide +kernel
theorem dX6_readNumber_47 : decode cX6_readNumber 47 = .ok (.aload_n 0, 1) := by decide +kernel
theorem dX6_readNumber_48 : decode cX6_readNumber 48 = .ok (.getfield 41, 3) := by decide +kernel
theorem dX6_readNumber_51 : decode cX6_readNumber 51 = .ok (.bipush 10, 2) := by decide +kernel
theorem dX6_readNumber_53 : decode cX6_readNumber 53 = .ok (.imul, 1) := by decide +kernel
theorem dX6_readNumber_54 : decode cX6_readNumber 54 = .ok (.aload_n 0, 1) := by decide +kernel
theorem dX6_readNumber_55 : decode cX6_readNumber 55 = .ok (.getfield 9, 3) := by decide +kernel
theorem dX6_readNumber_58 : decode cX6_readNumber 58 = .ok (.aload_n 0, 1) := by decide +kernel
theorem dX6_readNumber_59 : decode cX6_readNumber 59 = .ok (.getfield 35, 3) := by decide +kernel
theorem dX6_readNumber_62 : decode cX6_readNumber 62 = .ok (.invokestatic 206, 3) := by decide +kernel
theorem dX6_readNumber_65 : decode cX6_readNumber 65 = .ok (.iadd, 1) := by decide +kernel
theorem dX6_readNumber_66 : decode cX6_readNumber 66 = .ok (.bipush 48, 2) := by decide +kernel
theorem dX6_readNumber_68 : decode cX6_readNumber 68 = .ok (.isub, 1) := by decide +kernel
theorem dX6_readNumber_69 : decode cX6_readNumber 69 = .ok (.goto 6, 3) := by decide +kernel
theorem dX6_readNumber_72 : decode cX6_readNumber 72 = .ok (.sipush 1000, 3) := by decide +kernel
theorem dX6_readNumber_75 : decode cX6_readNumber 75 = .ok (.putfield 41, 3) := by decide +kernel
theorem dX6_readNumber_78 : decode cX6_readNumber 78 = .ok (.aload_n 0, 1) := by decide +kernel
theorem dX6_readNumber_79 : decode cX6_readNumber 79 = .ok (.dup, 1) := by decide +kernel
theorem dX6_readNumber_80 : decode cX6_readNumber 80 = .ok (.getfield 35, 3) := by decide +kernel
theorem dX6_readNumber_83 : decode cX6_readNumber 83 = .ok (.iconst 1, 1) := by decide +kernel
theorem dX6_readNumber_84 : decode cX6_readNumber 84 = .ok (.iadd, 1) := by decide +kernel
theorem dX6_readNumber_85 : decode cX6_readNumber 85 = .ok (.putfield 35, 3) := by decide +kernel
theorem dX6_readNumber_88 : decode cX6_readNumber 88 = .ok (.goto (-83), 3) := by decide +kernel
theorem dX6_readNumber_91 : decode cX6_readNumber 91 = .ok (.return_, 1) := by decide +kernel
theorem dX6_isBlank_0 : decode cX6_isBlank 0 = .ok (.iload_n 0, 1) := by decide +kernel
theorem dX6_isBlank_1 : decode cX6_isBlank 1 = .ok (.bipush 32, 2) := by decide +kernel
theorem dX6_isBlank_3 : decode cX6_isBlank 3 = .ok (.if_icmp .eq 9, 3) := by decide +kernel
theorem dX6_isBlank_6 : decode cX6_isBlank 6 = .ok (.iload_n 0, 1) := by decide +kernel
theorem dX6_isBlank_7 : decode cX6_isBlank 7 = .ok (.bipush 10, 2) := by decide +kernel
theorem dX6_isBlank_9 : decode cX6_isBlank 9 = .ok (.if_icmp .ne 7, 3) := by decide +kernel
theorem dX6_isBlank_12 : decode cX6_isBlank 12 = .ok (.iconst 1, 1) := by decide +kernel
theorem dX6_isBlank_13 : decode cX6_isBlank 13 = .ok (.goto 4, 3) := by decide +kernel
theorem dX6_isBlank_16 : decode cX6_isBlank 16 = .ok (.iconst 0, 1) := by decide +kernel
theorem dX6_isBlank_17 : decode cX6_isBlank 17 = .ok (.ireturn, 1) := by decide +kernel
theorem dX6_isLetter_0 : decode cX6_isLetter 0 = .ok (.iload_n 0, 1) := by decide +kernel
theorem dX6_isLetter_1 : decode cX6_isLetter 1 = .ok (.bipush 97, 2) := by decide +kernel
theorem dX6_isLetter_3 : decode cX6_isLetter 3 = .ok (.if_icmp .lt 13, 3) := by decide +kernel
theorem dX6_isLetter_6 : decode cX6_isLetter 6 = .ok (.iload_n 0, 1) := by decide +kernel
theorem dX6_isLetter_7 : decode cX6_isLetter 7 = .ok (.bipush 122, 2) := by decide +kernel
theorem dX6_isLetter_9 : decode cX6_isLetter 9 = .ok (.if_icmp .gt 7, 3) := by decide +kernel
theorem dX6_isLetter_12 : decode cX6_isLetter 12 = .ok (.iconst 1, 1) := by decide +kernel
theorem dX6_isLetter_13 : decode cX6_isLetter 13 = .ok (.goto 4, 3) := by decide +kernel
theorem dX6_isLetter_16 : decode cX6_isLetter 16 = .ok (.iconst 0, 1) := by decide +kernel
theorem dX6_isLetter_17 : decode cX6_isLetter 17 = .ok (.ireturn, 1) := by decide +kernel
theorem dX6_isDigit_0 : decode cX6_isDigit 0 = .ok (.iload_n 0, 1) := by decide +kernel
theorem dX6_isDigit_1 : decode cX6_isDigit 1 = .ok (.bipush 48, 2) := by decide +kernel
theorem dX6_isDigit_3 : decode cX6_isDigit 3 = .ok (.if_icmp .lt 13, 3) := by decide +kernel
theorem dX6_isDigit_6 : decode cX6_isDigit 6 = .ok (.iload_n 0, 1) := by decide +kernel
theorem dX6_isDigit_7 : decode cX6_isDigit 7 = .ok (.bipush 57, 2) := by decide +kernel
theorem dX6_isDigit_9 : decode cX6_isDigit 9 = .ok (.if_icmp .gt 7, 3) := by decide +kernel
theorem dX6_isDigit_12 : decode cX6_isDigit 12 = .ok (.iconst 1, 1) := by decide +kernel
theorem dX6_isDigit_13 : decode cX6_isDigit 13 = .ok (.goto 4, 3) := by decide +kernel
theorem dX6_isDigit_16 : decode cX6_isDigit 16 = .ok (.iconst 0, 1) := by decide +kernel
theorem dX6_isDigit_17 : decode cX6_isDigit 17 = .ok (.ireturn, 1) := by decide +kernel
theorem dX6_isSign_0 : decode cX6_isSign 0 = .ok (.iload_n 0, 1) := by decide +kernel
theorem dX6_isSign_1 : decode cX6_isSign 1 = .ok (.bipush 59, 2) := by decide +kernel
theorem dX6_isSign_3 : decode cX6_isSign 3 = .ok (.if_icmp .eq 51, 3) := by decide +kernel
theorem dX6_isSign_6 : decode cX6_isSign 6 = .ok (.iload_n 0, 1) := by decide +kernel
theorem dX6_isSign_7 : decode cX6_isSign 7 = .ok (.bipush 40, 2) := by decide +kernel
theorem dX6_isSign_9 : decode cX6_isSign 9 = .ok (.if_icmp .eq 45, 3) := by decide +kernel
theorem dX6_isSign_12 : decode cX6_isSign 12 = .ok (.iload_n 0, 1) := by decide +kernel
theorem dX6_isSign_13 : decode cX6_isSign 13 = .ok (.bipush 41, 2) := by decide +kernel
theorem dX6_isSign_15 : decode cX6_isSign 15 = .ok (.if_icmp .eq 39, 3) := by decide +kernel
theorem dX6_isSign_18 : decode cX6_isSign 18 = .ok (.iload_n 0, 1) := by decide +kernel
theorem dX6_isSign_19 : decode cX6_isSign 19 = .ok (.bipush 43, 2) := by decide +kernel
theorem dX6_isSign_21 : decode cX6_isSign 21 = .ok (.if_icmp .eq 33, 3) := by decide +kernel
theorem dX6_isSign_24 : decode cX6_isSign 24 = .ok (.iload_n 0, 1) := by decide +kernel
theorem dX6_isSign_25 : decode cX6_isSign 25 = .ok (.bipush 45, 2) := by decide +kernel
theorem dX6_isSign_27 : decode cX6_isSign 27 = .ok (.if_icmp .eq 27, 3) := by decide +kernel
theorem dX6_isSign_30 : decode cX6_isSign 30 = .ok (.iload_n 0, 1) := by decide +kernel
theorem dX6_isSign_31 : decode cX6_isSign 31 = .ok (.bipush 42, 2) := by decide +kernel
theorem dX6_isSign_33 : decode cX6_isSign 33 = .ok (.if_icmp .eq 21, 3) := by decide +kernel
theorem dX6_isSign_36 : decode cX6_isSign 36 = .ok (.iload_n 0, 1) := by decide +kernel
theorem dX6_isSign_37 : decode cX6_isSign 37 = .ok (.bipush 47, 2) := by decide +kernel
theorem dX6_isSign_39 : decode cX6_isSign 39 = .ok (.if_icmp .eq 15, 3) := by decide +kernel
theorem dX6_isSign_42 : decode cX6_isSign 42 = .ok (.iload_n 0, 1) := by decide +kernel
theorem dX6_isSign_43 : decode cX6_isSign 43 = .ok (.bipush 60, 2) := by decide +kernel
theorem dX6_isSign_45 : decode cX6_isSign 45 = .ok (.if_icmp .eq 9, 3) := by decide +kernel
theorem dX6_isSign_48 : decode cX6_isSign 48 = .ok (.iload_n 0, 1) := by decide +kernel
theorem dX6_isSign_49 : decode cX6_isSign 49 = .ok (.bipush 61, 2) := by decide +kernel
theorem dX6_isSign_51 : decode cX6_isSign 51 = .ok (.if_icmp .ne 7, 3) := by decide +kernel
theorem dX6_isSign_54 : decode cX6_isSign 54 = .ok (.iconst 1, 1) := by decide +kernel
theorem dX6_isSign_55 : decode cX6_isSign 55 = .ok (.goto 4, 3) := by decide +kernel
theorem dX6_isSign_58 : decode cX6_isSign 58 = .ok (.iconst 0, 1) := by decide +kernel
theorem dX6_isSign_59 : decode cX6_isSign 59 = .ok (.ireturn, 1) := by decide +kernel
theorem dX7_init_0 : decode cX7_init 0 = .ok (.aload_n 0, 1) := by decide +kernel
theorem dX7_init_1 : decode cX7_init 1 = .ok (.invokespecial 3, 3) := by decide +kernel
theorem dX7_init_4 : decode cX7_init 4 = .ok (.aload_n 0, 1) := by decide +kernel
theorem dX7_init_5 : decode cX7_init 5 = .ok (.bipush 100, 2) := by decide +kernel
theorem dX7_init_7 : decode cX7_init 7 = .ok (.newarray .long, 2) := by decide +kernel
theorem dX7_init_9 : decode cX7_init 9 = .ok (.putfield 9, 3) := by decide +kernel
theorem dX7_init_12 : decode cX7_init 12 = .ok (.aload_n 0, 1) := by decide +kernel
theorem dX7_init_13 : decode cX7_init 13 = .ok (.bipush 100, 2) := by decide +kernel
theorem dX7_init_15 : decode cX7_init 15 = .ok (.newarray .long, 2) := by decide +kernel
theorem dX7_init_17 : decode cX7_init 17 = .ok (.putfield 15, 3) := by decide +kernel
theorem dX7_init_20 : decode cX7_init 20 = .ok (.aload_n 0, 1) := by decide +kernel
theorem dX7_init_21 : decode cX7_init 21 = .ok (.iconst 0, 1) := by decide +kernel
theorem dX7_init_22 : decode cX7_init 22 = .ok (.putfield 18, 3) := by decide +kernel
theorem dX7_init_25 : decode cX7_init 25 = .ok (.aload_n 0, 1) := by decide +kernel

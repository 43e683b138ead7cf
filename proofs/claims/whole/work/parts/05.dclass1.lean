/-! decode rows (starting text: printed by TURN) -/
theorem dX0_init_0 : decode cX0_init 0 = .ok (.aload_n 0, 1) := by decide +kernel
theorem dX0_init_1 : decode cX0_init 1 = .ok (.invokespecial 3, 3) := by decide +kernel
theorem dX0_init_4 : decode cX0_init 4 = .ok (.aload_n 0, 1) := by decide +kernel
theorem dX0_init_5 : decode cX0_init 5 = .ok (.iconst 0, 1) := by decide +kernel
theorem dX0_init_6 : decode cX0_init 6 = .ok (.putfield 9, 3) := by decide +kernel
theorem dX0_init_9 : decode cX0_init 9 = .ok (.aload_n 0, 1) := by decide +kernel
theorem dX0_init_10 : decode cX0_init 10 = .ok (.iconst (-1), 1) := by decide +kernel
theorem dX0_init_11 : decode cX0_init 11 = .ok (.putfield 15, 3) := by decide +kernel
theorem dX0_init_14 : decode cX0_init 14 = .ok (.aload_n 0, 1) := by decide +kernel
theorem dX0_init_15 : decode cX0_init 15 = .ok (.iconst 0, 1) := by decide +kernel
theorem dX0_init_16 : decode cX0_init 16 = .ok (.putfield 18, 3) := by decide +kernel
theorem dX0_init_19 : decode cX0_init 19 = .ok (.aload_n 0, 1) := by decide +kernel
theorem dX0_init_20 : decode cX0_init 20 = .ok (.iconst 0, 1) := by decide +kernel
theorem dX0_init_21 : decode cX0_init 21 = .ok (.putfield 21, 3) := by decide +kernel
theorem dX0_init_24 : decode cX0_init 24 = .ok (.aload_n 0, 1) := by decide +kernel
theorem dX0_init_25 : decode cX0_init 25 = .ok (.iload_n 1, 1) := by decide +kernel
theorem dX0_init_26 : decode cX0_init 26 = .ok (.newarray .int, 2) := by decide +kernel
theorem dX0_init_28 : decode cX0_init 28 = .ok (.putfield 24, 3) := by decide +kernel
theorem dX0_init_31 : decode cX0_init 31 = .ok (.aload_n 0, 1) := by decide +kernel
theorem dX0_init_32 : decode cX0_init 32 = .ok (.iload_n 1, 1) := by decide +kernel
theorem dX0_init_33 : decode cX0_init 33 = .ok (.newarray .int, 2) := by decide +kernel
theorem dX0_init_35 : decode cX0_init 35 = .ok (.putfield 28, 3) := by decide +kernel
theorem dX0_init_38 : decode cX0_init 38 = .ok (.return_, 1) := by decide +kernel
theorem dX0_scaledWorth_0 : decode cX0_scaledWorth 0 = .ok (.aload_n 0, 1) := by decide +kernel
theorem dX0_scaledWorth_1 : decode cX0_scaledWorth 1 = .ok (.getfield 24, 3) := by decide +kernel
theorem dX0_scaledWorth_4 : decode cX0_scaledWorth 4 = .ok (.iload_n 1, 1) := by decide +kernel
theorem dX0_scaledWorth_5 : decode cX0_scaledWorth 5 = .ok (.iaload, 1) := by decide +kernel
theorem dX0_scaledWorth_6 : decode cX0_scaledWorth 6 = .ok (.aload_n 0, 1) := by decide +kernel
theorem dX0_scaledWorth_7 : decode cX0_scaledWorth 7 = .ok (.getfield 24, 3) := by decide +kernel
theorem dX0_scaledWorth_10 : decode cX0_scaledWorth 10 = .ok (.arraylength, 1) := by decide +kernel
theorem dX0_scaledWorth_11 : decode cX0_scaledWorth 11 = .ok (.iconst 1, 1) := by decide +kernel
theorem dX0_scaledWorth_12 : decode cX0_scaledWorth 12 = .ok (.iadd, 1) := by decide +kernel
theorem dX0_scaledWorth_13 : decode cX0_scaledWorth 13 = .ok (.imul, 1) := by decide +kernel
theorem dX0_scaledWorth_14 : decode cX0_scaledWorth 14 = .ok (.ireturn, 1) := by decide +kernel
theorem dX0_valueOf_0 : decode cX0_valueOf 0 = .ok (.aload_n 0, 1) := by decide +kernel
theorem dX0_valueOf_1 : decode cX0_valueOf 1 = .ok (.iload_n 1, 1) := by decide +kernel
theorem dX0_valueOf_2 : decode cX0_valueOf 2 = .ok (.invokevirtual 31, 3) := by decide +kernel
theorem dX0_valueOf_5 : decode cX0_valueOf 5 = .ok (.aload_n 0, 1) := by decide +kernel
theorem dX0_valueOf_6 : decode cX0_valueOf 6 = .ok (.getfield 28, 3) := by decide +kernel
theorem dX0_valueOf_9 : decode cX0_valueOf 9 = .ok (.iload_n 1, 1) := by decide +kernel
theorem dX0_valueOf_10 : decode cX0_valueOf 10 = .ok (.iaload, 1) := by decide +kernel
theorem dX0_valueOf_11 : decode cX0_valueOf 11 = .ok (.isub, 1) := by decide +kernel
theorem dX0_valueOf_12 : decode cX0_valueOf 12 = .ok (.ireturn, 1) := by decide +kernel
theorem dX0_bestJobBut_0 : decode cX0_bestJobBut 0 = .ok (.iload_n 1, 1) := by decide +kernel
theorem dX0_bestJobBut_1 : decode cX0_bestJobBut 1 = .ok (.ifCond .ne 7, 3) := by decide +kernel
theorem dX0_bestJobBut_4 : decode cX0_bestJobBut 4 = .ok (.iconst 1, 1) := by decide +kernel
theorem dX0_bestJobBut_5 : decode cX0_bestJobBut 5 = .ok (.goto 4, 3) := by decide +kernel
theorem dX0_bestJobBut_8 : decode cX0_bestJobBut 8 = .ok (.iconst 0, 1) := by decide +kernel
theorem dX0_bestJobBut_9 : decode cX0_bestJobBut 9 = .ok (.istore_n 2, 1) := by decide +kernel
theorem dX0_bestJobBut_10 : decode cX0_bestJobBut 10 = .ok (.iload_n 2, 1) := by decide +kernel
theorem dX0_bestJobBut_11 : decode cX0_bestJobBut 11 = .ok (.iconst 1, 1) := by decide +kernel
theorem dX0_bestJobBut_12 : decode cX0_bestJobBut 12 = .ok (.iadd, 1) := by decide +kernel
theorem dX0_bestJobBut_13 : decode cX0_bestJobBut 13 = .ok (.istore_n 3, 1) := by decide +kernel
theorem dX0_bestJobBut_14 : decode cX0_bestJobBut 14 = .ok (.iload_n 3, 1) := by decide +kernel
theorem dX0_bestJobBut_15 : decode cX0_bestJobBut 15 = .ok (.aload_n 0, 1) := by decide +kernel
theorem dX0_bestJobBut_16 : decode cX0_bestJobBut 16 = .ok (.getfield 24, 3) := by decide +kernel
theorem dX0_bestJobBut_19 : decode cX0_bestJobBut 19 = .ok (.arraylength, 1) := by decide +kernel
theorem dX0_bestJobBut_20 : decode cX0_bestJobBut 20 = .ok (.if_icmp .ge 29, 3) := by decide +kernel
theorem dX0_bestJobBut_23 : decode cX0_bestJobBut 23 = .ok (.iload_n 3, 1) := by decide +kernel
theorem dX0_bestJobBut_24 : decode cX0_bestJobBut 24 = .ok (.iload_n 1, 1) := by decide +kernel
theorem dX0_bestJobBut_25 : decode cX0_bestJobBut 25 = .ok (.if_icmp .eq 18, 3) := by decide +kernel
theorem dX0_bestJobBut_28 : decode cX0_bestJobBut 28 = .ok (.aload_n 0, 1) := by decide +kernel
theorem dX0_bestJobBut_29 : decode cX0_bestJobBut 29 = .ok (.iload_n 3, 1) := by decide +kernel
theorem dX0_bestJobBut_30 : decode cX0_bestJobBut 30 = .ok (.invokevirtual 35, 3) := by decide +kernel
theorem dX0_bestJobBut_33 : decode cX0_bestJobBut 33 = .ok (.aload_n 0, 1) := by decide +kernel
theorem dX0_bestJobBut_34 : decode cX0_bestJobBut 34 = .ok (.iload_n 2, 1) := by decide +kernel
theorem dX0_bestJobBut_35 : decode cX0_bestJobBut 35 = .ok (.invokevirtual 35, 3) := by decide +kernel
theorem dX0_bestJobBut_38 : decode cX0_bestJobBut 38 = .ok (.if_icmp .le 5, 3) := by decide +kernel
theorem dX0_bestJobBut_41 : decode cX0_bestJobBut 41 = .ok (.iload_n 3, 1) := by decide +kernel
theorem dX0_bestJobBut_42 : decode cX0_bestJobBut 42 = .ok (.istore_n 2, 1) := by decide +kernel
theorem dX0_bestJobBut_43 : decode cX0_bestJobBut 43 = .ok (.iinc 3 1, 3) := by decide +kernel
theorem dX0_bestJobBut_46 : decode cX0_bestJobBut 46 = .ok (.goto (-32), 3) := by decide +kernel
theorem dX0_bestJobBut_49 : decode cX0_bestJobBut 49 = .ok (.iload_n 2, 1) := by decide +kernel
theorem dX0_bestJobBut_50 : decode cX0_bestJobBut 50 = .ok (.ireturn, 1) := by decide +kernel
theorem dX0_chooseBid_0 : decode cX0_chooseBid 0 = .ok (.aload_n 0, 1) := by decide +kernel
theorem dX0_chooseBid_1 : decode cX0_chooseBid 1 = .ok (.aload_n 0, 1) := by decide +kernel
theorem dX0_chooseBid_2 : decode cX0_chooseBid 2 = .ok (.iconst (-1), 1) := by decide +kernel
theorem dX0_chooseBid_3 : decode cX0_chooseBid 3 = .ok (.invokevirtual 38, 3) := by decide +kernel
theorem dX0_chooseBid_6 : decode cX0_chooseBid 6 = .ok (.putfield 15, 3) := by decide +kernel
theorem dX0_chooseBid_9 : decode cX0_chooseBid 9 = .ok (.aload_n 0, 1) := by decide +kernel
theorem dX0_chooseBid_10 : decode cX0_chooseBid 10 = .ok (.aload_n 0, 1) := by decide +kernel
theorem dX0_chooseBid_11 : decode cX0_chooseBid 11 = .ok (.getfield 28, 3) := by decide +kernel
theorem dX0_chooseBid_14 : decode cX0_chooseBid 14 = .ok (.aload_n 0, 1) := by decide +kernel
theorem dX0_chooseBid_15 : decode cX0_chooseBid 15 = .ok (.getfield 15, 3) := by decide +kernel
theorem dX0_chooseBid_18 : decode cX0_chooseBid 18 = .ok (.iaload, 1) := by decide +kernel
theorem dX0_chooseBid_19 : decode cX0_chooseBid 19 = .ok (.aload_n 0, 1) := by decide +kernel
theorem dX0_chooseBid_20 : decode cX0_chooseBid 20 = .ok (.aload_n 0, 1) := by decide +kernel
theorem dX0_chooseBid_21 : decode cX0_chooseBid 21 = .ok (.getfield 15, 3) := by decide +kernel
theorem dX0_chooseBid_24 : decode cX0_chooseBid 24 = .ok (.invokevirtual 35, 3) := by decide +kernel
theorem dX0_chooseBid_27 : decode cX0_chooseBid 27 = .ok (.iadd, 1) := by decide +kernel
theorem dX0_chooseBid_28 : decode cX0_chooseBid 28 = .ok (.aload_n 0, 1) := by decide +kernel
theorem dX0_chooseBid_29 : decode cX0_chooseBid 29 = .ok (.aload_n 0, 1) := by decide +kernel
theorem dX0_chooseBid_30 : decode cX0_chooseBid 30 = .ok (.aload_n 0, 1) := by decide +kernel
theorem dX0_chooseBid_31 : decode cX0_chooseBid 31 = .ok (.getfield 15, 3) := by decide +kernel
theorem dX0_chooseBid_34 : decode cX0_chooseBid 34 = .ok (.invokevirtual 38, 3) := by decide +kernel
theorem dX0_chooseBid_37 : decode cX0_chooseBid 37 = .ok (.invokevirtual 35, 3) := by decide +kernel
theorem dX0_chooseBid_40 : decode cX0_chooseBid 40 = .ok (.isub, 1) := by decide +kernel
theorem dX0_chooseBid_41 : decode cX0_chooseBid 41 = .ok (.iload_n 1, 1) := by decide +kernel
theorem dX0_chooseBid_42 : decode cX0_chooseBid 42 = .ok (.iadd, 1) := by decide +kernel
theorem dX0_chooseBid_43 : decode cX0_chooseBid 43 = .ok (.putfield 21, 3) := by decide +kernel
theorem dX0_chooseBid_46 : decode cX0_chooseBid 46 = .ok (.aload_n 0, 1) := by decide +kernel
theorem dX0_chooseBid_47 : decode cX0_chooseBid 47 = .ok (.dup, 1) := by decide +kernel
theorem dX0_chooseBid_48 : decode cX0_chooseBid 48 = .ok (.getfield 18, 3) := by decide +kernel
theorem dX0_chooseBid_51 : decode cX0_chooseBid 51 = .ok (.iconst 1, 1) := by decide +kernel
theorem dX0_chooseBid_52 : decode cX0_chooseBid 52 = .ok (.iadd, 1) := by decide +kernel
theorem dX0_chooseBid_53 : decode cX0_chooseBid 53 = .ok (.putfield 18, 3) := by decide +kernel
theorem dX0_chooseBid_56 : decode cX0_chooseBid 56 = .ok (.aload_n 0, 1) := by decide +kernel
theorem dX0_chooseBid_57 : decode cX0_chooseBid 57 = .ok (.iconst 1, 1) := by decide +kernel
theorem dX0_chooseBid_58 : decode cX0_chooseBid 58 = .ok (.putfield 9, 3) := by decide +kernel
theorem dX0_chooseBid_61 : decode cX0_chooseBid 61 = .ok (.return_, 1) := by decide +kernel
theorem dX0_learn_0 : decode cX0_learn 0 = .ok (.aload_n 0, 1) := by decide +kernel
theorem dX0_learn_1 : decode cX0_learn 1 = .ok (.getfield 28, 3) := by decide +kernel
theorem dX0_learn_4 : decode cX0_learn 4 = .ok (.iload_n 1, 1) := by decide +kernel
theorem dX0_learn_5 : decode cX0_learn 5 = .ok (.aload_n 0, 1) := by decide +kernel
theorem dX0_learn_6 : decode cX0_learn 6 = .ok (.getfield 28, 3) := by decide +kernel
theorem dX0_learn_9 : decode cX0_learn 9 = .ok (.iload_n 1, 1) := by decide +kernel
theorem dX0_learn_10 : decode cX0_learn 10 = .ok (.iaload, 1) := by decide +kernel
theorem dX0_learn_11 : decode cX0_learn 11 = .ok (.iload_n 2, 1) := by decide +kernel
theorem dX0_learn_12 : decode cX0_learn 12 = .ok (.invokestatic 41, 3) := by decide +kernel
theorem dX0_learn_15 : decode cX0_learn 15 = .ok (.iastore, 1) := by decide +kernel
theorem dX0_learn_16 : decode cX0_learn 16 = .ok (.return_, 1) := by decide +kernel
theorem dX0_hear_0 : decode cX0_hear 0 = .ok (.iload_n 2, 1) := by decide +kernel
theorem dX0_hear_1 : decode cX0_hear 1 = .ok (.aload_n 0, 1) := by decide +kernel
theorem dX0_hear_2 : decode cX0_hear 2 = .ok (.getfield 18, 3) := by decide +kernel
theorem dX0_hear_5 : decode cX0_hear 5 = .ok (.if_icmp .ne 10, 3) := by decide +kernel
theorem dX0_hear_8 : decode cX0_hear 8 = .ok (.aload_n 0, 1) := by decide +kernel
theorem dX0_hear_9 : decode cX0_hear 9 = .ok (.getfield 9, 3) := by decide +kernel
theorem dX0_hear_12 : decode cX0_hear 12 = .ok (.ifCond .ne 4, 3) := by decide +kernel
theorem dX0_hear_15 : decode cX0_hear 15 = .ok (.return_, 1) := by decide +kernel
theorem dX0_hear_16 : decode cX0_hear 16 = .ok (.iload_n 1, 1) := by decide +kernel
theorem dX0_hear_17 : decode cX0_hear 17 = .ok (.iconst 1, 1) := by decide +kernel
theorem dX0_hear_18 : decode cX0_hear 18 = .ok (.if_icmp .ne 11, 3) := by decide +kernel
theorem dX0_hear_21 : decode cX0_hear 21 = .ok (.aload_n 0, 1) := by decide +kernel
theorem dX0_hear_22 : decode cX0_hear 22 = .ok (.iconst 2, 1) := by decide +kernel
theorem dX0_hear_23 : decode cX0_hear 23 = .ok (.putfield 9, 3) := by decide +kernel
theorem dX0_hear_26 : decode cX0_hear 26 = .ok (.goto 7, 3) := by decide +kernel
theorem dX0_hear_29 : decode cX0_hear 29 = .ok (.aload_n 0, 1) := by decide +kernel
theorem dX0_hear_30 : decode cX0_hear 30 = .ok (.invokevirtual 47, 3) := by decide +kernel
theorem dX0_hear_33 : decode cX0_hear 33 = .ok (.return_, 1) := by decide +kernel
theorem dX0_release_0 : decode cX0_release 0 = .ok (.aload_n 0, 1) := by decide +kernel
theorem dX0_release_1 : decode cX0_release 1 = .ok (.iconst 0, 1) := by decide +kernel
theorem dX0_release_2 : decode cX0_release 2 = .ok (.putfield 9, 3) := by decide +kernel
theorem dX0_release_5 : decode cX0_release 5 = .ok (.aload_n 0, 1) := by decide +kernel
theorem dX0_release_6 : decode cX0_release 6 = .ok (.iconst (-1), 1) := by decide +kernel
theorem dX0_release_7 : decode cX0_release 7 = .ok (.putfield 15, 3) := by decide +kernel
theorem dX0_release_10 : decode cX0_release 10 = .ok (.return_, 1) := by decide +kernel
theorem dX1_init_0 : decode cX1_init 0 = .ok (.aload_n 0, 1) := by decide +kernel
theorem dX1_init_1 : decode cX1_init 1 = .ok (.invokespecial 3, 3) := by decide +kernel
theorem dX1_init_4 : decode cX1_init 4 = .ok (.aload_n 0, 1) := by decide +kernel
theorem dX1_init_5 : decode cX1_init 5 = .ok (.iconst 0, 1) := by decide +kernel
theorem dX1_init_6 : decode cX1_init 6 = .ok (.putfield 9, 3) := by decide +kernel
theorem dX1_init_9 : decode cX1_init 9 = .ok (.aload_n 0, 1) := by decide +kernel
theorem dX1_init_10 : decode cX1_init 10 = .ok (.iconst (-1), 1) := by decide +kernel
theorem dX1_init_11 : decode cX1_init 11 = .ok (.putfield 15, 3) := by decide +kernel
theorem dX1_init_14 : decode cX1_init 14 = .ok (.aload_n 0, 1) := by decide +kernel
theorem dX1_init_15 : decode cX1_init 15 = .ok (.iconst 0, 1) := by decide +kernel
theorem dX1_init_16 : decode cX1_init 16 = .ok (.putfield 18, 3) := by decide +kernel
theorem dX1_init_19 : decode cX1_init 19 = .ok (.return_, 1) := by decide +kernel
theorem dX1_has_0 : decode cX1_has 0 = .ok (.aload_n 0, 1) := by decide +kernel
theorem dX1_has_1 : decode cX1_has 1 = .ok (.getfield 15, 3) := by decide +kernel
theorem dX1_has_4 : decode cX1_has 4 = .ok (.iload_n 1, 1) := by decide +kernel
theorem dX1_has_5 : decode cX1_has 5 = .ok (.if_icmp .ne 15, 3) := by decide +kernel
theorem dX1_has_8 : decode cX1_has 8 = .ok (.aload_n 0, 1) := by decide +kernel
theorem dX1_has_9 : decode cX1_has 9 = .ok (.getfield 18, 3) := by decide +kernel
theorem dX1_has_12 : decode cX1_has 12 = .ok (.iload_n 2, 1) := by decide +kernel
theorem dX1_has_13 : decode cX1_has 13 = .ok (.if_icmp .ne 7, 3) := by decide +kernel
theorem dX1_has_16 : decode cX1_has 16 = .ok (.iconst 1, 1) := by decide +kernel
theorem dX1_has_17 : decode cX1_has 17 = .ok (.goto 4, 3) := by decide +kernel
theorem dX1_has_20 : decode cX1_has 20 = .ok (.iconst 0, 1) := by decide +kernel
theorem dX1_has_21 : decode cX1_has 21 = .ok (.ireturn, 1) := by decide +kernel
theorem dX1_dismiss_0 : decode cX1_dismiss 0 = .ok (.aload_n 0, 1) := by decide +kernel
theorem dX1_dismiss_1 : decode cX1_dismiss 1 = .ok (.iconst (-1), 1) := by decide +kernel
theorem dX1_dismiss_2 : decode cX1_dismiss 2 = .ok (.putfield 15, 3) := by decide +kernel
theorem dX1_dismiss_5 : decode cX1_dismiss 5 = .ok (.aload_n 0, 1) := by decide +kernel
theorem dX1_dismiss_6 : decode cX1_dismiss 6 = .ok (.iconst 0, 1) := by decide +kernel
theorem dX1_dismiss_7 : decode cX1_dismiss 7 = .ok (.putfield 18, 3) := by decide +kernel
theorem dX1_dismiss_10 : decode cX1_dismiss 10 = .ok (.return_, 1) := by decide +kernel
theorem dX2_init_0 : decode cX2_init 0 = .ok (.aload_n 0, 1) := by decide +kernel
theorem dX2_init_1 : decode cX2_init 1 = .ok (.invokespecial 3, 3) := by decide +kernel
theorem dX2_init_4 : decode cX2_init 4 = .ok (.aload_n 0, 1) := by decide +kernel
theorem dX2_init_5 : decode cX2_init 5 = .ok (.sipush 400, 3) := by decide +kernel
theorem dX2_init_8 : decode cX2_init 8 = .ok (.newarray .int, 2) := by decide +kernel
theorem dX2_init_10 : decode cX2_init 10 = .ok (.putfield 11, 3) := by decide +kernel
theorem dX2_init_13 : decode cX2_init 13 = .ok (.aload_n 0, 1) := by decide +kernel
theorem dX2_init_14 : decode cX2_init 14 = .ok (.iconst 0, 1) := by decide +kernel
theorem dX2_init_15 : decode cX2_init 15 = .ok (.putfield 15, 3) := by decide +kernel
theorem dX2_init_18 : decode cX2_init 18 = .ok (.return_, 1) := by decide +kernel
theorem dX2_part_0 : decode cX2_part 0 = .ok (.aload_n 0, 1) := by decide +kernel
theorem dX2_part_1 : decode cX2_part 1 = .ok (.getfield 11, 3) := by decide +kernel
theorem dX2_part_4 : decode cX2_part 4 = .ok (.iload_n 1, 1) := by decide +kernel
theorem dX2_part_5 : decode cX2_part 5 = .ok (.iconst 5, 1) := by decide +kernel
theorem dX2_part_6 : decode cX2_part 6 = .ok (.imul, 1) := by decide +kernel
theorem dX2_part_7 : decode cX2_part 7 = .ok (.iload_n 2, 1) := by decide +kernel
theorem dX2_part_8 : decode cX2_part 8 = .ok (.iadd, 1) := by decide +kernel
theorem dX2_part_9 : decode cX2_part 9 = .ok (.iaload, 1) := by decide +kernel
theorem dX2_part_10 : decode cX2_part 10 = .ok (.ireturn, 1) := by decide +kernel
theorem dX2_add_0 : decode cX2_add 0 = .ok (.aload_n 0, 1) := by decide +kernel
theorem dX2_add_1 : decode cX2_add 1 = .ok (.getfield 15, 3) := by decide +kernel
theorem dX2_add_4 : decode cX2_add 4 = .ok (.bipush 80, 2) := by decide +kernel
theorem dX2_add_6 : decode cX2_add 6 = .ok (.if_icmp .lt 4, 3) := by decide +kernel
theorem dX2_add_9 : decode cX2_add 9 = .ok (.return_, 1) := by decide +kernel
theorem dX2_add_10 : decode cX2_add 10 = .ok (.aload_n 0, 1) := by decide +kernel
theorem dX2_add_11 : decode cX2_add 11 = .ok (.getfield 15, 3) := by decide +kernel
theorem dX2_add_14 : decode cX2_add 14 = .ok (.iconst 5, 1) := by decide +kernel
theorem dX2_add_15 : decode cX2_add 15 = .ok (.imul, 1) := by decide +kernel
theorem dX2_add_16 : decode cX2_add 16 = .ok (.istore 6, 2) := by decide +kernel
theorem dX2_add_18 : decode cX2_add 18 = .ok (.aload_n 0, 1) := by decide +kernel
theorem dX2_add_19 : decode cX2_add 19 = .ok (.getfield 11, 3) := by decide +kernel
theorem dX2_add_22 : decode cX2_add 22 = .ok (.iload 6, 2) := by decide +kernel
theorem dX2_add_24 : decode cX2_add 24 = .ok (.iconst 0, 1) := by decide +kernel
theorem dX2_add_25 : decode cX2_add 25 = .ok (.iadd, 1) := by decide +kernel
theorem dX2_add_26 : decode cX2_add 26 = .ok (.iload_n 1, 1) := by decide +kernel
theorem dX2_add_27 : decode cX2_add 27 = .ok (.iastore, 1) := by decide +kernel
theorem dX2_add_28 : decode cX2_add 28 = .ok (.aload_n 0, 1) := by decide +kernel
theorem dX2_add_29 : decode cX2_add 29 = .ok (.getfield 11, 3) := by decide +kernel
theorem dX2_add_32 : decode cX2_add 32 = .ok (.iload 6, 2) := by decide +kernel
theorem dX2_add_34 : decode cX2_add 34 = .ok (.iconst 1, 1) := by decide +kernel
theorem dX2_add_35 : decode cX2_add 35 = .ok (.iadd, 1) := by decide +kernel
theorem dX2_add_36 : decode cX2_add 36 = .ok (.iload_n 2, 1) := by decide +kernel
theorem dX2_add_37 : decode cX2_add 37 = .ok (.iastore, 1) := by decide +kernel
theorem dX2_add_38 : decode cX2_add 38 = .ok (.aload_n 0, 1) := by decide +kernel
theorem dX2_add_39 : decode cX2_add 39 = .ok (.getfield 11, 3) := by decide +kernel
theorem dX2_add_42 : decode cX2_add 42 = .ok (.iload 6, 2) := by decide +kernel
theorem dX2_add_44 : decode cX2_add 44 = .ok (.iconst 2, 1) := by decide +kernel
theorem dX2_add_45 : decode cX2_add 45 = .ok (.iadd, 1) := by decide +kernel
theorem dX2_add_46 : decode cX2_add 46 = .ok (.iload_n 3, 1) := by decide +kernel
theorem dX2_add_47 : decode cX2_add 47 = .ok (.iastore, 1) := by decide +kernel
theorem dX2_add_48 : decode cX2_add 48 = .ok (.aload_n 0, 1) := by decide +kernel
theorem dX2_add_49 : decode cX2_add 49 = .ok (.getfield 11, 3) := by decide +kernel
theorem dX2_add_52 : decode cX2_add 52 = .ok (.iload 6, 2) := by decide +kernel
theorem dX2_add_54 : decode cX2_add 54 = .ok (.iconst 3, 1) := by decide +kernel
theorem dX2_add_55 : decode cX2_add 55 = .ok (.iadd, 1) := by decide +kernel
theorem dX2_add_56 : decode cX2_add 56 = .ok (.iload 4, 2) := by decide +kernel
theorem dX2_add_58 : decode cX2_add 58 = .ok (.iastore, 1) := by decide +kernel
theorem dX2_add_59 : decode cX2_add 59 = .ok (.aload_n 0, 1) := by decide +kernel
theorem dX2_add_60 : decode cX2_add 60 = .ok (.getfield 11, 3) := by decide +kernel
theorem dX2_add_63 : decode cX2_add 63 = .ok (.iload 6, 2) := by decide +kernel
theorem dX2_add_65 : decode cX2_add 65 = .ok (.iconst 4, 1) := by decide +kernel
theorem dX2_add_66 : decode cX2_add 66 = .ok (.iadd, 1) := by decide +kernel
theorem dX2_add_67 : decode cX2_add 67 = .ok (.iload 5, 2) := by decide +kernel
theorem dX2_add_69 : decode cX2_add 69 = .ok (.iastore, 1) := by decide +kernel
theorem dX2_add_70 : decode cX2_add 70 = .ok (.aload_n 0, 1) := by decide +kernel
theorem dX2_add_71 : decode cX2_add 71 = .ok (.dup, 1) := by decide +kernel
theorem dX2_add_72 : decode cX2_add 72 = .ok (.getfield 15, 3) := by decide +kernel
theorem dX2_add_75 : decode cX2_add 75 = .ok (.iconst 1, 1) := by decide +kernel
theorem dX2_add_76 : decode cX2_add 76 = .ok (.iadd, 1) := by decide +kernel
theorem dX2_add_77 : decode cX2_add 77 = .ok (.putfield 15, 3) := by decide +kernel
theorem dX2_add_80 : decode cX2_add 80 = .ok (.return_, 1) := by decide +kernel
theorem dX2_remove_0 : decode cX2_remove 0 = .ok (.iload_n 1, 1) := by decide +kernel
theorem dX2_remove_1 : decode cX2_remove 1 = .ok (.iconst 1, 1) := by decide +kernel
theorem dX2_remove_2 : decode cX2_remove 2 = .ok (.iadd, 1) := by decide +kernel
theorem dX2_remove_3 : decode cX2_remove 3 = .ok (.iconst 5, 1) := by decide +kernel
theorem dX2_remove_4 : decode cX2_remove 4 = .ok (.imul, 1) := by decide +kernel
theorem dX2_remove_5 : decode cX2_remove 5 = .ok (.istore_n 2, 1) := by decide +kernel
theorem dX2_remove_6 : decode cX2_remove 6 = .ok (.aload_n 0, 1) := by decide +kernel
theorem dX2_remove_7 : decode cX2_remove 7 = .ok (.getfield 11, 3) := by decide +kernel
theorem dX2_remove_10 : decode cX2_remove 10 = .ok (.iload_n 2, 1) := by decide +kernel
theorem dX2_remove_11 : decode cX2_remove 11 = .ok (.aload_n 0, 1) := by decide +kernel
theorem dX2_remove_12 : decode cX2_remove 12 = .ok (.getfield 11, 3) := by decide +kernel
theorem dX2_remove_15 : decode cX2_remove 15 = .ok (.iload_n 1, 1) := by decide +kernel
theorem dX2_remove_16 : decode cX2_remove 16 = .ok (.iconst 5, 1) := by decide +kernel
theorem dX2_remove_17 : decode cX2_remove 17 = .ok (.imul, 1) := by decide +kernel
theorem dX2_remove_18 : decode cX2_remove 18 = .ok (.aload_n 0, 1) := by decide +kernel
theorem dX2_remove_19 : decode cX2_remove 19 = .ok (.getfield 15, 3) := by decide +kernel
theorem dX2_remove_22 : decode cX2_remove 22 = .ok (.iconst 5, 1) := by decide +kernel
theorem dX2_remove_23 : decode cX2_remove 23 = .ok (.imul, 1) := by decide +kernel
theorem dX2_remove_24 : decode cX2_remove 24 = .ok (.iload_n 2, 1) := by decide +kernel
theorem dX2_remove_25 : decode cX2_remove 25 = .ok (.isub, 1) := by decide +kernel
theorem dX2_remove_26 : decode cX2_remove 26 = .ok (.invokestatic 19, 3) := by decide +kernel
theorem dX2_remove_29 : decode cX2_remove 29 = .ok (.aload_n 0, 1) := by decide +kernel
theorem dX2_remove_30 : decode cX2_remove 30 = .ok (.dup, 1) := by decide +kernel
theorem dX2_remove_31 : decode cX2_remove 31 = .ok (.getfield 15, 3) := by decide +kernel
theorem dX2_remove_34 : decode cX2_remove 34 = .ok (.iconst 1, 1) := by decide +kernel
theorem dX2_remove_35 : decode cX2_remove 35 = .ok (.isub, 1) := by decide +kernel
theorem dX2_remove_36 : decode cX2_remove 36 = .ok (.putfield 15, 3) := by decide +kernel
theorem dX2_remove_39 : decode cX2_remove 39 = .ok (.return_, 1) := by decide +kernel
theorem dX2_clear_0 : decode cX2_clear 0 = .ok (.aload_n 0, 1) := by decide +kernel
theorem dX2_clear_1 : decode cX2_clear 1 = .ok (.iconst 0, 1) := by decide +kernel
theorem dX2_clear_2 : decode cX2_clear 2 = .ok (.putfield 15, 3) := by decide +kernel
theorem dX2_clear_5 : decode cX2_clear 5 = .ok (.return_, 1) := by decide +kernel

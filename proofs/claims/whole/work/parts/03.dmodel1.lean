/-! decode rows (starting text: printed by TURN) -/
theorem dX4_init_0 : decode cX4_init 0 = .ok (.aload_n 0, 1) := by decide +kernel
theorem dX4_init_1 : decode cX4_init 1 = .ok (.invokespecial 1, 3) := by decide +kernel
theorem dX4_init_4 : decode cX4_init 4 = .ok (.aload_n 0, 1) := by decide +kernel
theorem dX4_init_5 : decode cX4_init 5 = .ok (.bipush 36, 2) := by decide +kernel
theorem dX4_init_7 : decode cX4_init 7 = .ok (.newarray .int, 2) := by decide +kernel
theorem dX4_init_9 : decode cX4_init 9 = .ok (.putfield 7, 3) := by decide +kernel
theorem dX4_init_12 : decode cX4_init 12 = .ok (.aload_n 0, 1) := by decide +kernel
theorem dX4_init_13 : decode cX4_init 13 = .ok (.bipush 36, 2) := by decide +kernel
theorem dX4_init_15 : decode cX4_init 15 = .ok (.newarray .int, 2) := by decide +kernel
theorem dX4_init_17 : decode cX4_init 17 = .ok (.putfield 13, 3) := by decide +kernel
theorem dX4_init_20 : decode cX4_init 20 = .ok (.aload_n 0, 1) := by decide +kernel
theorem dX4_init_21 : decode cX4_init 21 = .ok (.bipush 6, 2) := by decide +kernel
theorem dX4_init_23 : decode cX4_init 23 = .ok (.newarray .int, 2) := by decide +kernel
theorem dX4_init_25 : decode cX4_init 25 = .ok (.putfield 16, 3) := by decide +kernel
theorem dX4_init_28 : decode cX4_init 28 = .ok (.aload_n 0, 1) := by decide +kernel
theorem dX4_init_29 : decode cX4_init 29 = .ok (.bipush 6, 2) := by decide +kernel
theorem dX4_init_31 : decode cX4_init 31 = .ok (.newarray .int, 2) := by decide +kernel
theorem dX4_init_33 : decode cX4_init 33 = .ok (.putfield 19, 3) := by decide +kernel
theorem dX4_init_36 : decode cX4_init 36 = .ok (.aload_n 0, 1) := by decide +kernel
theorem dX4_init_37 : decode cX4_init 37 = .ok (.bipush 6, 2) := by decide +kernel
theorem dX4_init_39 : decode cX4_init 39 = .ok (.newarray .int, 2) := by decide +kernel
theorem dX4_init_41 : decode cX4_init 41 = .ok (.putfield 22, 3) := by decide +kernel
theorem dX4_init_44 : decode cX4_init 44 = .ok (.aload_n 0, 1) := by decide +kernel
theorem dX4_init_45 : decode cX4_init 45 = .ok (.bipush 6, 2) := by decide +kernel
theorem dX4_init_47 : decode cX4_init 47 = .ok (.newarray .int, 2) := by decide +kernel
theorem dX4_init_49 : decode cX4_init 49 = .ok (.putfield 25, 3) := by decide +kernel
theorem dX4_init_52 : decode cX4_init 52 = .ok (.aload_n 0, 1) := by decide +kernel
theorem dX4_init_53 : decode cX4_init 53 = .ok (.bipush 6, 2) := by decide +kernel
theorem dX4_init_55 : decode cX4_init 55 = .ok (.newarray .int, 2) := by decide +kernel
theorem dX4_init_57 : decode cX4_init 57 = .ok (.putfield 28, 3) := by decide +kernel
theorem dX4_init_60 : decode cX4_init 60 = .ok (.aload_n 0, 1) := by decide +kernel
theorem dX4_init_61 : decode cX4_init 61 = .ok (.bipush 6, 2) := by decide +kernel
theorem dX4_init_63 : decode cX4_init 63 = .ok (.newarray .int, 2) := by decide +kernel
theorem dX4_init_65 : decode cX4_init 65 = .ok (.putfield 31, 3) := by decide +kernel
theorem dX4_init_68 : decode cX4_init 68 = .ok (.aload_n 0, 1) := by decide +kernel
theorem dX4_init_69 : decode cX4_init 69 = .ok (.bipush 6, 2) := by decide +kernel
theorem dX4_init_71 : decode cX4_init 71 = .ok (.newarray .int, 2) := by decide +kernel
theorem dX4_init_73 : decode cX4_init 73 = .ok (.putfield 34, 3) := by decide +kernel
theorem dX4_init_76 : decode cX4_init 76 = .ok (.aload_n 0, 1) := by decide +kernel
theorem dX4_init_77 : decode cX4_init 77 = .ok (.sipush 600, 3) := by decide +kernel
theorem dX4_init_80 : decode cX4_init 80 = .ok (.newarray .int, 2) := by decide +kernel
theorem dX4_init_82 : decode cX4_init 82 = .ok (.putfield 37, 3) := by decide +kernel
theorem dX4_init_85 : decode cX4_init 85 = .ok (.aload_n 0, 1) := by decide +kernel
theorem dX4_init_86 : decode cX4_init 86 = .ok (.iconst 4, 1) := by decide +kernel
theorem dX4_init_87 : decode cX4_init 87 = .ok (.newarray .int, 2) := by decide +kernel
theorem dX4_init_89 : decode cX4_init 89 = .ok (.putfield 40, 3) := by decide +kernel
theorem dX4_init_92 : decode cX4_init 92 = .ok (.aload_n 0, 1) := by decide +kernel
theorem dX4_init_93 : decode cX4_init 93 = .ok (.iload_n 1, 1) := by decide +kernel
theorem dX4_init_94 : decode cX4_init 94 = .ok (.iconst 2, 1) := by decide +kernel
theorem dX4_init_95 : decode cX4_init 95 = .ok (.if_icmp .ge 7, 3) := by decide +kernel
theorem dX4_init_98 : decode cX4_init 98 = .ok (.iconst 2, 1) := by decide +kernel
theorem dX4_init_99 : decode cX4_init 99 = .ok (.goto 15, 3) := by decide +kernel
theorem dX4_init_102 : decode cX4_init 102 = .ok (.iload_n 1, 1) := by decide +kernel
theorem dX4_init_103 : decode cX4_init 103 = .ok (.bipush 6, 2) := by decide +kernel
theorem dX4_init_105 : decode cX4_init 105 = .ok (.if_icmp .le 8, 3) := by decide +kernel
theorem dX4_init_108 : decode cX4_init 108 = .ok (.bipush 6, 2) := by decide +kernel
theorem dX4_init_110 : decode cX4_init 110 = .ok (.goto 4, 3) := by decide +kernel
theorem dX4_init_113 : decode cX4_init 113 = .ok (.iload_n 1, 1) := by decide +kernel
theorem dX4_init_114 : decode cX4_init 114 = .ok (.putfield 43, 3) := by decide +kernel
theorem dX4_init_117 : decode cX4_init 117 = .ok (.aload_n 0, 1) := by decide +kernel
theorem dX4_init_118 : decode cX4_init 118 = .ok (.iload_n 2, 1) := by decide +kernel
theorem dX4_init_119 : decode cX4_init 119 = .ok (.ifCond .eq 8, 3) := by decide +kernel
theorem dX4_init_122 : decode cX4_init 122 = .ok (.bipush 64, 2) := by decide +kernel
theorem dX4_init_124 : decode cX4_init 124 = .ok (.goto 4, 3) := by decide +kernel
theorem dX4_init_127 : decode cX4_init 127 = .ok (.iconst 1, 1) := by decide +kernel
theorem dX4_init_128 : decode cX4_init 128 = .ok (.putfield 47, 3) := by decide +kernel
theorem dX4_init_131 : decode cX4_init 131 = .ok (.aload_n 0, 1) := by decide +kernel
theorem dX4_init_132 : decode cX4_init 132 = .ok (.invokevirtual 50, 3) := by decide +kernel
theorem dX4_init_135 : decode cX4_init 135 = .ok (.return_, 1) := by decide +kernel
theorem dX4_thrown_0 : decode cX4_thrown 0 = .ok (.aload_n 0, 1) := by decide +kernel
theorem dX4_thrown_1 : decode cX4_thrown 1 = .ok (.getfield 53, 3) := by decide +kernel
theorem dX4_thrown_4 : decode cX4_thrown 4 = .ok (.ireturn, 1) := by decide +kernel
theorem dX4_no_0 : decode cX4_no 0 = .ok (.iload_n 1, 1) := by decide +kernel
theorem dX4_no_1 : decode cX4_no 1 = .ok (.ifCond .lt 11, 3) := by decide +kernel
theorem dX4_no_4 : decode cX4_no 4 = .ok (.iload_n 1, 1) := by decide +kernel
theorem dX4_no_5 : decode cX4_no 5 = .ok (.aload_n 0, 1) := by decide +kernel
theorem dX4_no_6 : decode cX4_no 6 = .ok (.getfield 43, 3) := by decide +kernel
theorem dX4_no_9 : decode cX4_no 9 = .ok (.if_icmp .lt 7, 3) := by decide +kernel
theorem dX4_no_12 : decode cX4_no 12 = .ok (.iconst 1, 1) := by decide +kernel
theorem dX4_no_13 : decode cX4_no 13 = .ok (.goto 4, 3) := by decide +kernel
theorem dX4_no_16 : decode cX4_no 16 = .ok (.iconst 0, 1) := by decide +kernel
theorem dX4_no_17 : decode cX4_no 17 = .ok (.ireturn, 1) := by decide +kernel
theorem dX4_clean_0 : decode cX4_clean 0 = .ok (.aload_n 0, 1) := by decide +kernel
theorem dX4_clean_1 : decode cX4_clean 1 = .ok (.iconst 0, 1) := by decide +kernel
theorem dX4_clean_2 : decode cX4_clean 2 = .ok (.putfield 56, 3) := by decide +kernel
theorem dX4_clean_5 : decode cX4_clean 5 = .ok (.iconst 0, 1) := by decide +kernel
theorem dX4_clean_6 : decode cX4_clean 6 = .ok (.istore_n 1, 1) := by decide +kernel
theorem dX4_clean_7 : decode cX4_clean 7 = .ok (.iload_n 1, 1) := by decide +kernel
theorem dX4_clean_8 : decode cX4_clean 8 = .ok (.bipush 6, 2) := by decide +kernel
theorem dX4_clean_10 : decode cX4_clean 10 = .ok (.if_icmp .ge 37, 3) := by decide +kernel
theorem dX4_clean_13 : decode cX4_clean 13 = .ok (.aload_n 0, 1) := by decide +kernel
theorem dX4_clean_14 : decode cX4_clean 14 = .ok (.getfield 19, 3) := by decide +kernel
theorem dX4_clean_17 : decode cX4_clean 17 = .ok (.iload_n 1, 1) := by decide +kernel
theorem dX4_clean_18 : decode cX4_clean 18 = .ok (.iconst (-1), 1) := by decide +kernel
theorem dX4_clean_19 : decode cX4_clean 19 = .ok (.iastore, 1) := by decide +kernel
theorem dX4_clean_20 : decode cX4_clean 20 = .ok (.aload_n 0, 1) := by decide +kernel
theorem dX4_clean_21 : decode cX4_clean 21 = .ok (.getfield 22, 3) := by decide +kernel
theorem dX4_clean_24 : decode cX4_clean 24 = .ok (.iload_n 1, 1) := by decide +kernel
theorem dX4_clean_25 : decode cX4_clean 25 = .ok (.iconst 0, 1) := by decide +kernel
theorem dX4_clean_26 : decode cX4_clean 26 = .ok (.iastore, 1) := by decide +kernel
theorem dX4_clean_27 : decode cX4_clean 27 = .ok (.aload_n 0, 1) := by decide +kernel
theorem dX4_clean_28 : decode cX4_clean 28 = .ok (.getfield 25, 3) := by decide +kernel
theorem dX4_clean_31 : decode cX4_clean 31 = .ok (.iload_n 1, 1) := by decide +kernel
theorem dX4_clean_32 : decode cX4_clean 32 = .ok (.iconst 0, 1) := by decide +kernel
theorem dX4_clean_33 : decode cX4_clean 33 = .ok (.iastore, 1) := by decide +kernel
theorem dX4_clean_34 : decode cX4_clean 34 = .ok (.aload_n 0, 1) := by decide +kernel
theorem dX4_clean_35 : decode cX4_clean 35 = .ok (.getfield 28, 3) := by decide +kernel
theorem dX4_clean_38 : decode cX4_clean 38 = .ok (.iload_n 1, 1) := by decide +kernel
theorem dX4_clean_39 : decode cX4_clean 39 = .ok (.iconst (-1), 1) := by decide +kernel
theorem dX4_clean_40 : decode cX4_clean 40 = .ok (.iastore, 1) := by decide +kernel
theorem dX4_clean_41 : decode cX4_clean 41 = .ok (.iinc 1 1, 3) := by decide +kernel
theorem dX4_clean_44 : decode cX4_clean 44 = .ok (.goto (-37), 3) := by decide +kernel
theorem dX4_clean_47 : decode cX4_clean 47 = .ok (.return_, 1) := by decide +kernel
theorem dX4_isSettled_0 : decode cX4_isSettled 0 = .ok (.iconst 1, 1) := by decide +kernel
theorem dX4_isSettled_1 : decode cX4_isSettled 1 = .ok (.istore_n 1, 1) := by decide +kernel
theorem dX4_isSettled_2 : decode cX4_isSettled 2 = .ok (.iconst 0, 1) := by decide +kernel
theorem dX4_isSettled_3 : decode cX4_isSettled 3 = .ok (.istore_n 2, 1) := by decide +kernel
theorem dX4_isSettled_4 : decode cX4_isSettled 4 = .ok (.iload_n 2, 1) := by decide +kernel
theorem dX4_isSettled_5 : decode cX4_isSettled 5 = .ok (.aload_n 0, 1) := by decide +kernel
theorem dX4_isSettled_6 : decode cX4_isSettled 6 = .ok (.getfield 43, 3) := by decide +kernel
theorem dX4_isSettled_9 : decode cX4_isSettled 9 = .ok (.if_icmp .ge 61, 3) := by decide +kernel
theorem dX4_isSettled_12 : decode cX4_isSettled 12 = .ok (.aload_n 0, 1) := by decide +kernel
theorem dX4_isSettled_13 : decode cX4_isSettled 13 = .ok (.getfield 28, 3) := by decide +kernel
theorem dX4_isSettled_16 : decode cX4_isSettled 16 = .ok (.iload_n 2, 1) := by decide +kernel
theorem dX4_isSettled_17 : decode cX4_isSettled 17 = .ok (.iaload, 1) := by decide +kernel
theorem dX4_isSettled_18 : decode cX4_isSettled 18 = .ok (.istore_n 3, 1) := by decide +kernel
theorem dX4_isSettled_19 : decode cX4_isSettled 19 = .ok (.iload_n 1, 1) := by decide +kernel
theorem dX4_isSettled_20 : decode cX4_isSettled 20 = .ok (.ifCond .eq 42, 3) := by decide +kernel
theorem dX4_isSettled_23 : decode cX4_isSettled 23 = .ok (.aload_n 0, 1) := by decide +kernel
theorem dX4_isSettled_24 : decode cX4_isSettled 24 = .ok (.getfield 25, 3) := by decide +kernel
theorem dX4_isSettled_27 : decode cX4_isSettled 27 = .ok (.iload_n 2, 1) := by decide +kernel
theorem dX4_isSettled_28 : decode cX4_isSettled 28 = .ok (.iaload, 1) := by decide +kernel
theorem dX4_isSettled_29 : decode cX4_isSettled 29 = .ok (.iconst 2, 1) := by decide +kernel
theorem dX4_isSettled_30 : decode cX4_isSettled 30 = .ok (.if_icmp .ne 32, 3) := by decide +kernel
theorem dX4_isSettled_33 : decode cX4_isSettled 33 = .ok (.aload_n 0, 1) := by decide +kernel
theorem dX4_isSettled_34 : decode cX4_isSettled 34 = .ok (.getfield 19, 3) := by decide +kernel
theorem dX4_isSettled_37 : decode cX4_isSettled 37 = .ok (.iload_n 3, 1) := by decide +kernel
theorem dX4_isSettled_38 : decode cX4_isSettled 38 = .ok (.iaload, 1) := by decide +kernel
theorem dX4_isSettled_39 : decode cX4_isSettled 39 = .ok (.iload_n 2, 1) := by decide +kernel
theorem dX4_isSettled_40 : decode cX4_isSettled 40 = .ok (.if_icmp .ne 22, 3) := by decide +kernel
theorem dX4_isSettled_43 : decode cX4_isSettled 43 = .ok (.aload_n 0, 1) := by decide +kernel
theorem dX4_isSettled_44 : decode cX4_isSettled 44 = .ok (.getfield 22, 3) := by decide +kernel
theorem dX4_isSettled_47 : decode cX4_isSettled 47 = .ok (.iload_n 3, 1) := by decide +kernel
theorem dX4_isSettled_48 : decode cX4_isSettled 48 = .ok (.iaload, 1) := by decide +kernel
theorem dX4_isSettled_49 : decode cX4_isSettled 49 = .ok (.aload_n 0, 1) := by decide +kernel
theorem dX4_isSettled_50 : decode cX4_isSettled 50 = .ok (.getfield 31, 3) := by decide +kernel
theorem dX4_isSettled_53 : decode cX4_isSettled 53 = .ok (.iload_n 2, 1) := by decide +kernel
theorem dX4_isSettled_54 : decode cX4_isSettled 54 = .ok (.iaload, 1) := by decide +kernel
theorem dX4_isSettled_55 : decode cX4_isSettled 55 = .ok (.if_icmp .ne 7, 3) := by decide +kernel
theorem dX4_isSettled_58 : decode cX4_isSettled 58 = .ok (.iconst 1, 1) := by decide +kernel
theorem dX4_isSettled_59 : decode cX4_isSettled 59 = .ok (.goto 4, 3) := by decide +kernel
theorem dX4_isSettled_62 : decode cX4_isSettled 62 = .ok (.iconst 0, 1) := by decide +kernel
theorem dX4_isSettled_63 : decode cX4_isSettled 63 = .ok (.istore_n 1, 1) := by decide +kernel
theorem dX4_isSettled_64 : decode cX4_isSettled 64 = .ok (.iinc 2 1, 3) := by decide +kernel
theorem dX4_isSettled_67 : decode cX4_isSettled 67 = .ok (.goto (-63), 3) := by decide +kernel
theorem dX4_isSettled_70 : decode cX4_isSettled 70 = .ok (.iload_n 1, 1) := by decide +kernel
theorem dX4_isSettled_71 : decode cX4_isSettled 71 = .ok (.ireturn, 1) := by decide +kernel
theorem dX4_worth_0 : decode cX4_worth 0 = .ok (.iconst 0, 1) := by decide +kernel
theorem dX4_worth_1 : decode cX4_worth 1 = .ok (.istore 4, 2) := by decide +kernel
theorem dX4_worth_3 : decode cX4_worth 3 = .ok (.iconst 0, 1) := by decide +kernel
theorem dX4_worth_4 : decode cX4_worth 4 = .ok (.istore 5, 2) := by decide +kernel
theorem dX4_worth_6 : decode cX4_worth 6 = .ok (.iload 5, 2) := by decide +kernel
theorem dX4_worth_8 : decode cX4_worth 8 = .ok (.aload_n 0, 1) := by decide +kernel
theorem dX4_worth_9 : decode cX4_worth 9 = .ok (.getfield 43, 3) := by decide +kernel
theorem dX4_worth_12 : decode cX4_worth 12 = .ok (.if_icmp .ge 31, 3) := by decide +kernel
theorem dX4_worth_15 : decode cX4_worth 15 = .ok (.iload 4, 2) := by decide +kernel
theorem dX4_worth_17 : decode cX4_worth 17 = .ok (.ifCond .ne 13, 3) := by decide +kernel
theorem dX4_worth_20 : decode cX4_worth 20 = .ok (.aload_n 0, 1) := by decide +kernel
theorem dX4_worth_21 : decode cX4_worth 21 = .ok (.getfield 31, 3) := by decide +kernel
theorem dX4_worth_24 : decode cX4_worth 24 = .ok (.iload 5, 2) := by decide +kernel
theorem dX4_worth_26 : decode cX4_worth 26 = .ok (.iaload, 1) := by decide +kernel
theorem dX4_worth_27 : decode cX4_worth 27 = .ok (.ifCond .le 7, 3) := by decide +kernel
theorem dX4_worth_30 : decode cX4_worth 30 = .ok (.iconst 1, 1) := by decide +kernel
theorem dX4_worth_31 : decode cX4_worth 31 = .ok (.goto 4, 3) := by decide +kernel
theorem dX4_worth_34 : decode cX4_worth 34 = .ok (.iconst 0, 1) := by decide +kernel
theorem dX4_worth_35 : decode cX4_worth 35 = .ok (.istore 4, 2) := by decide +kernel
theorem dX4_worth_37 : decode cX4_worth 37 = .ok (.iinc 5 1, 3) := by decide +kernel
theorem dX4_worth_40 : decode cX4_worth 40 = .ok (.goto (-34), 3) := by decide +kernel
theorem dX4_worth_43 : decode cX4_worth 43 = .ok (.aload_n 0, 1) := by decide +kernel
theorem dX4_worth_44 : decode cX4_worth 44 = .ok (.getfield 47, 3) := by decide +kernel
theorem dX4_worth_47 : decode cX4_worth 47 = .ok (.iconst 1, 1) := by decide +kernel
theorem dX4_worth_48 : decode cX4_worth 48 = .ok (.if_icmp .ne 14, 3) := by decide +kernel
theorem dX4_worth_51 : decode cX4_worth 51 = .ok (.aload_n 0, 1) := by decide +kernel
theorem dX4_worth_52 : decode cX4_worth 52 = .ok (.invokevirtual 59, 3) := by decide +kernel
theorem dX4_worth_55 : decode cX4_worth 55 = .ok (.ifCond .eq 7, 3) := by decide +kernel
theorem dX4_worth_58 : decode cX4_worth 58 = .ok (.iconst 1, 1) := by decide +kernel
theorem dX4_worth_59 : decode cX4_worth 59 = .ok (.goto 4, 3) := by decide +kernel
theorem dX4_worth_62 : decode cX4_worth 62 = .ok (.iconst 0, 1) := by decide +kernel
theorem dX4_worth_63 : decode cX4_worth 63 = .ok (.istore 5, 2) := by decide +kernel
theorem dX4_worth_65 : decode cX4_worth 65 = .ok (.aload_n 0, 1) := by decide +kernel
theorem dX4_worth_66 : decode cX4_worth 66 = .ok (.aload_n 0, 1) := by decide +kernel
theorem dX4_worth_67 : decode cX4_worth 67 = .ok (.iload_n 1, 1) := by decide +kernel
theorem dX4_worth_68 : decode cX4_worth 68 = .ok (.invokevirtual 63, 3) := by decide +kernel
theorem dX4_worth_71 : decode cX4_worth 71 = .ok (.ifCond .ne 22, 3) := by decide +kernel
theorem dX4_worth_74 : decode cX4_worth 74 = .ok (.aload_n 0, 1) := by decide +kernel
theorem dX4_worth_75 : decode cX4_worth 75 = .ok (.iload_n 2, 1) := by decide +kernel
theorem dX4_worth_76 : decode cX4_worth 76 = .ok (.invokevirtual 63, 3) := by decide +kernel
theorem dX4_worth_79 : decode cX4_worth 79 = .ok (.ifCond .ne 14, 3) := by decide +kernel
theorem dX4_worth_82 : decode cX4_worth 82 = .ok (.iload_n 3, 1) := by decide +kernel
theorem dX4_worth_83 : decode cX4_worth 83 = .ok (.ifCond .lt 10, 3) := by decide +kernel
theorem dX4_worth_86 : decode cX4_worth 86 = .ok (.iload_n 3, 1) := by decide +kernel
theorem dX4_worth_87 : decode cX4_worth 87 = .ok (.sipush 1000, 3) := by decide +kernel
theorem dX4_worth_90 : decode cX4_worth 90 = .ok (.if_icmp .le 7, 3) := by decide +kernel
theorem dX4_worth_93 : decode cX4_worth 93 = .ok (.iconst 1, 1) := by decide +kernel
theorem dX4_worth_94 : decode cX4_worth 94 = .ok (.goto 18, 3) := by decide +kernel
theorem dX4_worth_97 : decode cX4_worth 97 = .ok (.iload 4, 2) := by decide +kernel
theorem dX4_worth_99 : decode cX4_worth 99 = .ok (.ifCond .eq 12, 3) := by decide +kernel
theorem dX4_worth_102 : decode cX4_worth 102 = .ok (.iload 5, 2) := by decide +kernel
theorem dX4_worth_104 : decode cX4_worth 104 = .ok (.ifCond .ne 7, 3) := by decide +kernel
theorem dX4_worth_107 : decode cX4_worth 107 = .ok (.iconst 2, 1) := by decide +kernel
theorem dX4_worth_108 : decode cX4_worth 108 = .ok (.goto 4, 3) := by decide +kernel
theorem dX4_worth_111 : decode cX4_worth 111 = .ok (.iconst 0, 1) := by decide +kernel
theorem dX4_worth_112 : decode cX4_worth 112 = .ok (.putfield 53, 3) := by decide +kernel
theorem dX4_worth_115 : decode cX4_worth 115 = .ok (.aload_n 0, 1) := by decide +kernel
theorem dX4_worth_116 : decode cX4_worth 116 = .ok (.getfield 53, 3) := by decide +kernel
theorem dX4_worth_119 : decode cX4_worth 119 = .ok (.ifCond .eq 4, 3) := by decide +kernel
theorem dX4_worth_122 : decode cX4_worth 122 = .ok (.return_, 1) := by decide +kernel
theorem dX4_worth_123 : decode cX4_worth 123 = .ok (.aload_n 0, 1) := by decide +kernel
theorem dX4_worth_124 : decode cX4_worth 124 = .ok (.getfield 7, 3) := by decide +kernel
theorem dX4_worth_127 : decode cX4_worth 127 = .ok (.bipush 6, 2) := by decide +kernel
theorem dX4_worth_129 : decode cX4_worth 129 = .ok (.iload_n 1, 1) := by decide +kernel
theorem dX4_worth_130 : decode cX4_worth 130 = .ok (.imul, 1) := by decide +kernel
theorem dX4_worth_131 : decode cX4_worth 131 = .ok (.iload_n 2, 1) := by decide +kernel
theorem dX4_worth_132 : decode cX4_worth 132 = .ok (.iadd, 1) := by decide +kernel
theorem dX4_worth_133 : decode cX4_worth 133 = .ok (.iload_n 3, 1) := by decide +kernel
theorem dX4_worth_134 : decode cX4_worth 134 = .ok (.iastore, 1) := by decide +kernel
theorem dX4_worth_135 : decode cX4_worth 135 = .ok (.iload 4, 2) := by decide +kernel
theorem dX4_worth_137 : decode cX4_worth 137 = .ok (.ifCond .eq 46, 3) := by decide +kernel
theorem dX4_worth_140 : decode cX4_worth 140 = .ok (.aload_n 0, 1) := by decide +kernel
theorem dX4_worth_141 : decode cX4_worth 141 = .ok (.iconst 0, 1) := by decide +kernel
theorem dX4_worth_142 : decode cX4_worth 142 = .ok (.putfield 56, 3) := by decide +kernel
theorem dX4_worth_145 : decode cX4_worth 145 = .ok (.aload_n 0, 1) := by decide +kernel
theorem dX4_worth_146 : decode cX4_worth 146 = .ok (.getfield 19, 3) := by decide +kernel
theorem dX4_worth_149 : decode cX4_worth 149 = .ok (.aload_n 0, 1) := by decide +kernel
theorem dX4_worth_150 : decode cX4_worth 150 = .ok (.getfield 28, 3) := by decide +kernel
theorem dX4_worth_153 : decode cX4_worth 153 = .ok (.iload_n 1, 1) := by decide +kernel
theorem dX4_worth_154 : decode cX4_worth 154 = .ok (.iaload, 1) := by decide +kernel
theorem dX4_worth_155 : decode cX4_worth 155 = .ok (.iconst (-1), 1) := by decide +kernel
theorem dX4_worth_156 : decode cX4_worth 156 = .ok (.iastore, 1) := by decide +kernel
theorem dX4_worth_157 : decode cX4_worth 157 = .ok (.aload_n 0, 1) := by decide +kernel
theorem dX4_worth_158 : decode cX4_worth 158 = .ok (.getfield 22, 3) := by decide +kernel
theorem dX4_worth_161 : decode cX4_worth 161 = .ok (.aload_n 0, 1) := by decide +kernel
theorem dX4_worth_162 : decode cX4_worth 162 = .ok (.getfield 28, 3) := by decide +kernel
theorem dX4_worth_165 : decode cX4_worth 165 = .ok (.iload_n 1, 1) := by decide +kernel
theorem dX4_worth_166 : decode cX4_worth 166 = .ok (.iaload, 1) := by decide +kernel
theorem dX4_worth_167 : decode cX4_worth 167 = .ok (.iconst 0, 1) := by decide +kernel
theorem dX4_worth_168 : decode cX4_worth 168 = .ok (.iastore, 1) := by decide +kernel
theorem dX4_worth_169 : decode cX4_worth 169 = .ok (.aload_n 0, 1) := by decide +kernel
theorem dX4_worth_170 : decode cX4_worth 170 = .ok (.getfield 25, 3) := by decide +kernel
theorem dX4_worth_173 : decode cX4_worth 173 = .ok (.iload_n 1, 1) := by decide +kernel
theorem dX4_worth_174 : decode cX4_worth 174 = .ok (.iconst 0, 1) := by decide +kernel
theorem dX4_worth_175 : decode cX4_worth 175 = .ok (.iastore, 1) := by decide +kernel
theorem dX4_worth_176 : decode cX4_worth 176 = .ok (.aload_n 0, 1) := by decide +kernel
theorem dX4_worth_177 : decode cX4_worth 177 = .ok (.getfield 28, 3) := by decide +kernel
theorem dX4_worth_180 : decode cX4_worth 180 = .ok (.iload_n 1, 1) := by decide +kernel
theorem dX4_worth_181 : decode cX4_worth 181 = .ok (.iconst (-1), 1) := by decide +kernel
theorem dX4_worth_182 : decode cX4_worth 182 = .ok (.iastore, 1) := by decide +kernel
theorem dX4_worth_183 : decode cX4_worth 183 = .ok (.return_, 1) := by decide +kernel
theorem dX4_send_0 : decode cX4_send 0 = .ok (.iconst 5, 1) := by decide +kernel
theorem dX4_send_1 : decode cX4_send 1 = .ok (.aload_n 0, 1) := by decide +kernel
theorem dX4_send_2 : decode cX4_send 2 = .ok (.getfield 56, 3) := by decide +kernel
theorem dX4_send_5 : decode cX4_send 5 = .ok (.imul, 1) := by decide +kernel
theorem dX4_send_6 : decode cX4_send 6 = .ok (.istore 6, 2) := by decide +kernel
theorem dX4_send_8 : decode cX4_send 8 = .ok (.aload_n 0, 1) := by decide +kernel
theorem dX4_send_9 : decode cX4_send 9 = .ok (.getfield 37, 3) := by decide +kernel
theorem dX4_send_12 : decode cX4_send 12 = .ok (.iload 6, 2) := by decide +kernel
theorem dX4_send_14 : decode cX4_send 14 = .ok (.iload_n 1, 1) := by decide +kernel
theorem dX4_send_15 : decode cX4_send 15 = .ok (.iastore, 1) := by decide +kernel
theorem dX4_send_16 : decode cX4_send 16 = .ok (.aload_n 0, 1) := by decide +kernel
theorem dX4_send_17 : decode cX4_send 17 = .ok (.getfield 37, 3) := by decide +kernel
theorem dX4_send_20 : decode cX4_send 20 = .ok (.iload 6, 2) := by decide +kernel
theorem dX4_send_22 : decode cX4_send 22 = .ok (.iconst 1, 1) := by decide +kernel
theorem dX4_send_23 : decode cX4_send 23 = .ok (.iadd, 1) := by decide +kernel
theorem dX4_send_24 : decode cX4_send 24 = .ok (.iload_n 2, 1) := by decide +kernel
theorem dX4_send_25 : decode cX4_send 25 = .ok (.iastore, 1) := by decide +kernel
theorem dX4_send_26 : decode cX4_send 26 = .ok (.aload_n 0, 1) := by decide +kernel
theorem dX4_send_27 : decode cX4_send 27 = .ok (.getfield 37, 3) := by decide +kernel
theorem dX4_send_30 : decode cX4_send 30 = .ok (.iload 6, 2) := by decide +kernel
theorem dX4_send_32 : decode cX4_send 32 = .ok (.iconst 2, 1) := by decide +kernel
theorem dX4_send_33 : decode cX4_send 33 = .ok (.iadd, 1) := by decide +kernel
theorem dX4_send_34 : decode cX4_send 34 = .ok (.iload_n 3, 1) := by decide +kernel
theorem dX4_send_35 : decode cX4_send 35 = .ok (.iastore, 1) := by decide +kernel
theorem dX4_send_36 : decode cX4_send 36 = .ok (.aload_n 0, 1) := by decide +kernel
theorem dX4_send_37 : decode cX4_send 37 = .ok (.getfield 37, 3) := by decide +kernel
theorem dX4_send_40 : decode cX4_send 40 = .ok (.iload 6, 2) := by decide +kernel
theorem dX4_send_42 : decode cX4_send 42 = .ok (.iconst 3, 1) := by decide +kernel
theorem dX4_send_43 : decode cX4_send 43 = .ok (.iadd, 1) := by decide +kernel
theorem dX4_send_44 : decode cX4_send 44 = .ok (.iload 4, 2) := by decide +kernel
theorem dX4_send_46 : decode cX4_send 46 = .ok (.iastore, 1) := by decide +kernel
theorem dX4_send_47 : decode cX4_send 47 = .ok (.aload_n 0, 1) := by decide +kernel
theorem dX4_send_48 : decode cX4_send 48 = .ok (.getfield 37, 3) := by decide +kernel
theorem dX4_send_51 : decode cX4_send 51 = .ok (.iload 6, 2) := by decide +kernel
theorem dX4_send_53 : decode cX4_send 53 = .ok (.iconst 4, 1) := by decide +kernel
theorem dX4_send_54 : decode cX4_send 54 = .ok (.iadd, 1) := by decide +kernel
theorem dX4_send_55 : decode cX4_send 55 = .ok (.iload 5, 2) := by decide +kernel
theorem dX4_send_57 : decode cX4_send 57 = .ok (.iastore, 1) := by decide +kernel
theorem dX4_send_58 : decode cX4_send 58 = .ok (.aload_n 0, 1) := by decide +kernel
theorem dX4_send_59 : decode cX4_send 59 = .ok (.dup, 1) := by decide +kernel
theorem dX4_send_60 : decode cX4_send 60 = .ok (.getfield 56, 3) := by decide +kernel
theorem dX4_send_63 : decode cX4_send 63 = .ok (.iconst 1, 1) := by decide +kernel
theorem dX4_send_64 : decode cX4_send 64 = .ok (.iadd, 1) := by decide +kernel
theorem dX4_send_65 : decode cX4_send 65 = .ok (.putfield 56, 3) := by decide +kernel
theorem dX4_send_68 : decode cX4_send 68 = .ok (.iload_n 1, 1) := by decide +kernel
theorem dX4_send_69 : decode cX4_send 69 = .ok (.ifCond .eq 13, 3) := by decide +kernel
theorem dX4_send_72 : decode cX4_send 72 = .ok (.aload_n 0, 1) := by decide +kernel
theorem dX4_send_73 : decode cX4_send 73 = .ok (.getfield 40, 3) := by decide +kernel
theorem dX4_send_76 : decode cX4_send 76 = .ok (.iload_n 1, 1) := by decide +kernel
theorem dX4_send_77 : decode cX4_send 77 = .ok (.dup2, 1) := by decide +kernel
theorem dX4_send_78 : decode cX4_send 78 = .ok (.iaload, 1) := by decide +kernel
theorem dX4_send_79 : decode cX4_send 79 = .ok (.iconst 1, 1) := by decide +kernel
theorem dX4_send_80 : decode cX4_send 80 = .ok (.iadd, 1) := by decide +kernel
theorem dX4_send_81 : decode cX4_send 81 = .ok (.iastore, 1) := by decide +kernel
theorem dX4_send_82 : decode cX4_send 82 = .ok (.return_, 1) := by decide +kernel
theorem dX4_drop_0 : decode cX4_drop 0 = .ok (.aload_n 0, 1) := by decide +kernel
theorem dX4_drop_1 : decode cX4_drop 1 = .ok (.dup, 1) := by decide +kernel
theorem dX4_drop_2 : decode cX4_drop 2 = .ok (.getfield 56, 3) := by decide +kernel
theorem dX4_drop_5 : decode cX4_drop 5 = .ok (.iconst 1, 1) := by decide +kernel
theorem dX4_drop_6 : decode cX4_drop 6 = .ok (.isub, 1) := by decide +kernel
theorem dX4_drop_7 : decode cX4_drop 7 = .ok (.putfield 56, 3) := by decide +kernel
theorem dX4_drop_10 : decode cX4_drop 10 = .ok (.iconst 5, 1) := by decide +kernel
theorem dX4_drop_11 : decode cX4_drop 11 = .ok (.iload_n 1, 1) := by decide +kernel
theorem dX4_drop_12 : decode cX4_drop 12 = .ok (.imul, 1) := by decide +kernel
theorem dX4_drop_13 : decode cX4_drop 13 = .ok (.istore_n 2, 1) := by decide +kernel
theorem dX4_drop_14 : decode cX4_drop 14 = .ok (.iload_n 2, 1) := by decide +kernel
theorem dX4_drop_15 : decode cX4_drop 15 = .ok (.iconst 5, 1) := by decide +kernel
theorem dX4_drop_16 : decode cX4_drop 16 = .ok (.aload_n 0, 1) := by decide +kernel
theorem dX4_drop_17 : decode cX4_drop 17 = .ok (.getfield 56, 3) := by decide +kernel
theorem dX4_drop_20 : decode cX4_drop 20 = .ok (.imul, 1) := by decide +kernel
theorem dX4_drop_21 : decode cX4_drop 21 = .ok (.if_icmp .ge 23, 3) := by decide +kernel
theorem dX4_drop_24 : decode cX4_drop 24 = .ok (.aload_n 0, 1) := by decide +kernel
theorem dX4_drop_25 : decode cX4_drop 25 = .ok (.getfield 37, 3) := by decide +kernel
theorem dX4_drop_28 : decode cX4_drop 28 = .ok (.iload_n 2, 1) := by decide +kernel
theorem dX4_drop_29 : decode cX4_drop 29 = .ok (.aload_n 0, 1) := by decide +kernel
theorem dX4_drop_30 : decode cX4_drop 30 = .ok (.getfield 37, 3) := by decide +kernel
theorem dX4_drop_33 : decode cX4_drop 33 = .ok (.iload_n 2, 1) := by decide +kernel
theorem dX4_drop_34 : decode cX4_drop 34 = .ok (.iconst 5, 1) := by decide +kernel
theorem dX4_drop_35 : decode cX4_drop 35 = .ok (.iadd, 1) := by decide +kernel
theorem dX4_drop_36 : decode cX4_drop 36 = .ok (.iaload, 1) := by decide +kernel
theorem dX4_drop_37 : decode cX4_drop 37 = .ok (.iastore, 1) := by decide +kernel
theorem dX4_drop_38 : decode cX4_drop 38 = .ok (.iinc 2 1, 3) := by decide +kernel
theorem dX4_drop_41 : decode cX4_drop 41 = .ok (.goto (-27), 3) := by decide +kernel
theorem dX4_drop_44 : decode cX4_drop 44 = .ok (.return_, 1) := by decide +kernel
theorem dX4_noLetter_0 : decode cX4_noLetter 0 = .ok (.iload_n 1, 1) := by decide +kernel
theorem dX4_noLetter_1 : decode cX4_noLetter 1 = .ok (.ifCond .lt 11, 3) := by decide +kernel
theorem dX4_noLetter_4 : decode cX4_noLetter 4 = .ok (.iload_n 1, 1) := by decide +kernel
theorem dX4_noLetter_5 : decode cX4_noLetter 5 = .ok (.aload_n 0, 1) := by decide +kernel
theorem dX4_noLetter_6 : decode cX4_noLetter 6 = .ok (.getfield 56, 3) := by decide +kernel
theorem dX4_noLetter_9 : decode cX4_noLetter 9 = .ok (.if_icmp .lt 7, 3) := by decide +kernel
theorem dX4_noLetter_12 : decode cX4_noLetter 12 = .ok (.iconst 1, 1) := by decide +kernel
theorem dX4_noLetter_13 : decode cX4_noLetter 13 = .ok (.goto 4, 3) := by decide +kernel
theorem dX4_noLetter_16 : decode cX4_noLetter 16 = .ok (.iconst 0, 1) := by decide +kernel
theorem dX4_noLetter_17 : decode cX4_noLetter 17 = .ok (.ireturn, 1) := by decide +kernel
theorem dX4_valueOf_0 : decode cX4_valueOf 0 = .ok (.aload_n 0, 1) := by decide +kernel
theorem dX4_valueOf_1 : decode cX4_valueOf 1 = .ok (.getfield 7, 3) := by decide +kernel
theorem dX4_valueOf_4 : decode cX4_valueOf 4 = .ok (.bipush 6, 2) := by decide +kernel
theorem dX4_valueOf_6 : decode cX4_valueOf 6 = .ok (.iload_n 1, 1) := by decide +kernel
theorem dX4_valueOf_7 : decode cX4_valueOf 7 = .ok (.imul, 1) := by decide +kernel
theorem dX4_valueOf_8 : decode cX4_valueOf 8 = .ok (.iload_n 2, 1) := by decide +kernel
theorem dX4_valueOf_9 : decode cX4_valueOf 9 = .ok (.iadd, 1) := by decide +kernel
theorem dX4_valueOf_10 : decode cX4_valueOf 10 = .ok (.iaload, 1) := by decide +kernel
theorem dX4_valueOf_11 : decode cX4_valueOf 11 = .ok (.aload_n 0, 1) := by decide +kernel
theorem dX4_valueOf_12 : decode cX4_valueOf 12 = .ok (.getfield 43, 3) := by decide +kernel
theorem dX4_valueOf_15 : decode cX4_valueOf 15 = .ok (.iconst 1, 1) := by decide +kernel
theorem dX4_valueOf_16 : decode cX4_valueOf 16 = .ok (.iadd, 1) := by decide +kernel
theorem dX4_valueOf_17 : decode cX4_valueOf 17 = .ok (.imul, 1) := by decide +kernel
theorem dX4_valueOf_18 : decode cX4_valueOf 18 = .ok (.aload_n 0, 1) := by decide +kernel
theorem dX4_valueOf_19 : decode cX4_valueOf 19 = .ok (.getfield 13, 3) := by decide +kernel
theorem dX4_valueOf_22 : decode cX4_valueOf 22 = .ok (.bipush 6, 2) := by decide +kernel
theorem dX4_valueOf_24 : decode cX4_valueOf 24 = .ok (.iload_n 1, 1) := by decide +kernel
theorem dX4_valueOf_25 : decode cX4_valueOf 25 = .ok (.imul, 1) := by decide +kernel
theorem dX4_valueOf_26 : decode cX4_valueOf 26 = .ok (.iload_n 2, 1) := by decide +kernel
theorem dX4_valueOf_27 : decode cX4_valueOf 27 = .ok (.iadd, 1) := by decide +kernel
theorem dX4_valueOf_28 : decode cX4_valueOf 28 = .ok (.iaload, 1) := by decide +kernel
theorem dX4_valueOf_29 : decode cX4_valueOf 29 = .ok (.isub, 1) := by decide +kernel
theorem dX4_valueOf_30 : decode cX4_valueOf 30 = .ok (.ireturn, 1) := by decide +kernel
theorem dX4_act_0 : decode cX4_act 0 = .ok (.aload_n 0, 1) := by decide +kernel
theorem dX4_act_1 : decode cX4_act 1 = .ok (.aload_n 0, 1) := by decide +kernel
theorem dX4_act_2 : decode cX4_act 2 = .ok (.iload_n 1, 1) := by decide +kernel
theorem dX4_act_3 : decode cX4_act 3 = .ok (.invokevirtual 63, 3) := by decide +kernel
theorem dX4_act_6 : decode cX4_act 6 = .ok (.ifCond .eq 7, 3) := by decide +kernel
theorem dX4_act_9 : decode cX4_act 9 = .ok (.iconst 1, 1) := by decide +kernel
theorem dX4_act_10 : decode cX4_act 10 = .ok (.goto 26, 3) := by decide +kernel
theorem dX4_act_13 : decode cX4_act 13 = .ok (.aload_n 0, 1) := by decide +kernel
theorem dX4_act_14 : decode cX4_act 14 = .ok (.getfield 25, 3) := by decide +kernel
theorem dX4_act_17 : decode cX4_act 17 = .ok (.iload_n 1, 1) := by decide +kernel
theorem dX4_act_18 : decode cX4_act 18 = .ok (.iaload, 1) := by decide +kernel
theorem dX4_act_19 : decode cX4_act 19 = .ok (.ifCond .ne 12, 3) := by decide +kernel
theorem dX4_act_22 : decode cX4_act 22 = .ok (.aload_n 0, 1) := by decide +kernel
theorem dX4_act_23 : decode cX4_act 23 = .ok (.getfield 56, 3) := by decide +kernel
theorem dX4_act_26 : decode cX4_act 26 = .ok (.bipush 39, 2) := by decide +kernel
theorem dX4_act_28 : decode cX4_act 28 = .ok (.if_icmp .le 7, 3) := by decide +kernel
theorem dX4_act_31 : decode cX4_act 31 = .ok (.iconst 2, 1) := by decide +kernel
theorem dX4_act_32 : decode cX4_act 32 = .ok (.goto 4, 3) := by decide +kernel
theorem dX4_act_35 : decode cX4_act 35 = .ok (.iconst 0, 1) := by decide +kernel
theorem dX4_act_36 : decode cX4_act 36 = .ok (.putfield 53, 3) := by decide +kernel
theorem dX4_act_39 : decode cX4_act 39 = .ok (.aload_n 0, 1) := by decide +kernel
theorem dX4_act_40 : decode cX4_act 40 = .ok (.getfield 53, 3) := by decide +kernel
theorem dX4_act_43 : decode cX4_act 43 = .ok (.ifCond .eq 5, 3) := by decide +kernel
theorem dX4_act_46 : decode cX4_act 46 = .ok (.iconst 0, 1) := by decide +kernel
theorem dX4_act_47 : decode cX4_act 47 = .ok (.ireturn, 1) := by decide +kernel
theorem dX4_act_48 : decode cX4_act 48 = .ok (.iconst 0, 1) := by decide +kernel
theorem dX4_act_49 : decode cX4_act 49 = .ok (.istore_n 2, 1) := by decide +kernel
theorem dX4_act_50 : decode cX4_act 50 = .ok (.iconst 1, 1) := by decide +kernel
theorem dX4_act_51 : decode cX4_act 51 = .ok (.istore_n 3, 1) := by decide +kernel
theorem dX4_act_52 : decode cX4_act 52 = .ok (.iload_n 3, 1) := by decide +kernel
theorem dX4_act_53 : decode cX4_act 53 = .ok (.aload_n 0, 1) := by decide +kernel
theorem dX4_act_54 : decode cX4_act 54 = .ok (.getfield 43, 3) := by decide +kernel
theorem dX4_act_57 : decode cX4_act 57 = .ok (.if_icmp .ge 30, 3) := by decide +kernel
theorem dX4_act_60 : decode cX4_act 60 = .ok (.aload_n 0, 1) := by decide +kernel
theorem dX4_act_61 : decode cX4_act 61 = .ok (.iload_n 1, 1) := by decide +kernel
theorem dX4_act_62 : decode cX4_act 62 = .ok (.iload_n 3, 1) := by decide +kernel
theorem dX4_act_63 : decode cX4_act 63 = .ok (.invokevirtual 67, 3) := by decide +kernel
theorem dX4_act_66 : decode cX4_act 66 = .ok (.aload_n 0, 1) := by decide +kernel
theorem dX4_act_67 : decode cX4_act 67 = .ok (.iload_n 1, 1) := by decide +kernel
theorem dX4_act_68 : decode cX4_act 68 = .ok (.iload_n 2, 1) := by decide +kernel
theorem dX4_act_69 : decode cX4_act 69 = .ok (.invokevirtual 67, 3) := by decide +kernel
theorem dX4_act_72 : decode cX4_act 72 = .ok (.if_icmp .le 7, 3) := by decide +kernel
theorem dX4_act_75 : decode cX4_act 75 = .ok (.iload_n 3, 1) := by decide +kernel
theorem dX4_act_76 : decode cX4_act 76 = .ok (.goto 4, 3) := by decide +kernel
theorem dX4_act_79 : decode cX4_act 79 = .ok (.iload_n 2, 1) := by decide +kernel
theorem dX4_act_80 : decode cX4_act 80 = .ok (.istore_n 2, 1) := by decide +kernel
theorem dX4_act_81 : decode cX4_act 81 = .ok (.iinc 3 1, 3) := by decide +kernel
theorem dX4_act_84 : decode cX4_act 84 = .ok (.goto (-32), 3) := by decide +kernel
theorem dX4_act_87 : decode cX4_act 87 = .ok (.iload_n 2, 1) := by decide +kernel
theorem dX4_act_88 : decode cX4_act 88 = .ok (.ifCond .ne 7, 3) := by decide +kernel
theorem dX4_act_91 : decode cX4_act 91 = .ok (.iconst 1, 1) := by decide +kernel
theorem dX4_act_92 : decode cX4_act 92 = .ok (.goto 4, 3) := by decide +kernel
theorem dX4_act_95 : decode cX4_act 95 = .ok (.iconst 0, 1) := by decide +kernel
theorem dX4_act_96 : decode cX4_act 96 = .ok (.istore_n 3, 1) := by decide +kernel
theorem dX4_act_97 : decode cX4_act 97 = .ok (.iconst 0, 1) := by decide +kernel
theorem dX4_act_98 : decode cX4_act 98 = .ok (.istore 4, 2) := by decide +kernel
theorem dX4_act_100 : decode cX4_act 100 = .ok (.iload 4, 2) := by decide +kernel
theorem dX4_act_102 : decode cX4_act 102 = .ok (.aload_n 0, 1) := by decide +kernel
theorem dX4_act_103 : decode cX4_act 103 = .ok (.getfield 43, 3) := by decide +kernel
theorem dX4_act_106 : decode cX4_act 106 = .ok (.if_icmp .ge 38, 3) := by decide +kernel
theorem dX4_act_109 : decode cX4_act 109 = .ok (.iload 4, 2) := by decide +kernel
theorem dX4_act_111 : decode cX4_act 111 = .ok (.iload_n 2, 1) := by decide +kernel
theorem dX4_act_112 : decode cX4_act 112 = .ok (.if_icmp .eq 24, 3) := by decide +kernel
theorem dX4_act_115 : decode cX4_act 115 = .ok (.aload_n 0, 1) := by decide +kernel
theorem dX4_act_116 : decode cX4_act 116 = .ok (.iload_n 1, 1) := by decide +kernel
theorem dX4_act_117 : decode cX4_act 117 = .ok (.iload 4, 2) := by decide +kernel
theorem dX4_act_119 : decode cX4_act 119 = .ok (.invokevirtual 67, 3) := by decide +kernel
theorem dX4_act_122 : decode cX4_act 122 = .ok (.aload_n 0, 1) := by decide +kernel
theorem dX4_act_123 : decode cX4_act 123 = .ok (.iload_n 1, 1) := by decide +kernel
theorem dX4_act_124 : decode cX4_act 124 = .ok (.iload_n 3, 1) := by decide +kernel
theorem dX4_act_125 : decode cX4_act 125 = .ok (.invokevirtual 67, 3) := by decide +kernel
theorem dX4_act_128 : decode cX4_act 128 = .ok (.if_icmp .le 8, 3) := by decide +kernel
theorem dX4_act_131 : decode cX4_act 131 = .ok (.iload 4, 2) := by decide +kernel
theorem dX4_act_133 : decode cX4_act 133 = .ok (.goto 4, 3) := by decide +kernel
theorem dX4_act_136 : decode cX4_act 136 = .ok (.iload_n 3, 1) := by decide +kernel
theorem dX4_act_137 : decode cX4_act 137 = .ok (.istore_n 3, 1) := by decide +kernel
theorem dX4_act_138 : decode cX4_act 138 = .ok (.iinc 4 1, 3) := by decide +kernel
theorem dX4_act_141 : decode cX4_act 141 = .ok (.goto (-41), 3) := by decide +kernel
theorem dX4_act_144 : decode cX4_act 144 = .ok (.aload_n 0, 1) := by decide +kernel
theorem dX4_act_145 : decode cX4_act 145 = .ok (.getfield 31, 3) := by decide +kernel
theorem dX4_act_148 : decode cX4_act 148 = .ok (.iload_n 1, 1) := by decide +kernel
theorem dX4_act_149 : decode cX4_act 149 = .ok (.dup2, 1) := by decide +kernel
theorem dX4_act_150 : decode cX4_act 150 = .ok (.iaload, 1) := by decide +kernel
theorem dX4_act_151 : decode cX4_act 151 = .ok (.iconst 1, 1) := by decide +kernel
theorem dX4_act_152 : decode cX4_act 152 = .ok (.iadd, 1) := by decide +kernel
theorem dX4_act_153 : decode cX4_act 153 = .ok (.iastore, 1) := by decide +kernel
theorem dX4_act_154 : decode cX4_act 154 = .ok (.aload_n 0, 1) := by decide +kernel
theorem dX4_act_155 : decode cX4_act 155 = .ok (.getfield 28, 3) := by decide +kernel
theorem dX4_act_158 : decode cX4_act 158 = .ok (.iload_n 1, 1) := by decide +kernel
theorem dX4_act_159 : decode cX4_act 159 = .ok (.iload_n 2, 1) := by decide +kernel
theorem dX4_act_160 : decode cX4_act 160 = .ok (.iastore, 1) := by decide +kernel
theorem dX4_act_161 : decode cX4_act 161 = .ok (.aload_n 0, 1) := by decide +kernel
theorem dX4_act_162 : decode cX4_act 162 = .ok (.getfield 25, 3) := by decide +kernel
theorem dX4_act_165 : decode cX4_act 165 = .ok (.iload_n 1, 1) := by decide +kernel
theorem dX4_act_166 : decode cX4_act 166 = .ok (.iconst 1, 1) := by decide +kernel
theorem dX4_act_167 : decode cX4_act 167 = .ok (.iastore, 1) := by decide +kernel
theorem dX4_act_168 : decode cX4_act 168 = .ok (.aload_n 0, 1) := by decide +kernel
theorem dX4_act_169 : decode cX4_act 169 = .ok (.getfield 34, 3) := by decide +kernel
theorem dX4_act_172 : decode cX4_act 172 = .ok (.iload_n 1, 1) := by decide +kernel
theorem dX4_act_173 : decode cX4_act 173 = .ok (.aload_n 0, 1) := by decide +kernel
theorem dX4_act_174 : decode cX4_act 174 = .ok (.getfield 13, 3) := by decide +kernel
theorem dX4_act_177 : decode cX4_act 177 = .ok (.bipush 6, 2) := by decide +kernel
theorem dX4_act_179 : decode cX4_act 179 = .ok (.iload_n 1, 1) := by decide +kernel
theorem dX4_act_180 : decode cX4_act 180 = .ok (.imul, 1) := by decide +kernel
theorem dX4_act_181 : decode cX4_act 181 = .ok (.iload_n 2, 1) := by decide +kernel
theorem dX4_act_182 : decode cX4_act 182 = .ok (.iadd, 1) := by decide +kernel
theorem dX4_act_183 : decode cX4_act 183 = .ok (.iaload, 1) := by decide +kernel
theorem dX4_act_184 : decode cX4_act 184 = .ok (.aload_n 0, 1) := by decide +kernel
theorem dX4_act_185 : decode cX4_act 185 = .ok (.iload_n 1, 1) := by decide +kernel
theorem dX4_act_186 : decode cX4_act 186 = .ok (.iload_n 2, 1) := by decide +kernel
theorem dX4_act_187 : decode cX4_act 187 = .ok (.invokevirtual 67, 3) := by decide +kernel
theorem dX4_act_190 : decode cX4_act 190 = .ok (.iadd, 1) := by decide +kernel
theorem dX4_act_191 : decode cX4_act 191 = .ok (.aload_n 0, 1) := by decide +kernel
theorem dX4_act_192 : decode cX4_act 192 = .ok (.iload_n 1, 1) := by decide +kernel
theorem dX4_act_193 : decode cX4_act 193 = .ok (.iload_n 3, 1) := by decide +kernel
theorem dX4_act_194 : decode cX4_act 194 = .ok (.invokevirtual 67, 3) := by decide +kernel
theorem dX4_act_197 : decode cX4_act 197 = .ok (.isub, 1) := by decide +kernel
theorem dX4_act_198 : decode cX4_act 198 = .ok (.aload_n 0, 1) := by decide +kernel
theorem dX4_act_199 : decode cX4_act 199 = .ok (.getfield 47, 3) := by decide +kernel
theorem dX4_act_202 : decode cX4_act 202 = .ok (.iadd, 1) := by decide +kernel
theorem dX4_act_203 : decode cX4_act 203 = .ok (.iastore, 1) := by decide +kernel
theorem dX4_act_204 : decode cX4_act 204 = .ok (.aload_n 0, 1) := by decide +kernel
theorem dX4_act_205 : decode cX4_act 205 = .ok (.getfield 40, 3) := by decide +kernel
theorem dX4_act_208 : decode cX4_act 208 = .ok (.iconst 0, 1) := by decide +kernel
theorem dX4_act_209 : decode cX4_act 209 = .ok (.dup2, 1) := by decide +kernel
theorem dX4_act_210 : decode cX4_act 210 = .ok (.iaload, 1) := by decide +kernel
theorem dX4_act_211 : decode cX4_act 211 = .ok (.iconst 1, 1) := by decide +kernel
theorem dX4_act_212 : decode cX4_act 212 = .ok (.iadd, 1) := by decide +kernel
theorem dX4_act_213 : decode cX4_act 213 = .ok (.iastore, 1) := by decide +kernel
theorem dX4_act_214 : decode cX4_act 214 = .ok (.aload_n 0, 1) := by decide +kernel
theorem dX4_act_215 : decode cX4_act 215 = .ok (.iconst 0, 1) := by decide +kernel
theorem dX4_act_216 : decode cX4_act 216 = .ok (.iload_n 1, 1) := by decide +kernel
theorem dX4_act_217 : decode cX4_act 217 = .ok (.iload_n 2, 1) := by decide +kernel
theorem dX4_act_218 : decode cX4_act 218 = .ok (.aload_n 0, 1) := by decide +kernel
theorem dX4_act_219 : decode cX4_act 219 = .ok (.getfield 31, 3) := by decide +kernel
theorem dX4_act_222 : decode cX4_act 222 = .ok (.iload_n 1, 1) := by decide +kernel
theorem dX4_act_223 : decode cX4_act 223 = .ok (.iaload, 1) := by decide +kernel
theorem dX4_act_224 : decode cX4_act 224 = .ok (.aload_n 0, 1) := by decide +kernel
theorem dX4_act_225 : decode cX4_act 225 = .ok (.getfield 34, 3) := by decide +kernel
theorem dX4_act_228 : decode cX4_act 228 = .ok (.iload_n 1, 1) := by decide +kernel
theorem dX4_act_229 : decode cX4_act 229 = .ok (.iaload, 1) := by decide +kernel
theorem dX4_act_230 : decode cX4_act 230 = .ok (.invokevirtual 71, 3) := by decide +kernel
theorem dX4_act_233 : decode cX4_act 233 = .ok (.iload_n 2, 1) := by decide +kernel
theorem dX4_act_234 : decode cX4_act 234 = .ok (.ireturn, 1) := by decide +kernel
theorem dX4_resend_0 : decode cX4_resend 0 = .ok (.aload_n 0, 1) := by decide +kernel
theorem dX4_resend_1 : decode cX4_resend 1 = .ok (.aload_n 0, 1) := by decide +kernel
theorem dX4_resend_2 : decode cX4_resend 2 = .ok (.iload_n 1, 1) := by decide +kernel
theorem dX4_resend_3 : decode cX4_resend 3 = .ok (.invokevirtual 63, 3) := by decide +kernel
theorem dX4_resend_6 : decode cX4_resend 6 = .ok (.ifCond .eq 7, 3) := by decide +kernel
theorem dX4_resend_9 : decode cX4_resend 9 = .ok (.iconst 1, 1) := by decide +kernel
theorem dX4_resend_10 : decode cX4_resend 10 = .ok (.goto 26, 3) := by decide +kernel
theorem dX4_resend_13 : decode cX4_resend 13 = .ok (.aload_n 0, 1) := by decide +kernel
theorem dX4_resend_14 : decode cX4_resend 14 = .ok (.getfield 25, 3) := by decide +kernel
theorem dX4_resend_17 : decode cX4_resend 17 = .ok (.iload_n 1, 1) := by decide +kernel
theorem dX4_resend_18 : decode cX4_resend 18 = .ok (.iaload, 1) := by decide +kernel
theorem dX4_resend_19 : decode cX4_resend 19 = .ok (.ifCond .eq 12, 3) := by decide +kernel
theorem dX4_resend_22 : decode cX4_resend 22 = .ok (.aload_n 0, 1) := by decide +kernel
theorem dX4_resend_23 : decode cX4_resend 23 = .ok (.getfield 56, 3) := by decide +kernel
theorem dX4_resend_26 : decode cX4_resend 26 = .ok (.bipush 39, 2) := by decide +kernel
theorem dX4_resend_28 : decode cX4_resend 28 = .ok (.if_icmp .le 7, 3) := by decide +kernel
theorem dX4_resend_31 : decode cX4_resend 31 = .ok (.iconst 2, 1) := by decide +kernel
theorem dX4_resend_32 : decode cX4_resend 32 = .ok (.goto 4, 3) := by decide +kernel
theorem dX4_resend_35 : decode cX4_resend 35 = .ok (.iconst 0, 1) := by decide +kernel
theorem dX4_resend_36 : decode cX4_resend 36 = .ok (.putfield 53, 3) := by decide +kernel
theorem dX4_resend_39 : decode cX4_resend 39 = .ok (.aload_n 0, 1) := by decide +kernel
theorem dX4_resend_40 : decode cX4_resend 40 = .ok (.getfield 53, 3) := by decide +kernel
theorem dX4_resend_43 : decode cX4_resend 43 = .ok (.ifCond .eq 5, 3) := by decide +kernel
theorem dX4_resend_46 : decode cX4_resend 46 = .ok (.iconst 0, 1) := by decide +kernel
theorem dX4_resend_47 : decode cX4_resend 47 = .ok (.ireturn, 1) := by decide +kernel
theorem dX4_resend_48 : decode cX4_resend 48 = .ok (.aload_n 0, 1) := by decide +kernel
theorem dX4_resend_49 : decode cX4_resend 49 = .ok (.iconst 0, 1) := by decide +kernel
theorem dX4_resend_50 : decode cX4_resend 50 = .ok (.iload_n 1, 1) := by decide +kernel
theorem dX4_resend_51 : decode cX4_resend 51 = .ok (.aload_n 0, 1) := by decide +kernel
theorem dX4_resend_52 : decode cX4_resend 52 = .ok (.getfield 28, 3) := by decide +kernel
theorem dX4_resend_55 : decode cX4_resend 55 = .ok (.iload_n 1, 1) := by decide +kernel
theorem dX4_resend_56 : decode cX4_resend 56 = .ok (.iaload, 1) := by decide +kernel
theorem dX4_resend_57 : decode cX4_resend 57 = .ok (.aload_n 0, 1) := by decide +kernel
theorem dX4_resend_58 : decode cX4_resend 58 = .ok (.getfield 31, 3) := by decide +kernel
theorem dX4_resend_61 : decode cX4_resend 61 = .ok (.iload_n 1, 1) := by decide +kernel
theorem dX4_resend_62 : decode cX4_resend 62 = .ok (.iaload, 1) := by decide +kernel
theorem dX4_resend_63 : decode cX4_resend 63 = .ok (.aload_n 0, 1) := by decide +kernel
theorem dX4_resend_64 : decode cX4_resend 64 = .ok (.getfield 34, 3) := by decide +kernel
theorem dX4_resend_67 : decode cX4_resend 67 = .ok (.iload_n 1, 1) := by decide +kernel
theorem dX4_resend_68 : decode cX4_resend 68 = .ok (.iaload, 1) := by decide +kernel
theorem dX4_resend_69 : decode cX4_resend 69 = .ok (.invokevirtual 71, 3) := by decide +kernel
theorem dX4_resend_72 : decode cX4_resend 72 = .ok (.aload_n 0, 1) := by decide +kernel
theorem dX4_resend_73 : decode cX4_resend 73 = .ok (.getfield 56, 3) := by decide +kernel
theorem dX4_resend_76 : decode cX4_resend 76 = .ok (.ireturn, 1) := by decide +kernel
theorem dX4_bidComes_0 : decode cX4_bidComes 0 = .ok (.aload_n 0, 1) := by decide +kernel
theorem dX4_bidComes_1 : decode cX4_bidComes 1 = .ok (.getfield 19, 3) := by decide +kernel
theorem dX4_bidComes_4 : decode cX4_bidComes 4 = .ok (.iload_n 2, 1) := by decide +kernel
theorem dX4_bidComes_5 : decode cX4_bidComes 5 = .ok (.iaload, 1) := by decide +kernel
theorem dX4_bidComes_6 : decode cX4_bidComes 6 = .ok (.iload_n 1, 1) := by decide +kernel
theorem dX4_bidComes_7 : decode cX4_bidComes 7 = .ok (.if_icmp .ne 17, 3) := by decide +kernel
theorem dX4_bidComes_10 : decode cX4_bidComes 10 = .ok (.aload_n 0, 1) := by decide +kernel
theorem dX4_bidComes_11 : decode cX4_bidComes 11 = .ok (.getfield 22, 3) := by decide +kernel
theorem dX4_bidComes_14 : decode cX4_bidComes 14 = .ok (.iload_n 2, 1) := by decide +kernel
theorem dX4_bidComes_15 : decode cX4_bidComes 15 = .ok (.iaload, 1) := by decide +kernel
theorem dX4_bidComes_16 : decode cX4_bidComes 16 = .ok (.iload_n 3, 1) := by decide +kernel
theorem dX4_bidComes_17 : decode cX4_bidComes 17 = .ok (.if_icmp .ne 7, 3) := by decide +kernel
theorem dX4_bidComes_20 : decode cX4_bidComes 20 = .ok (.iconst 1, 1) := by decide +kernel
theorem dX4_bidComes_21 : decode cX4_bidComes 21 = .ok (.goto 4, 3) := by decide +kernel
theorem dX4_bidComes_24 : decode cX4_bidComes 24 = .ok (.iconst 0, 1) := by decide +kernel
theorem dX4_bidComes_25 : decode cX4_bidComes 25 = .ok (.istore 5, 2) := by decide +kernel
theorem dX4_bidComes_27 : decode cX4_bidComes 27 = .ok (.iload 5, 2) := by decide +kernel
theorem dX4_bidComes_29 : decode cX4_bidComes 29 = .ok (.ifCond .ne 34, 3) := by decide +kernel
theorem dX4_bidComes_32 : decode cX4_bidComes 32 = .ok (.iload 4, 2) := by decide +kernel
theorem dX4_bidComes_34 : decode cX4_bidComes 34 = .ok (.aload_n 0, 1) := by decide +kernel
theorem dX4_bidComes_35 : decode cX4_bidComes 35 = .ok (.getfield 16, 3) := by decide +kernel
theorem dX4_bidComes_38 : decode cX4_bidComes 38 = .ok (.iload_n 2, 1) := by decide +kernel
theorem dX4_bidComes_39 : decode cX4_bidComes 39 = .ok (.iaload, 1) := by decide +kernel
theorem dX4_bidComes_40 : decode cX4_bidComes 40 = .ok (.aload_n 0, 1) := by decide +kernel
theorem dX4_bidComes_41 : decode cX4_bidComes 41 = .ok (.getfield 47, 3) := by decide +kernel
theorem dX4_bidComes_44 : decode cX4_bidComes 44 = .ok (.iadd, 1) := by decide +kernel
theorem dX4_bidComes_45 : decode cX4_bidComes 45 = .ok (.if_icmp .ge 18, 3) := by decide +kernel
theorem dX4_bidComes_48 : decode cX4_bidComes 48 = .ok (.aload_n 0, 1) := by decide +kernel
theorem dX4_bidComes_49 : decode cX4_bidComes 49 = .ok (.iconst 2, 1) := by decide +kernel
theorem dX4_bidComes_50 : decode cX4_bidComes 50 = .ok (.iload_n 1, 1) := by decide +kernel
theorem dX4_bidComes_51 : decode cX4_bidComes 51 = .ok (.iload_n 2, 1) := by decide +kernel
theorem dX4_bidComes_52 : decode cX4_bidComes 52 = .ok (.iload_n 3, 1) := by decide +kernel
theorem dX4_bidComes_53 : decode cX4_bidComes 53 = .ok (.aload_n 0, 1) := by decide +kernel
theorem dX4_bidComes_54 : decode cX4_bidComes 54 = .ok (.getfield 16, 3) := by decide +kernel
theorem dX4_bidComes_57 : decode cX4_bidComes 57 = .ok (.iload_n 2, 1) := by decide +kernel
theorem dX4_bidComes_58 : decode cX4_bidComes 58 = .ok (.iaload, 1) := by decide +kernel
theorem dX4_bidComes_59 : decode cX4_bidComes 59 = .ok (.invokevirtual 71, 3) := by decide +kernel
theorem dX4_bidComes_62 : decode cX4_bidComes 62 = .ok (.return_, 1) := by decide +kernel
theorem dX4_bidComes_63 : decode cX4_bidComes 63 = .ok (.iload 5, 2) := by decide +kernel
theorem dX4_bidComes_65 : decode cX4_bidComes 65 = .ok (.ifCond .ne 55, 3) := by decide +kernel
theorem dX4_bidComes_68 : decode cX4_bidComes 68 = .ok (.aload_n 0, 1) := by decide +kernel
theorem dX4_bidComes_69 : decode cX4_bidComes 69 = .ok (.getfield 16, 3) := by decide +kernel
theorem dX4_bidComes_72 : decode cX4_bidComes 72 = .ok (.iload_n 2, 1) := by decide +kernel
theorem dX4_bidComes_73 : decode cX4_bidComes 73 = .ok (.iload 4, 2) := by decide +kernel
theorem dX4_bidComes_75 : decode cX4_bidComes 75 = .ok (.iastore, 1) := by decide +kernel
theorem dX4_bidComes_76 : decode cX4_bidComes 76 = .ok (.aload_n 0, 1) := by decide +kernel
theorem dX4_bidComes_77 : decode cX4_bidComes 77 = .ok (.getfield 19, 3) := by decide +kernel
theorem dX4_bidComes_80 : decode cX4_bidComes 80 = .ok (.iload_n 2, 1) := by decide +kernel
theorem dX4_bidComes_81 : decode cX4_bidComes 81 = .ok (.iaload, 1) := by decide +kernel
theorem dX4_bidComes_82 : decode cX4_bidComes 82 = .ok (.iconst (-1), 1) := by decide +kernel
theorem dX4_bidComes_83 : decode cX4_bidComes 83 = .ok (.if_icmp .eq 23, 3) := by decide +kernel
theorem dX4_bidComes_86 : decode cX4_bidComes 86 = .ok (.aload_n 0, 1) := by decide +kernel
theorem dX4_bidComes_87 : decode cX4_bidComes 87 = .ok (.iconst 3, 1) := by decide +kernel
theorem dX4_bidComes_88 : decode cX4_bidComes 88 = .ok (.aload_n 0, 1) := by decide +kernel
theorem dX4_bidComes_89 : decode cX4_bidComes 89 = .ok (.getfield 19, 3) := by decide +kernel
theorem dX4_bidComes_92 : decode cX4_bidComes 92 = .ok (.iload_n 2, 1) := by decide +kernel
theorem dX4_bidComes_93 : decode cX4_bidComes 93 = .ok (.iaload, 1) := by decide +kernel
theorem dX4_bidComes_94 : decode cX4_bidComes 94 = .ok (.iload_n 2, 1) := by decide +kernel
theorem dX4_bidComes_95 : decode cX4_bidComes 95 = .ok (.aload_n 0, 1) := by decide +kernel
theorem dX4_bidComes_96 : decode cX4_bidComes 96 = .ok (.getfield 22, 3) := by decide +kernel
theorem dX4_bidComes_99 : decode cX4_bidComes 99 = .ok (.iload_n 2, 1) := by decide +kernel
theorem dX4_bidComes_100 : decode cX4_bidComes 100 = .ok (.iaload, 1) := by decide +kernel
theorem dX4_bidComes_101 : decode cX4_bidComes 101 = .ok (.iload 4, 2) := by decide +kernel
theorem dX4_bidComes_103 : decode cX4_bidComes 103 = .ok (.invokevirtual 71, 3) := by decide +kernel
theorem dX4_bidComes_106 : decode cX4_bidComes 106 = .ok (.aload_n 0, 1) := by decide +kernel
theorem dX4_bidComes_107 : decode cX4_bidComes 107 = .ok (.getfield 19, 3) := by decide +kernel
theorem dX4_bidComes_110 : decode cX4_bidComes 110 = .ok (.iload_n 2, 1) := by decide +kernel
theorem dX4_bidComes_111 : decode cX4_bidComes 111 = .ok (.iload_n 1, 1) := by decide +kernel
theorem dX4_bidComes_112 : decode cX4_bidComes 112 = .ok (.iastore, 1) := by decide +kernel
theorem dX4_bidComes_113 : decode cX4_bidComes 113 = .ok (.aload_n 0, 1) := by decide +kernel
theorem dX4_bidComes_114 : decode cX4_bidComes 114 = .ok (.getfield 22, 3) := by decide +kernel
theorem dX4_bidComes_117 : decode cX4_bidComes 117 = .ok (.iload_n 2, 1) := by decide +kernel
theorem dX4_bidComes_118 : decode cX4_bidComes 118 = .ok (.iload_n 3, 1) := by decide +kernel
theorem dX4_bidComes_119 : decode cX4_bidComes 119 = .ok (.iastore, 1) := by decide +kernel
theorem dX4_bidComes_120 : decode cX4_bidComes 120 = .ok (.aload_n 0, 1) := by decide +kernel
theorem dX4_bidComes_121 : decode cX4_bidComes 121 = .ok (.iconst 1, 1) := by decide +kernel
theorem dX4_bidComes_122 : decode cX4_bidComes 122 = .ok (.iload_n 1, 1) := by decide +kernel

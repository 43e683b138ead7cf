/-! decode rows (starting text: printed by TURN) -/
theorem dX4_bidComes_123 : decode cX4_bidComes 123 = .ok (.iload_n 2, 1) := by decide +kernel
theorem dX4_bidComes_124 : decode cX4_bidComes 124 = .ok (.iload_n 3, 1) := by decide +kernel
theorem dX4_bidComes_125 : decode cX4_bidComes 125 = .ok (.aload_n 0, 1) := by decide +kernel
theorem dX4_bidComes_126 : decode cX4_bidComes 126 = .ok (.getfield 16, 3) := by decide +kernel
theorem dX4_bidComes_129 : decode cX4_bidComes 129 = .ok (.iload_n 2, 1) := by decide +kernel
theorem dX4_bidComes_130 : decode cX4_bidComes 130 = .ok (.iaload, 1) := by decide +kernel
theorem dX4_bidComes_131 : decode cX4_bidComes 131 = .ok (.invokevirtual 71, 3) := by decide +kernel
theorem dX4_bidComes_134 : decode cX4_bidComes 134 = .ok (.return_, 1) := by decide +kernel
theorem dX4_answerComes_0 : decode cX4_answerComes 0 = .ok (.aload_n 0, 1) := by decide +kernel
theorem dX4_answerComes_1 : decode cX4_answerComes 1 = .ok (.getfield 13, 3) := by decide +kernel
theorem dX4_answerComes_4 : decode cX4_answerComes 4 = .ok (.bipush 6, 2) := by decide +kernel
theorem dX4_answerComes_6 : decode cX4_answerComes 6 = .ok (.iload_n 2, 1) := by decide +kernel
theorem dX4_answerComes_7 : decode cX4_answerComes 7 = .ok (.imul, 1) := by decide +kernel
theorem dX4_answerComes_8 : decode cX4_answerComes 8 = .ok (.iload_n 3, 1) := by decide +kernel
theorem dX4_answerComes_9 : decode cX4_answerComes 9 = .ok (.iadd, 1) := by decide +kernel
theorem dX4_answerComes_10 : decode cX4_answerComes 10 = .ok (.iload 5, 2) := by decide +kernel
theorem dX4_answerComes_12 : decode cX4_answerComes 12 = .ok (.aload_n 0, 1) := by decide +kernel
theorem dX4_answerComes_13 : decode cX4_answerComes 13 = .ok (.getfield 13, 3) := by decide +kernel
theorem dX4_answerComes_16 : decode cX4_answerComes 16 = .ok (.bipush 6, 2) := by decide +kernel
theorem dX4_answerComes_18 : decode cX4_answerComes 18 = .ok (.iload_n 2, 1) := by decide +kernel
theorem dX4_answerComes_19 : decode cX4_answerComes 19 = .ok (.imul, 1) := by decide +kernel
theorem dX4_answerComes_20 : decode cX4_answerComes 20 = .ok (.iload_n 3, 1) := by decide +kernel
theorem dX4_answerComes_21 : decode cX4_answerComes 21 = .ok (.iadd, 1) := by decide +kernel
theorem dX4_answerComes_22 : decode cX4_answerComes 22 = .ok (.iaload, 1) := by decide +kernel
theorem dX4_answerComes_23 : decode cX4_answerComes 23 = .ok (.if_icmp .le 8, 3) := by decide +kernel
theorem dX4_answerComes_26 : decode cX4_answerComes 26 = .ok (.iload 5, 2) := by decide +kernel
theorem dX4_answerComes_28 : decode cX4_answerComes 28 = .ok (.goto 14, 3) := by decide +kernel
theorem dX4_answerComes_31 : decode cX4_answerComes 31 = .ok (.aload_n 0, 1) := by decide +kernel
theorem dX4_answerComes_32 : decode cX4_answerComes 32 = .ok (.getfield 13, 3) := by decide +kernel
theorem dX4_answerComes_35 : decode cX4_answerComes 35 = .ok (.bipush 6, 2) := by decide +kernel
theorem dX4_answerComes_37 : decode cX4_answerComes 37 = .ok (.iload_n 2, 1) := by decide +kernel
theorem dX4_answerComes_38 : decode cX4_answerComes 38 = .ok (.imul, 1) := by decide +kernel
theorem dX4_answerComes_39 : decode cX4_answerComes 39 = .ok (.iload_n 3, 1) := by decide +kernel
theorem dX4_answerComes_40 : decode cX4_answerComes 40 = .ok (.iadd, 1) := by decide +kernel
theorem dX4_answerComes_41 : decode cX4_answerComes 41 = .ok (.iaload, 1) := by decide +kernel
theorem dX4_answerComes_42 : decode cX4_answerComes 42 = .ok (.iastore, 1) := by decide +kernel
theorem dX4_answerComes_43 : decode cX4_answerComes 43 = .ok (.iload 4, 2) := by decide +kernel
theorem dX4_answerComes_45 : decode cX4_answerComes 45 = .ok (.aload_n 0, 1) := by decide +kernel
theorem dX4_answerComes_46 : decode cX4_answerComes 46 = .ok (.getfield 31, 3) := by decide +kernel
theorem dX4_answerComes_49 : decode cX4_answerComes 49 = .ok (.iload_n 2, 1) := by decide +kernel
theorem dX4_answerComes_50 : decode cX4_answerComes 50 = .ok (.iaload, 1) := by decide +kernel
theorem dX4_answerComes_51 : decode cX4_answerComes 51 = .ok (.if_icmp .eq 4, 3) := by decide +kernel
theorem dX4_answerComes_54 : decode cX4_answerComes 54 = .ok (.return_, 1) := by decide +kernel
theorem dX4_answerComes_55 : decode cX4_answerComes 55 = .ok (.iload_n 1, 1) := by decide +kernel
theorem dX4_answerComes_56 : decode cX4_answerComes 56 = .ok (.iconst 1, 1) := by decide +kernel
theorem dX4_answerComes_57 : decode cX4_answerComes 57 = .ok (.if_icmp .ne 32, 3) := by decide +kernel
theorem dX4_answerComes_60 : decode cX4_answerComes 60 = .ok (.aload_n 0, 1) := by decide +kernel
theorem dX4_answerComes_61 : decode cX4_answerComes 61 = .ok (.getfield 25, 3) := by decide +kernel
theorem dX4_answerComes_64 : decode cX4_answerComes 64 = .ok (.iload_n 2, 1) := by decide +kernel
theorem dX4_answerComes_65 : decode cX4_answerComes 65 = .ok (.aload_n 0, 1) := by decide +kernel
theorem dX4_answerComes_66 : decode cX4_answerComes 66 = .ok (.getfield 25, 3) := by decide +kernel
theorem dX4_answerComes_69 : decode cX4_answerComes 69 = .ok (.iload_n 2, 1) := by decide +kernel
theorem dX4_answerComes_70 : decode cX4_answerComes 70 = .ok (.iaload, 1) := by decide +kernel
theorem dX4_answerComes_71 : decode cX4_answerComes 71 = .ok (.iconst 1, 1) := by decide +kernel
theorem dX4_answerComes_72 : decode cX4_answerComes 72 = .ok (.if_icmp .ne 7, 3) := by decide +kernel
theorem dX4_answerComes_75 : decode cX4_answerComes 75 = .ok (.iconst 2, 1) := by decide +kernel
theorem dX4_answerComes_76 : decode cX4_answerComes 76 = .ok (.goto 9, 3) := by decide +kernel
theorem dX4_answerComes_79 : decode cX4_answerComes 79 = .ok (.aload_n 0, 1) := by decide +kernel
theorem dX4_answerComes_80 : decode cX4_answerComes 80 = .ok (.getfield 25, 3) := by decide +kernel
theorem dX4_answerComes_83 : decode cX4_answerComes 83 = .ok (.iload_n 2, 1) := by decide +kernel
theorem dX4_answerComes_84 : decode cX4_answerComes 84 = .ok (.iaload, 1) := by decide +kernel
theorem dX4_answerComes_85 : decode cX4_answerComes 85 = .ok (.iastore, 1) := by decide +kernel
theorem dX4_answerComes_86 : decode cX4_answerComes 86 = .ok (.goto 17, 3) := by decide +kernel
theorem dX4_answerComes_89 : decode cX4_answerComes 89 = .ok (.aload_n 0, 1) := by decide +kernel
theorem dX4_answerComes_90 : decode cX4_answerComes 90 = .ok (.getfield 25, 3) := by decide +kernel
theorem dX4_answerComes_93 : decode cX4_answerComes 93 = .ok (.iload_n 2, 1) := by decide +kernel
theorem dX4_answerComes_94 : decode cX4_answerComes 94 = .ok (.iconst 0, 1) := by decide +kernel
theorem dX4_answerComes_95 : decode cX4_answerComes 95 = .ok (.iastore, 1) := by decide +kernel
theorem dX4_answerComes_96 : decode cX4_answerComes 96 = .ok (.aload_n 0, 1) := by decide +kernel
theorem dX4_answerComes_97 : decode cX4_answerComes 97 = .ok (.getfield 28, 3) := by decide +kernel
theorem dX4_answerComes_100 : decode cX4_answerComes 100 = .ok (.iload_n 2, 1) := by decide +kernel
theorem dX4_answerComes_101 : decode cX4_answerComes 101 = .ok (.iconst (-1), 1) := by decide +kernel
theorem dX4_answerComes_102 : decode cX4_answerComes 102 = .ok (.iastore, 1) := by decide +kernel
theorem dX4_answerComes_103 : decode cX4_answerComes 103 = .ok (.return_, 1) := by decide +kernel
theorem dX4_deliver_0 : decode cX4_deliver 0 = .ok (.aload_n 0, 1) := by decide +kernel
theorem dX4_deliver_1 : decode cX4_deliver 1 = .ok (.aload_n 0, 1) := by decide +kernel
theorem dX4_deliver_2 : decode cX4_deliver 2 = .ok (.iload_n 1, 1) := by decide +kernel
theorem dX4_deliver_3 : decode cX4_deliver 3 = .ok (.invokevirtual 75, 3) := by decide +kernel
theorem dX4_deliver_6 : decode cX4_deliver 6 = .ok (.ifCond .eq 7, 3) := by decide +kernel
theorem dX4_deliver_9 : decode cX4_deliver 9 = .ok (.iconst 1, 1) := by decide +kernel
theorem dX4_deliver_10 : decode cX4_deliver 10 = .ok (.goto 4, 3) := by decide +kernel
theorem dX4_deliver_13 : decode cX4_deliver 13 = .ok (.iconst 0, 1) := by decide +kernel
theorem dX4_deliver_14 : decode cX4_deliver 14 = .ok (.putfield 53, 3) := by decide +kernel
theorem dX4_deliver_17 : decode cX4_deliver 17 = .ok (.aload_n 0, 1) := by decide +kernel
theorem dX4_deliver_18 : decode cX4_deliver 18 = .ok (.getfield 53, 3) := by decide +kernel
theorem dX4_deliver_21 : decode cX4_deliver 21 = .ok (.ifCond .eq 5, 3) := by decide +kernel
theorem dX4_deliver_24 : decode cX4_deliver 24 = .ok (.iconst 0, 1) := by decide +kernel
theorem dX4_deliver_25 : decode cX4_deliver 25 = .ok (.ireturn, 1) := by decide +kernel
theorem dX4_deliver_26 : decode cX4_deliver 26 = .ok (.aload_n 0, 1) := by decide +kernel
theorem dX4_deliver_27 : decode cX4_deliver 27 = .ok (.getfield 37, 3) := by decide +kernel
theorem dX4_deliver_30 : decode cX4_deliver 30 = .ok (.iconst 5, 1) := by decide +kernel
theorem dX4_deliver_31 : decode cX4_deliver 31 = .ok (.iload_n 1, 1) := by decide +kernel
theorem dX4_deliver_32 : decode cX4_deliver 32 = .ok (.imul, 1) := by decide +kernel
theorem dX4_deliver_33 : decode cX4_deliver 33 = .ok (.iaload, 1) := by decide +kernel
theorem dX4_deliver_34 : decode cX4_deliver 34 = .ok (.istore_n 2, 1) := by decide +kernel
theorem dX4_deliver_35 : decode cX4_deliver 35 = .ok (.aload_n 0, 1) := by decide +kernel
theorem dX4_deliver_36 : decode cX4_deliver 36 = .ok (.getfield 37, 3) := by decide +kernel
theorem dX4_deliver_39 : decode cX4_deliver 39 = .ok (.iconst 5, 1) := by decide +kernel
theorem dX4_deliver_40 : decode cX4_deliver 40 = .ok (.iload_n 1, 1) := by decide +kernel
theorem dX4_deliver_41 : decode cX4_deliver 41 = .ok (.imul, 1) := by decide +kernel
theorem dX4_deliver_42 : decode cX4_deliver 42 = .ok (.iconst 1, 1) := by decide +kernel
theorem dX4_deliver_43 : decode cX4_deliver 43 = .ok (.iadd, 1) := by decide +kernel
theorem dX4_deliver_44 : decode cX4_deliver 44 = .ok (.iaload, 1) := by decide +kernel
theorem dX4_deliver_45 : decode cX4_deliver 45 = .ok (.istore_n 3, 1) := by decide +kernel
theorem dX4_deliver_46 : decode cX4_deliver 46 = .ok (.aload_n 0, 1) := by decide +kernel
theorem dX4_deliver_47 : decode cX4_deliver 47 = .ok (.getfield 37, 3) := by decide +kernel
theorem dX4_deliver_50 : decode cX4_deliver 50 = .ok (.iconst 5, 1) := by decide +kernel
theorem dX4_deliver_51 : decode cX4_deliver 51 = .ok (.iload_n 1, 1) := by decide +kernel
theorem dX4_deliver_52 : decode cX4_deliver 52 = .ok (.imul, 1) := by decide +kernel
theorem dX4_deliver_53 : decode cX4_deliver 53 = .ok (.iconst 2, 1) := by decide +kernel
theorem dX4_deliver_54 : decode cX4_deliver 54 = .ok (.iadd, 1) := by decide +kernel
theorem dX4_deliver_55 : decode cX4_deliver 55 = .ok (.iaload, 1) := by decide +kernel
theorem dX4_deliver_56 : decode cX4_deliver 56 = .ok (.istore 4, 2) := by decide +kernel
theorem dX4_deliver_58 : decode cX4_deliver 58 = .ok (.aload_n 0, 1) := by decide +kernel
theorem dX4_deliver_59 : decode cX4_deliver 59 = .ok (.getfield 37, 3) := by decide +kernel
theorem dX4_deliver_62 : decode cX4_deliver 62 = .ok (.iconst 5, 1) := by decide +kernel
theorem dX4_deliver_63 : decode cX4_deliver 63 = .ok (.iload_n 1, 1) := by decide +kernel
theorem dX4_deliver_64 : decode cX4_deliver 64 = .ok (.imul, 1) := by decide +kernel
theorem dX4_deliver_65 : decode cX4_deliver 65 = .ok (.iconst 3, 1) := by decide +kernel
theorem dX4_deliver_66 : decode cX4_deliver 66 = .ok (.iadd, 1) := by decide +kernel
theorem dX4_deliver_67 : decode cX4_deliver 67 = .ok (.iaload, 1) := by decide +kernel
theorem dX4_deliver_68 : decode cX4_deliver 68 = .ok (.istore 5, 2) := by decide +kernel
theorem dX4_deliver_70 : decode cX4_deliver 70 = .ok (.aload_n 0, 1) := by decide +kernel
theorem dX4_deliver_71 : decode cX4_deliver 71 = .ok (.getfield 37, 3) := by decide +kernel
theorem dX4_deliver_74 : decode cX4_deliver 74 = .ok (.iconst 5, 1) := by decide +kernel
theorem dX4_deliver_75 : decode cX4_deliver 75 = .ok (.iload_n 1, 1) := by decide +kernel
theorem dX4_deliver_76 : decode cX4_deliver 76 = .ok (.imul, 1) := by decide +kernel
theorem dX4_deliver_77 : decode cX4_deliver 77 = .ok (.iconst 4, 1) := by decide +kernel
theorem dX4_deliver_78 : decode cX4_deliver 78 = .ok (.iadd, 1) := by decide +kernel
theorem dX4_deliver_79 : decode cX4_deliver 79 = .ok (.iaload, 1) := by decide +kernel
theorem dX4_deliver_80 : decode cX4_deliver 80 = .ok (.istore 6, 2) := by decide +kernel
theorem dX4_deliver_82 : decode cX4_deliver 82 = .ok (.aload_n 0, 1) := by decide +kernel
theorem dX4_deliver_83 : decode cX4_deliver 83 = .ok (.iload_n 1, 1) := by decide +kernel
theorem dX4_deliver_84 : decode cX4_deliver 84 = .ok (.invokevirtual 78, 3) := by decide +kernel
theorem dX4_deliver_87 : decode cX4_deliver 87 = .ok (.iload_n 2, 1) := by decide +kernel
theorem dX4_deliver_88 : decode cX4_deliver 88 = .ok (.ifCond .ne 17, 3) := by decide +kernel
theorem dX4_deliver_91 : decode cX4_deliver 91 = .ok (.aload_n 0, 1) := by decide +kernel
theorem dX4_deliver_92 : decode cX4_deliver 92 = .ok (.iload_n 3, 1) := by decide +kernel
theorem dX4_deliver_93 : decode cX4_deliver 93 = .ok (.iload 4, 2) := by decide +kernel
theorem dX4_deliver_95 : decode cX4_deliver 95 = .ok (.iload 5, 2) := by decide +kernel
theorem dX4_deliver_97 : decode cX4_deliver 97 = .ok (.iload 6, 2) := by decide +kernel
theorem dX4_deliver_99 : decode cX4_deliver 99 = .ok (.invokevirtual 82, 3) := by decide +kernel
theorem dX4_deliver_102 : decode cX4_deliver 102 = .ok (.goto 15, 3) := by decide +kernel
theorem dX4_deliver_105 : decode cX4_deliver 105 = .ok (.aload_n 0, 1) := by decide +kernel
theorem dX4_deliver_106 : decode cX4_deliver 106 = .ok (.iload_n 2, 1) := by decide +kernel
theorem dX4_deliver_107 : decode cX4_deliver 107 = .ok (.iload_n 3, 1) := by decide +kernel
theorem dX4_deliver_108 : decode cX4_deliver 108 = .ok (.iload 4, 2) := by decide +kernel
theorem dX4_deliver_110 : decode cX4_deliver 110 = .ok (.iload 5, 2) := by decide +kernel
theorem dX4_deliver_112 : decode cX4_deliver 112 = .ok (.iload 6, 2) := by decide +kernel
theorem dX4_deliver_114 : decode cX4_deliver 114 = .ok (.invokevirtual 86, 3) := by decide +kernel
theorem dX4_deliver_117 : decode cX4_deliver 117 = .ok (.iload_n 2, 1) := by decide +kernel
theorem dX4_deliver_118 : decode cX4_deliver 118 = .ok (.ireturn, 1) := by decide +kernel
theorem dX4_lose_0 : decode cX4_lose 0 = .ok (.aload_n 0, 1) := by decide +kernel
theorem dX4_lose_1 : decode cX4_lose 1 = .ok (.aload_n 0, 1) := by decide +kernel
theorem dX4_lose_2 : decode cX4_lose 2 = .ok (.iload_n 1, 1) := by decide +kernel
theorem dX4_lose_3 : decode cX4_lose 3 = .ok (.invokevirtual 75, 3) := by decide +kernel
theorem dX4_lose_6 : decode cX4_lose 6 = .ok (.ifCond .eq 7, 3) := by decide +kernel
theorem dX4_lose_9 : decode cX4_lose 9 = .ok (.iconst 1, 1) := by decide +kernel
theorem dX4_lose_10 : decode cX4_lose 10 = .ok (.goto 4, 3) := by decide +kernel
theorem dX4_lose_13 : decode cX4_lose 13 = .ok (.iconst 0, 1) := by decide +kernel
theorem dX4_lose_14 : decode cX4_lose 14 = .ok (.putfield 53, 3) := by decide +kernel
theorem dX4_lose_17 : decode cX4_lose 17 = .ok (.aload_n 0, 1) := by decide +kernel
theorem dX4_lose_18 : decode cX4_lose 18 = .ok (.getfield 53, 3) := by decide +kernel
theorem dX4_lose_21 : decode cX4_lose 21 = .ok (.ifCond .ne 8, 3) := by decide +kernel
theorem dX4_lose_24 : decode cX4_lose 24 = .ok (.aload_n 0, 1) := by decide +kernel
theorem dX4_lose_25 : decode cX4_lose 25 = .ok (.iload_n 1, 1) := by decide +kernel
theorem dX4_lose_26 : decode cX4_lose 26 = .ok (.invokevirtual 78, 3) := by decide +kernel
theorem dX4_lose_29 : decode cX4_lose 29 = .ok (.aload_n 0, 1) := by decide +kernel
theorem dX4_lose_30 : decode cX4_lose 30 = .ok (.getfield 53, 3) := by decide +kernel
theorem dX4_lose_33 : decode cX4_lose 33 = .ok (.ifCond .ne 10, 3) := by decide +kernel
theorem dX4_lose_36 : decode cX4_lose 36 = .ok (.aload_n 0, 1) := by decide +kernel
theorem dX4_lose_37 : decode cX4_lose 37 = .ok (.getfield 56, 3) := by decide +kernel
theorem dX4_lose_40 : decode cX4_lose 40 = .ok (.goto 4, 3) := by decide +kernel
theorem dX4_lose_43 : decode cX4_lose 43 = .ok (.iconst 0, 1) := by decide +kernel
theorem dX4_lose_44 : decode cX4_lose 44 = .ok (.ireturn, 1) := by decide +kernel
theorem dX4_twin_0 : decode cX4_twin 0 = .ok (.aload_n 0, 1) := by decide +kernel
theorem dX4_twin_1 : decode cX4_twin 1 = .ok (.aload_n 0, 1) := by decide +kernel
theorem dX4_twin_2 : decode cX4_twin 2 = .ok (.iload_n 1, 1) := by decide +kernel
theorem dX4_twin_3 : decode cX4_twin 3 = .ok (.invokevirtual 75, 3) := by decide +kernel
theorem dX4_twin_6 : decode cX4_twin 6 = .ok (.ifCond .eq 7, 3) := by decide +kernel
theorem dX4_twin_9 : decode cX4_twin 9 = .ok (.iconst 1, 1) := by decide +kernel
theorem dX4_twin_10 : decode cX4_twin 10 = .ok (.goto 17, 3) := by decide +kernel
theorem dX4_twin_13 : decode cX4_twin 13 = .ok (.aload_n 0, 1) := by decide +kernel
theorem dX4_twin_14 : decode cX4_twin 14 = .ok (.getfield 56, 3) := by decide +kernel
theorem dX4_twin_17 : decode cX4_twin 17 = .ok (.bipush 39, 2) := by decide +kernel
theorem dX4_twin_19 : decode cX4_twin 19 = .ok (.if_icmp .le 7, 3) := by decide +kernel
theorem dX4_twin_22 : decode cX4_twin 22 = .ok (.iconst 2, 1) := by decide +kernel
theorem dX4_twin_23 : decode cX4_twin 23 = .ok (.goto 4, 3) := by decide +kernel
theorem dX4_twin_26 : decode cX4_twin 26 = .ok (.iconst 0, 1) := by decide +kernel
theorem dX4_twin_27 : decode cX4_twin 27 = .ok (.putfield 53, 3) := by decide +kernel
theorem dX4_twin_30 : decode cX4_twin 30 = .ok (.aload_n 0, 1) := by decide +kernel
theorem dX4_twin_31 : decode cX4_twin 31 = .ok (.getfield 53, 3) := by decide +kernel
theorem dX4_twin_34 : decode cX4_twin 34 = .ok (.ifCond .eq 5, 3) := by decide +kernel
theorem dX4_twin_37 : decode cX4_twin 37 = .ok (.iconst 0, 1) := by decide +kernel
theorem dX4_twin_38 : decode cX4_twin 38 = .ok (.ireturn, 1) := by decide +kernel
theorem dX4_twin_39 : decode cX4_twin 39 = .ok (.iconst 0, 1) := by decide +kernel
theorem dX4_twin_40 : decode cX4_twin 40 = .ok (.istore_n 2, 1) := by decide +kernel
theorem dX4_twin_41 : decode cX4_twin 41 = .ok (.iload_n 2, 1) := by decide +kernel
theorem dX4_twin_42 : decode cX4_twin 42 = .ok (.iconst 5, 1) := by decide +kernel
theorem dX4_twin_43 : decode cX4_twin 43 = .ok (.if_icmp .ge 32, 3) := by decide +kernel
theorem dX4_twin_46 : decode cX4_twin 46 = .ok (.aload_n 0, 1) := by decide +kernel
theorem dX4_twin_47 : decode cX4_twin 47 = .ok (.getfield 37, 3) := by decide +kernel
theorem dX4_twin_50 : decode cX4_twin 50 = .ok (.iconst 5, 1) := by decide +kernel
theorem dX4_twin_51 : decode cX4_twin 51 = .ok (.aload_n 0, 1) := by decide +kernel
theorem dX4_twin_52 : decode cX4_twin 52 = .ok (.getfield 56, 3) := by decide +kernel
theorem dX4_twin_55 : decode cX4_twin 55 = .ok (.imul, 1) := by decide +kernel
theorem dX4_twin_56 : decode cX4_twin 56 = .ok (.iload_n 2, 1) := by decide +kernel
theorem dX4_twin_57 : decode cX4_twin 57 = .ok (.iadd, 1) := by decide +kernel
theorem dX4_twin_58 : decode cX4_twin 58 = .ok (.aload_n 0, 1) := by decide +kernel
theorem dX4_twin_59 : decode cX4_twin 59 = .ok (.getfield 37, 3) := by decide +kernel
theorem dX4_twin_62 : decode cX4_twin 62 = .ok (.iconst 5, 1) := by decide +kernel
theorem dX4_twin_63 : decode cX4_twin 63 = .ok (.iload_n 1, 1) := by decide +kernel
theorem dX4_twin_64 : decode cX4_twin 64 = .ok (.imul, 1) := by decide +kernel
theorem dX4_twin_65 : decode cX4_twin 65 = .ok (.iload_n 2, 1) := by decide +kernel
theorem dX4_twin_66 : decode cX4_twin 66 = .ok (.iadd, 1) := by decide +kernel
theorem dX4_twin_67 : decode cX4_twin 67 = .ok (.iaload, 1) := by decide +kernel
theorem dX4_twin_68 : decode cX4_twin 68 = .ok (.iastore, 1) := by decide +kernel
theorem dX4_twin_69 : decode cX4_twin 69 = .ok (.iinc 2 1, 3) := by decide +kernel
theorem dX4_twin_72 : decode cX4_twin 72 = .ok (.goto (-31), 3) := by decide +kernel
theorem dX4_twin_75 : decode cX4_twin 75 = .ok (.aload_n 0, 1) := by decide +kernel
theorem dX4_twin_76 : decode cX4_twin 76 = .ok (.dup, 1) := by decide +kernel
theorem dX4_twin_77 : decode cX4_twin 77 = .ok (.getfield 56, 3) := by decide +kernel
theorem dX4_twin_80 : decode cX4_twin 80 = .ok (.iconst 1, 1) := by decide +kernel
theorem dX4_twin_81 : decode cX4_twin 81 = .ok (.iadd, 1) := by decide +kernel
theorem dX4_twin_82 : decode cX4_twin 82 = .ok (.putfield 56, 3) := by decide +kernel
theorem dX4_twin_85 : decode cX4_twin 85 = .ok (.aload_n 0, 1) := by decide +kernel
theorem dX4_twin_86 : decode cX4_twin 86 = .ok (.getfield 56, 3) := by decide +kernel
theorem dX4_twin_89 : decode cX4_twin 89 = .ok (.ireturn, 1) := by decide +kernel
theorem dX4_letters_0 : decode cX4_letters 0 = .ok (.aload_n 0, 1) := by decide +kernel
theorem dX4_letters_1 : decode cX4_letters 1 = .ok (.iconst 0, 1) := by decide +kernel
theorem dX4_letters_2 : decode cX4_letters 2 = .ok (.putfield 53, 3) := by decide +kernel
theorem dX4_letters_5 : decode cX4_letters 5 = .ok (.aload_n 0, 1) := by decide +kernel
theorem dX4_letters_6 : decode cX4_letters 6 = .ok (.getfield 56, 3) := by decide +kernel
theorem dX4_letters_9 : decode cX4_letters 9 = .ok (.ireturn, 1) := by decide +kernel
theorem dX4_letter_0 : decode cX4_letter 0 = .ok (.aload_n 0, 1) := by decide +kernel
theorem dX4_letter_1 : decode cX4_letter 1 = .ok (.aload_n 0, 1) := by decide +kernel
theorem dX4_letter_2 : decode cX4_letter 2 = .ok (.iload_n 1, 1) := by decide +kernel
theorem dX4_letter_3 : decode cX4_letter 3 = .ok (.invokevirtual 75, 3) := by decide +kernel
theorem dX4_letter_6 : decode cX4_letter 6 = .ok (.ifCond .eq 7, 3) := by decide +kernel
theorem dX4_letter_9 : decode cX4_letter 9 = .ok (.iconst 1, 1) := by decide +kernel
theorem dX4_letter_10 : decode cX4_letter 10 = .ok (.goto 17, 3) := by decide +kernel
theorem dX4_letter_13 : decode cX4_letter 13 = .ok (.iload_n 2, 1) := by decide +kernel
theorem dX4_letter_14 : decode cX4_letter 14 = .ok (.ifCond .lt 8, 3) := by decide +kernel
theorem dX4_letter_17 : decode cX4_letter 17 = .ok (.iload_n 2, 1) := by decide +kernel
theorem dX4_letter_18 : decode cX4_letter 18 = .ok (.iconst 4, 1) := by decide +kernel
theorem dX4_letter_19 : decode cX4_letter 19 = .ok (.if_icmp .le 7, 3) := by decide +kernel
theorem dX4_letter_22 : decode cX4_letter 22 = .ok (.iconst 2, 1) := by decide +kernel
theorem dX4_letter_23 : decode cX4_letter 23 = .ok (.goto 4, 3) := by decide +kernel
theorem dX4_letter_26 : decode cX4_letter 26 = .ok (.iconst 0, 1) := by decide +kernel
theorem dX4_letter_27 : decode cX4_letter 27 = .ok (.putfield 53, 3) := by decide +kernel
theorem dX4_letter_30 : decode cX4_letter 30 = .ok (.aload_n 0, 1) := by decide +kernel
theorem dX4_letter_31 : decode cX4_letter 31 = .ok (.getfield 53, 3) := by decide +kernel
theorem dX4_letter_34 : decode cX4_letter 34 = .ok (.ifCond .ne 16, 3) := by decide +kernel
theorem dX4_letter_37 : decode cX4_letter 37 = .ok (.aload_n 0, 1) := by decide +kernel
theorem dX4_letter_38 : decode cX4_letter 38 = .ok (.getfield 37, 3) := by decide +kernel
theorem dX4_letter_41 : decode cX4_letter 41 = .ok (.iconst 5, 1) := by decide +kernel
theorem dX4_letter_42 : decode cX4_letter 42 = .ok (.iload_n 1, 1) := by decide +kernel
theorem dX4_letter_43 : decode cX4_letter 43 = .ok (.imul, 1) := by decide +kernel
theorem dX4_letter_44 : decode cX4_letter 44 = .ok (.iload_n 2, 1) := by decide +kernel
theorem dX4_letter_45 : decode cX4_letter 45 = .ok (.iadd, 1) := by decide +kernel
theorem dX4_letter_46 : decode cX4_letter 46 = .ok (.iaload, 1) := by decide +kernel
theorem dX4_letter_47 : decode cX4_letter 47 = .ok (.goto 4, 3) := by decide +kernel
theorem dX4_letter_50 : decode cX4_letter 50 = .ok (.iconst 0, 1) := by decide +kernel
theorem dX4_letter_51 : decode cX4_letter 51 = .ok (.ireturn, 1) := by decide +kernel
theorem dX4_profitOf_0 : decode cX4_profitOf 0 = .ok (.aload_n 0, 1) := by decide +kernel
theorem dX4_profitOf_1 : decode cX4_profitOf 1 = .ok (.getfield 7, 3) := by decide +kernel
theorem dX4_profitOf_4 : decode cX4_profitOf 4 = .ok (.bipush 6, 2) := by decide +kernel
theorem dX4_profitOf_6 : decode cX4_profitOf 6 = .ok (.iload_n 1, 1) := by decide +kernel
theorem dX4_profitOf_7 : decode cX4_profitOf 7 = .ok (.imul, 1) := by decide +kernel
theorem dX4_profitOf_8 : decode cX4_profitOf 8 = .ok (.iaload, 1) := by decide +kernel
theorem dX4_profitOf_9 : decode cX4_profitOf 9 = .ok (.aload_n 0, 1) := by decide +kernel
theorem dX4_profitOf_10 : decode cX4_profitOf 10 = .ok (.getfield 43, 3) := by decide +kernel
theorem dX4_profitOf_13 : decode cX4_profitOf 13 = .ok (.iconst 1, 1) := by decide +kernel
theorem dX4_profitOf_14 : decode cX4_profitOf 14 = .ok (.iadd, 1) := by decide +kernel
theorem dX4_profitOf_15 : decode cX4_profitOf 15 = .ok (.imul, 1) := by decide +kernel
theorem dX4_profitOf_16 : decode cX4_profitOf 16 = .ok (.aload_n 0, 1) := by decide +kernel
theorem dX4_profitOf_17 : decode cX4_profitOf 17 = .ok (.getfield 16, 3) := by decide +kernel
theorem dX4_profitOf_20 : decode cX4_profitOf 20 = .ok (.iconst 0, 1) := by decide +kernel
theorem dX4_profitOf_21 : decode cX4_profitOf 21 = .ok (.iaload, 1) := by decide +kernel
theorem dX4_profitOf_22 : decode cX4_profitOf 22 = .ok (.isub, 1) := by decide +kernel
theorem dX4_profitOf_23 : decode cX4_profitOf 23 = .ok (.istore_n 2, 1) := by decide +kernel
theorem dX4_profitOf_24 : decode cX4_profitOf 24 = .ok (.iconst 1, 1) := by decide +kernel
theorem dX4_profitOf_25 : decode cX4_profitOf 25 = .ok (.istore_n 3, 1) := by decide +kernel
theorem dX4_profitOf_26 : decode cX4_profitOf 26 = .ok (.iload_n 3, 1) := by decide +kernel
theorem dX4_profitOf_27 : decode cX4_profitOf 27 = .ok (.aload_n 0, 1) := by decide +kernel
theorem dX4_profitOf_28 : decode cX4_profitOf 28 = .ok (.getfield 43, 3) := by decide +kernel
theorem dX4_profitOf_31 : decode cX4_profitOf 31 = .ok (.if_icmp .ge 49, 3) := by decide +kernel
theorem dX4_profitOf_34 : decode cX4_profitOf 34 = .ok (.aload_n 0, 1) := by decide +kernel
theorem dX4_profitOf_35 : decode cX4_profitOf 35 = .ok (.getfield 7, 3) := by decide +kernel
theorem dX4_profitOf_38 : decode cX4_profitOf 38 = .ok (.bipush 6, 2) := by decide +kernel
theorem dX4_profitOf_40 : decode cX4_profitOf 40 = .ok (.iload_n 1, 1) := by decide +kernel
theorem dX4_profitOf_41 : decode cX4_profitOf 41 = .ok (.imul, 1) := by decide +kernel
theorem dX4_profitOf_42 : decode cX4_profitOf 42 = .ok (.iload_n 3, 1) := by decide +kernel
theorem dX4_profitOf_43 : decode cX4_profitOf 43 = .ok (.iadd, 1) := by decide +kernel
theorem dX4_profitOf_44 : decode cX4_profitOf 44 = .ok (.iaload, 1) := by decide +kernel
theorem dX4_profitOf_45 : decode cX4_profitOf 45 = .ok (.aload_n 0, 1) := by decide +kernel
theorem dX4_profitOf_46 : decode cX4_profitOf 46 = .ok (.getfield 43, 3) := by decide +kernel
theorem dX4_profitOf_49 : decode cX4_profitOf 49 = .ok (.iconst 1, 1) := by decide +kernel
theorem dX4_profitOf_50 : decode cX4_profitOf 50 = .ok (.iadd, 1) := by decide +kernel
theorem dX4_profitOf_51 : decode cX4_profitOf 51 = .ok (.imul, 1) := by decide +kernel
theorem dX4_profitOf_52 : decode cX4_profitOf 52 = .ok (.aload_n 0, 1) := by decide +kernel
theorem dX4_profitOf_53 : decode cX4_profitOf 53 = .ok (.getfield 16, 3) := by decide +kernel
theorem dX4_profitOf_56 : decode cX4_profitOf 56 = .ok (.iload_n 3, 1) := by decide +kernel
theorem dX4_profitOf_57 : decode cX4_profitOf 57 = .ok (.iaload, 1) := by decide +kernel
theorem dX4_profitOf_58 : decode cX4_profitOf 58 = .ok (.isub, 1) := by decide +kernel
theorem dX4_profitOf_59 : decode cX4_profitOf 59 = .ok (.istore 4, 2) := by decide +kernel
theorem dX4_profitOf_61 : decode cX4_profitOf 61 = .ok (.iload 4, 2) := by decide +kernel
theorem dX4_profitOf_63 : decode cX4_profitOf 63 = .ok (.iload_n 2, 1) := by decide +kernel
theorem dX4_profitOf_64 : decode cX4_profitOf 64 = .ok (.if_icmp .le 8, 3) := by decide +kernel
theorem dX4_profitOf_67 : decode cX4_profitOf 67 = .ok (.iload 4, 2) := by decide +kernel
theorem dX4_profitOf_69 : decode cX4_profitOf 69 = .ok (.goto 4, 3) := by decide +kernel
theorem dX4_profitOf_72 : decode cX4_profitOf 72 = .ok (.iload_n 2, 1) := by decide +kernel
theorem dX4_profitOf_73 : decode cX4_profitOf 73 = .ok (.istore_n 2, 1) := by decide +kernel
theorem dX4_profitOf_74 : decode cX4_profitOf 74 = .ok (.iinc 3 1, 3) := by decide +kernel
theorem dX4_profitOf_77 : decode cX4_profitOf 77 = .ok (.goto (-51), 3) := by decide +kernel
theorem dX4_profitOf_80 : decode cX4_profitOf 80 = .ok (.iload_n 2, 1) := by decide +kernel
theorem dX4_profitOf_81 : decode cX4_profitOf 81 = .ok (.ireturn, 1) := by decide +kernel
theorem dX4_crew_0 : decode cX4_crew 0 = .ok (.aload_n 0, 1) := by decide +kernel
theorem dX4_crew_1 : decode cX4_crew 1 = .ok (.aload_n 0, 1) := by decide +kernel
theorem dX4_crew_2 : decode cX4_crew 2 = .ok (.iload_n 1, 1) := by decide +kernel
theorem dX4_crew_3 : decode cX4_crew 3 = .ok (.invokevirtual 63, 3) := by decide +kernel
theorem dX4_crew_6 : decode cX4_crew 6 = .ok (.ifCond .ne 12, 3) := by decide +kernel
theorem dX4_crew_9 : decode cX4_crew 9 = .ok (.iload_n 2, 1) := by decide +kernel
theorem dX4_crew_10 : decode cX4_crew 10 = .ok (.ifCond .lt 8, 3) := by decide +kernel
theorem dX4_crew_13 : decode cX4_crew 13 = .ok (.iload_n 2, 1) := by decide +kernel
theorem dX4_crew_14 : decode cX4_crew 14 = .ok (.iconst 3, 1) := by decide +kernel
theorem dX4_crew_15 : decode cX4_crew 15 = .ok (.if_icmp .le 7, 3) := by decide +kernel
theorem dX4_crew_18 : decode cX4_crew 18 = .ok (.iconst 1, 1) := by decide +kernel
theorem dX4_crew_19 : decode cX4_crew 19 = .ok (.goto 4, 3) := by decide +kernel
theorem dX4_crew_22 : decode cX4_crew 22 = .ok (.iconst 0, 1) := by decide +kernel
theorem dX4_crew_23 : decode cX4_crew 23 = .ok (.putfield 53, 3) := by decide +kernel
theorem dX4_crew_26 : decode cX4_crew 26 = .ok (.aload_n 0, 1) := by decide +kernel
theorem dX4_crew_27 : decode cX4_crew 27 = .ok (.getfield 53, 3) := by decide +kernel
theorem dX4_crew_30 : decode cX4_crew 30 = .ok (.ifCond .eq 5, 3) := by decide +kernel
theorem dX4_crew_33 : decode cX4_crew 33 = .ok (.iconst 0, 1) := by decide +kernel
theorem dX4_crew_34 : decode cX4_crew 34 = .ok (.ireturn, 1) := by decide +kernel
theorem dX4_crew_35 : decode cX4_crew 35 = .ok (.iload_n 2, 1) := by decide +kernel
theorem dX4_crew_36 : decode cX4_crew 36 = .ok (.ifCond .ne 12, 3) := by decide +kernel
theorem dX4_crew_39 : decode cX4_crew 39 = .ok (.aload_n 0, 1) := by decide +kernel
theorem dX4_crew_40 : decode cX4_crew 40 = .ok (.getfield 25, 3) := by decide +kernel
theorem dX4_crew_43 : decode cX4_crew 43 = .ok (.iload_n 1, 1) := by decide +kernel
theorem dX4_crew_44 : decode cX4_crew 44 = .ok (.iaload, 1) := by decide +kernel
theorem dX4_crew_45 : decode cX4_crew 45 = .ok (.goto 36, 3) := by decide +kernel
theorem dX4_crew_48 : decode cX4_crew 48 = .ok (.iload_n 2, 1) := by decide +kernel
theorem dX4_crew_49 : decode cX4_crew 49 = .ok (.iconst 1, 1) := by decide +kernel
theorem dX4_crew_50 : decode cX4_crew 50 = .ok (.if_icmp .ne 12, 3) := by decide +kernel
theorem dX4_crew_53 : decode cX4_crew 53 = .ok (.aload_n 0, 1) := by decide +kernel
theorem dX4_crew_54 : decode cX4_crew 54 = .ok (.getfield 28, 3) := by decide +kernel
theorem dX4_crew_57 : decode cX4_crew 57 = .ok (.iload_n 1, 1) := by decide +kernel
theorem dX4_crew_58 : decode cX4_crew 58 = .ok (.iaload, 1) := by decide +kernel
theorem dX4_crew_59 : decode cX4_crew 59 = .ok (.goto 22, 3) := by decide +kernel
theorem dX4_crew_62 : decode cX4_crew 62 = .ok (.iload_n 2, 1) := by decide +kernel
theorem dX4_crew_63 : decode cX4_crew 63 = .ok (.iconst 2, 1) := by decide +kernel
theorem dX4_crew_64 : decode cX4_crew 64 = .ok (.if_icmp .ne 12, 3) := by decide +kernel
theorem dX4_crew_67 : decode cX4_crew 67 = .ok (.aload_n 0, 1) := by decide +kernel
theorem dX4_crew_68 : decode cX4_crew 68 = .ok (.getfield 31, 3) := by decide +kernel
theorem dX4_crew_71 : decode cX4_crew 71 = .ok (.iload_n 1, 1) := by decide +kernel
theorem dX4_crew_72 : decode cX4_crew 72 = .ok (.iaload, 1) := by decide +kernel
theorem dX4_crew_73 : decode cX4_crew 73 = .ok (.goto 8, 3) := by decide +kernel
theorem dX4_crew_76 : decode cX4_crew 76 = .ok (.aload_n 0, 1) := by decide +kernel
theorem dX4_crew_77 : decode cX4_crew 77 = .ok (.iload_n 1, 1) := by decide +kernel
theorem dX4_crew_78 : decode cX4_crew 78 = .ok (.invokevirtual 89, 3) := by decide +kernel
theorem dX4_crew_81 : decode cX4_crew 81 = .ok (.ireturn, 1) := by decide +kernel
theorem dX4_known_0 : decode cX4_known 0 = .ok (.aload_n 0, 1) := by decide +kernel
theorem dX4_known_1 : decode cX4_known 1 = .ok (.aload_n 0, 1) := by decide +kernel
theorem dX4_known_2 : decode cX4_known 2 = .ok (.iload_n 1, 1) := by decide +kernel
theorem dX4_known_3 : decode cX4_known 3 = .ok (.invokevirtual 63, 3) := by decide +kernel
theorem dX4_known_6 : decode cX4_known 6 = .ok (.ifCond .ne 11, 3) := by decide +kernel
theorem dX4_known_9 : decode cX4_known 9 = .ok (.aload_n 0, 1) := by decide +kernel
theorem dX4_known_10 : decode cX4_known 10 = .ok (.iload_n 2, 1) := by decide +kernel
theorem dX4_known_11 : decode cX4_known 11 = .ok (.invokevirtual 63, 3) := by decide +kernel
theorem dX4_known_14 : decode cX4_known 14 = .ok (.ifCond .eq 7, 3) := by decide +kernel
theorem dX4_known_17 : decode cX4_known 17 = .ok (.iconst 1, 1) := by decide +kernel
theorem dX4_known_18 : decode cX4_known 18 = .ok (.goto 4, 3) := by decide +kernel
theorem dX4_known_21 : decode cX4_known 21 = .ok (.iconst 0, 1) := by decide +kernel
theorem dX4_known_22 : decode cX4_known 22 = .ok (.putfield 53, 3) := by decide +kernel
theorem dX4_known_25 : decode cX4_known 25 = .ok (.aload_n 0, 1) := by decide +kernel
theorem dX4_known_26 : decode cX4_known 26 = .ok (.getfield 53, 3) := by decide +kernel
theorem dX4_known_29 : decode cX4_known 29 = .ok (.ifCond .ne 17, 3) := by decide +kernel
theorem dX4_known_32 : decode cX4_known 32 = .ok (.aload_n 0, 1) := by decide +kernel
theorem dX4_known_33 : decode cX4_known 33 = .ok (.getfield 13, 3) := by decide +kernel
theorem dX4_known_36 : decode cX4_known 36 = .ok (.bipush 6, 2) := by decide +kernel
theorem dX4_known_38 : decode cX4_known 38 = .ok (.iload_n 1, 1) := by decide +kernel
theorem dX4_known_39 : decode cX4_known 39 = .ok (.imul, 1) := by decide +kernel
theorem dX4_known_40 : decode cX4_known 40 = .ok (.iload_n 2, 1) := by decide +kernel
theorem dX4_known_41 : decode cX4_known 41 = .ok (.iadd, 1) := by decide +kernel
theorem dX4_known_42 : decode cX4_known 42 = .ok (.iaload, 1) := by decide +kernel
theorem dX4_known_43 : decode cX4_known 43 = .ok (.goto 4, 3) := by decide +kernel
theorem dX4_known_46 : decode cX4_known 46 = .ok (.iconst 0, 1) := by decide +kernel
theorem dX4_known_47 : decode cX4_known 47 = .ok (.ireturn, 1) := by decide +kernel
theorem dX4_desk_0 : decode cX4_desk 0 = .ok (.aload_n 0, 1) := by decide +kernel
theorem dX4_desk_1 : decode cX4_desk 1 = .ok (.aload_n 0, 1) := by decide +kernel
theorem dX4_desk_2 : decode cX4_desk 2 = .ok (.iload_n 1, 1) := by decide +kernel
theorem dX4_desk_3 : decode cX4_desk 3 = .ok (.invokevirtual 63, 3) := by decide +kernel
theorem dX4_desk_6 : decode cX4_desk 6 = .ok (.ifCond .ne 12, 3) := by decide +kernel
theorem dX4_desk_9 : decode cX4_desk 9 = .ok (.iload_n 2, 1) := by decide +kernel
theorem dX4_desk_10 : decode cX4_desk 10 = .ok (.ifCond .lt 8, 3) := by decide +kernel
theorem dX4_desk_13 : decode cX4_desk 13 = .ok (.iload_n 2, 1) := by decide +kernel
theorem dX4_desk_14 : decode cX4_desk 14 = .ok (.iconst 2, 1) := by decide +kernel
theorem dX4_desk_15 : decode cX4_desk 15 = .ok (.if_icmp .le 7, 3) := by decide +kernel
theorem dX4_desk_18 : decode cX4_desk 18 = .ok (.iconst 1, 1) := by decide +kernel
theorem dX4_desk_19 : decode cX4_desk 19 = .ok (.goto 4, 3) := by decide +kernel
theorem dX4_desk_22 : decode cX4_desk 22 = .ok (.iconst 0, 1) := by decide +kernel
theorem dX4_desk_23 : decode cX4_desk 23 = .ok (.putfield 53, 3) := by decide +kernel
theorem dX4_desk_26 : decode cX4_desk 26 = .ok (.aload_n 0, 1) := by decide +kernel
theorem dX4_desk_27 : decode cX4_desk 27 = .ok (.getfield 53, 3) := by decide +kernel
theorem dX4_desk_30 : decode cX4_desk 30 = .ok (.ifCond .eq 7, 3) := by decide +kernel
theorem dX4_desk_33 : decode cX4_desk 33 = .ok (.iconst 0, 1) := by decide +kernel
theorem dX4_desk_34 : decode cX4_desk 34 = .ok (.goto 36, 3) := by decide +kernel
theorem dX4_desk_37 : decode cX4_desk 37 = .ok (.iload_n 2, 1) := by decide +kernel
theorem dX4_desk_38 : decode cX4_desk 38 = .ok (.ifCond .ne 12, 3) := by decide +kernel
theorem dX4_desk_41 : decode cX4_desk 41 = .ok (.aload_n 0, 1) := by decide +kernel
theorem dX4_desk_42 : decode cX4_desk 42 = .ok (.getfield 16, 3) := by decide +kernel
theorem dX4_desk_45 : decode cX4_desk 45 = .ok (.iload_n 1, 1) := by decide +kernel
theorem dX4_desk_46 : decode cX4_desk 46 = .ok (.iaload, 1) := by decide +kernel
theorem dX4_desk_47 : decode cX4_desk 47 = .ok (.goto 23, 3) := by decide +kernel
theorem dX4_desk_50 : decode cX4_desk 50 = .ok (.iload_n 2, 1) := by decide +kernel
theorem dX4_desk_51 : decode cX4_desk 51 = .ok (.iconst 1, 1) := by decide +kernel
theorem dX4_desk_52 : decode cX4_desk 52 = .ok (.if_icmp .ne 12, 3) := by decide +kernel
theorem dX4_desk_55 : decode cX4_desk 55 = .ok (.aload_n 0, 1) := by decide +kernel
theorem dX4_desk_56 : decode cX4_desk 56 = .ok (.getfield 19, 3) := by decide +kernel
theorem dX4_desk_59 : decode cX4_desk 59 = .ok (.iload_n 1, 1) := by decide +kernel
theorem dX4_desk_60 : decode cX4_desk 60 = .ok (.iaload, 1) := by decide +kernel
theorem dX4_desk_61 : decode cX4_desk 61 = .ok (.goto 9, 3) := by decide +kernel
theorem dX4_desk_64 : decode cX4_desk 64 = .ok (.aload_n 0, 1) := by decide +kernel
theorem dX4_desk_65 : decode cX4_desk 65 = .ok (.getfield 22, 3) := by decide +kernel
theorem dX4_desk_68 : decode cX4_desk 68 = .ok (.iload_n 1, 1) := by decide +kernel
theorem dX4_desk_69 : decode cX4_desk 69 = .ok (.iaload, 1) := by decide +kernel
theorem dX4_desk_70 : decode cX4_desk 70 = .ok (.ireturn, 1) := by decide +kernel
theorem dX4_settled_0 : decode cX4_settled 0 = .ok (.aload_n 0, 1) := by decide +kernel
theorem dX4_settled_1 : decode cX4_settled 1 = .ok (.iconst 0, 1) := by decide +kernel
theorem dX4_settled_2 : decode cX4_settled 2 = .ok (.putfield 53, 3) := by decide +kernel
theorem dX4_settled_5 : decode cX4_settled 5 = .ok (.aload_n 0, 1) := by decide +kernel
theorem dX4_settled_6 : decode cX4_settled 6 = .ok (.invokevirtual 59, 3) := by decide +kernel
theorem dX4_settled_9 : decode cX4_settled 9 = .ok (.ireturn, 1) := by decide +kernel
theorem dX4_phase_0 : decode cX4_phase 0 = .ok (.aload_n 0, 1) := by decide +kernel
theorem dX4_phase_1 : decode cX4_phase 1 = .ok (.aload_n 0, 1) := by decide +kernel
theorem dX4_phase_2 : decode cX4_phase 2 = .ok (.invokevirtual 59, 3) := by decide +kernel
theorem dX4_phase_5 : decode cX4_phase 5 = .ok (.ifCond .eq 11, 3) := by decide +kernel
theorem dX4_phase_8 : decode cX4_phase 8 = .ok (.aload_n 0, 1) := by decide +kernel
theorem dX4_phase_9 : decode cX4_phase 9 = .ok (.getfield 47, 3) := by decide +kernel
theorem dX4_phase_12 : decode cX4_phase 12 = .ok (.iconst 1, 1) := by decide +kernel
theorem dX4_phase_13 : decode cX4_phase 13 = .ok (.if_icmp .ne 7, 3) := by decide +kernel
theorem dX4_phase_16 : decode cX4_phase 16 = .ok (.iconst 1, 1) := by decide +kernel
theorem dX4_phase_17 : decode cX4_phase 17 = .ok (.goto 4, 3) := by decide +kernel
theorem dX4_phase_20 : decode cX4_phase 20 = .ok (.iconst 0, 1) := by decide +kernel
theorem dX4_phase_21 : decode cX4_phase 21 = .ok (.putfield 53, 3) := by decide +kernel
theorem dX4_phase_24 : decode cX4_phase 24 = .ok (.aload_n 0, 1) := by decide +kernel
theorem dX4_phase_25 : decode cX4_phase 25 = .ok (.getfield 53, 3) := by decide +kernel
theorem dX4_phase_28 : decode cX4_phase 28 = .ok (.ifCond .eq 5, 3) := by decide +kernel
theorem dX4_phase_31 : decode cX4_phase 31 = .ok (.iconst 0, 1) := by decide +kernel
theorem dX4_phase_32 : decode cX4_phase 32 = .ok (.ireturn, 1) := by decide +kernel
theorem dX4_phase_33 : decode cX4_phase 33 = .ok (.aload_n 0, 1) := by decide +kernel
theorem dX4_phase_34 : decode cX4_phase 34 = .ok (.invokevirtual 50, 3) := by decide +kernel
theorem dX4_phase_37 : decode cX4_phase 37 = .ok (.aload_n 0, 1) := by decide +kernel
theorem dX4_phase_38 : decode cX4_phase 38 = .ok (.aload_n 0, 1) := by decide +kernel
theorem dX4_phase_39 : decode cX4_phase 39 = .ok (.getfield 47, 3) := by decide +kernel
theorem dX4_phase_42 : decode cX4_phase 42 = .ok (.iconst 4, 1) := by decide +kernel
theorem dX4_phase_43 : decode cX4_phase 43 = .ok (.idiv, 1) := by decide +kernel
theorem dX4_phase_44 : decode cX4_phase 44 = .ok (.putfield 47, 3) := by decide +kernel
theorem dX4_phase_47 : decode cX4_phase 47 = .ok (.aload_n 0, 1) := by decide +kernel
theorem dX4_phase_48 : decode cX4_phase 48 = .ok (.getfield 47, 3) := by decide +kernel
theorem dX4_phase_51 : decode cX4_phase 51 = .ok (.ireturn, 1) := by decide +kernel
theorem dX4_total_0 : decode cX4_total 0 = .ok (.aload_n 0, 1) := by decide +kernel
theorem dX4_total_1 : decode cX4_total 1 = .ok (.aload_n 0, 1) := by decide +kernel
theorem dX4_total_2 : decode cX4_total 2 = .ok (.invokevirtual 59, 3) := by decide +kernel
theorem dX4_total_5 : decode cX4_total 5 = .ok (.ifCond .eq 7, 3) := by decide +kernel
theorem dX4_total_8 : decode cX4_total 8 = .ok (.iconst 0, 1) := by decide +kernel
theorem dX4_total_9 : decode cX4_total 9 = .ok (.goto 4, 3) := by decide +kernel
theorem dX4_total_12 : decode cX4_total 12 = .ok (.iconst 1, 1) := by decide +kernel
theorem dX4_total_13 : decode cX4_total 13 = .ok (.putfield 53, 3) := by decide +kernel
theorem dX4_total_16 : decode cX4_total 16 = .ok (.iconst 0, 1) := by decide +kernel
theorem dX4_total_17 : decode cX4_total 17 = .ok (.istore_n 1, 1) := by decide +kernel
theorem dX4_total_18 : decode cX4_total 18 = .ok (.iconst 0, 1) := by decide +kernel
theorem dX4_total_19 : decode cX4_total 19 = .ok (.istore_n 2, 1) := by decide +kernel
theorem dX4_total_20 : decode cX4_total 20 = .ok (.iload_n 2, 1) := by decide +kernel
theorem dX4_total_21 : decode cX4_total 21 = .ok (.aload_n 0, 1) := by decide +kernel
theorem dX4_total_22 : decode cX4_total 22 = .ok (.getfield 43, 3) := by decide +kernel
theorem dX4_total_25 : decode cX4_total 25 = .ok (.if_icmp .ge 35, 3) := by decide +kernel
theorem dX4_total_28 : decode cX4_total 28 = .ok (.aload_n 0, 1) := by decide +kernel
theorem dX4_total_29 : decode cX4_total 29 = .ok (.getfield 53, 3) := by decide +kernel
theorem dX4_total_32 : decode cX4_total 32 = .ok (.ifCond .ne 28, 3) := by decide +kernel
theorem dX4_total_35 : decode cX4_total 35 = .ok (.iload_n 1, 1) := by decide +kernel
theorem dX4_total_36 : decode cX4_total 36 = .ok (.aload_n 0, 1) := by decide +kernel
theorem dX4_total_37 : decode cX4_total 37 = .ok (.getfield 7, 3) := by decide +kernel
theorem dX4_total_40 : decode cX4_total 40 = .ok (.bipush 6, 2) := by decide +kernel
theorem dX4_total_42 : decode cX4_total 42 = .ok (.iload_n 2, 1) := by decide +kernel
theorem dX4_total_43 : decode cX4_total 43 = .ok (.imul, 1) := by decide +kernel
theorem dX4_total_44 : decode cX4_total 44 = .ok (.aload_n 0, 1) := by decide +kernel
theorem dX4_total_45 : decode cX4_total 45 = .ok (.getfield 28, 3) := by decide +kernel
theorem dX4_total_48 : decode cX4_total 48 = .ok (.iload_n 2, 1) := by decide +kernel
theorem dX4_total_49 : decode cX4_total 49 = .ok (.iaload, 1) := by decide +kernel
theorem dX4_total_50 : decode cX4_total 50 = .ok (.iadd, 1) := by decide +kernel
theorem dX4_total_51 : decode cX4_total 51 = .ok (.iaload, 1) := by decide +kernel
theorem dX4_total_52 : decode cX4_total 52 = .ok (.iadd, 1) := by decide +kernel
theorem dX4_total_53 : decode cX4_total 53 = .ok (.istore_n 1, 1) := by decide +kernel
theorem dX4_total_54 : decode cX4_total 54 = .ok (.iinc 2 1, 3) := by decide +kernel
theorem dX4_total_57 : decode cX4_total 57 = .ok (.goto (-37), 3) := by decide +kernel
theorem dX4_total_60 : decode cX4_total 60 = .ok (.iload_n 1, 1) := by decide +kernel
theorem dX4_total_61 : decode cX4_total 61 = .ok (.ireturn, 1) := by decide +kernel
theorem dX4_proves_0 : decode cX4_proves 0 = .ok (.aload_n 0, 1) := by decide +kernel
theorem dX4_proves_1 : decode cX4_proves 1 = .ok (.aload_n 0, 1) := by decide +kernel
theorem dX4_proves_2 : decode cX4_proves 2 = .ok (.invokevirtual 59, 3) := by decide +kernel
theorem dX4_proves_5 : decode cX4_proves 5 = .ok (.ifCond .eq 7, 3) := by decide +kernel
theorem dX4_proves_8 : decode cX4_proves 8 = .ok (.iconst 0, 1) := by decide +kernel
theorem dX4_proves_9 : decode cX4_proves 9 = .ok (.goto 4, 3) := by decide +kernel
theorem dX4_proves_12 : decode cX4_proves 12 = .ok (.iconst 1, 1) := by decide +kernel
theorem dX4_proves_13 : decode cX4_proves 13 = .ok (.putfield 53, 3) := by decide +kernel
theorem dX4_proves_16 : decode cX4_proves 16 = .ok (.iconst 0, 1) := by decide +kernel
theorem dX4_proves_17 : decode cX4_proves 17 = .ok (.istore_n 1, 1) := by decide +kernel
theorem dX4_proves_18 : decode cX4_proves 18 = .ok (.iconst 0, 1) := by decide +kernel
theorem dX4_proves_19 : decode cX4_proves 19 = .ok (.istore_n 2, 1) := by decide +kernel
theorem dX4_proves_20 : decode cX4_proves 20 = .ok (.iload_n 2, 1) := by decide +kernel
theorem dX4_proves_21 : decode cX4_proves 21 = .ok (.aload_n 0, 1) := by decide +kernel
theorem dX4_proves_22 : decode cX4_proves 22 = .ok (.getfield 43, 3) := by decide +kernel
theorem dX4_proves_25 : decode cX4_proves 25 = .ok (.if_icmp .ge 55, 3) := by decide +kernel
theorem dX4_proves_28 : decode cX4_proves 28 = .ok (.aload_n 0, 1) := by decide +kernel
theorem dX4_proves_29 : decode cX4_proves 29 = .ok (.getfield 53, 3) := by decide +kernel
theorem dX4_proves_32 : decode cX4_proves 32 = .ok (.ifCond .ne 48, 3) := by decide +kernel
theorem dX4_proves_35 : decode cX4_proves 35 = .ok (.iload_n 1, 1) := by decide +kernel
theorem dX4_proves_36 : decode cX4_proves 36 = .ok (.aload_n 0, 1) := by decide +kernel
theorem dX4_proves_37 : decode cX4_proves 37 = .ok (.getfield 16, 3) := by decide +kernel
theorem dX4_proves_40 : decode cX4_proves 40 = .ok (.iload_n 2, 1) := by decide +kernel
theorem dX4_proves_41 : decode cX4_proves 41 = .ok (.iaload, 1) := by decide +kernel
theorem dX4_proves_42 : decode cX4_proves 42 = .ok (.aload_n 0, 1) := by decide +kernel
theorem dX4_proves_43 : decode cX4_proves 43 = .ok (.iload_n 2, 1) := by decide +kernel
theorem dX4_proves_44 : decode cX4_proves 44 = .ok (.invokevirtual 89, 3) := by decide +kernel
theorem dX4_proves_47 : decode cX4_proves 47 = .ok (.iadd, 1) := by decide +kernel
theorem dX4_proves_48 : decode cX4_proves 48 = .ok (.aload_n 0, 1) := by decide +kernel
theorem dX4_proves_49 : decode cX4_proves 49 = .ok (.getfield 7, 3) := by decide +kernel
theorem dX4_proves_52 : decode cX4_proves 52 = .ok (.bipush 6, 2) := by decide +kernel
theorem dX4_proves_54 : decode cX4_proves 54 = .ok (.iload_n 2, 1) := by decide +kernel
theorem dX4_proves_55 : decode cX4_proves 55 = .ok (.imul, 1) := by decide +kernel
theorem dX4_proves_56 : decode cX4_proves 56 = .ok (.aload_n 0, 1) := by decide +kernel
theorem dX4_proves_57 : decode cX4_proves 57 = .ok (.getfield 28, 3) := by decide +kernel
theorem dX4_proves_60 : decode cX4_proves 60 = .ok (.iload_n 2, 1) := by decide +kernel
theorem dX4_proves_61 : decode cX4_proves 61 = .ok (.iaload, 1) := by decide +kernel
theorem dX4_proves_62 : decode cX4_proves 62 = .ok (.iadd, 1) := by decide +kernel
theorem dX4_proves_63 : decode cX4_proves 63 = .ok (.iaload, 1) := by decide +kernel
theorem dX4_proves_64 : decode cX4_proves 64 = .ok (.aload_n 0, 1) := by decide +kernel
theorem dX4_proves_65 : decode cX4_proves 65 = .ok (.getfield 43, 3) := by decide +kernel
theorem dX4_proves_68 : decode cX4_proves 68 = .ok (.iconst 1, 1) := by decide +kernel
theorem dX4_proves_69 : decode cX4_proves 69 = .ok (.iadd, 1) := by decide +kernel
theorem dX4_proves_70 : decode cX4_proves 70 = .ok (.imul, 1) := by decide +kernel
theorem dX4_proves_71 : decode cX4_proves 71 = .ok (.isub, 1) := by decide +kernel
theorem dX4_proves_72 : decode cX4_proves 72 = .ok (.iadd, 1) := by decide +kernel
theorem dX4_proves_73 : decode cX4_proves 73 = .ok (.istore_n 1, 1) := by decide +kernel
theorem dX4_proves_74 : decode cX4_proves 74 = .ok (.iinc 2 1, 3) := by decide +kernel
theorem dX4_proves_77 : decode cX4_proves 77 = .ok (.goto (-57), 3) := by decide +kernel
theorem dX4_proves_80 : decode cX4_proves 80 = .ok (.aload_n 0, 1) := by decide +kernel
theorem dX4_proves_81 : decode cX4_proves 81 = .ok (.getfield 53, 3) := by decide +kernel
theorem dX4_proves_84 : decode cX4_proves 84 = .ok (.ifCond .ne 17, 3) := by decide +kernel
theorem dX4_proves_87 : decode cX4_proves 87 = .ok (.iload_n 1, 1) := by decide +kernel
theorem dX4_proves_88 : decode cX4_proves 88 = .ok (.aload_n 0, 1) := by decide +kernel
theorem dX4_proves_89 : decode cX4_proves 89 = .ok (.getfield 43, 3) := by decide +kernel
theorem dX4_proves_92 : decode cX4_proves 92 = .ok (.iconst 1, 1) := by decide +kernel
theorem dX4_proves_93 : decode cX4_proves 93 = .ok (.iadd, 1) := by decide +kernel
theorem dX4_proves_94 : decode cX4_proves 94 = .ok (.if_icmp .ge 7, 3) := by decide +kernel
theorem dX4_proves_97 : decode cX4_proves 97 = .ok (.iconst 1, 1) := by decide +kernel
theorem dX4_proves_98 : decode cX4_proves 98 = .ok (.goto 4, 3) := by decide +kernel
theorem dX4_proves_101 : decode cX4_proves 101 = .ok (.iconst 0, 1) := by decide +kernel
theorem dX4_proves_102 : decode cX4_proves 102 = .ok (.ireturn, 1) := by decide +kernel
theorem dX4_count_0 : decode cX4_count 0 = .ok (.aload_n 0, 1) := by decide +kernel
theorem dX4_count_1 : decode cX4_count 1 = .ok (.iload_n 1, 1) := by decide +kernel
theorem dX4_count_2 : decode cX4_count 2 = .ok (.ifCond .lt 8, 3) := by decide +kernel
theorem dX4_count_5 : decode cX4_count 5 = .ok (.iload_n 1, 1) := by decide +kernel
theorem dX4_count_6 : decode cX4_count 6 = .ok (.iconst 4, 1) := by decide +kernel
theorem dX4_count_7 : decode cX4_count 7 = .ok (.if_icmp .le 7, 3) := by decide +kernel
theorem dX4_count_10 : decode cX4_count 10 = .ok (.iconst 1, 1) := by decide +kernel
theorem dX4_count_11 : decode cX4_count 11 = .ok (.goto 4, 3) := by decide +kernel
theorem dX4_count_14 : decode cX4_count 14 = .ok (.iconst 0, 1) := by decide +kernel
theorem dX4_count_15 : decode cX4_count 15 = .ok (.putfield 53, 3) := by decide +kernel
theorem dX4_count_18 : decode cX4_count 18 = .ok (.aload_n 0, 1) := by decide +kernel
theorem dX4_count_19 : decode cX4_count 19 = .ok (.getfield 53, 3) := by decide +kernel
theorem dX4_count_22 : decode cX4_count 22 = .ok (.ifCond .eq 7, 3) := by decide +kernel
theorem dX4_count_25 : decode cX4_count 25 = .ok (.iconst 0, 1) := by decide +kernel
theorem dX4_count_26 : decode cX4_count 26 = .ok (.goto 21, 3) := by decide +kernel
theorem dX4_count_29 : decode cX4_count 29 = .ok (.iload_n 1, 1) := by decide +kernel
theorem dX4_count_30 : decode cX4_count 30 = .ok (.iconst 4, 1) := by decide +kernel
theorem dX4_count_31 : decode cX4_count 31 = .ok (.if_icmp .ne 10, 3) := by decide +kernel
theorem dX4_count_34 : decode cX4_count 34 = .ok (.aload_n 0, 1) := by decide +kernel
theorem dX4_count_35 : decode cX4_count 35 = .ok (.getfield 47, 3) := by decide +kernel
theorem dX4_count_38 : decode cX4_count 38 = .ok (.goto 9, 3) := by decide +kernel
theorem dX4_count_41 : decode cX4_count 41 = .ok (.aload_n 0, 1) := by decide +kernel
theorem dX4_count_42 : decode cX4_count 42 = .ok (.getfield 40, 3) := by decide +kernel
theorem dX4_count_45 : decode cX4_count 45 = .ok (.iload_n 1, 1) := by decide +kernel
theorem dX4_count_46 : decode cX4_count 46 = .ok (.iaload, 1) := by decide +kernel
theorem dX4_count_47 : decode cX4_count 47 = .ok (.ireturn, 1) := by decide +kernel

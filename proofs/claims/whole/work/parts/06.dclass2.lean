/-! decode rows (starting text: printed by TURN) -/
theorem dX3_init_0 : decode cX3_init 0 = .ok (.aload_n 0, 1) := by decide +kernel
theorem dX3_init_1 : decode cX3_init 1 = .ok (.invokespecial 1, 3) := by decide +kernel
theorem dX3_init_4 : decode cX3_init 4 = .ok (.aload_n 0, 1) := by decide +kernel
theorem dX3_init_5 : decode cX3_init 5 = .ok (.iconst 2, 1) := by decide +kernel
theorem dX3_init_6 : decode cX3_init 6 = .ok (.bipush 6, 2) := by decide +kernel
theorem dX3_init_8 : decode cX3_init 8 = .ok (.iload_n 1, 1) := by decide +kernel
theorem dX3_init_9 : decode cX3_init 9 = .ok (.invokestatic 9, 3) := by decide +kernel
theorem dX3_init_12 : decode cX3_init 12 = .ok (.invokestatic 15, 3) := by decide +kernel
theorem dX3_init_15 : decode cX3_init 15 = .ok (.putfield 18, 3) := by decide +kernel
theorem dX3_init_18 : decode cX3_init 18 = .ok (.aload_n 0, 1) := by decide +kernel
theorem dX3_init_19 : decode cX3_init 19 = .ok (.aload_n 0, 1) := by decide +kernel
theorem dX3_init_20 : decode cX3_init 20 = .ok (.getfield 18, 3) := by decide +kernel
theorem dX3_init_23 : decode cX3_init 23 = .ok (.anewarray 22, 3) := by decide +kernel
theorem dX3_init_26 : decode cX3_init 26 = .ok (.putfield 24, 3) := by decide +kernel
theorem dX3_init_29 : decode cX3_init 29 = .ok (.aload_n 0, 1) := by decide +kernel
theorem dX3_init_30 : decode cX3_init 30 = .ok (.aload_n 0, 1) := by decide +kernel
theorem dX3_init_31 : decode cX3_init 31 = .ok (.getfield 18, 3) := by decide +kernel
theorem dX3_init_34 : decode cX3_init 34 = .ok (.anewarray 28, 3) := by decide +kernel
theorem dX3_init_37 : decode cX3_init 37 = .ok (.putfield 30, 3) := by decide +kernel
theorem dX3_init_40 : decode cX3_init 40 = .ok (.iconst 0, 1) := by decide +kernel
theorem dX3_init_41 : decode cX3_init 41 = .ok (.istore_n 3, 1) := by decide +kernel
theorem dX3_init_42 : decode cX3_init 42 = .ok (.iload_n 3, 1) := by decide +kernel
theorem dX3_init_43 : decode cX3_init 43 = .ok (.aload_n 0, 1) := by decide +kernel
theorem dX3_init_44 : decode cX3_init 44 = .ok (.getfield 18, 3) := by decide +kernel
theorem dX3_init_47 : decode cX3_init 47 = .ok (.if_icmp .ge 39, 3) := by decide +kernel
theorem dX3_init_50 : decode cX3_init 50 = .ok (.aload_n 0, 1) := by decide +kernel
theorem dX3_init_51 : decode cX3_init 51 = .ok (.getfield 24, 3) := by decide +kernel
theorem dX3_init_54 : decode cX3_init 54 = .ok (.iload_n 3, 1) := by decide +kernel
theorem dX3_init_55 : decode cX3_init 55 = .ok (.new 22, 3) := by decide +kernel
theorem dX3_init_58 : decode cX3_init 58 = .ok (.dup, 1) := by decide +kernel
theorem dX3_init_59 : decode cX3_init 59 = .ok (.aload_n 0, 1) := by decide +kernel
theorem dX3_init_60 : decode cX3_init 60 = .ok (.getfield 18, 3) := by decide +kernel
theorem dX3_init_63 : decode cX3_init 63 = .ok (.invokespecial 34, 3) := by decide +kernel
theorem dX3_init_66 : decode cX3_init 66 = .ok (.aastore, 1) := by decide +kernel
theorem dX3_init_67 : decode cX3_init 67 = .ok (.aload_n 0, 1) := by decide +kernel
theorem dX3_init_68 : decode cX3_init 68 = .ok (.getfield 30, 3) := by decide +kernel
theorem dX3_init_71 : decode cX3_init 71 = .ok (.iload_n 3, 1) := by decide +kernel
theorem dX3_init_72 : decode cX3_init 72 = .ok (.new 28, 3) := by decide +kernel
theorem dX3_init_75 : decode cX3_init 75 = .ok (.dup, 1) := by decide +kernel
theorem dX3_init_76 : decode cX3_init 76 = .ok (.invokespecial 37, 3) := by decide +kernel
theorem dX3_init_79 : decode cX3_init 79 = .ok (.aastore, 1) := by decide +kernel
theorem dX3_init_80 : decode cX3_init 80 = .ok (.iinc 3 1, 3) := by decide +kernel
theorem dX3_init_83 : decode cX3_init 83 = .ok (.goto (-41), 3) := by decide +kernel
theorem dX3_init_86 : decode cX3_init 86 = .ok (.aload_n 0, 1) := by decide +kernel
theorem dX3_init_87 : decode cX3_init 87 = .ok (.new 38, 3) := by decide +kernel
theorem dX3_init_90 : decode cX3_init 90 = .ok (.dup, 1) := by decide +kernel
theorem dX3_init_91 : decode cX3_init 91 = .ok (.invokespecial 40, 3) := by decide +kernel
theorem dX3_init_94 : decode cX3_init 94 = .ok (.putfield 41, 3) := by decide +kernel
theorem dX3_init_97 : decode cX3_init 97 = .ok (.aload_n 0, 1) := by decide +kernel
theorem dX3_init_98 : decode cX3_init 98 = .ok (.iconst 4, 1) := by decide +kernel
theorem dX3_init_99 : decode cX3_init 99 = .ok (.newarray .int, 2) := by decide +kernel
theorem dX3_init_101 : decode cX3_init 101 = .ok (.putfield 45, 3) := by decide +kernel
theorem dX3_init_104 : decode cX3_init 104 = .ok (.aload_n 0, 1) := by decide +kernel
theorem dX3_init_105 : decode cX3_init 105 = .ok (.iload_n 2, 1) := by decide +kernel
theorem dX3_init_106 : decode cX3_init 106 = .ok (.ifCond .ne 7, 3) := by decide +kernel
theorem dX3_init_109 : decode cX3_init 109 = .ok (.iconst 3, 1) := by decide +kernel
theorem dX3_init_110 : decode cX3_init 110 = .ok (.goto 4, 3) := by decide +kernel
theorem dX3_init_113 : decode cX3_init 113 = .ok (.iconst 0, 1) := by decide +kernel
theorem dX3_init_114 : decode cX3_init 114 = .ok (.putfield 49, 3) := by decide +kernel
theorem dX3_init_117 : decode cX3_init 117 = .ok (.return_, 1) := by decide +kernel
theorem dX3_worth_0 : decode cX3_worth 0 = .ok (.aload_n 0, 1) := by decide +kernel
theorem dX3_worth_1 : decode cX3_worth 1 = .ok (.iload_n 1, 1) := by decide +kernel
theorem dX3_worth_2 : decode cX3_worth 2 = .ok (.invokevirtual 52, 3) := by decide +kernel
theorem dX3_worth_5 : decode cX3_worth 5 = .ok (.ifCond .eq 15, 3) := by decide +kernel
theorem dX3_worth_8 : decode cX3_worth 8 = .ok (.aload_n 0, 1) := by decide +kernel
theorem dX3_worth_9 : decode cX3_worth 9 = .ok (.iload_n 2, 1) := by decide +kernel
theorem dX3_worth_10 : decode cX3_worth 10 = .ok (.invokevirtual 52, 3) := by decide +kernel
theorem dX3_worth_13 : decode cX3_worth 13 = .ok (.ifCond .eq 7, 3) := by decide +kernel
theorem dX3_worth_16 : decode cX3_worth 16 = .ok (.iconst 1, 1) := by decide +kernel
theorem dX3_worth_17 : decode cX3_worth 17 = .ok (.goto 4, 3) := by decide +kernel
theorem dX3_worth_20 : decode cX3_worth 20 = .ok (.iconst 0, 1) := by decide +kernel
theorem dX3_worth_21 : decode cX3_worth 21 = .ok (.invokestatic 56, 3) := by decide +kernel
theorem dX3_worth_24 : decode cX3_worth 24 = .ok (.iload_n 3, 1) := by decide +kernel
theorem dX3_worth_25 : decode cX3_worth 25 = .ok (.ifCond .lt 14, 3) := by decide +kernel
theorem dX3_worth_28 : decode cX3_worth 28 = .ok (.iload_n 3, 1) := by decide +kernel
theorem dX3_worth_29 : decode cX3_worth 29 = .ok (.sipush 1000, 3) := by decide +kernel
theorem dX3_worth_32 : decode cX3_worth 32 = .ok (.if_icmp .gt 7, 3) := by decide +kernel
theorem dX3_worth_35 : decode cX3_worth 35 = .ok (.iconst 1, 1) := by decide +kernel
theorem dX3_worth_36 : decode cX3_worth 36 = .ok (.goto 4, 3) := by decide +kernel
theorem dX3_worth_39 : decode cX3_worth 39 = .ok (.iconst 0, 1) := by decide +kernel
theorem dX3_worth_40 : decode cX3_worth 40 = .ok (.invokestatic 56, 3) := by decide +kernel
theorem dX3_worth_43 : decode cX3_worth 43 = .ok (.aload_n 0, 1) := by decide +kernel
theorem dX3_worth_44 : decode cX3_worth 44 = .ok (.getfield 45, 3) := by decide +kernel
theorem dX3_worth_47 : decode cX3_worth 47 = .ok (.iconst 0, 1) := by decide +kernel
theorem dX3_worth_48 : decode cX3_worth 48 = .ok (.iaload, 1) := by decide +kernel
theorem dX3_worth_49 : decode cX3_worth 49 = .ok (.ifCond .le 7, 3) := by decide +kernel
theorem dX3_worth_52 : decode cX3_worth 52 = .ok (.iconst 1, 1) := by decide +kernel
theorem dX3_worth_53 : decode cX3_worth 53 = .ok (.goto 4, 3) := by decide +kernel
theorem dX3_worth_56 : decode cX3_worth 56 = .ok (.iconst 0, 1) := by decide +kernel
theorem dX3_worth_57 : decode cX3_worth 57 = .ok (.istore 4, 2) := by decide +kernel
theorem dX3_worth_59 : decode cX3_worth 59 = .ok (.iload 4, 2) := by decide +kernel
theorem dX3_worth_61 : decode cX3_worth 61 = .ok (.ifCond .eq 10, 3) := by decide +kernel
theorem dX3_worth_64 : decode cX3_worth 64 = .ok (.aload_n 0, 1) := by decide +kernel
theorem dX3_worth_65 : decode cX3_worth 65 = .ok (.invokevirtual 60, 3) := by decide +kernel
theorem dX3_worth_68 : decode cX3_worth 68 = .ok (.ifCond .eq 7, 3) := by decide +kernel
theorem dX3_worth_71 : decode cX3_worth 71 = .ok (.iconst 1, 1) := by decide +kernel
theorem dX3_worth_72 : decode cX3_worth 72 = .ok (.goto 4, 3) := by decide +kernel
theorem dX3_worth_75 : decode cX3_worth 75 = .ok (.iconst 0, 1) := by decide +kernel
theorem dX3_worth_76 : decode cX3_worth 76 = .ok (.invokestatic 64, 3) := by decide +kernel
theorem dX3_worth_79 : decode cX3_worth 79 = .ok (.aload_n 0, 1) := by decide +kernel
theorem dX3_worth_80 : decode cX3_worth 80 = .ok (.getfield 24, 3) := by decide +kernel
theorem dX3_worth_83 : decode cX3_worth 83 = .ok (.iload_n 1, 1) := by decide +kernel
theorem dX3_worth_84 : decode cX3_worth 84 = .ok (.aaload, 1) := by decide +kernel
theorem dX3_worth_85 : decode cX3_worth 85 = .ok (.astore 5, 2) := by decide +kernel
theorem dX3_worth_87 : decode cX3_worth 87 = .ok (.aload 5, 2) := by decide +kernel
theorem dX3_worth_89 : decode cX3_worth 89 = .ok (.getfield 67, 3) := by decide +kernel
theorem dX3_worth_92 : decode cX3_worth 92 = .ok (.iload_n 2, 1) := by decide +kernel
theorem dX3_worth_93 : decode cX3_worth 93 = .ok (.iload_n 3, 1) := by decide +kernel
theorem dX3_worth_94 : decode cX3_worth 94 = .ok (.iastore, 1) := by decide +kernel
theorem dX3_worth_95 : decode cX3_worth 95 = .ok (.iload 4, 2) := by decide +kernel
theorem dX3_worth_97 : decode cX3_worth 97 = .ok (.ifCond .eq 28, 3) := by decide +kernel
theorem dX3_worth_100 : decode cX3_worth 100 = .ok (.aload_n 0, 1) := by decide +kernel
theorem dX3_worth_101 : decode cX3_worth 101 = .ok (.getfield 41, 3) := by decide +kernel
theorem dX3_worth_104 : decode cX3_worth 104 = .ok (.invokevirtual 70, 3) := by decide +kernel
theorem dX3_worth_107 : decode cX3_worth 107 = .ok (.aload_n 0, 1) := by decide +kernel
theorem dX3_worth_108 : decode cX3_worth 108 = .ok (.getfield 30, 3) := by decide +kernel
theorem dX3_worth_111 : decode cX3_worth 111 = .ok (.aload 5, 2) := by decide +kernel
theorem dX3_worth_113 : decode cX3_worth 113 = .ok (.getfield 73, 3) := by decide +kernel
theorem dX3_worth_116 : decode cX3_worth 116 = .ok (.aaload, 1) := by decide +kernel
theorem dX3_worth_117 : decode cX3_worth 117 = .ok (.invokevirtual 76, 3) := by decide +kernel
theorem dX3_worth_120 : decode cX3_worth 120 = .ok (.aload 5, 2) := by decide +kernel
theorem dX3_worth_122 : decode cX3_worth 122 = .ok (.invokevirtual 79, 3) := by decide +kernel
theorem dX3_worth_125 : decode cX3_worth 125 = .ok (.return_, 1) := by decide +kernel
theorem dX3_act_0 : decode cX3_act 0 = .ok (.aload_n 0, 1) := by decide +kernel
theorem dX3_act_1 : decode cX3_act 1 = .ok (.iload_n 1, 1) := by decide +kernel
theorem dX3_act_2 : decode cX3_act 2 = .ok (.invokevirtual 52, 3) := by decide +kernel
theorem dX3_act_5 : decode cX3_act 5 = .ok (.invokestatic 56, 3) := by decide +kernel
theorem dX3_act_8 : decode cX3_act 8 = .ok (.aload_n 0, 1) := by decide +kernel
theorem dX3_act_9 : decode cX3_act 9 = .ok (.getfield 24, 3) := by decide +kernel
theorem dX3_act_12 : decode cX3_act 12 = .ok (.iload_n 1, 1) := by decide +kernel
theorem dX3_act_13 : decode cX3_act 13 = .ok (.aaload, 1) := by decide +kernel
theorem dX3_act_14 : decode cX3_act 14 = .ok (.astore_n 2, 1) := by decide +kernel
theorem dX3_act_15 : decode cX3_act 15 = .ok (.aload_n 2, 1) := by decide +kernel
theorem dX3_act_16 : decode cX3_act 16 = .ok (.getfield 82, 3) := by decide +kernel
theorem dX3_act_19 : decode cX3_act 19 = .ok (.ifCond .ne 19, 3) := by decide +kernel
theorem dX3_act_22 : decode cX3_act 22 = .ok (.aload_n 0, 1) := by decide +kernel
theorem dX3_act_23 : decode cX3_act 23 = .ok (.getfield 41, 3) := by decide +kernel
theorem dX3_act_26 : decode cX3_act 26 = .ok (.getfield 85, 3) := by decide +kernel
theorem dX3_act_29 : decode cX3_act 29 = .ok (.bipush 40, 2) := by decide +kernel
theorem dX3_act_31 : decode cX3_act 31 = .ok (.if_icmp .ge 7, 3) := by decide +kernel
theorem dX3_act_34 : decode cX3_act 34 = .ok (.iconst 1, 1) := by decide +kernel
theorem dX3_act_35 : decode cX3_act 35 = .ok (.goto 4, 3) := by decide +kernel
theorem dX3_act_38 : decode cX3_act 38 = .ok (.iconst 0, 1) := by decide +kernel
theorem dX3_act_39 : decode cX3_act 39 = .ok (.invokestatic 64, 3) := by decide +kernel
theorem dX3_act_42 : decode cX3_act 42 = .ok (.aload_n 2, 1) := by decide +kernel
theorem dX3_act_43 : decode cX3_act 43 = .ok (.getstatic 86, 3) := by decide +kernel
theorem dX3_act_46 : decode cX3_act 46 = .ok (.aload_n 0, 1) := by decide +kernel
theorem dX3_act_47 : decode cX3_act 47 = .ok (.getfield 49, 3) := by decide +kernel
theorem dX3_act_50 : decode cX3_act 50 = .ok (.iaload, 1) := by decide +kernel
theorem dX3_act_51 : decode cX3_act 51 = .ok (.invokevirtual 89, 3) := by decide +kernel
theorem dX3_act_54 : decode cX3_act 54 = .ok (.aload_n 0, 1) := by decide +kernel
theorem dX3_act_55 : decode cX3_act 55 = .ok (.getfield 45, 3) := by decide +kernel
theorem dX3_act_58 : decode cX3_act 58 = .ok (.iconst 0, 1) := by decide +kernel
theorem dX3_act_59 : decode cX3_act 59 = .ok (.dup2, 1) := by decide +kernel
theorem dX3_act_60 : decode cX3_act 60 = .ok (.iaload, 1) := by decide +kernel
theorem dX3_act_61 : decode cX3_act 61 = .ok (.iconst 1, 1) := by decide +kernel
theorem dX3_act_62 : decode cX3_act 62 = .ok (.iadd, 1) := by decide +kernel
theorem dX3_act_63 : decode cX3_act 63 = .ok (.iastore, 1) := by decide +kernel
theorem dX3_act_64 : decode cX3_act 64 = .ok (.aload_n 0, 1) := by decide +kernel
theorem dX3_act_65 : decode cX3_act 65 = .ok (.iload_n 1, 1) := by decide +kernel
theorem dX3_act_66 : decode cX3_act 66 = .ok (.invokevirtual 92, 3) := by decide +kernel
theorem dX3_act_69 : decode cX3_act 69 = .ok (.aload_n 2, 1) := by decide +kernel
theorem dX3_act_70 : decode cX3_act 70 = .ok (.getfield 73, 3) := by decide +kernel
theorem dX3_act_73 : decode cX3_act 73 = .ok (.ireturn, 1) := by decide +kernel
theorem dX3_resend_0 : decode cX3_resend 0 = .ok (.aload_n 0, 1) := by decide +kernel
theorem dX3_resend_1 : decode cX3_resend 1 = .ok (.iload_n 1, 1) := by decide +kernel
theorem dX3_resend_2 : decode cX3_resend 2 = .ok (.invokevirtual 52, 3) := by decide +kernel
theorem dX3_resend_5 : decode cX3_resend 5 = .ok (.invokestatic 56, 3) := by decide +kernel
theorem dX3_resend_8 : decode cX3_resend 8 = .ok (.aload_n 0, 1) := by decide +kernel
theorem dX3_resend_9 : decode cX3_resend 9 = .ok (.getfield 24, 3) := by decide +kernel
theorem dX3_resend_12 : decode cX3_resend 12 = .ok (.iload_n 1, 1) := by decide +kernel
theorem dX3_resend_13 : decode cX3_resend 13 = .ok (.aaload, 1) := by decide +kernel
theorem dX3_resend_14 : decode cX3_resend 14 = .ok (.getfield 82, 3) := by decide +kernel
theorem dX3_resend_17 : decode cX3_resend 17 = .ok (.ifCond .eq 19, 3) := by decide +kernel
theorem dX3_resend_20 : decode cX3_resend 20 = .ok (.aload_n 0, 1) := by decide +kernel
theorem dX3_resend_21 : decode cX3_resend 21 = .ok (.getfield 41, 3) := by decide +kernel
theorem dX3_resend_24 : decode cX3_resend 24 = .ok (.getfield 85, 3) := by decide +kernel
theorem dX3_resend_27 : decode cX3_resend 27 = .ok (.bipush 40, 2) := by decide +kernel
theorem dX3_resend_29 : decode cX3_resend 29 = .ok (.if_icmp .ge 7, 3) := by decide +kernel
theorem dX3_resend_32 : decode cX3_resend 32 = .ok (.iconst 1, 1) := by decide +kernel
theorem dX3_resend_33 : decode cX3_resend 33 = .ok (.goto 4, 3) := by decide +kernel
theorem dX3_resend_36 : decode cX3_resend 36 = .ok (.iconst 0, 1) := by decide +kernel
theorem dX3_resend_37 : decode cX3_resend 37 = .ok (.invokestatic 64, 3) := by decide +kernel
theorem dX3_resend_40 : decode cX3_resend 40 = .ok (.aload_n 0, 1) := by decide +kernel
theorem dX3_resend_41 : decode cX3_resend 41 = .ok (.iload_n 1, 1) := by decide +kernel
theorem dX3_resend_42 : decode cX3_resend 42 = .ok (.invokevirtual 92, 3) := by decide +kernel
theorem dX3_resend_45 : decode cX3_resend 45 = .ok (.aload_n 0, 1) := by decide +kernel
theorem dX3_resend_46 : decode cX3_resend 46 = .ok (.getfield 41, 3) := by decide +kernel
theorem dX3_resend_49 : decode cX3_resend 49 = .ok (.getfield 85, 3) := by decide +kernel
theorem dX3_resend_52 : decode cX3_resend 52 = .ok (.ireturn, 1) := by decide +kernel
theorem dX3_deliver_0 : decode cX3_deliver 0 = .ok (.aload_n 0, 1) := by decide +kernel
theorem dX3_deliver_1 : decode cX3_deliver 1 = .ok (.iload_n 1, 1) := by decide +kernel
theorem dX3_deliver_2 : decode cX3_deliver 2 = .ok (.invokevirtual 95, 3) := by decide +kernel
theorem dX3_deliver_5 : decode cX3_deliver 5 = .ok (.aload_n 0, 1) := by decide +kernel
theorem dX3_deliver_6 : decode cX3_deliver 6 = .ok (.getfield 41, 3) := by decide +kernel
theorem dX3_deliver_9 : decode cX3_deliver 9 = .ok (.iload_n 1, 1) := by decide +kernel
theorem dX3_deliver_10 : decode cX3_deliver 10 = .ok (.iconst 0, 1) := by decide +kernel
theorem dX3_deliver_11 : decode cX3_deliver 11 = .ok (.invokevirtual 98, 3) := by decide +kernel
theorem dX3_deliver_14 : decode cX3_deliver 14 = .ok (.istore_n 2, 1) := by decide +kernel
theorem dX3_deliver_15 : decode cX3_deliver 15 = .ok (.aload_n 0, 1) := by decide +kernel
theorem dX3_deliver_16 : decode cX3_deliver 16 = .ok (.getfield 41, 3) := by decide +kernel
theorem dX3_deliver_19 : decode cX3_deliver 19 = .ok (.iload_n 1, 1) := by decide +kernel
theorem dX3_deliver_20 : decode cX3_deliver 20 = .ok (.iconst 1, 1) := by decide +kernel
theorem dX3_deliver_21 : decode cX3_deliver 21 = .ok (.invokevirtual 98, 3) := by decide +kernel
theorem dX3_deliver_24 : decode cX3_deliver 24 = .ok (.istore_n 3, 1) := by decide +kernel
theorem dX3_deliver_25 : decode cX3_deliver 25 = .ok (.aload_n 0, 1) := by decide +kernel
theorem dX3_deliver_26 : decode cX3_deliver 26 = .ok (.getfield 41, 3) := by decide +kernel
theorem dX3_deliver_29 : decode cX3_deliver 29 = .ok (.iload_n 1, 1) := by decide +kernel
theorem dX3_deliver_30 : decode cX3_deliver 30 = .ok (.iconst 2, 1) := by decide +kernel
theorem dX3_deliver_31 : decode cX3_deliver 31 = .ok (.invokevirtual 98, 3) := by decide +kernel
theorem dX3_deliver_34 : decode cX3_deliver 34 = .ok (.istore 4, 2) := by decide +kernel
theorem dX3_deliver_36 : decode cX3_deliver 36 = .ok (.aload_n 0, 1) := by decide +kernel
theorem dX3_deliver_37 : decode cX3_deliver 37 = .ok (.getfield 41, 3) := by decide +kernel
theorem dX3_deliver_40 : decode cX3_deliver 40 = .ok (.iload_n 1, 1) := by decide +kernel
theorem dX3_deliver_41 : decode cX3_deliver 41 = .ok (.iconst 3, 1) := by decide +kernel
theorem dX3_deliver_42 : decode cX3_deliver 42 = .ok (.invokevirtual 98, 3) := by decide +kernel
theorem dX3_deliver_45 : decode cX3_deliver 45 = .ok (.istore 5, 2) := by decide +kernel
theorem dX3_deliver_47 : decode cX3_deliver 47 = .ok (.aload_n 0, 1) := by decide +kernel
theorem dX3_deliver_48 : decode cX3_deliver 48 = .ok (.getfield 41, 3) := by decide +kernel
theorem dX3_deliver_51 : decode cX3_deliver 51 = .ok (.iload_n 1, 1) := by decide +kernel
theorem dX3_deliver_52 : decode cX3_deliver 52 = .ok (.iconst 4, 1) := by decide +kernel
theorem dX3_deliver_53 : decode cX3_deliver 53 = .ok (.invokevirtual 98, 3) := by decide +kernel
theorem dX3_deliver_56 : decode cX3_deliver 56 = .ok (.istore 6, 2) := by decide +kernel
theorem dX3_deliver_58 : decode cX3_deliver 58 = .ok (.aload_n 0, 1) := by decide +kernel
theorem dX3_deliver_59 : decode cX3_deliver 59 = .ok (.getfield 41, 3) := by decide +kernel
theorem dX3_deliver_62 : decode cX3_deliver 62 = .ok (.iload_n 1, 1) := by decide +kernel
theorem dX3_deliver_63 : decode cX3_deliver 63 = .ok (.invokevirtual 101, 3) := by decide +kernel
theorem dX3_deliver_66 : decode cX3_deliver 66 = .ok (.iload_n 2, 1) := by decide +kernel
theorem dX3_deliver_67 : decode cX3_deliver 67 = .ok (.ifCond .ne 17, 3) := by decide +kernel
theorem dX3_deliver_70 : decode cX3_deliver 70 = .ok (.aload_n 0, 1) := by decide +kernel
theorem dX3_deliver_71 : decode cX3_deliver 71 = .ok (.iload_n 3, 1) := by decide +kernel
theorem dX3_deliver_72 : decode cX3_deliver 72 = .ok (.iload 4, 2) := by decide +kernel
theorem dX3_deliver_74 : decode cX3_deliver 74 = .ok (.iload 5, 2) := by decide +kernel
theorem dX3_deliver_76 : decode cX3_deliver 76 = .ok (.iload 6, 2) := by decide +kernel
theorem dX3_deliver_78 : decode cX3_deliver 78 = .ok (.invokevirtual 104, 3) := by decide +kernel
theorem dX3_deliver_81 : decode cX3_deliver 81 = .ok (.goto 28, 3) := by decide +kernel
theorem dX3_deliver_84 : decode cX3_deliver 84 = .ok (.aload_n 0, 1) := by decide +kernel
theorem dX3_deliver_85 : decode cX3_deliver 85 = .ok (.getfield 24, 3) := by decide +kernel
theorem dX3_deliver_88 : decode cX3_deliver 88 = .ok (.iload_n 3, 1) := by decide +kernel
theorem dX3_deliver_89 : decode cX3_deliver 89 = .ok (.aaload, 1) := by decide +kernel
theorem dX3_deliver_90 : decode cX3_deliver 90 = .ok (.iload 4, 2) := by decide +kernel
theorem dX3_deliver_92 : decode cX3_deliver 92 = .ok (.iload 6, 2) := by decide +kernel
theorem dX3_deliver_94 : decode cX3_deliver 94 = .ok (.invokevirtual 108, 3) := by decide +kernel
theorem dX3_deliver_97 : decode cX3_deliver 97 = .ok (.aload_n 0, 1) := by decide +kernel
theorem dX3_deliver_98 : decode cX3_deliver 98 = .ok (.getfield 24, 3) := by decide +kernel
theorem dX3_deliver_101 : decode cX3_deliver 101 = .ok (.iload_n 3, 1) := by decide +kernel
theorem dX3_deliver_102 : decode cX3_deliver 102 = .ok (.aaload, 1) := by decide +kernel
theorem dX3_deliver_103 : decode cX3_deliver 103 = .ok (.iload_n 2, 1) := by decide +kernel
theorem dX3_deliver_104 : decode cX3_deliver 104 = .ok (.iload 5, 2) := by decide +kernel
theorem dX3_deliver_106 : decode cX3_deliver 106 = .ok (.invokevirtual 112, 3) := by decide +kernel
theorem dX3_deliver_109 : decode cX3_deliver 109 = .ok (.iload_n 2, 1) := by decide +kernel
theorem dX3_deliver_110 : decode cX3_deliver 110 = .ok (.ireturn, 1) := by decide +kernel
theorem dX3_lose_0 : decode cX3_lose 0 = .ok (.aload_n 0, 1) := by decide +kernel
theorem dX3_lose_1 : decode cX3_lose 1 = .ok (.iload_n 1, 1) := by decide +kernel
theorem dX3_lose_2 : decode cX3_lose 2 = .ok (.invokevirtual 95, 3) := by decide +kernel
theorem dX3_lose_5 : decode cX3_lose 5 = .ok (.aload_n 0, 1) := by decide +kernel
theorem dX3_lose_6 : decode cX3_lose 6 = .ok (.getfield 41, 3) := by decide +kernel
theorem dX3_lose_9 : decode cX3_lose 9 = .ok (.iload_n 1, 1) := by decide +kernel
theorem dX3_lose_10 : decode cX3_lose 10 = .ok (.invokevirtual 101, 3) := by decide +kernel
theorem dX3_lose_13 : decode cX3_lose 13 = .ok (.aload_n 0, 1) := by decide +kernel
theorem dX3_lose_14 : decode cX3_lose 14 = .ok (.getfield 41, 3) := by decide +kernel
theorem dX3_lose_17 : decode cX3_lose 17 = .ok (.getfield 85, 3) := by decide +kernel
theorem dX3_lose_20 : decode cX3_lose 20 = .ok (.ireturn, 1) := by decide +kernel
theorem dX3_twin_0 : decode cX3_twin 0 = .ok (.aload_n 0, 1) := by decide +kernel
theorem dX3_twin_1 : decode cX3_twin 1 = .ok (.iload_n 1, 1) := by decide +kernel
theorem dX3_twin_2 : decode cX3_twin 2 = .ok (.invokevirtual 95, 3) := by decide +kernel
theorem dX3_twin_5 : decode cX3_twin 5 = .ok (.aload_n 0, 1) := by decide +kernel
theorem dX3_twin_6 : decode cX3_twin 6 = .ok (.getfield 41, 3) := by decide +kernel
theorem dX3_twin_9 : decode cX3_twin 9 = .ok (.getfield 85, 3) := by decide +kernel
theorem dX3_twin_12 : decode cX3_twin 12 = .ok (.bipush 40, 2) := by decide +kernel
theorem dX3_twin_14 : decode cX3_twin 14 = .ok (.if_icmp .ge 7, 3) := by decide +kernel
theorem dX3_twin_17 : decode cX3_twin 17 = .ok (.iconst 1, 1) := by decide +kernel
theorem dX3_twin_18 : decode cX3_twin 18 = .ok (.goto 4, 3) := by decide +kernel
theorem dX3_twin_21 : decode cX3_twin 21 = .ok (.iconst 0, 1) := by decide +kernel
theorem dX3_twin_22 : decode cX3_twin 22 = .ok (.invokestatic 64, 3) := by decide +kernel
theorem dX3_twin_25 : decode cX3_twin 25 = .ok (.aload_n 0, 1) := by decide +kernel
theorem dX3_twin_26 : decode cX3_twin 26 = .ok (.getfield 41, 3) := by decide +kernel
theorem dX3_twin_29 : decode cX3_twin 29 = .ok (.aload_n 0, 1) := by decide +kernel
theorem dX3_twin_30 : decode cX3_twin 30 = .ok (.getfield 41, 3) := by decide +kernel
theorem dX3_twin_33 : decode cX3_twin 33 = .ok (.iload_n 1, 1) := by decide +kernel
theorem dX3_twin_34 : decode cX3_twin 34 = .ok (.iconst 0, 1) := by decide +kernel
theorem dX3_twin_35 : decode cX3_twin 35 = .ok (.invokevirtual 98, 3) := by decide +kernel
theorem dX3_twin_38 : decode cX3_twin 38 = .ok (.aload_n 0, 1) := by decide +kernel
theorem dX3_twin_39 : decode cX3_twin 39 = .ok (.getfield 41, 3) := by decide +kernel
theorem dX3_twin_42 : decode cX3_twin 42 = .ok (.iload_n 1, 1) := by decide +kernel
theorem dX3_twin_43 : decode cX3_twin 43 = .ok (.iconst 1, 1) := by decide +kernel
theorem dX3_twin_44 : decode cX3_twin 44 = .ok (.invokevirtual 98, 3) := by decide +kernel
theorem dX3_twin_47 : decode cX3_twin 47 = .ok (.aload_n 0, 1) := by decide +kernel
theorem dX3_twin_48 : decode cX3_twin 48 = .ok (.getfield 41, 3) := by decide +kernel
theorem dX3_twin_51 : decode cX3_twin 51 = .ok (.iload_n 1, 1) := by decide +kernel
theorem dX3_twin_52 : decode cX3_twin 52 = .ok (.iconst 2, 1) := by decide +kernel
theorem dX3_twin_53 : decode cX3_twin 53 = .ok (.invokevirtual 98, 3) := by decide +kernel
theorem dX3_twin_56 : decode cX3_twin 56 = .ok (.aload_n 0, 1) := by decide +kernel
theorem dX3_twin_57 : decode cX3_twin 57 = .ok (.getfield 41, 3) := by decide +kernel
theorem dX3_twin_60 : decode cX3_twin 60 = .ok (.iload_n 1, 1) := by decide +kernel
theorem dX3_twin_61 : decode cX3_twin 61 = .ok (.iconst 3, 1) := by decide +kernel
theorem dX3_twin_62 : decode cX3_twin 62 = .ok (.invokevirtual 98, 3) := by decide +kernel
theorem dX3_twin_65 : decode cX3_twin 65 = .ok (.aload_n 0, 1) := by decide +kernel
theorem dX3_twin_66 : decode cX3_twin 66 = .ok (.getfield 41, 3) := by decide +kernel
theorem dX3_twin_69 : decode cX3_twin 69 = .ok (.iload_n 1, 1) := by decide +kernel
theorem dX3_twin_70 : decode cX3_twin 70 = .ok (.iconst 4, 1) := by decide +kernel
theorem dX3_twin_71 : decode cX3_twin 71 = .ok (.invokevirtual 98, 3) := by decide +kernel
theorem dX3_twin_74 : decode cX3_twin 74 = .ok (.invokevirtual 115, 3) := by decide +kernel
theorem dX3_twin_77 : decode cX3_twin 77 = .ok (.aload_n 0, 1) := by decide +kernel
theorem dX3_twin_78 : decode cX3_twin 78 = .ok (.getfield 41, 3) := by decide +kernel
theorem dX3_twin_81 : decode cX3_twin 81 = .ok (.getfield 85, 3) := by decide +kernel
theorem dX3_twin_84 : decode cX3_twin 84 = .ok (.ireturn, 1) := by decide +kernel
theorem dX3_letters_0 : decode cX3_letters 0 = .ok (.aload_n 0, 1) := by decide +kernel
theorem dX3_letters_1 : decode cX3_letters 1 = .ok (.getfield 41, 3) := by decide +kernel
theorem dX3_letters_4 : decode cX3_letters 4 = .ok (.getfield 85, 3) := by decide +kernel
theorem dX3_letters_7 : decode cX3_letters 7 = .ok (.ireturn, 1) := by decide +kernel
theorem dX3_letter_0 : decode cX3_letter 0 = .ok (.aload_n 0, 1) := by decide +kernel
theorem dX3_letter_1 : decode cX3_letter 1 = .ok (.iload_n 1, 1) := by decide +kernel
theorem dX3_letter_2 : decode cX3_letter 2 = .ok (.invokevirtual 95, 3) := by decide +kernel
theorem dX3_letter_5 : decode cX3_letter 5 = .ok (.iload_n 2, 1) := by decide +kernel
theorem dX3_letter_6 : decode cX3_letter 6 = .ok (.ifCond .lt 12, 3) := by decide +kernel
theorem dX3_letter_9 : decode cX3_letter 9 = .ok (.iload_n 2, 1) := by decide +kernel
theorem dX3_letter_10 : decode cX3_letter 10 = .ok (.iconst 5, 1) := by decide +kernel
theorem dX3_letter_11 : decode cX3_letter 11 = .ok (.if_icmp .ge 7, 3) := by decide +kernel
theorem dX3_letter_14 : decode cX3_letter 14 = .ok (.iconst 1, 1) := by decide +kernel
theorem dX3_letter_15 : decode cX3_letter 15 = .ok (.goto 4, 3) := by decide +kernel
theorem dX3_letter_18 : decode cX3_letter 18 = .ok (.iconst 0, 1) := by decide +kernel
theorem dX3_letter_19 : decode cX3_letter 19 = .ok (.invokestatic 56, 3) := by decide +kernel
theorem dX3_letter_22 : decode cX3_letter 22 = .ok (.aload_n 0, 1) := by decide +kernel
theorem dX3_letter_23 : decode cX3_letter 23 = .ok (.getfield 41, 3) := by decide +kernel
theorem dX3_letter_26 : decode cX3_letter 26 = .ok (.iload_n 1, 1) := by decide +kernel
theorem dX3_letter_27 : decode cX3_letter 27 = .ok (.iload_n 2, 1) := by decide +kernel
theorem dX3_letter_28 : decode cX3_letter 28 = .ok (.invokevirtual 98, 3) := by decide +kernel
theorem dX3_letter_31 : decode cX3_letter 31 = .ok (.ireturn, 1) := by decide +kernel
theorem dX3_crew_0 : decode cX3_crew 0 = .ok (.aload_n 0, 1) := by decide +kernel
theorem dX3_crew_1 : decode cX3_crew 1 = .ok (.iload_n 1, 1) := by decide +kernel
theorem dX3_crew_2 : decode cX3_crew 2 = .ok (.invokevirtual 52, 3) := by decide +kernel
theorem dX3_crew_5 : decode cX3_crew 5 = .ok (.ifCond .eq 16, 3) := by decide +kernel
theorem dX3_crew_8 : decode cX3_crew 8 = .ok (.iload_n 2, 1) := by decide +kernel
theorem dX3_crew_9 : decode cX3_crew 9 = .ok (.ifCond .lt 12, 3) := by decide +kernel
theorem dX3_crew_12 : decode cX3_crew 12 = .ok (.iload_n 2, 1) := by decide +kernel
theorem dX3_crew_13 : decode cX3_crew 13 = .ok (.iconst 3, 1) := by decide +kernel
theorem dX3_crew_14 : decode cX3_crew 14 = .ok (.if_icmp .gt 7, 3) := by decide +kernel
theorem dX3_crew_17 : decode cX3_crew 17 = .ok (.iconst 1, 1) := by decide +kernel
theorem dX3_crew_18 : decode cX3_crew 18 = .ok (.goto 4, 3) := by decide +kernel
theorem dX3_crew_21 : decode cX3_crew 21 = .ok (.iconst 0, 1) := by decide +kernel
theorem dX3_crew_22 : decode cX3_crew 22 = .ok (.invokestatic 56, 3) := by decide +kernel
theorem dX3_crew_25 : decode cX3_crew 25 = .ok (.aload_n 0, 1) := by decide +kernel
theorem dX3_crew_26 : decode cX3_crew 26 = .ok (.getfield 24, 3) := by decide +kernel
theorem dX3_crew_29 : decode cX3_crew 29 = .ok (.iload_n 1, 1) := by decide +kernel
theorem dX3_crew_30 : decode cX3_crew 30 = .ok (.aaload, 1) := by decide +kernel
theorem dX3_crew_31 : decode cX3_crew 31 = .ok (.astore_n 3, 1) := by decide +kernel
theorem dX3_crew_32 : decode cX3_crew 32 = .ok (.iload_n 2, 1) := by decide +kernel
theorem dX3_crew_33 : decode cX3_crew 33 = .ok (.tableswitch 42 0 2 #[27, 32, 37], 27) := by decide +kernel
theorem dX3_crew_60 : decode cX3_crew 60 = .ok (.aload_n 3, 1) := by decide +kernel
theorem dX3_crew_61 : decode cX3_crew 61 = .ok (.getfield 82, 3) := by decide +kernel
theorem dX3_crew_64 : decode cX3_crew 64 = .ok (.ireturn, 1) := by decide +kernel
theorem dX3_crew_65 : decode cX3_crew 65 = .ok (.aload_n 3, 1) := by decide +kernel
theorem dX3_crew_66 : decode cX3_crew 66 = .ok (.getfield 73, 3) := by decide +kernel
theorem dX3_crew_69 : decode cX3_crew 69 = .ok (.ireturn, 1) := by decide +kernel
theorem dX3_crew_70 : decode cX3_crew 70 = .ok (.aload_n 3, 1) := by decide +kernel
theorem dX3_crew_71 : decode cX3_crew 71 = .ok (.getfield 119, 3) := by decide +kernel
theorem dX3_crew_74 : decode cX3_crew 74 = .ok (.ireturn, 1) := by decide +kernel
theorem dX3_crew_75 : decode cX3_crew 75 = .ok (.aload_n 0, 1) := by decide +kernel
theorem dX3_crew_76 : decode cX3_crew 76 = .ok (.aload_n 3, 1) := by decide +kernel
theorem dX3_crew_77 : decode cX3_crew 77 = .ok (.invokevirtual 122, 3) := by decide +kernel
theorem dX3_crew_80 : decode cX3_crew 80 = .ok (.ireturn, 1) := by decide +kernel
theorem dX3_known_0 : decode cX3_known 0 = .ok (.aload_n 0, 1) := by decide +kernel
theorem dX3_known_1 : decode cX3_known 1 = .ok (.iload_n 1, 1) := by decide +kernel
theorem dX3_known_2 : decode cX3_known 2 = .ok (.invokevirtual 52, 3) := by decide +kernel
theorem dX3_known_5 : decode cX3_known 5 = .ok (.ifCond .eq 15, 3) := by decide +kernel
theorem dX3_known_8 : decode cX3_known 8 = .ok (.aload_n 0, 1) := by decide +kernel
theorem dX3_known_9 : decode cX3_known 9 = .ok (.iload_n 2, 1) := by decide +kernel
theorem dX3_known_10 : decode cX3_known 10 = .ok (.invokevirtual 52, 3) := by decide +kernel
theorem dX3_known_13 : decode cX3_known 13 = .ok (.ifCond .eq 7, 3) := by decide +kernel
theorem dX3_known_16 : decode cX3_known 16 = .ok (.iconst 1, 1) := by decide +kernel
theorem dX3_known_17 : decode cX3_known 17 = .ok (.goto 4, 3) := by decide +kernel
theorem dX3_known_20 : decode cX3_known 20 = .ok (.iconst 0, 1) := by decide +kernel
theorem dX3_known_21 : decode cX3_known 21 = .ok (.invokestatic 56, 3) := by decide +kernel
theorem dX3_known_24 : decode cX3_known 24 = .ok (.aload_n 0, 1) := by decide +kernel
theorem dX3_known_25 : decode cX3_known 25 = .ok (.getfield 24, 3) := by decide +kernel
theorem dX3_known_28 : decode cX3_known 28 = .ok (.iload_n 1, 1) := by decide +kernel
theorem dX3_known_29 : decode cX3_known 29 = .ok (.aaload, 1) := by decide +kernel
theorem dX3_known_30 : decode cX3_known 30 = .ok (.getfield 126, 3) := by decide +kernel
theorem dX3_known_33 : decode cX3_known 33 = .ok (.iload_n 2, 1) := by decide +kernel
theorem dX3_known_34 : decode cX3_known 34 = .ok (.iaload, 1) := by decide +kernel
theorem dX3_known_35 : decode cX3_known 35 = .ok (.ireturn, 1) := by decide +kernel
theorem dX3_desk_0 : decode cX3_desk 0 = .ok (.aload_n 0, 1) := by decide +kernel
theorem dX3_desk_1 : decode cX3_desk 1 = .ok (.iload_n 1, 1) := by decide +kernel
theorem dX3_desk_2 : decode cX3_desk 2 = .ok (.invokevirtual 52, 3) := by decide +kernel
theorem dX3_desk_5 : decode cX3_desk 5 = .ok (.ifCond .eq 16, 3) := by decide +kernel
theorem dX3_desk_8 : decode cX3_desk 8 = .ok (.iload_n 2, 1) := by decide +kernel
theorem dX3_desk_9 : decode cX3_desk 9 = .ok (.ifCond .lt 12, 3) := by decide +kernel
theorem dX3_desk_12 : decode cX3_desk 12 = .ok (.iload_n 2, 1) := by decide +kernel
theorem dX3_desk_13 : decode cX3_desk 13 = .ok (.iconst 2, 1) := by decide +kernel
theorem dX3_desk_14 : decode cX3_desk 14 = .ok (.if_icmp .gt 7, 3) := by decide +kernel
theorem dX3_desk_17 : decode cX3_desk 17 = .ok (.iconst 1, 1) := by decide +kernel
theorem dX3_desk_18 : decode cX3_desk 18 = .ok (.goto 4, 3) := by decide +kernel
theorem dX3_desk_21 : decode cX3_desk 21 = .ok (.iconst 0, 1) := by decide +kernel
theorem dX3_desk_22 : decode cX3_desk 22 = .ok (.invokestatic 56, 3) := by decide +kernel
theorem dX3_desk_25 : decode cX3_desk 25 = .ok (.aload_n 0, 1) := by decide +kernel
theorem dX3_desk_26 : decode cX3_desk 26 = .ok (.getfield 30, 3) := by decide +kernel
theorem dX3_desk_29 : decode cX3_desk 29 = .ok (.iload_n 1, 1) := by decide +kernel
theorem dX3_desk_30 : decode cX3_desk 30 = .ok (.aaload, 1) := by decide +kernel
theorem dX3_desk_31 : decode cX3_desk 31 = .ok (.astore_n 3, 1) := by decide +kernel
theorem dX3_desk_32 : decode cX3_desk 32 = .ok (.iload_n 2, 1) := by decide +kernel
theorem dX3_desk_33 : decode cX3_desk 33 = .ok (.lookupswitch 37 #[(0, 27), (1, 32)], 27) := by decide +kernel
theorem dX3_desk_60 : decode cX3_desk 60 = .ok (.aload_n 3, 1) := by decide +kernel
theorem dX3_desk_61 : decode cX3_desk 61 = .ok (.getfield 129, 3) := by decide +kernel
theorem dX3_desk_64 : decode cX3_desk 64 = .ok (.ireturn, 1) := by decide +kernel
theorem dX3_desk_65 : decode cX3_desk 65 = .ok (.aload_n 3, 1) := by decide +kernel
theorem dX3_desk_66 : decode cX3_desk 66 = .ok (.getfield 132, 3) := by decide +kernel
theorem dX3_desk_69 : decode cX3_desk 69 = .ok (.ireturn, 1) := by decide +kernel
theorem dX3_desk_70 : decode cX3_desk 70 = .ok (.aload_n 3, 1) := by decide +kernel
theorem dX3_desk_71 : decode cX3_desk 71 = .ok (.getfield 135, 3) := by decide +kernel
theorem dX3_desk_74 : decode cX3_desk 74 = .ok (.ireturn, 1) := by decide +kernel
theorem dX3_settled_0 : decode cX3_settled 0 = .ok (.iconst 0, 1) := by decide +kernel
theorem dX3_settled_1 : decode cX3_settled 1 = .ok (.istore_n 1, 1) := by decide +kernel
theorem dX3_settled_2 : decode cX3_settled 2 = .ok (.iload_n 1, 1) := by decide +kernel
theorem dX3_settled_3 : decode cX3_settled 3 = .ok (.aload_n 0, 1) := by decide +kernel
theorem dX3_settled_4 : decode cX3_settled 4 = .ok (.getfield 18, 3) := by decide +kernel
theorem dX3_settled_7 : decode cX3_settled 7 = .ok (.if_icmp .ge 46, 3) := by decide +kernel
theorem dX3_settled_10 : decode cX3_settled 10 = .ok (.aload_n 0, 1) := by decide +kernel
theorem dX3_settled_11 : decode cX3_settled 11 = .ok (.getfield 24, 3) := by decide +kernel
theorem dX3_settled_14 : decode cX3_settled 14 = .ok (.iload_n 1, 1) := by decide +kernel
theorem dX3_settled_15 : decode cX3_settled 15 = .ok (.aaload, 1) := by decide +kernel
theorem dX3_settled_16 : decode cX3_settled 16 = .ok (.astore_n 2, 1) := by decide +kernel
theorem dX3_settled_17 : decode cX3_settled 17 = .ok (.aload_n 2, 1) := by decide +kernel
theorem dX3_settled_18 : decode cX3_settled 18 = .ok (.getfield 82, 3) := by decide +kernel
theorem dX3_settled_21 : decode cX3_settled 21 = .ok (.iconst 2, 1) := by decide +kernel
theorem dX3_settled_22 : decode cX3_settled 22 = .ok (.if_icmp .ne 23, 3) := by decide +kernel
theorem dX3_settled_25 : decode cX3_settled 25 = .ok (.aload_n 0, 1) := by decide +kernel
theorem dX3_settled_26 : decode cX3_settled 26 = .ok (.getfield 30, 3) := by decide +kernel
theorem dX3_settled_29 : decode cX3_settled 29 = .ok (.aload_n 2, 1) := by decide +kernel
theorem dX3_settled_30 : decode cX3_settled 30 = .ok (.getfield 73, 3) := by decide +kernel
theorem dX3_settled_33 : decode cX3_settled 33 = .ok (.aaload, 1) := by decide +kernel
theorem dX3_settled_34 : decode cX3_settled 34 = .ok (.iload_n 1, 1) := by decide +kernel
theorem dX3_settled_35 : decode cX3_settled 35 = .ok (.aload_n 2, 1) := by decide +kernel
theorem dX3_settled_36 : decode cX3_settled 36 = .ok (.getfield 119, 3) := by decide +kernel
theorem dX3_settled_39 : decode cX3_settled 39 = .ok (.invokevirtual 136, 3) := by decide +kernel
theorem dX3_settled_42 : decode cX3_settled 42 = .ok (.ifCond .ne 5, 3) := by decide +kernel
theorem dX3_settled_45 : decode cX3_settled 45 = .ok (.iconst 0, 1) := by decide +kernel
theorem dX3_settled_46 : decode cX3_settled 46 = .ok (.ireturn, 1) := by decide +kernel
theorem dX3_settled_47 : decode cX3_settled 47 = .ok (.iinc 1 1, 3) := by decide +kernel
theorem dX3_settled_50 : decode cX3_settled 50 = .ok (.goto (-48), 3) := by decide +kernel
theorem dX3_settled_53 : decode cX3_settled 53 = .ok (.iconst 1, 1) := by decide +kernel
theorem dX3_settled_54 : decode cX3_settled 54 = .ok (.ireturn, 1) := by decide +kernel
theorem dX3_phase_0 : decode cX3_phase 0 = .ok (.aload_n 0, 1) := by decide +kernel
theorem dX3_phase_1 : decode cX3_phase 1 = .ok (.invokevirtual 140, 3) := by decide +kernel
theorem dX3_phase_4 : decode cX3_phase 4 = .ok (.ifCond .eq 15, 3) := by decide +kernel
theorem dX3_phase_7 : decode cX3_phase 7 = .ok (.aload_n 0, 1) := by decide +kernel
theorem dX3_phase_8 : decode cX3_phase 8 = .ok (.getfield 49, 3) := by decide +kernel
theorem dX3_phase_11 : decode cX3_phase 11 = .ok (.iconst 3, 1) := by decide +kernel
theorem dX3_phase_12 : decode cX3_phase 12 = .ok (.if_icmp .ge 7, 3) := by decide +kernel
theorem dX3_phase_15 : decode cX3_phase 15 = .ok (.iconst 1, 1) := by decide +kernel
theorem dX3_phase_16 : decode cX3_phase 16 = .ok (.goto 4, 3) := by decide +kernel
theorem dX3_phase_19 : decode cX3_phase 19 = .ok (.iconst 0, 1) := by decide +kernel
theorem dX3_phase_20 : decode cX3_phase 20 = .ok (.invokestatic 64, 3) := by decide +kernel
theorem dX3_phase_23 : decode cX3_phase 23 = .ok (.aload_n 0, 1) := by decide +kernel
theorem dX3_phase_24 : decode cX3_phase 24 = .ok (.dup, 1) := by decide +kernel
theorem dX3_phase_25 : decode cX3_phase 25 = .ok (.getfield 49, 3) := by decide +kernel
theorem dX3_phase_28 : decode cX3_phase 28 = .ok (.iconst 1, 1) := by decide +kernel
theorem dX3_phase_29 : decode cX3_phase 29 = .ok (.iadd, 1) := by decide +kernel
theorem dX3_phase_30 : decode cX3_phase 30 = .ok (.putfield 49, 3) := by decide +kernel
theorem dX3_phase_33 : decode cX3_phase 33 = .ok (.aload_n 0, 1) := by decide +kernel
theorem dX3_phase_34 : decode cX3_phase 34 = .ok (.getfield 41, 3) := by decide +kernel
theorem dX3_phase_37 : decode cX3_phase 37 = .ok (.invokevirtual 70, 3) := by decide +kernel
theorem dX3_phase_40 : decode cX3_phase 40 = .ok (.iconst 0, 1) := by decide +kernel
theorem dX3_phase_41 : decode cX3_phase 41 = .ok (.istore_n 1, 1) := by decide +kernel
theorem dX3_phase_42 : decode cX3_phase 42 = .ok (.iload_n 1, 1) := by decide +kernel
theorem dX3_phase_43 : decode cX3_phase 43 = .ok (.aload_n 0, 1) := by decide +kernel
theorem dX3_phase_44 : decode cX3_phase 44 = .ok (.getfield 18, 3) := by decide +kernel
theorem dX3_phase_47 : decode cX3_phase 47 = .ok (.if_icmp .ge 27, 3) := by decide +kernel
theorem dX3_phase_50 : decode cX3_phase 50 = .ok (.aload_n 0, 1) := by decide +kernel
theorem dX3_phase_51 : decode cX3_phase 51 = .ok (.getfield 30, 3) := by decide +kernel
theorem dX3_phase_54 : decode cX3_phase 54 = .ok (.iload_n 1, 1) := by decide +kernel
theorem dX3_phase_55 : decode cX3_phase 55 = .ok (.aaload, 1) := by decide +kernel
theorem dX3_phase_56 : decode cX3_phase 56 = .ok (.invokevirtual 76, 3) := by decide +kernel
theorem dX3_phase_59 : decode cX3_phase 59 = .ok (.aload_n 0, 1) := by decide +kernel
theorem dX3_phase_60 : decode cX3_phase 60 = .ok (.getfield 24, 3) := by decide +kernel
theorem dX3_phase_63 : decode cX3_phase 63 = .ok (.iload_n 1, 1) := by decide +kernel
theorem dX3_phase_64 : decode cX3_phase 64 = .ok (.aaload, 1) := by decide +kernel
theorem dX3_phase_65 : decode cX3_phase 65 = .ok (.invokevirtual 79, 3) := by decide +kernel
theorem dX3_phase_68 : decode cX3_phase 68 = .ok (.iinc 1 1, 3) := by decide +kernel
theorem dX3_phase_71 : decode cX3_phase 71 = .ok (.goto (-29), 3) := by decide +kernel
theorem dX3_phase_74 : decode cX3_phase 74 = .ok (.getstatic 86, 3) := by decide +kernel
theorem dX3_phase_77 : decode cX3_phase 77 = .ok (.aload_n 0, 1) := by decide +kernel
theorem dX3_phase_78 : decode cX3_phase 78 = .ok (.getfield 49, 3) := by decide +kernel
theorem dX3_phase_81 : decode cX3_phase 81 = .ok (.iaload, 1) := by decide +kernel
theorem dX3_phase_82 : decode cX3_phase 82 = .ok (.ireturn, 1) := by decide +kernel
theorem dX3_total_0 : decode cX3_total 0 = .ok (.aload_n 0, 1) := by decide +kernel
theorem dX3_total_1 : decode cX3_total 1 = .ok (.invokevirtual 140, 3) := by decide +kernel
theorem dX3_total_4 : decode cX3_total 4 = .ok (.invokestatic 64, 3) := by decide +kernel
theorem dX3_total_7 : decode cX3_total 7 = .ok (.iconst 0, 1) := by decide +kernel
theorem dX3_total_8 : decode cX3_total 8 = .ok (.istore_n 1, 1) := by decide +kernel
theorem dX3_total_9 : decode cX3_total 9 = .ok (.iconst 0, 1) := by decide +kernel
theorem dX3_total_10 : decode cX3_total 10 = .ok (.istore_n 2, 1) := by decide +kernel
theorem dX3_total_11 : decode cX3_total 11 = .ok (.iload_n 2, 1) := by decide +kernel
theorem dX3_total_12 : decode cX3_total 12 = .ok (.aload_n 0, 1) := by decide +kernel
theorem dX3_total_13 : decode cX3_total 13 = .ok (.getfield 18, 3) := by decide +kernel
theorem dX3_total_16 : decode cX3_total 16 = .ok (.if_icmp .ge 31, 3) := by decide +kernel
theorem dX3_total_19 : decode cX3_total 19 = .ok (.iload_n 1, 1) := by decide +kernel
theorem dX3_total_20 : decode cX3_total 20 = .ok (.aload_n 0, 1) := by decide +kernel
theorem dX3_total_21 : decode cX3_total 21 = .ok (.getfield 24, 3) := by decide +kernel
theorem dX3_total_24 : decode cX3_total 24 = .ok (.iload_n 2, 1) := by decide +kernel
theorem dX3_total_25 : decode cX3_total 25 = .ok (.aaload, 1) := by decide +kernel
theorem dX3_total_26 : decode cX3_total 26 = .ok (.getfield 67, 3) := by decide +kernel
theorem dX3_total_29 : decode cX3_total 29 = .ok (.aload_n 0, 1) := by decide +kernel
theorem dX3_total_30 : decode cX3_total 30 = .ok (.getfield 24, 3) := by decide +kernel
theorem dX3_total_33 : decode cX3_total 33 = .ok (.iload_n 2, 1) := by decide +kernel
theorem dX3_total_34 : decode cX3_total 34 = .ok (.aaload, 1) := by decide +kernel
theorem dX3_total_35 : decode cX3_total 35 = .ok (.getfield 73, 3) := by decide +kernel
theorem dX3_total_38 : decode cX3_total 38 = .ok (.iaload, 1) := by decide +kernel
theorem dX3_total_39 : decode cX3_total 39 = .ok (.iadd, 1) := by decide +kernel
theorem dX3_total_40 : decode cX3_total 40 = .ok (.istore_n 1, 1) := by decide +kernel
theorem dX3_total_41 : decode cX3_total 41 = .ok (.iinc 2 1, 3) := by decide +kernel
theorem dX3_total_44 : decode cX3_total 44 = .ok (.goto (-33), 3) := by decide +kernel
theorem dX3_total_47 : decode cX3_total 47 = .ok (.iload_n 1, 1) := by decide +kernel
theorem dX3_total_48 : decode cX3_total 48 = .ok (.ireturn, 1) := by decide +kernel
theorem dX3_proves_0 : decode cX3_proves 0 = .ok (.aload_n 0, 1) := by decide +kernel
theorem dX3_proves_1 : decode cX3_proves 1 = .ok (.invokevirtual 140, 3) := by decide +kernel
theorem dX3_proves_4 : decode cX3_proves 4 = .ok (.invokestatic 64, 3) := by decide +kernel
theorem dX3_proves_7 : decode cX3_proves 7 = .ok (.iconst 0, 1) := by decide +kernel
theorem dX3_proves_8 : decode cX3_proves 8 = .ok (.istore_n 1, 1) := by decide +kernel
theorem dX3_proves_9 : decode cX3_proves 9 = .ok (.iconst 0, 1) := by decide +kernel
theorem dX3_proves_10 : decode cX3_proves 10 = .ok (.istore_n 2, 1) := by decide +kernel
theorem dX3_proves_11 : decode cX3_proves 11 = .ok (.iload_n 2, 1) := by decide +kernel
theorem dX3_proves_12 : decode cX3_proves 12 = .ok (.aload_n 0, 1) := by decide +kernel
theorem dX3_proves_13 : decode cX3_proves 13 = .ok (.getfield 18, 3) := by decide +kernel
theorem dX3_proves_16 : decode cX3_proves 16 = .ok (.if_icmp .ge 51, 3) := by decide +kernel
theorem dX3_proves_19 : decode cX3_proves 19 = .ok (.iload_n 1, 1) := by decide +kernel
theorem dX3_proves_20 : decode cX3_proves 20 = .ok (.aload_n 0, 1) := by decide +kernel
theorem dX3_proves_21 : decode cX3_proves 21 = .ok (.getfield 30, 3) := by decide +kernel
theorem dX3_proves_24 : decode cX3_proves 24 = .ok (.iload_n 2, 1) := by decide +kernel
theorem dX3_proves_25 : decode cX3_proves 25 = .ok (.aaload, 1) := by decide +kernel
theorem dX3_proves_26 : decode cX3_proves 26 = .ok (.getfield 129, 3) := by decide +kernel
theorem dX3_proves_29 : decode cX3_proves 29 = .ok (.aload_n 0, 1) := by decide +kernel
theorem dX3_proves_30 : decode cX3_proves 30 = .ok (.aload_n 0, 1) := by decide +kernel
theorem dX3_proves_31 : decode cX3_proves 31 = .ok (.getfield 24, 3) := by decide +kernel
theorem dX3_proves_34 : decode cX3_proves 34 = .ok (.iload_n 2, 1) := by decide +kernel
theorem dX3_proves_35 : decode cX3_proves 35 = .ok (.aaload, 1) := by decide +kernel
theorem dX3_proves_36 : decode cX3_proves 36 = .ok (.invokevirtual 122, 3) := by decide +kernel
theorem dX3_proves_39 : decode cX3_proves 39 = .ok (.iadd, 1) := by decide +kernel
theorem dX3_proves_40 : decode cX3_proves 40 = .ok (.aload_n 0, 1) := by decide +kernel
theorem dX3_proves_41 : decode cX3_proves 41 = .ok (.getfield 24, 3) := by decide +kernel
theorem dX3_proves_44 : decode cX3_proves 44 = .ok (.iload_n 2, 1) := by decide +kernel
theorem dX3_proves_45 : decode cX3_proves 45 = .ok (.aaload, 1) := by decide +kernel
theorem dX3_proves_46 : decode cX3_proves 46 = .ok (.aload_n 0, 1) := by decide +kernel
theorem dX3_proves_47 : decode cX3_proves 47 = .ok (.getfield 24, 3) := by decide +kernel
theorem dX3_proves_50 : decode cX3_proves 50 = .ok (.iload_n 2, 1) := by decide +kernel
theorem dX3_proves_51 : decode cX3_proves 51 = .ok (.aaload, 1) := by decide +kernel
theorem dX3_proves_52 : decode cX3_proves 52 = .ok (.getfield 73, 3) := by decide +kernel
theorem dX3_proves_55 : decode cX3_proves 55 = .ok (.invokevirtual 143, 3) := by decide +kernel
theorem dX3_proves_58 : decode cX3_proves 58 = .ok (.isub, 1) := by decide +kernel
theorem dX3_proves_59 : decode cX3_proves 59 = .ok (.iadd, 1) := by decide +kernel
theorem dX3_proves_60 : decode cX3_proves 60 = .ok (.istore_n 1, 1) := by decide +kernel
theorem dX3_proves_61 : decode cX3_proves 61 = .ok (.iinc 2 1, 3) := by decide +kernel
theorem dX3_proves_64 : decode cX3_proves 64 = .ok (.goto (-53), 3) := by decide +kernel
theorem dX3_proves_67 : decode cX3_proves 67 = .ok (.iload_n 1, 1) := by decide +kernel
theorem dX3_proves_68 : decode cX3_proves 68 = .ok (.aload_n 0, 1) := by decide +kernel
theorem dX3_proves_69 : decode cX3_proves 69 = .ok (.getfield 18, 3) := by decide +kernel
theorem dX3_proves_72 : decode cX3_proves 72 = .ok (.iconst 1, 1) := by decide +kernel
theorem dX3_proves_73 : decode cX3_proves 73 = .ok (.iadd, 1) := by decide +kernel
theorem dX3_proves_74 : decode cX3_proves 74 = .ok (.if_icmp .ge 7, 3) := by decide +kernel
theorem dX3_proves_77 : decode cX3_proves 77 = .ok (.iconst 1, 1) := by decide +kernel
theorem dX3_proves_78 : decode cX3_proves 78 = .ok (.goto 4, 3) := by decide +kernel
theorem dX3_proves_81 : decode cX3_proves 81 = .ok (.iconst 0, 1) := by decide +kernel
theorem dX3_proves_82 : decode cX3_proves 82 = .ok (.ireturn, 1) := by decide +kernel
theorem dX3_count_0 : decode cX3_count 0 = .ok (.iload_n 1, 1) := by decide +kernel
theorem dX3_count_1 : decode cX3_count 1 = .ok (.ifCond .lt 12, 3) := by decide +kernel
theorem dX3_count_4 : decode cX3_count 4 = .ok (.iload_n 1, 1) := by decide +kernel
theorem dX3_count_5 : decode cX3_count 5 = .ok (.iconst 4, 1) := by decide +kernel
theorem dX3_count_6 : decode cX3_count 6 = .ok (.if_icmp .gt 7, 3) := by decide +kernel
theorem dX3_count_9 : decode cX3_count 9 = .ok (.iconst 1, 1) := by decide +kernel
theorem dX3_count_10 : decode cX3_count 10 = .ok (.goto 4, 3) := by decide +kernel
theorem dX3_count_13 : decode cX3_count 13 = .ok (.iconst 0, 1) := by decide +kernel
theorem dX3_count_14 : decode cX3_count 14 = .ok (.invokestatic 56, 3) := by decide +kernel
theorem dX3_count_17 : decode cX3_count 17 = .ok (.iload_n 1, 1) := by decide +kernel
theorem dX3_count_18 : decode cX3_count 18 = .ok (.iconst 4, 1) := by decide +kernel
theorem dX3_count_19 : decode cX3_count 19 = .ok (.if_icmp .ne 14, 3) := by decide +kernel
theorem dX3_count_22 : decode cX3_count 22 = .ok (.getstatic 86, 3) := by decide +kernel
theorem dX3_count_25 : decode cX3_count 25 = .ok (.aload_n 0, 1) := by decide +kernel
theorem dX3_count_26 : decode cX3_count 26 = .ok (.getfield 49, 3) := by decide +kernel
theorem dX3_count_29 : decode cX3_count 29 = .ok (.iaload, 1) := by decide +kernel
theorem dX3_count_30 : decode cX3_count 30 = .ok (.goto 9, 3) := by decide +kernel
theorem dX3_count_33 : decode cX3_count 33 = .ok (.aload_n 0, 1) := by decide +kernel
theorem dX3_count_34 : decode cX3_count 34 = .ok (.getfield 45, 3) := by decide +kernel
theorem dX3_count_37 : decode cX3_count 37 = .ok (.iload_n 1, 1) := by decide +kernel
theorem dX3_count_38 : decode cX3_count 38 = .ok (.iaload, 1) := by decide +kernel
theorem dX3_count_39 : decode cX3_count 39 = .ok (.ireturn, 1) := by decide +kernel
theorem dX3_isIndex_0 : decode cX3_isIndex 0 = .ok (.iload_n 1, 1) := by decide +kernel
theorem dX3_isIndex_1 : decode cX3_isIndex 1 = .ok (.ifCond .lt 15, 3) := by decide +kernel
theorem dX3_isIndex_4 : decode cX3_isIndex 4 = .ok (.iload_n 1, 1) := by decide +kernel
theorem dX3_isIndex_5 : decode cX3_isIndex 5 = .ok (.aload_n 0, 1) := by decide +kernel
theorem dX3_isIndex_6 : decode cX3_isIndex 6 = .ok (.getfield 18, 3) := by decide +kernel
theorem dX3_isIndex_9 : decode cX3_isIndex 9 = .ok (.if_icmp .ge 7, 3) := by decide +kernel
theorem dX3_isIndex_12 : decode cX3_isIndex 12 = .ok (.iconst 1, 1) := by decide +kernel
theorem dX3_isIndex_13 : decode cX3_isIndex 13 = .ok (.goto 4, 3) := by decide +kernel
theorem dX3_isIndex_16 : decode cX3_isIndex 16 = .ok (.iconst 0, 1) := by decide +kernel
theorem dX3_isIndex_17 : decode cX3_isIndex 17 = .ok (.ireturn, 1) := by decide +kernel
theorem dX3_isDone_0 : decode cX3_isDone 0 = .ok (.aload_n 0, 1) := by decide +kernel
theorem dX3_isDone_1 : decode cX3_isDone 1 = .ok (.getfield 49, 3) := by decide +kernel
theorem dX3_isDone_4 : decode cX3_isDone 4 = .ok (.iconst 3, 1) := by decide +kernel
theorem dX3_isDone_5 : decode cX3_isDone 5 = .ok (.if_icmp .ne 14, 3) := by decide +kernel
theorem dX3_isDone_8 : decode cX3_isDone 8 = .ok (.aload_n 0, 1) := by decide +kernel
theorem dX3_isDone_9 : decode cX3_isDone 9 = .ok (.invokevirtual 140, 3) := by decide +kernel
theorem dX3_isDone_12 : decode cX3_isDone 12 = .ok (.ifCond .eq 7, 3) := by decide +kernel
theorem dX3_isDone_15 : decode cX3_isDone 15 = .ok (.iconst 1, 1) := by decide +kernel
theorem dX3_isDone_16 : decode cX3_isDone 16 = .ok (.goto 4, 3) := by decide +kernel
theorem dX3_isDone_19 : decode cX3_isDone 19 = .ok (.iconst 0, 1) := by decide +kernel
theorem dX3_isDone_20 : decode cX3_isDone 20 = .ok (.ireturn, 1) := by decide +kernel
theorem dX3_profitOf_0 : decode cX3_profitOf 0 = .ok (.aload_n 1, 1) := by decide +kernel
theorem dX3_profitOf_1 : decode cX3_profitOf 1 = .ok (.iconst 0, 1) := by decide +kernel
theorem dX3_profitOf_2 : decode cX3_profitOf 2 = .ok (.invokevirtual 143, 3) := by decide +kernel
theorem dX3_profitOf_5 : decode cX3_profitOf 5 = .ok (.aload_n 0, 1) := by decide +kernel
theorem dX3_profitOf_6 : decode cX3_profitOf 6 = .ok (.getfield 30, 3) := by decide +kernel
theorem dX3_profitOf_9 : decode cX3_profitOf 9 = .ok (.iconst 0, 1) := by decide +kernel
theorem dX3_profitOf_10 : decode cX3_profitOf 10 = .ok (.aaload, 1) := by decide +kernel
theorem dX3_profitOf_11 : decode cX3_profitOf 11 = .ok (.getfield 129, 3) := by decide +kernel
theorem dX3_profitOf_14 : decode cX3_profitOf 14 = .ok (.isub, 1) := by decide +kernel
theorem dX3_profitOf_15 : decode cX3_profitOf 15 = .ok (.istore_n 2, 1) := by decide +kernel
theorem dX3_profitOf_16 : decode cX3_profitOf 16 = .ok (.iconst 1, 1) := by decide +kernel
theorem dX3_profitOf_17 : decode cX3_profitOf 17 = .ok (.istore_n 3, 1) := by decide +kernel
theorem dX3_profitOf_18 : decode cX3_profitOf 18 = .ok (.iload_n 3, 1) := by decide +kernel
theorem dX3_profitOf_19 : decode cX3_profitOf 19 = .ok (.aload_n 0, 1) := by decide +kernel
theorem dX3_profitOf_20 : decode cX3_profitOf 20 = .ok (.getfield 18, 3) := by decide +kernel
theorem dX3_profitOf_23 : decode cX3_profitOf 23 = .ok (.if_icmp .ge 29, 3) := by decide +kernel
theorem dX3_profitOf_26 : decode cX3_profitOf 26 = .ok (.iload_n 2, 1) := by decide +kernel
theorem dX3_profitOf_27 : decode cX3_profitOf 27 = .ok (.aload_n 1, 1) := by decide +kernel
theorem dX3_profitOf_28 : decode cX3_profitOf 28 = .ok (.iload_n 3, 1) := by decide +kernel
theorem dX3_profitOf_29 : decode cX3_profitOf 29 = .ok (.invokevirtual 143, 3) := by decide +kernel
theorem dX3_profitOf_32 : decode cX3_profitOf 32 = .ok (.aload_n 0, 1) := by decide +kernel
theorem dX3_profitOf_33 : decode cX3_profitOf 33 = .ok (.getfield 30, 3) := by decide +kernel
theorem dX3_profitOf_36 : decode cX3_profitOf 36 = .ok (.iload_n 3, 1) := by decide +kernel
theorem dX3_profitOf_37 : decode cX3_profitOf 37 = .ok (.aaload, 1) := by decide +kernel
theorem dX3_profitOf_38 : decode cX3_profitOf 38 = .ok (.getfield 129, 3) := by decide +kernel
theorem dX3_profitOf_41 : decode cX3_profitOf 41 = .ok (.isub, 1) := by decide +kernel
theorem dX3_profitOf_42 : decode cX3_profitOf 42 = .ok (.invokestatic 15, 3) := by decide +kernel
theorem dX3_profitOf_45 : decode cX3_profitOf 45 = .ok (.istore_n 2, 1) := by decide +kernel
theorem dX3_profitOf_46 : decode cX3_profitOf 46 = .ok (.iinc 3 1, 3) := by decide +kernel
theorem dX3_profitOf_49 : decode cX3_profitOf 49 = .ok (.goto (-31), 3) := by decide +kernel
theorem dX3_profitOf_52 : decode cX3_profitOf 52 = .ok (.iload_n 2, 1) := by decide +kernel
theorem dX3_profitOf_53 : decode cX3_profitOf 53 = .ok (.ireturn, 1) := by decide +kernel
theorem dX3_sendBid_0 : decode cX3_sendBid 0 = .ok (.aload_n 0, 1) := by decide +kernel
theorem dX3_sendBid_1 : decode cX3_sendBid 1 = .ok (.getfield 24, 3) := by decide +kernel
theorem dX3_sendBid_4 : decode cX3_sendBid 4 = .ok (.iload_n 1, 1) := by decide +kernel
theorem dX3_sendBid_5 : decode cX3_sendBid 5 = .ok (.aaload, 1) := by decide +kernel
theorem dX3_sendBid_6 : decode cX3_sendBid 6 = .ok (.astore_n 2, 1) := by decide +kernel
theorem dX3_sendBid_7 : decode cX3_sendBid 7 = .ok (.aload_n 0, 1) := by decide +kernel
theorem dX3_sendBid_8 : decode cX3_sendBid 8 = .ok (.getfield 41, 3) := by decide +kernel
theorem dX3_sendBid_11 : decode cX3_sendBid 11 = .ok (.iconst 0, 1) := by decide +kernel
theorem dX3_sendBid_12 : decode cX3_sendBid 12 = .ok (.iload_n 1, 1) := by decide +kernel
theorem dX3_sendBid_13 : decode cX3_sendBid 13 = .ok (.aload_n 2, 1) := by decide +kernel
theorem dX3_sendBid_14 : decode cX3_sendBid 14 = .ok (.getfield 73, 3) := by decide +kernel
theorem dX3_sendBid_17 : decode cX3_sendBid 17 = .ok (.aload_n 2, 1) := by decide +kernel
theorem dX3_sendBid_18 : decode cX3_sendBid 18 = .ok (.getfield 119, 3) := by decide +kernel
theorem dX3_sendBid_21 : decode cX3_sendBid 21 = .ok (.aload_n 2, 1) := by decide +kernel
theorem dX3_sendBid_22 : decode cX3_sendBid 22 = .ok (.getfield 147, 3) := by decide +kernel
theorem dX3_sendBid_25 : decode cX3_sendBid 25 = .ok (.invokevirtual 115, 3) := by decide +kernel
theorem dX3_sendBid_28 : decode cX3_sendBid 28 = .ok (.return_, 1) := by decide +kernel
theorem dX3_sendAnswer_0 : decode cX3_sendAnswer 0 = .ok (.aload_n 0, 1) := by decide +kernel
theorem dX3_sendAnswer_1 : decode cX3_sendAnswer 1 = .ok (.getfield 45, 3) := by decide +kernel
theorem dX3_sendAnswer_4 : decode cX3_sendAnswer 4 = .ok (.iload_n 1, 1) := by decide +kernel
theorem dX3_sendAnswer_5 : decode cX3_sendAnswer 5 = .ok (.dup2, 1) := by decide +kernel
theorem dX3_sendAnswer_6 : decode cX3_sendAnswer 6 = .ok (.iaload, 1) := by decide +kernel
theorem dX3_sendAnswer_7 : decode cX3_sendAnswer 7 = .ok (.iconst 1, 1) := by decide +kernel
theorem dX3_sendAnswer_8 : decode cX3_sendAnswer 8 = .ok (.iadd, 1) := by decide +kernel
theorem dX3_sendAnswer_9 : decode cX3_sendAnswer 9 = .ok (.iastore, 1) := by decide +kernel
theorem dX3_sendAnswer_10 : decode cX3_sendAnswer 10 = .ok (.aload_n 0, 1) := by decide +kernel
theorem dX3_sendAnswer_11 : decode cX3_sendAnswer 11 = .ok (.getfield 41, 3) := by decide +kernel
theorem dX3_sendAnswer_14 : decode cX3_sendAnswer 14 = .ok (.iload_n 1, 1) := by decide +kernel
theorem dX3_sendAnswer_15 : decode cX3_sendAnswer 15 = .ok (.iload_n 2, 1) := by decide +kernel
theorem dX3_sendAnswer_16 : decode cX3_sendAnswer 16 = .ok (.iload_n 3, 1) := by decide +kernel
theorem dX3_sendAnswer_17 : decode cX3_sendAnswer 17 = .ok (.iload 4, 2) := by decide +kernel
theorem dX3_sendAnswer_19 : decode cX3_sendAnswer 19 = .ok (.aload_n 0, 1) := by decide +kernel
theorem dX3_sendAnswer_20 : decode cX3_sendAnswer 20 = .ok (.getfield 30, 3) := by decide +kernel
theorem dX3_sendAnswer_23 : decode cX3_sendAnswer 23 = .ok (.iload_n 3, 1) := by decide +kernel
theorem dX3_sendAnswer_24 : decode cX3_sendAnswer 24 = .ok (.aaload, 1) := by decide +kernel
theorem dX3_sendAnswer_25 : decode cX3_sendAnswer 25 = .ok (.getfield 129, 3) := by decide +kernel
theorem dX3_sendAnswer_28 : decode cX3_sendAnswer 28 = .ok (.invokevirtual 115, 3) := by decide +kernel
theorem dX3_sendAnswer_31 : decode cX3_sendAnswer 31 = .ok (.return_, 1) := by decide +kernel
theorem dX3_receiveBid_0 : decode cX3_receiveBid 0 = .ok (.aload_n 0, 1) := by decide +kernel
theorem dX3_receiveBid_1 : decode cX3_receiveBid 1 = .ok (.getfield 30, 3) := by decide +kernel
theorem dX3_receiveBid_4 : decode cX3_receiveBid 4 = .ok (.iload_n 2, 1) := by decide +kernel
theorem dX3_receiveBid_5 : decode cX3_receiveBid 5 = .ok (.aaload, 1) := by decide +kernel
theorem dX3_receiveBid_6 : decode cX3_receiveBid 6 = .ok (.astore 5, 2) := by decide +kernel
theorem dX3_receiveBid_8 : decode cX3_receiveBid 8 = .ok (.aload 5, 2) := by decide +kernel
theorem dX3_receiveBid_10 : decode cX3_receiveBid 10 = .ok (.iload_n 1, 1) := by decide +kernel
theorem dX3_receiveBid_11 : decode cX3_receiveBid 11 = .ok (.iload_n 3, 1) := by decide +kernel
theorem dX3_receiveBid_12 : decode cX3_receiveBid 12 = .ok (.invokevirtual 136, 3) := by decide +kernel
theorem dX3_receiveBid_15 : decode cX3_receiveBid 15 = .ok (.ifCond .eq 14, 3) := by decide +kernel
theorem dX3_receiveBid_18 : decode cX3_receiveBid 18 = .ok (.aload_n 0, 1) := by decide +kernel
theorem dX3_receiveBid_19 : decode cX3_receiveBid 19 = .ok (.iconst 1, 1) := by decide +kernel
theorem dX3_receiveBid_20 : decode cX3_receiveBid 20 = .ok (.iload_n 1, 1) := by decide +kernel
theorem dX3_receiveBid_21 : decode cX3_receiveBid 21 = .ok (.iload_n 2, 1) := by decide +kernel
theorem dX3_receiveBid_22 : decode cX3_receiveBid 22 = .ok (.iload_n 3, 1) := by decide +kernel
theorem dX3_receiveBid_23 : decode cX3_receiveBid 23 = .ok (.invokevirtual 150, 3) := by decide +kernel
theorem dX3_receiveBid_26 : decode cX3_receiveBid 26 = .ok (.goto 85, 3) := by decide +kernel
theorem dX3_receiveBid_29 : decode cX3_receiveBid 29 = .ok (.iload 4, 2) := by decide +kernel
theorem dX3_receiveBid_31 : decode cX3_receiveBid 31 = .ok (.aload 5, 2) := by decide +kernel
theorem dX3_receiveBid_33 : decode cX3_receiveBid 33 = .ok (.getfield 129, 3) := by decide +kernel
theorem dX3_receiveBid_36 : decode cX3_receiveBid 36 = .ok (.getstatic 86, 3) := by decide +kernel
theorem dX3_receiveBid_39 : decode cX3_receiveBid 39 = .ok (.aload_n 0, 1) := by decide +kernel
theorem dX3_receiveBid_40 : decode cX3_receiveBid 40 = .ok (.getfield 49, 3) := by decide +kernel
theorem dX3_receiveBid_43 : decode cX3_receiveBid 43 = .ok (.iaload, 1) := by decide +kernel
theorem dX3_receiveBid_44 : decode cX3_receiveBid 44 = .ok (.iadd, 1) := by decide +kernel
theorem dX3_receiveBid_45 : decode cX3_receiveBid 45 = .ok (.if_icmp .lt 58, 3) := by decide +kernel
theorem dX3_receiveBid_48 : decode cX3_receiveBid 48 = .ok (.aload 5, 2) := by decide +kernel
theorem dX3_receiveBid_50 : decode cX3_receiveBid 50 = .ok (.iload 4, 2) := by decide +kernel
theorem dX3_receiveBid_52 : decode cX3_receiveBid 52 = .ok (.putfield 129, 3) := by decide +kernel
theorem dX3_receiveBid_55 : decode cX3_receiveBid 55 = .ok (.aload 5, 2) := by decide +kernel
theorem dX3_receiveBid_57 : decode cX3_receiveBid 57 = .ok (.getfield 132, 3) := by decide +kernel
theorem dX3_receiveBid_60 : decode cX3_receiveBid 60 = .ok (.iconst (-1), 1) := by decide +kernel
theorem dX3_receiveBid_61 : decode cX3_receiveBid 61 = .ok (.if_icmp .eq 19, 3) := by decide +kernel
theorem dX3_receiveBid_64 : decode cX3_receiveBid 64 = .ok (.aload_n 0, 1) := by decide +kernel
theorem dX3_receiveBid_65 : decode cX3_receiveBid 65 = .ok (.iconst 3, 1) := by decide +kernel
theorem dX3_receiveBid_66 : decode cX3_receiveBid 66 = .ok (.aload 5, 2) := by decide +kernel
theorem dX3_receiveBid_68 : decode cX3_receiveBid 68 = .ok (.getfield 132, 3) := by decide +kernel
theorem dX3_receiveBid_71 : decode cX3_receiveBid 71 = .ok (.iload_n 2, 1) := by decide +kernel
theorem dX3_receiveBid_72 : decode cX3_receiveBid 72 = .ok (.aload 5, 2) := by decide +kernel
theorem dX3_receiveBid_74 : decode cX3_receiveBid 74 = .ok (.getfield 135, 3) := by decide +kernel
theorem dX3_receiveBid_77 : decode cX3_receiveBid 77 = .ok (.invokevirtual 150, 3) := by decide +kernel
theorem dX3_receiveBid_80 : decode cX3_receiveBid 80 = .ok (.aload 5, 2) := by decide +kernel
theorem dX3_receiveBid_82 : decode cX3_receiveBid 82 = .ok (.iload_n 1, 1) := by decide +kernel
theorem dX3_receiveBid_83 : decode cX3_receiveBid 83 = .ok (.putfield 132, 3) := by decide +kernel
theorem dX3_receiveBid_86 : decode cX3_receiveBid 86 = .ok (.aload 5, 2) := by decide +kernel
theorem dX3_receiveBid_88 : decode cX3_receiveBid 88 = .ok (.iload_n 3, 1) := by decide +kernel
theorem dX3_receiveBid_89 : decode cX3_receiveBid 89 = .ok (.putfield 135, 3) := by decide +kernel
theorem dX3_receiveBid_92 : decode cX3_receiveBid 92 = .ok (.aload_n 0, 1) := by decide +kernel
theorem dX3_receiveBid_93 : decode cX3_receiveBid 93 = .ok (.iconst 1, 1) := by decide +kernel
theorem dX3_receiveBid_94 : decode cX3_receiveBid 94 = .ok (.iload_n 1, 1) := by decide +kernel
theorem dX3_receiveBid_95 : decode cX3_receiveBid 95 = .ok (.iload_n 2, 1) := by decide +kernel
theorem dX3_receiveBid_96 : decode cX3_receiveBid 96 = .ok (.iload_n 3, 1) := by decide +kernel
theorem dX3_receiveBid_97 : decode cX3_receiveBid 97 = .ok (.invokevirtual 150, 3) := by decide +kernel
theorem dX3_receiveBid_100 : decode cX3_receiveBid 100 = .ok (.goto 11, 3) := by decide +kernel
theorem dX3_receiveBid_103 : decode cX3_receiveBid 103 = .ok (.aload_n 0, 1) := by decide +kernel
theorem dX3_receiveBid_104 : decode cX3_receiveBid 104 = .ok (.iconst 2, 1) := by decide +kernel
theorem dX3_receiveBid_105 : decode cX3_receiveBid 105 = .ok (.iload_n 1, 1) := by decide +kernel
theorem dX3_receiveBid_106 : decode cX3_receiveBid 106 = .ok (.iload_n 2, 1) := by decide +kernel
theorem dX3_receiveBid_107 : decode cX3_receiveBid 107 = .ok (.iload_n 3, 1) := by decide +kernel
theorem dX3_receiveBid_108 : decode cX3_receiveBid 108 = .ok (.invokevirtual 150, 3) := by decide +kernel
theorem dX3_receiveBid_111 : decode cX3_receiveBid 111 = .ok (.return_, 1) := by decide +kernel
theorem dX3_requireLetter_0 : decode cX3_requireLetter 0 = .ok (.iload_n 1, 1) := by decide +kernel
theorem dX3_requireLetter_1 : decode cX3_requireLetter 1 = .ok (.ifCond .lt 14, 3) := by decide +kernel
theorem dX3_requireLetter_4 : decode cX3_requireLetter 4 = .ok (.iload_n 1, 1) := by decide +kernel
theorem dX3_requireLetter_5 : decode cX3_requireLetter 5 = .ok (.aload_n 0, 1) := by decide +kernel
theorem dX3_requireLetter_6 : decode cX3_requireLetter 6 = .ok (.getfield 41, 3) := by decide +kernel
theorem dX3_requireLetter_9 : decode cX3_requireLetter 9 = .ok (.getfield 85, 3) := by decide +kernel
theorem dX3_requireLetter_12 : decode cX3_requireLetter 12 = .ok (.if_icmp .lt 13, 3) := by decide +kernel
theorem dX3_requireLetter_15 : decode cX3_requireLetter 15 = .ok (.new 153, 3) := by decide +kernel
theorem dX3_requireLetter_18 : decode cX3_requireLetter 18 = .ok (.dup, 1) := by decide +kernel
theorem dX3_requireLetter_19 : decode cX3_requireLetter 19 = .ok (.ldc 155, 2) := by decide +kernel
theorem dX3_requireLetter_21 : decode cX3_requireLetter 21 = .ok (.invokespecial 157, 3) := by decide +kernel
theorem dX3_requireLetter_24 : decode cX3_requireLetter 24 = .ok (.athrow, 1) := by decide +kernel
theorem dX3_requireLetter_25 : decode cX3_requireLetter 25 = .ok (.return_, 1) := by decide +kernel
theorem dX3_requireArgument_0 : decode cX3_requireArgument 0 = .ok (.iload_n 0, 1) := by decide +kernel
theorem dX3_requireArgument_1 : decode cX3_requireArgument 1 = .ok (.ifCond .ne 13, 3) := by decide +kernel
theorem dX3_requireArgument_4 : decode cX3_requireArgument 4 = .ok (.new 160, 3) := by decide +kernel
theorem dX3_requireArgument_7 : decode cX3_requireArgument 7 = .ok (.dup, 1) := by decide +kernel
theorem dX3_requireArgument_8 : decode cX3_requireArgument 8 = .ok (.ldc 162, 2) := by decide +kernel
theorem dX3_requireArgument_10 : decode cX3_requireArgument 10 = .ok (.invokespecial 164, 3) := by decide +kernel
theorem dX3_requireArgument_13 : decode cX3_requireArgument 13 = .ok (.athrow, 1) := by decide +kernel
theorem dX3_requireArgument_14 : decode cX3_requireArgument 14 = .ok (.return_, 1) := by decide +kernel
theorem dX3_requireState_0 : decode cX3_requireState 0 = .ok (.iload_n 0, 1) := by decide +kernel
theorem dX3_requireState_1 : decode cX3_requireState 1 = .ok (.ifCond .ne 13, 3) := by decide +kernel
theorem dX3_requireState_4 : decode cX3_requireState 4 = .ok (.new 165, 3) := by decide +kernel
theorem dX3_requireState_7 : decode cX3_requireState 7 = .ok (.dup, 1) := by decide +kernel
theorem dX3_requireState_8 : decode cX3_requireState 8 = .ok (.ldc 167, 2) := by decide +kernel
theorem dX3_requireState_10 : decode cX3_requireState 10 = .ok (.invokespecial 169, 3) := by decide +kernel
theorem dX3_requireState_13 : decode cX3_requireState 13 = .ok (.athrow, 1) := by decide +kernel
theorem dX3_requireState_14 : decode cX3_requireState 14 = .ok (.return_, 1) := by decide +kernel

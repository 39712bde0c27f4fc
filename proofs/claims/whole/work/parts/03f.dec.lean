theorem dX7_turns_77 : decode cX7_turns 77 = .ok (.iload 4, 2) := by decide +kernel
theorem dX7_turns_79 : decode cX7_turns 79 = .ok (.if_icmp .ge 20, 3) := by decide +kernel
theorem dX7_turns_82 : decode cX7_turns 82 = .ok (.aload_n 1, 1) := by decide +kernel
theorem dX7_turns_83 : decode cX7_turns 83 = .ok (.iload 5, 2) := by decide +kernel
theorem dX7_turns_85 : decode cX7_turns 85 = .ok (.iload 4, 2) := by decide +kernel
theorem dX7_turns_87 : decode cX7_turns 87 = .ok (.invokestatic 279, 3) := by decide +kernel
theorem dX7_turns_90 : decode cX7_turns 90 = .ok (.iinc 4 (-1), 3) := by decide +kernel
theorem dX7_turns_93 : decode cX7_turns 93 = .ok (.iinc 5 1, 3) := by decide +kernel
theorem dX7_turns_96 : decode cX7_turns 96 = .ok (.goto (-21), 3) := by decide +kernel
theorem dX7_turns_99 : decode cX7_turns 99 = .ok (.iconst 1, 1) := by decide +kernel
theorem dX7_turns_100 : decode cX7_turns 100 = .ok (.ireturn, 1) := by decide +kernel
theorem dX7_exchange_0 : decode cX7_exchange 0 = .ok (.aload_n 0, 1) := by decide +kernel
theorem dX7_exchange_1 : decode cX7_exchange 1 = .ok (.iload_n 1, 1) := by decide +kernel
theorem dX7_exchange_2 : decode cX7_exchange 2 = .ok (.iaload, 1) := by decide +kernel
theorem dX7_exchange_3 : decode cX7_exchange 3 = .ok (.istore_n 3, 1) := by decide +kernel
theorem dX7_exchange_4 : decode cX7_exchange 4 = .ok (.aload_n 0, 1) := by decide +kernel
theorem dX7_exchange_5 : decode cX7_exchange 5 = .ok (.iload_n 1, 1) := by decide +kernel
theorem dX7_exchange_6 : decode cX7_exchange 6 = .ok (.aload_n 0, 1) := by decide +kernel
theorem dX7_exchange_7 : decode cX7_exchange 7 = .ok (.iload_n 2, 1) := by decide +kernel
theorem dX7_exchange_8 : decode cX7_exchange 8 = .ok (.iaload, 1) := by decide +kernel
theorem dX7_exchange_9 : decode cX7_exchange 9 = .ok (.iastore, 1) := by decide +kernel
theorem dX7_exchange_10 : decode cX7_exchange 10 = .ok (.aload_n 0, 1) := by decide +kernel
theorem dX7_exchange_11 : decode cX7_exchange 11 = .ok (.iload_n 2, 1) := by decide +kernel
theorem dX7_exchange_12 : decode cX7_exchange 12 = .ok (.iload_n 3, 1) := by decide +kernel
theorem dX7_exchange_13 : decode cX7_exchange 13 = .ok (.iastore, 1) := by decide +kernel
theorem dX7_exchange_14 : decode cX7_exchange 14 = .ok (.return_, 1) := by decide +kernel
theorem dX7_finds_0 : decode cX7_finds 0 = .ok (.iconst 0, 1) := by decide +kernel
theorem dX7_finds_1 : decode cX7_finds 1 = .ok (.istore_n 3, 1) := by decide +kernel
theorem dX7_finds_2 : decode cX7_finds 2 = .ok (.iload_n 3, 1) := by decide +kernel
theorem dX7_finds_3 : decode cX7_finds 3 = .ok (.aload_n 0, 1) := by decide +kernel
theorem dX7_finds_4 : decode cX7_finds 4 = .ok (.getfield 72, 3) := by decide +kernel
theorem dX7_finds_7 : decode cX7_finds 7 = .ok (.if_icmp .ge 16, 3) := by decide +kernel
theorem dX7_finds_10 : decode cX7_finds 10 = .ok (.aload_n 0, 1) := by decide +kernel
theorem dX7_finds_11 : decode cX7_finds 11 = .ok (.getfield 48, 3) := by decide +kernel
theorem dX7_finds_14 : decode cX7_finds 14 = .ok (.iload_n 3, 1) := by decide +kernel
theorem dX7_finds_15 : decode cX7_finds 15 = .ok (.iload_n 3, 1) := by decide +kernel
theorem dX7_finds_16 : decode cX7_finds 16 = .ok (.iastore, 1) := by decide +kernel
theorem dX7_finds_17 : decode cX7_finds 17 = .ok (.iinc 3 1, 3) := by decide +kernel
theorem dX7_finds_20 : decode cX7_finds 20 = .ok (.goto (-18), 3) := by decide +kernel
theorem dX7_finds_23 : decode cX7_finds 23 = .ok (.aload_n 0, 1) := by decide +kernel
theorem dX7_finds_24 : decode cX7_finds 24 = .ok (.aload_n 0, 1) := by decide +kernel
theorem dX7_finds_25 : decode cX7_finds 25 = .ok (.getfield 48, 3) := by decide +kernel
theorem dX7_finds_28 : decode cX7_finds 28 = .ok (.iload_n 1, 1) := by decide +kernel
theorem dX7_finds_29 : decode cX7_finds 29 = .ok (.iload_n 2, 1) := by decide +kernel
theorem dX7_finds_30 : decode cX7_finds 30 = .ok (.invokevirtual 236, 3) := by decide +kernel
theorem dX7_finds_33 : decode cX7_finds 33 = .ok (.istore_n 3, 1) := by decide +kernel
theorem dX7_finds_34 : decode cX7_finds 34 = .ok (.aload_n 0, 1) := by decide +kernel
theorem dX7_finds_35 : decode cX7_finds 35 = .ok (.getfield 48, 3) := by decide +kernel
theorem dX7_finds_38 : decode cX7_finds 38 = .ok (.aload_n 0, 1) := by decide +kernel
theorem dX7_finds_39 : decode cX7_finds 39 = .ok (.getfield 51, 3) := by decide +kernel
theorem dX7_finds_42 : decode cX7_finds 42 = .ok (.invokestatic 232, 3) := by decide +kernel
theorem dX7_finds_45 : decode cX7_finds 45 = .ok (.aload_n 0, 1) := by decide +kernel
theorem dX7_finds_46 : decode cX7_finds 46 = .ok (.aload_n 0, 1) := by decide +kernel
theorem dX7_finds_47 : decode cX7_finds 47 = .ok (.getfield 48, 3) := by decide +kernel
theorem dX7_finds_50 : decode cX7_finds 50 = .ok (.invokevirtual 282, 3) := by decide +kernel
theorem dX7_finds_53 : decode cX7_finds 53 = .ok (.ifCond .eq 38, 3) := by decide +kernel
theorem dX7_finds_56 : decode cX7_finds 56 = .ok (.aload_n 0, 1) := by decide +kernel
theorem dX7_finds_57 : decode cX7_finds 57 = .ok (.aload_n 0, 1) := by decide +kernel
theorem dX7_finds_58 : decode cX7_finds 58 = .ok (.getfield 48, 3) := by decide +kernel
theorem dX7_finds_61 : decode cX7_finds 61 = .ok (.iload_n 1, 1) := by decide +kernel
theorem dX7_finds_62 : decode cX7_finds 62 = .ok (.iload_n 2, 1) := by decide +kernel
theorem dX7_finds_63 : decode cX7_finds 63 = .ok (.invokevirtual 236, 3) := by decide +kernel
theorem dX7_finds_66 : decode cX7_finds 66 = .ok (.istore 4, 2) := by decide +kernel
theorem dX7_finds_68 : decode cX7_finds 68 = .ok (.iload 4, 2) := by decide +kernel
theorem dX7_finds_70 : decode cX7_finds 70 = .ok (.iload_n 3, 1) := by decide +kernel
theorem dX7_finds_71 : decode cX7_finds 71 = .ok (.if_icmp .ge 17, 3) := by decide +kernel
theorem dX7_finds_74 : decode cX7_finds 74 = .ok (.iload 4, 2) := by decide +kernel
theorem dX7_finds_76 : decode cX7_finds 76 = .ok (.istore_n 3, 1) := by decide +kernel
theorem dX7_finds_77 : decode cX7_finds 77 = .ok (.aload_n 0, 1) := by decide +kernel
theorem dX7_finds_78 : decode cX7_finds 78 = .ok (.getfield 48, 3) := by decide +kernel
theorem dX7_finds_81 : decode cX7_finds 81 = .ok (.aload_n 0, 1) := by decide +kernel
theorem dX7_finds_82 : decode cX7_finds 82 = .ok (.getfield 51, 3) := by decide +kernel
theorem dX7_finds_85 : decode cX7_finds 85 = .ok (.invokestatic 232, 3) := by decide +kernel
theorem dX7_finds_88 : decode cX7_finds 88 = .ok (.goto (-43), 3) := by decide +kernel
theorem dX7_finds_91 : decode cX7_finds 91 = .ok (.iload_n 3, 1) := by decide +kernel
theorem dX7_finds_92 : decode cX7_finds 92 = .ok (.ireturn, 1) := by decide +kernel
theorem dX7_least_0 : decode cX7_least 0 = .ok (.iload_n 1, 1) := by decide +kernel
theorem dX7_least_1 : decode cX7_least 1 = .ok (.i2l, 1) := by decide +kernel
theorem dX7_least_2 : decode cX7_least 2 = .ok (.lconst 0, 1) := by decide +kernel
theorem dX7_least_3 : decode cX7_least 3 = .ok (.ldc2_w 138, 3) := by decide +kernel
theorem dX7_least_6 : decode cX7_least 6 = .ok (.invokestatic 76, 3) := by decide +kernel
theorem dX7_least_9 : decode cX7_least 9 = .ok (.ifCond .eq 32, 3) := by decide +kernel
theorem dX7_least_12 : decode cX7_least 12 = .ok (.iload_n 2, 1) := by decide +kernel
theorem dX7_least_13 : decode cX7_least 13 = .ok (.i2l, 1) := by decide +kernel
theorem dX7_least_14 : decode cX7_least 14 = .ok (.lconst 0, 1) := by decide +kernel
theorem dX7_least_15 : decode cX7_least 15 = .ok (.ldc2_w 138, 3) := by decide +kernel
theorem dX7_least_18 : decode cX7_least 18 = .ok (.invokestatic 76, 3) := by decide +kernel
theorem dX7_least_21 : decode cX7_least 21 = .ok (.ifCond .eq 20, 3) := by decide +kernel
theorem dX7_least_24 : decode cX7_least 24 = .ok (.aload_n 0, 1) := by decide +kernel
theorem dX7_least_25 : decode cX7_least 25 = .ok (.getfield 72, 3) := by decide +kernel
theorem dX7_least_28 : decode cX7_least 28 = .ok (.ifCond .le 13, 3) := by decide +kernel
theorem dX7_least_31 : decode cX7_least 31 = .ok (.aload_n 0, 1) := by decide +kernel
theorem dX7_least_32 : decode cX7_least 32 = .ok (.iload_n 1, 1) := by decide +kernel
theorem dX7_least_33 : decode cX7_least 33 = .ok (.iload_n 2, 1) := by decide +kernel
theorem dX7_least_34 : decode cX7_least 34 = .ok (.invokevirtual 286, 3) := by decide +kernel
theorem dX7_least_37 : decode cX7_least 37 = .ok (.i2l, 1) := by decide +kernel
theorem dX7_least_38 : decode cX7_least 38 = .ok (.goto 6, 3) := by decide +kernel
theorem dX7_least_41 : decode cX7_least 41 = .ok (.ldc2_w 251, 3) := by decide +kernel
theorem dX7_least_44 : decode cX7_least 44 = .ok (.lreturn, 1) := by decide +kernel
theorem dX7_best_0 : decode cX7_best 0 = .ok (.iload_n 1, 1) := by decide +kernel
theorem dX7_best_1 : decode cX7_best 1 = .ok (.i2l, 1) := by decide +kernel
theorem dX7_best_2 : decode cX7_best 2 = .ok (.lconst 0, 1) := by decide +kernel
theorem dX7_best_3 : decode cX7_best 3 = .ok (.ldc2_w 138, 3) := by decide +kernel
theorem dX7_best_6 : decode cX7_best 6 = .ok (.invokestatic 76, 3) := by decide +kernel
theorem dX7_best_9 : decode cX7_best 9 = .ok (.ifCond .eq 15, 3) := by decide +kernel
theorem dX7_best_12 : decode cX7_best 12 = .ok (.iload_n 2, 1) := by decide +kernel
theorem dX7_best_13 : decode cX7_best 13 = .ok (.i2l, 1) := by decide +kernel
theorem dX7_best_14 : decode cX7_best 14 = .ok (.lconst 0, 1) := by decide +kernel
theorem dX7_best_15 : decode cX7_best 15 = .ok (.ldc2_w 138, 3) := by decide +kernel
theorem dX7_best_18 : decode cX7_best 18 = .ok (.invokestatic 76, 3) := by decide +kernel
theorem dX7_best_21 : decode cX7_best 21 = .ok (.ifCond .ne 6, 3) := by decide +kernel
theorem dX7_best_24 : decode cX7_best 24 = .ok (.bipush (-2), 2) := by decide +kernel
theorem dX7_best_26 : decode cX7_best 26 = .ok (.ireturn, 1) := by decide +kernel
theorem dX7_best_27 : decode cX7_best 27 = .ok (.aload_n 0, 1) := by decide +kernel
theorem dX7_best_28 : decode cX7_best 28 = .ok (.iload_n 3, 1) := by decide +kernel
theorem dX7_best_29 : decode cX7_best 29 = .ok (.invokevirtual 119, 3) := by decide +kernel
theorem dX7_best_32 : decode cX7_best 32 = .ok (.ifCond .ne 5, 3) := by decide +kernel
theorem dX7_best_35 : decode cX7_best 35 = .ok (.iconst (-1), 1) := by decide +kernel
theorem dX7_best_36 : decode cX7_best 36 = .ok (.ireturn, 1) := by decide +kernel
theorem dX7_best_37 : decode cX7_best 37 = .ok (.aload_n 0, 1) := by decide +kernel
theorem dX7_best_38 : decode cX7_best 38 = .ok (.iload_n 1, 1) := by decide +kernel
theorem dX7_best_39 : decode cX7_best 39 = .ok (.iload_n 2, 1) := by decide +kernel
theorem dX7_best_40 : decode cX7_best 40 = .ok (.invokevirtual 286, 3) := by decide +kernel
theorem dX7_best_43 : decode cX7_best 43 = .ok (.pop, 1) := by decide +kernel
theorem dX7_best_44 : decode cX7_best 44 = .ok (.aload_n 0, 1) := by decide +kernel
theorem dX7_best_45 : decode cX7_best 45 = .ok (.getfield 51, 3) := by decide +kernel
theorem dX7_best_48 : decode cX7_best 48 = .ok (.iload_n 3, 1) := by decide +kernel
theorem dX7_best_49 : decode cX7_best 49 = .ok (.iaload, 1) := by decide +kernel
theorem dX7_best_50 : decode cX7_best 50 = .ok (.ireturn, 1) := by decide +kernel
theorem dX7_isSameOrder_0 : decode cX7_isSameOrder 0 = .ok (.iconst 0, 1) := by decide +kernel
theorem dX7_isSameOrder_1 : decode cX7_isSameOrder 1 = .ok (.istore_n 1, 1) := by decide +kernel
theorem dX7_isSameOrder_2 : decode cX7_isSameOrder 2 = .ok (.iload_n 1, 1) := by decide +kernel
theorem dX7_isSameOrder_3 : decode cX7_isSameOrder 3 = .ok (.aload_n 0, 1) := by decide +kernel
theorem dX7_isSameOrder_4 : decode cX7_isSameOrder 4 = .ok (.getfield 72, 3) := by decide +kernel
theorem dX7_isSameOrder_7 : decode cX7_isSameOrder 7 = .ok (.if_icmp .ge 26, 3) := by decide +kernel
theorem dX7_isSameOrder_10 : decode cX7_isSameOrder 10 = .ok (.aload_n 0, 1) := by decide +kernel
theorem dX7_isSameOrder_11 : decode cX7_isSameOrder 11 = .ok (.getfield 45, 3) := by decide +kernel
theorem dX7_isSameOrder_14 : decode cX7_isSameOrder 14 = .ok (.iload_n 1, 1) := by decide +kernel
theorem dX7_isSameOrder_15 : decode cX7_isSameOrder 15 = .ok (.iaload, 1) := by decide +kernel
theorem dX7_isSameOrder_16 : decode cX7_isSameOrder 16 = .ok (.aload_n 0, 1) := by decide +kernel
theorem dX7_isSameOrder_17 : decode cX7_isSameOrder 17 = .ok (.getfield 48, 3) := by decide +kernel
theorem dX7_isSameOrder_20 : decode cX7_isSameOrder 20 = .ok (.iload_n 1, 1) := by decide +kernel
theorem dX7_isSameOrder_21 : decode cX7_isSameOrder 21 = .ok (.iaload, 1) := by decide +kernel
theorem dX7_isSameOrder_22 : decode cX7_isSameOrder 22 = .ok (.if_icmp .eq 5, 3) := by decide +kernel
theorem dX7_isSameOrder_25 : decode cX7_isSameOrder 25 = .ok (.iconst 0, 1) := by decide +kernel
theorem dX7_isSameOrder_26 : decode cX7_isSameOrder 26 = .ok (.ireturn, 1) := by decide +kernel
theorem dX7_isSameOrder_27 : decode cX7_isSameOrder 27 = .ok (.iinc 1 1, 3) := by decide +kernel
theorem dX7_isSameOrder_30 : decode cX7_isSameOrder 30 = .ok (.goto (-28), 3) := by decide +kernel
theorem dX7_isSameOrder_33 : decode cX7_isSameOrder 33 = .ok (.iconst 1, 1) := by decide +kernel
theorem dX7_isSameOrder_34 : decode cX7_isSameOrder 34 = .ok (.ireturn, 1) := by decide +kernel
theorem dX7_slack_0 : decode cX7_slack 0 = .ok (.aload_n 0, 1) := by decide +kernel
theorem dX7_slack_1 : decode cX7_slack 1 = .ok (.iload_n 1, 1) := by decide +kernel
theorem dX7_slack_2 : decode cX7_slack 2 = .ok (.invokevirtual 119, 3) := by decide +kernel
theorem dX7_slack_5 : decode cX7_slack 5 = .ok (.ifCond .ne 5, 3) := by decide +kernel
theorem dX7_slack_8 : decode cX7_slack 8 = .ok (.iconst (-1), 1) := by decide +kernel
theorem dX7_slack_9 : decode cX7_slack 9 = .ok (.ireturn, 1) := by decide +kernel
theorem dX7_slack_10 : decode cX7_slack 10 = .ok (.aload_n 0, 1) := by decide +kernel
theorem dX7_slack_11 : decode cX7_slack 11 = .ok (.iload_n 1, 1) := by decide +kernel
theorem dX7_slack_12 : decode cX7_slack 12 = .ok (.iconst 0, 1) := by decide +kernel
theorem dX7_slack_13 : decode cX7_slack 13 = .ok (.invokevirtual 128, 3) := by decide +kernel
theorem dX7_slack_16 : decode cX7_slack 16 = .ok (.istore_n 2, 1) := by decide +kernel
theorem dX7_slack_17 : decode cX7_slack 17 = .ok (.aload_n 0, 1) := by decide +kernel
theorem dX7_slack_18 : decode cX7_slack 18 = .ok (.iconst 1, 1) := by decide +kernel
theorem dX7_slack_19 : decode cX7_slack 19 = .ok (.aload_n 0, 1) := by decide +kernel
theorem dX7_slack_20 : decode cX7_slack 20 = .ok (.getfield 48, 3) := by decide +kernel
theorem dX7_slack_23 : decode cX7_slack 23 = .ok (.invokevirtual 221, 3) := by decide +kernel
theorem dX7_slack_26 : decode cX7_slack 26 = .ok (.iconst 0, 1) := by decide +kernel
theorem dX7_slack_27 : decode cX7_slack 27 = .ok (.istore_n 3, 1) := by decide +kernel
theorem dX7_slack_28 : decode cX7_slack 28 = .ok (.iconst 1, 1) := by decide +kernel
theorem dX7_slack_29 : decode cX7_slack 29 = .ok (.istore 4, 2) := by decide +kernel
theorem dX7_slack_31 : decode cX7_slack 31 = .ok (.iload_n 3, 1) := by decide +kernel
theorem dX7_slack_32 : decode cX7_slack 32 = .ok (.bipush 30, 2) := by decide +kernel
theorem dX7_slack_34 : decode cX7_slack 34 = .ok (.if_icmp .ge 55, 3) := by decide +kernel
theorem dX7_slack_37 : decode cX7_slack 37 = .ok (.iload 4, 2) := by decide +kernel
theorem dX7_slack_39 : decode cX7_slack 39 = .ok (.ifCond .eq 50, 3) := by decide +kernel
theorem dX7_slack_42 : decode cX7_slack 42 = .ok (.aload_n 0, 1) := by decide +kernel
theorem dX7_slack_43 : decode cX7_slack 43 = .ok (.getfield 11, 3) := by decide +kernel
theorem dX7_slack_46 : decode cX7_slack 46 = .ok (.bipush 6, 2) := by decide +kernel
theorem dX7_slack_48 : decode cX7_slack 48 = .ok (.iload_n 1, 1) := by decide +kernel
theorem dX7_slack_49 : decode cX7_slack 49 = .ok (.imul, 1) := by decide +kernel
theorem dX7_slack_50 : decode cX7_slack 50 = .ok (.iconst 0, 1) := by decide +kernel
theorem dX7_slack_51 : decode cX7_slack 51 = .ok (.iadd, 1) := by decide +kernel
theorem dX7_slack_52 : decode cX7_slack 52 = .ok (.iload_n 2, 1) := by decide +kernel
theorem dX7_slack_53 : decode cX7_slack 53 = .ok (.iload_n 3, 1) := by decide +kernel
theorem dX7_slack_54 : decode cX7_slack 54 = .ok (.iadd, 1) := by decide +kernel
theorem dX7_slack_55 : decode cX7_slack 55 = .ok (.iconst 1, 1) := by decide +kernel
theorem dX7_slack_56 : decode cX7_slack 56 = .ok (.iadd, 1) := by decide +kernel
theorem dX7_slack_57 : decode cX7_slack 57 = .ok (.iastore, 1) := by decide +kernel
theorem dX7_slack_58 : decode cX7_slack 58 = .ok (.aload_n 0, 1) := by decide +kernel
theorem dX7_slack_59 : decode cX7_slack 59 = .ok (.iconst 1, 1) := by decide +kernel
theorem dX7_slack_60 : decode cX7_slack 60 = .ok (.aload_n 0, 1) := by decide +kernel
theorem dX7_slack_61 : decode cX7_slack 61 = .ok (.getfield 45, 3) := by decide +kernel
theorem dX7_slack_64 : decode cX7_slack 64 = .ok (.invokevirtual 221, 3) := by decide +kernel
theorem dX7_slack_67 : decode cX7_slack 67 = .ok (.aload_n 0, 1) := by decide +kernel
theorem dX7_slack_68 : decode cX7_slack 68 = .ok (.invokevirtual 289, 3) := by decide +kernel
theorem dX7_slack_71 : decode cX7_slack 71 = .ok (.istore 4, 2) := by decide +kernel
theorem dX7_slack_73 : decode cX7_slack 73 = .ok (.iload_n 3, 1) := by decide +kernel
theorem dX7_slack_74 : decode cX7_slack 74 = .ok (.iload 4, 2) := by decide +kernel
theorem dX7_slack_76 : decode cX7_slack 76 = .ok (.ifCond .eq 7, 3) := by decide +kernel
theorem dX7_slack_79 : decode cX7_slack 79 = .ok (.iconst 1, 1) := by decide +kernel
theorem dX7_slack_80 : decode cX7_slack 80 = .ok (.goto 4, 3) := by decide +kernel
theorem dX7_slack_83 : decode cX7_slack 83 = .ok (.iconst 0, 1) := by decide +kernel
theorem dX7_slack_84 : decode cX7_slack 84 = .ok (.iadd, 1) := by decide +kernel
theorem dX7_slack_85 : decode cX7_slack 85 = .ok (.istore_n 3, 1) := by decide +kernel
theorem dX7_slack_86 : decode cX7_slack 86 = .ok (.goto (-55), 3) := by decide +kernel
theorem dX7_slack_89 : decode cX7_slack 89 = .ok (.aload_n 0, 1) := by decide +kernel
theorem dX7_slack_90 : decode cX7_slack 90 = .ok (.getfield 11, 3) := by decide +kernel
theorem dX7_slack_93 : decode cX7_slack 93 = .ok (.bipush 6, 2) := by decide +kernel
theorem dX7_slack_95 : decode cX7_slack 95 = .ok (.iload_n 1, 1) := by decide +kernel
theorem dX7_slack_96 : decode cX7_slack 96 = .ok (.imul, 1) := by decide +kernel
theorem dX7_slack_97 : decode cX7_slack 97 = .ok (.iconst 0, 1) := by decide +kernel
theorem dX7_slack_98 : decode cX7_slack 98 = .ok (.iadd, 1) := by decide +kernel
theorem dX7_slack_99 : decode cX7_slack 99 = .ok (.iload_n 2, 1) := by decide +kernel
theorem dX7_slack_100 : decode cX7_slack 100 = .ok (.iastore, 1) := by decide +kernel
theorem dX7_slack_101 : decode cX7_slack 101 = .ok (.iload_n 3, 1) := by decide +kernel
theorem dX7_slack_102 : decode cX7_slack 102 = .ok (.ireturn, 1) := by decide +kernel
theorem dX7_see_0 : decode cX7_see 0 = .ok (.iload_n 1, 1) := by decide +kernel
theorem dX7_see_1 : decode cX7_see 1 = .ok (.iconst (-1), 1) := by decide +kernel
theorem dX7_see_2 : decode cX7_see 2 = .ok (.if_icmp .ne 10, 3) := by decide +kernel
theorem dX7_see_5 : decode cX7_see 5 = .ok (.aload_n 0, 1) := by decide +kernel
theorem dX7_see_6 : decode cX7_see 6 = .ok (.iconst 0, 1) := by decide +kernel
theorem dX7_see_7 : decode cX7_see 7 = .ok (.putfield 97, 3) := by decide +kernel
theorem dX7_see_10 : decode cX7_see 10 = .ok (.iconst 0, 1) := by decide +kernel
theorem dX7_see_11 : decode cX7_see 11 = .ok (.ireturn, 1) := by decide +kernel
theorem dX7_see_12 : decode cX7_see 12 = .ok (.aload_n 0, 1) := by decide +kernel
theorem dX7_see_13 : decode cX7_see 13 = .ok (.iload_n 1, 1) := by decide +kernel
theorem dX7_see_14 : decode cX7_see 14 = .ok (.invokevirtual 119, 3) := by decide +kernel
theorem dX7_see_17 : decode cX7_see 17 = .ok (.ifCond .ne 5, 3) := by decide +kernel
theorem dX7_see_20 : decode cX7_see 20 = .ok (.iconst (-1), 1) := by decide +kernel
theorem dX7_see_21 : decode cX7_see 21 = .ok (.ireturn, 1) := by decide +kernel
theorem dX7_see_22 : decode cX7_see 22 = .ok (.iload_n 2, 1) := by decide +kernel
theorem dX7_see_23 : decode cX7_see 23 = .ok (.i2l, 1) := by decide +kernel
theorem dX7_see_24 : decode cX7_see 24 = .ok (.lconst 0, 1) := by decide +kernel
theorem dX7_see_25 : decode cX7_see 25 = .ok (.ldc2_w 123, 3) := by decide +kernel
theorem dX7_see_28 : decode cX7_see 28 = .ok (.invokestatic 76, 3) := by decide +kernel
theorem dX7_see_31 : decode cX7_see 31 = .ok (.ifCond .ne 6, 3) := by decide +kernel
theorem dX7_see_34 : decode cX7_see 34 = .ok (.bipush (-2), 2) := by decide +kernel
theorem dX7_see_36 : decode cX7_see 36 = .ok (.ireturn, 1) := by decide +kernel
theorem dX7_see_37 : decode cX7_see 37 = .ok (.aload_n 0, 1) := by decide +kernel
theorem dX7_see_38 : decode cX7_see 38 = .ok (.getfield 97, 3) := by decide +kernel
theorem dX7_see_41 : decode cX7_see 41 = .ok (.iconst 5, 1) := by decide +kernel
theorem dX7_see_42 : decode cX7_see 42 = .ok (.if_icmp .ne 6, 3) := by decide +kernel
theorem dX7_see_45 : decode cX7_see 45 = .ok (.bipush (-4), 2) := by decide +kernel
theorem dX7_see_47 : decode cX7_see 47 = .ok (.ireturn, 1) := by decide +kernel
theorem dX7_see_48 : decode cX7_see 48 = .ok (.aload_n 0, 1) := by decide +kernel
theorem dX7_see_49 : decode cX7_see 49 = .ok (.getfield 18, 3) := by decide +kernel
theorem dX7_see_52 : decode cX7_see 52 = .ok (.aload_n 0, 1) := by decide +kernel
theorem dX7_see_53 : decode cX7_see 53 = .ok (.getfield 97, 3) := by decide +kernel
theorem dX7_see_56 : decode cX7_see 56 = .ok (.iload_n 1, 1) := by decide +kernel
theorem dX7_see_57 : decode cX7_see 57 = .ok (.iastore, 1) := by decide +kernel
theorem dX7_see_58 : decode cX7_see 58 = .ok (.aload_n 0, 1) := by decide +kernel
theorem dX7_see_59 : decode cX7_see 59 = .ok (.getfield 21, 3) := by decide +kernel
theorem dX7_see_62 : decode cX7_see 62 = .ok (.aload_n 0, 1) := by decide +kernel
theorem dX7_see_63 : decode cX7_see 63 = .ok (.getfield 97, 3) := by decide +kernel
theorem dX7_see_66 : decode cX7_see 66 = .ok (.iload_n 2, 1) := by decide +kernel
theorem dX7_see_67 : decode cX7_see 67 = .ok (.iastore, 1) := by decide +kernel
theorem dX7_see_68 : decode cX7_see 68 = .ok (.aload_n 0, 1) := by decide +kernel
theorem dX7_see_69 : decode cX7_see 69 = .ok (.dup, 1) := by decide +kernel
theorem dX7_see_70 : decode cX7_see 70 = .ok (.getfield 97, 3) := by decide +kernel
theorem dX7_see_73 : decode cX7_see 73 = .ok (.iconst 1, 1) := by decide +kernel
theorem dX7_see_74 : decode cX7_see 74 = .ok (.iadd, 1) := by decide +kernel
theorem dX7_see_75 : decode cX7_see 75 = .ok (.putfield 97, 3) := by decide +kernel
theorem dX7_see_78 : decode cX7_see 78 = .ok (.aload_n 0, 1) := by decide +kernel
theorem dX7_see_79 : decode cX7_see 79 = .ok (.getfield 97, 3) := by decide +kernel
theorem dX7_see_82 : decode cX7_see 82 = .ok (.ireturn, 1) := by decide +kernel
theorem dX7_stands_0 : decode cX7_stands 0 = .ok (.iload_n 3, 1) := by decide +kernel
theorem dX7_stands_1 : decode cX7_stands 1 = .ok (.aload_n 0, 1) := by decide +kernel
theorem dX7_stands_2 : decode cX7_stands 2 = .ok (.getfield 72, 3) := by decide +kernel
theorem dX7_stands_5 : decode cX7_stands 5 = .ok (.if_icmp .ge 14, 3) := by decide +kernel
theorem dX7_stands_8 : decode cX7_stands 8 = .ok (.aload_n 1, 1) := by decide +kernel
theorem dX7_stands_9 : decode cX7_stands 9 = .ok (.iload_n 3, 1) := by decide +kernel
theorem dX7_stands_10 : decode cX7_stands 10 = .ok (.iaload, 1) := by decide +kernel
theorem dX7_stands_11 : decode cX7_stands 11 = .ok (.iload_n 2, 1) := by decide +kernel
theorem dX7_stands_12 : decode cX7_stands 12 = .ok (.if_icmp .ne 7, 3) := by decide +kernel
theorem dX7_stands_15 : decode cX7_stands 15 = .ok (.iconst 1, 1) := by decide +kernel
theorem dX7_stands_16 : decode cX7_stands 16 = .ok (.goto 4, 3) := by decide +kernel
theorem dX7_stands_19 : decode cX7_stands 19 = .ok (.iconst 0, 1) := by decide +kernel
theorem dX7_stands_20 : decode cX7_stands 20 = .ok (.ireturn, 1) := by decide +kernel
theorem dX7_isAllSeen_0 : decode cX7_isAllSeen 0 = .ok (.iconst 0, 1) := by decide +kernel
theorem dX7_isAllSeen_1 : decode cX7_isAllSeen 1 = .ok (.istore_n 1, 1) := by decide +kernel
theorem dX7_isAllSeen_2 : decode cX7_isAllSeen 2 = .ok (.iload_n 1, 1) := by decide +kernel
theorem dX7_isAllSeen_3 : decode cX7_isAllSeen 3 = .ok (.aload_n 0, 1) := by decide +kernel
theorem dX7_isAllSeen_4 : decode cX7_isAllSeen 4 = .ok (.getfield 97, 3) := by decide +kernel
theorem dX7_isAllSeen_7 : decode cX7_isAllSeen 7 = .ok (.if_icmp .ge 34, 3) := by decide +kernel
theorem dX7_isAllSeen_10 : decode cX7_isAllSeen 10 = .ok (.aload_n 0, 1) := by decide +kernel
theorem dX7_isAllSeen_11 : decode cX7_isAllSeen 11 = .ok (.aload_n 0, 1) := by decide +kernel
theorem dX7_isAllSeen_12 : decode cX7_isAllSeen 12 = .ok (.getfield 45, 3) := by decide +kernel
theorem dX7_isAllSeen_15 : decode cX7_isAllSeen 15 = .ok (.aload_n 0, 1) := by decide +kernel
theorem dX7_isAllSeen_16 : decode cX7_isAllSeen 16 = .ok (.getfield 18, 3) := by decide +kernel
theorem dX7_isAllSeen_19 : decode cX7_isAllSeen 19 = .ok (.iload_n 1, 1) := by decide +kernel
theorem dX7_isAllSeen_20 : decode cX7_isAllSeen 20 = .ok (.iaload, 1) := by decide +kernel
theorem dX7_isAllSeen_21 : decode cX7_isAllSeen 21 = .ok (.aload_n 0, 1) := by decide +kernel
theorem dX7_isAllSeen_22 : decode cX7_isAllSeen 22 = .ok (.getfield 21, 3) := by decide +kernel
theorem dX7_isAllSeen_25 : decode cX7_isAllSeen 25 = .ok (.iload_n 1, 1) := by decide +kernel
theorem dX7_isAllSeen_26 : decode cX7_isAllSeen 26 = .ok (.iaload, 1) := by decide +kernel
theorem dX7_isAllSeen_27 : decode cX7_isAllSeen 27 = .ok (.invokevirtual 293, 3) := by decide +kernel
theorem dX7_isAllSeen_30 : decode cX7_isAllSeen 30 = .ok (.ifCond .ne 5, 3) := by decide +kernel
theorem dX7_isAllSeen_33 : decode cX7_isAllSeen 33 = .ok (.iconst 0, 1) := by decide +kernel
theorem dX7_isAllSeen_34 : decode cX7_isAllSeen 34 = .ok (.ireturn, 1) := by decide +kernel
theorem dX7_isAllSeen_35 : decode cX7_isAllSeen 35 = .ok (.iinc 1 1, 3) := by decide +kernel
theorem dX7_isAllSeen_38 : decode cX7_isAllSeen 38 = .ok (.goto (-36), 3) := by decide +kernel
theorem dX7_isAllSeen_41 : decode cX7_isAllSeen 41 = .ok (.iconst 1, 1) := by decide +kernel
theorem dX7_isAllSeen_42 : decode cX7_isAllSeen 42 = .ok (.ireturn, 1) := by decide +kernel
theorem dX7_fits_0 : decode cX7_fits 0 = .ok (.aload_n 0, 1) := by decide +kernel
theorem dX7_fits_1 : decode cX7_fits 1 = .ok (.iload_n 1, 1) := by decide +kernel
theorem dX7_fits_2 : decode cX7_fits 2 = .ok (.invokevirtual 119, 3) := by decide +kernel
theorem dX7_fits_5 : decode cX7_fits 5 = .ok (.ifCond .eq 13, 3) := by decide +kernel
theorem dX7_fits_8 : decode cX7_fits 8 = .ok (.iload_n 2, 1) := by decide +kernel
theorem dX7_fits_9 : decode cX7_fits 9 = .ok (.i2l, 1) := by decide +kernel
theorem dX7_fits_10 : decode cX7_fits 10 = .ok (.lconst 0, 1) := by decide +kernel
theorem dX7_fits_11 : decode cX7_fits 11 = .ok (.lconst 1, 1) := by decide +kernel
theorem dX7_fits_12 : decode cX7_fits 12 = .ok (.invokestatic 76, 3) := by decide +kernel
theorem dX7_fits_15 : decode cX7_fits 15 = .ok (.ifCond .ne 5, 3) := by decide +kernel
theorem dX7_fits_18 : decode cX7_fits 18 = .ok (.iconst (-1), 1) := by decide +kernel
theorem dX7_fits_19 : decode cX7_fits 19 = .ok (.ireturn, 1) := by decide +kernel
theorem dX7_fits_20 : decode cX7_fits 20 = .ok (.aload_n 0, 1) := by decide +kernel
theorem dX7_fits_21 : decode cX7_fits 21 = .ok (.iload_n 1, 1) := by decide +kernel
theorem dX7_fits_22 : decode cX7_fits 22 = .ok (.iconst 0, 1) := by decide +kernel
theorem dX7_fits_23 : decode cX7_fits 23 = .ok (.invokevirtual 128, 3) := by decide +kernel
theorem dX7_fits_26 : decode cX7_fits 26 = .ok (.istore_n 3, 1) := by decide +kernel
theorem dX7_fits_27 : decode cX7_fits 27 = .ok (.iconst 0, 1) := by decide +kernel
theorem dX7_fits_28 : decode cX7_fits 28 = .ok (.istore 4, 2) := by decide +kernel
theorem dX7_fits_30 : decode cX7_fits 30 = .ok (.bipush (-5), 2) := by decide +kernel
theorem dX7_fits_32 : decode cX7_fits 32 = .ok (.istore 5, 2) := by decide +kernel
theorem dX7_fits_34 : decode cX7_fits 34 = .ok (.bipush 30, 2) := by decide +kernel
theorem dX7_fits_36 : decode cX7_fits 36 = .ok (.istore 6, 2) := by decide +kernel
theorem dX7_fits_38 : decode cX7_fits 38 = .ok (.iload 6, 2) := by decide +kernel
theorem dX7_fits_40 : decode cX7_fits 40 = .ok (.ifCond .lt 45, 3) := by decide +kernel
theorem dX7_fits_43 : decode cX7_fits 43 = .ok (.aload_n 0, 1) := by decide +kernel
theorem dX7_fits_44 : decode cX7_fits 44 = .ok (.getfield 11, 3) := by decide +kernel
theorem dX7_fits_47 : decode cX7_fits 47 = .ok (.bipush 6, 2) := by decide +kernel
theorem dX7_fits_49 : decode cX7_fits 49 = .ok (.iload_n 1, 1) := by decide +kernel
theorem dX7_fits_50 : decode cX7_fits 50 = .ok (.imul, 1) := by decide +kernel
theorem dX7_fits_51 : decode cX7_fits 51 = .ok (.iconst 0, 1) := by decide +kernel
theorem dX7_fits_52 : decode cX7_fits 52 = .ok (.iadd, 1) := by decide +kernel
theorem dX7_fits_53 : decode cX7_fits 53 = .ok (.iload 6, 2) := by decide +kernel
theorem dX7_fits_55 : decode cX7_fits 55 = .ok (.iastore, 1) := by decide +kernel
theorem dX7_fits_56 : decode cX7_fits 56 = .ok (.aload_n 0, 1) := by decide +kernel
theorem dX7_fits_57 : decode cX7_fits 57 = .ok (.iconst 1, 1) := by decide +kernel
theorem dX7_fits_58 : decode cX7_fits 58 = .ok (.aload_n 0, 1) := by decide +kernel
theorem dX7_fits_59 : decode cX7_fits 59 = .ok (.getfield 45, 3) := by decide +kernel
theorem dX7_fits_62 : decode cX7_fits 62 = .ok (.invokevirtual 221, 3) := by decide +kernel
theorem dX7_fits_65 : decode cX7_fits 65 = .ok (.aload_n 0, 1) := by decide +kernel
theorem dX7_fits_66 : decode cX7_fits 66 = .ok (.invokevirtual 297, 3) := by decide +kernel
theorem dX7_fits_69 : decode cX7_fits 69 = .ok (.ifCond .eq 10, 3) := by decide +kernel
theorem dX7_fits_72 : decode cX7_fits 72 = .ok (.iinc 4 1, 3) := by decide +kernel
theorem dX7_fits_75 : decode cX7_fits 75 = .ok (.iload 6, 2) := by decide +kernel
theorem dX7_fits_77 : decode cX7_fits 77 = .ok (.istore 5, 2) := by decide +kernel
theorem dX7_fits_79 : decode cX7_fits 79 = .ok (.iinc 6 (-1), 3) := by decide +kernel
theorem dX7_fits_82 : decode cX7_fits 82 = .ok (.goto (-44), 3) := by decide +kernel
theorem dX7_fits_85 : decode cX7_fits 85 = .ok (.aload_n 0, 1) := by decide +kernel
theorem dX7_fits_86 : decode cX7_fits 86 = .ok (.getfield 11, 3) := by decide +kernel
theorem dX7_fits_89 : decode cX7_fits 89 = .ok (.bipush 6, 2) := by decide +kernel
theorem dX7_fits_91 : decode cX7_fits 91 = .ok (.iload_n 1, 1) := by decide +kernel
theorem dX7_fits_92 : decode cX7_fits 92 = .ok (.imul, 1) := by decide +kernel
theorem dX7_fits_93 : decode cX7_fits 93 = .ok (.iconst 0, 1) := by decide +kernel
theorem dX7_fits_94 : decode cX7_fits 94 = .ok (.iadd, 1) := by decide +kernel
theorem dX7_fits_95 : decode cX7_fits 95 = .ok (.iload_n 3, 1) := by decide +kernel
theorem dX7_fits_96 : decode cX7_fits 96 = .ok (.iastore, 1) := by decide +kernel
theorem dX7_fits_97 : decode cX7_fits 97 = .ok (.iload_n 2, 1) := by decide +kernel
theorem dX7_fits_98 : decode cX7_fits 98 = .ok (.ifCond .ne 8, 3) := by decide +kernel
theorem dX7_fits_101 : decode cX7_fits 101 = .ok (.iload 4, 2) := by decide +kernel
theorem dX7_fits_103 : decode cX7_fits 103 = .ok (.goto 5, 3) := by decide +kernel
theorem dX7_fits_106 : decode cX7_fits 106 = .ok (.iload 5, 2) := by decide +kernel
theorem dX7_fits_108 : decode cX7_fits 108 = .ok (.ireturn, 1) := by decide +kernel
theorem dX7_lowest_0 : decode cX7_lowest 0 = .ok (.lload_n 0, 1) := by decide +kernel
theorem dX7_lowest_1 : decode cX7_lowest 1 = .ok (.lstore 5, 2) := by decide +kernel
theorem dX7_lowest_3 : decode cX7_lowest 3 = .ok (.lload_n 2, 1) := by decide +kernel
theorem dX7_lowest_4 : decode cX7_lowest 4 = .ok (.lstore 7, 2) := by decide +kernel
theorem dX7_lowest_6 : decode cX7_lowest 6 = .ok (.lload 7, 2) := by decide +kernel
theorem dX7_lowest_8 : decode cX7_lowest 8 = .ok (.lconst 0, 1) := by decide +kernel
theorem dX7_lowest_9 : decode cX7_lowest 9 = .ok (.lcmp, 1) := by decide +kernel
theorem dX7_lowest_10 : decode cX7_lowest 10 = .ok (.ifCond .eq 21, 3) := by decide +kernel
theorem dX7_lowest_13 : decode cX7_lowest 13 = .ok (.lload 5, 2) := by decide +kernel
theorem dX7_lowest_15 : decode cX7_lowest 15 = .ok (.lload 7, 2) := by decide +kernel
theorem dX7_lowest_17 : decode cX7_lowest 17 = .ok (.lrem, 1) := by decide +kernel
theorem dX7_lowest_18 : decode cX7_lowest 18 = .ok (.lstore 9, 2) := by decide +kernel
theorem dX7_lowest_20 : decode cX7_lowest 20 = .ok (.lload 7, 2) := by decide +kernel
theorem dX7_lowest_22 : decode cX7_lowest 22 = .ok (.lstore 5, 2) := by decide +kernel
theorem dX7_lowest_24 : decode cX7_lowest 24 = .ok (.lload 9, 2) := by decide +kernel
theorem dX7_lowest_26 : decode cX7_lowest 26 = .ok (.lstore 7, 2) := by decide +kernel
theorem dX7_lowest_28 : decode cX7_lowest 28 = .ok (.goto (-22), 3) := by decide +kernel
theorem dX7_lowest_31 : decode cX7_lowest 31 = .ok (.iload 4, 2) := by decide +kernel
theorem dX7_lowest_33 : decode cX7_lowest 33 = .ok (.ifCond .ne 7, 3) := by decide +kernel
theorem dX7_lowest_36 : decode cX7_lowest 36 = .ok (.lload_n 0, 1) := by decide +kernel
theorem dX7_lowest_37 : decode cX7_lowest 37 = .ok (.goto 4, 3) := by decide +kernel
theorem dX7_lowest_40 : decode cX7_lowest 40 = .ok (.lload_n 2, 1) := by decide +kernel
theorem dX7_lowest_41 : decode cX7_lowest 41 = .ok (.lload 5, 2) := by decide +kernel
theorem dX7_lowest_43 : decode cX7_lowest 43 = .ok (.ldiv, 1) := by decide +kernel
theorem dX7_lowest_44 : decode cX7_lowest 44 = .ok (.lreturn, 1) := by decide +kernel
theorem dX7_odds_0 : decode cX7_odds 0 = .ok (.aload_n 0, 1) := by decide +kernel
theorem dX7_odds_1 : decode cX7_odds 1 = .ok (.iload_n 1, 1) := by decide +kernel
theorem dX7_odds_2 : decode cX7_odds 2 = .ok (.invokevirtual 119, 3) := by decide +kernel
theorem dX7_odds_5 : decode cX7_odds 5 = .ok (.ifCond .eq 13, 3) := by decide +kernel
theorem dX7_odds_8 : decode cX7_odds 8 = .ok (.iload_n 2, 1) := by decide +kernel
theorem dX7_odds_9 : decode cX7_odds 9 = .ok (.i2l, 1) := by decide +kernel
theorem dX7_odds_10 : decode cX7_odds 10 = .ok (.lconst 0, 1) := by decide +kernel
theorem dX7_odds_11 : decode cX7_odds 11 = .ok (.lconst 1, 1) := by decide +kernel
theorem dX7_odds_12 : decode cX7_odds 12 = .ok (.invokestatic 76, 3) := by decide +kernel
theorem dX7_odds_15 : decode cX7_odds 15 = .ok (.ifCond .ne 7, 3) := by decide +kernel
theorem dX7_odds_18 : decode cX7_odds 18 = .ok (.ldc2_w 251, 3) := by decide +kernel
theorem dX7_odds_21 : decode cX7_odds 21 = .ok (.lreturn, 1) := by decide +kernel
theorem dX7_odds_22 : decode cX7_odds 22 = .ok (.aload_n 0, 1) := by decide +kernel
theorem dX7_odds_23 : decode cX7_odds 23 = .ok (.iload_n 1, 1) := by decide +kernel
theorem dX7_odds_24 : decode cX7_odds 24 = .ok (.iconst 0, 1) := by decide +kernel
theorem dX7_odds_25 : decode cX7_odds 25 = .ok (.invokevirtual 128, 3) := by decide +kernel
theorem dX7_odds_28 : decode cX7_odds 28 = .ok (.istore_n 3, 1) := by decide +kernel
theorem dX7_odds_29 : decode cX7_odds 29 = .ok (.iconst 0, 1) := by decide +kernel
theorem dX7_odds_30 : decode cX7_odds 30 = .ok (.istore 4, 2) := by decide +kernel
theorem dX7_odds_32 : decode cX7_odds 32 = .ok (.iconst 0, 1) := by decide +kernel
theorem dX7_odds_33 : decode cX7_odds 33 = .ok (.istore 5, 2) := by decide +kernel
theorem dX7_odds_35 : decode cX7_odds 35 = .ok (.iload 5, 2) := by decide +kernel
theorem dX7_odds_37 : decode cX7_odds 37 = .ok (.bipush 10, 2) := by decide +kernel
theorem dX7_odds_39 : decode cX7_odds 39 = .ok (.if_icmp .ge 55, 3) := by decide +kernel
theorem dX7_odds_42 : decode cX7_odds 42 = .ok (.aload_n 0, 1) := by decide +kernel
theorem dX7_odds_43 : decode cX7_odds 43 = .ok (.getfield 11, 3) := by decide +kernel
theorem dX7_odds_46 : decode cX7_odds 46 = .ok (.bipush 6, 2) := by decide +kernel
theorem dX7_odds_48 : decode cX7_odds 48 = .ok (.iload_n 1, 1) := by decide +kernel
theorem dX7_odds_49 : decode cX7_odds 49 = .ok (.imul, 1) := by decide +kernel
theorem dX7_odds_50 : decode cX7_odds 50 = .ok (.iconst 0, 1) := by decide +kernel
theorem dX7_odds_51 : decode cX7_odds 51 = .ok (.iadd, 1) := by decide +kernel
theorem dX7_odds_52 : decode cX7_odds 52 = .ok (.iload 5, 2) := by decide +kernel
theorem dX7_odds_54 : decode cX7_odds 54 = .ok (.iastore, 1) := by decide +kernel
theorem dX7_odds_55 : decode cX7_odds 55 = .ok (.aload_n 0, 1) := by decide +kernel
theorem dX7_odds_56 : decode cX7_odds 56 = .ok (.aload_n 0, 1) := by decide +kernel
theorem dX7_odds_57 : decode cX7_odds 57 = .ok (.getfield 91, 3) := by decide +kernel
theorem dX7_odds_60 : decode cX7_odds 60 = .ok (.aload_n 0, 1) := by decide +kernel
theorem dX7_odds_61 : decode cX7_odds 61 = .ok (.getfield 94, 3) := by decide +kernel
theorem dX7_odds_64 : decode cX7_odds 64 = .ok (.invokevirtual 286, 3) := by decide +kernel
theorem dX7_odds_67 : decode cX7_odds 67 = .ok (.pop, 1) := by decide +kernel
theorem dX7_odds_68 : decode cX7_odds 68 = .ok (.iload 4, 2) := by decide +kernel
theorem dX7_odds_70 : decode cX7_odds 70 = .ok (.aload_n 0, 1) := by decide +kernel
theorem dX7_odds_71 : decode cX7_odds 71 = .ok (.getfield 51, 3) := by decide +kernel
theorem dX7_odds_74 : decode cX7_odds 74 = .ok (.iconst 0, 1) := by decide +kernel
theorem dX7_odds_75 : decode cX7_odds 75 = .ok (.iaload, 1) := by decide +kernel
theorem dX7_odds_76 : decode cX7_odds 76 = .ok (.iload_n 1, 1) := by decide +kernel
theorem dX7_odds_77 : decode cX7_odds 77 = .ok (.if_icmp .ne 7, 3) := by decide +kernel
theorem dX7_odds_80 : decode cX7_odds 80 = .ok (.iconst 1, 1) := by decide +kernel
theorem dX7_odds_81 : decode cX7_odds 81 = .ok (.goto 4, 3) := by decide +kernel
theorem dX7_odds_84 : decode cX7_odds 84 = .ok (.iconst 0, 1) := by decide +kernel
theorem dX7_odds_85 : decode cX7_odds 85 = .ok (.iadd, 1) := by decide +kernel
theorem dX7_odds_86 : decode cX7_odds 86 = .ok (.istore 4, 2) := by decide +kernel
theorem dX7_odds_88 : decode cX7_odds 88 = .ok (.iinc 5 1, 3) := by decide +kernel
theorem dX7_odds_91 : decode cX7_odds 91 = .ok (.goto (-56), 3) := by decide +kernel
theorem dX7_odds_94 : decode cX7_odds 94 = .ok (.aload_n 0, 1) := by decide +kernel
theorem dX7_odds_95 : decode cX7_odds 95 = .ok (.getfield 11, 3) := by decide +kernel
theorem dX7_odds_98 : decode cX7_odds 98 = .ok (.bipush 6, 2) := by decide +kernel
theorem dX7_odds_100 : decode cX7_odds 100 = .ok (.iload_n 1, 1) := by decide +kernel
theorem dX7_odds_101 : decode cX7_odds 101 = .ok (.imul, 1) := by decide +kernel
theorem dX7_odds_102 : decode cX7_odds 102 = .ok (.iconst 0, 1) := by decide +kernel
theorem dX7_odds_103 : decode cX7_odds 103 = .ok (.iadd, 1) := by decide +kernel
theorem dX7_odds_104 : decode cX7_odds 104 = .ok (.iload_n 3, 1) := by decide +kernel
theorem dX7_odds_105 : decode cX7_odds 105 = .ok (.iastore, 1) := by decide +kernel
theorem dX7_odds_106 : decode cX7_odds 106 = .ok (.iload 4, 2) := by decide +kernel
theorem dX7_odds_108 : decode cX7_odds 108 = .ok (.i2l, 1) := by decide +kernel
theorem dX7_odds_109 : decode cX7_odds 109 = .ok (.ldc2_w 300, 3) := by decide +kernel
theorem dX7_odds_112 : decode cX7_odds 112 = .ok (.iload_n 2, 1) := by decide +kernel
theorem dX7_odds_113 : decode cX7_odds 113 = .ok (.invokestatic 302, 3) := by decide +kernel
theorem dX7_odds_116 : decode cX7_odds 116 = .ok (.lreturn, 1) := by decide +kernel
theorem dX7_mean_0 : decode cX7_mean 0 = .ok (.aload_n 0, 1) := by decide +kernel
theorem dX7_mean_1 : decode cX7_mean 1 = .ok (.getfield 72, 3) := by decide +kernel
theorem dX7_mean_4 : decode cX7_mean 4 = .ok (.ifCond .le 39, 3) := by decide +kernel
theorem dX7_mean_7 : decode cX7_mean 7 = .ok (.iload_n 1, 1) := by decide +kernel
theorem dX7_mean_8 : decode cX7_mean 8 = .ok (.i2l, 1) := by decide +kernel
theorem dX7_mean_9 : decode cX7_mean 9 = .ok (.lconst 0, 1) := by decide +kernel
theorem dX7_mean_10 : decode cX7_mean 10 = .ok (.lconst 1, 1) := by decide +kernel
theorem dX7_mean_11 : decode cX7_mean 11 = .ok (.invokestatic 76, 3) := by decide +kernel
theorem dX7_mean_14 : decode cX7_mean 14 = .ok (.ifCond .eq 29, 3) := by decide +kernel
theorem dX7_mean_17 : decode cX7_mean 17 = .ok (.aload_n 0, 1) := by decide +kernel
theorem dX7_mean_18 : decode cX7_mean 18 = .ok (.aload_n 0, 1) := by decide +kernel
theorem dX7_mean_19 : decode cX7_mean 19 = .ok (.getfield 15, 3) := by decide +kernel
theorem dX7_mean_22 : decode cX7_mean 22 = .ok (.aload_n 0, 1) := by decide +kernel
theorem dX7_mean_23 : decode cX7_mean 23 = .ok (.getfield 91, 3) := by decide +kernel
theorem dX7_mean_26 : decode cX7_mean 26 = .ok (.iconst 1, 1) := by decide +kernel
theorem dX7_mean_27 : decode cX7_mean 27 = .ok (.invokevirtual 236, 3) := by decide +kernel
theorem dX7_mean_30 : decode cX7_mean 30 = .ok (.i2l, 1) := by decide +kernel
theorem dX7_mean_31 : decode cX7_mean 31 = .ok (.aload_n 0, 1) := by decide +kernel
theorem dX7_mean_32 : decode cX7_mean 32 = .ok (.getfield 72, 3) := by decide +kernel
theorem dX7_mean_35 : decode cX7_mean 35 = .ok (.i2l, 1) := by decide +kernel
theorem dX7_mean_36 : decode cX7_mean 36 = .ok (.iload_n 1, 1) := by decide +kernel
theorem dX7_mean_37 : decode cX7_mean 37 = .ok (.invokestatic 302, 3) := by decide +kernel
theorem dX7_mean_40 : decode cX7_mean 40 = .ok (.goto 6, 3) := by decide +kernel
theorem dX7_mean_43 : decode cX7_mean 43 = .ok (.ldc2_w 251, 3) := by decide +kernel
theorem dX7_mean_46 : decode cX7_mean 46 = .ok (.lreturn, 1) := by decide +kernel
theorem dX7_event_0 : decode cX7_event 0 = .ok (.iload_n 1, 1) := by decide +kernel
theorem dX7_event_1 : decode cX7_event 1 = .ok (.iconst (-1), 1) := by decide +kernel
theorem dX7_event_2 : decode cX7_event 2 = .ok (.if_icmp .ne 10, 3) := by decide +kernel
theorem dX7_event_5 : decode cX7_event 5 = .ok (.aload_n 0, 1) := by decide +kernel
theorem dX7_event_6 : decode cX7_event 6 = .ok (.iconst 0, 1) := by decide +kernel
theorem dX7_event_7 : decode cX7_event 7 = .ok (.putfield 100, 3) := by decide +kernel
theorem dX7_event_10 : decode cX7_event 10 = .ok (.iconst 0, 1) := by decide +kernel
theorem dX7_event_11 : decode cX7_event 11 = .ok (.ireturn, 1) := by decide +kernel
theorem dX7_event_12 : decode cX7_event 12 = .ok (.iload_n 1, 1) := by decide +kernel
theorem dX7_event_13 : decode cX7_event 13 = .ok (.i2l, 1) := by decide +kernel
theorem dX7_event_14 : decode cX7_event 14 = .ok (.lconst 0, 1) := by decide +kernel
theorem dX7_event_15 : decode cX7_event 15 = .ok (.ldc2_w 219, 3) := by decide +kernel
theorem dX7_event_18 : decode cX7_event 18 = .ok (.invokestatic 76, 3) := by decide +kernel
theorem dX7_event_21 : decode cX7_event 21 = .ok (.ifCond .eq 16, 3) := by decide +kernel
theorem dX7_event_24 : decode cX7_event 24 = .ok (.iload_n 1, 1) := by decide +kernel
theorem dX7_event_25 : decode cX7_event 25 = .ok (.iconst 2, 1) := by decide +kernel
theorem dX7_event_26 : decode cX7_event 26 = .ok (.if_icmp .eq 13, 3) := by decide +kernel
theorem dX7_event_29 : decode cX7_event 29 = .ok (.aload_n 0, 1) := by decide +kernel
theorem dX7_event_30 : decode cX7_event 30 = .ok (.iload_n 2, 1) := by decide +kernel
theorem dX7_event_31 : decode cX7_event 31 = .ok (.invokevirtual 119, 3) := by decide +kernel
theorem dX7_event_34 : decode cX7_event 34 = .ok (.ifCond .ne 5, 3) := by decide +kernel
theorem dX7_event_37 : decode cX7_event 37 = .ok (.iconst (-1), 1) := by decide +kernel
theorem dX7_event_38 : decode cX7_event 38 = .ok (.ireturn, 1) := by decide +kernel
theorem dX7_event_39 : decode cX7_event 39 = .ok (.iload_n 1, 1) := by decide +kernel
theorem dX7_event_40 : decode cX7_event 40 = .ok (.iconst 2, 1) := by decide +kernel
theorem dX7_event_41 : decode cX7_event 41 = .ok (.if_icmp .ne 18, 3) := by decide +kernel
theorem dX7_event_44 : decode cX7_event 44 = .ok (.iload_n 2, 1) := by decide +kernel
theorem dX7_event_45 : decode cX7_event 45 = .ok (.i2l, 1) := by decide +kernel
theorem dX7_event_46 : decode cX7_event 46 = .ok (.lconst 0, 1) := by decide +kernel
theorem dX7_event_47 : decode cX7_event 47 = .ok (.ldc2_w 138, 3) := by decide +kernel
theorem dX7_event_50 : decode cX7_event 50 = .ok (.invokestatic 76, 3) := by decide +kernel
theorem dX7_event_53 : decode cX7_event 53 = .ok (.ifCond .ne 6, 3) := by decide +kernel
theorem dX7_event_56 : decode cX7_event 56 = .ok (.bipush (-2), 2) := by decide +kernel
theorem dX7_event_58 : decode cX7_event 58 = .ok (.ireturn, 1) := by decide +kernel
theorem dX7_event_59 : decode cX7_event 59 = .ok (.aload_n 0, 1) := by decide +kernel
theorem dX7_event_60 : decode cX7_event 60 = .ok (.getfield 100, 3) := by decide +kernel
theorem dX7_event_63 : decode cX7_event 63 = .ok (.bipush 8, 2) := by decide +kernel
theorem dX7_event_65 : decode cX7_event 65 = .ok (.if_icmp .ne 6, 3) := by decide +kernel
theorem dX7_event_68 : decode cX7_event 68 = .ok (.bipush (-4), 2) := by decide +kernel
theorem dX7_event_70 : decode cX7_event 70 = .ok (.ireturn, 1) := by decide +kernel
theorem dX7_event_71 : decode cX7_event 71 = .ok (.aload_n 0, 1) := by decide +kernel
theorem dX7_event_72 : decode cX7_event 72 = .ok (.getfield 24, 3) := by decide +kernel
theorem dX7_event_75 : decode cX7_event 75 = .ok (.aload_n 0, 1) := by decide +kernel
theorem dX7_event_76 : decode cX7_event 76 = .ok (.getfield 100, 3) := by decide +kernel
theorem dX7_event_79 : decode cX7_event 79 = .ok (.iload_n 1, 1) := by decide +kernel
theorem dX7_event_80 : decode cX7_event 80 = .ok (.iastore, 1) := by decide +kernel
theorem dX7_event_81 : decode cX7_event 81 = .ok (.aload_n 0, 1) := by decide +kernel
theorem dX7_event_82 : decode cX7_event 82 = .ok (.getfield 27, 3) := by decide +kernel
theorem dX7_event_85 : decode cX7_event 85 = .ok (.aload_n 0, 1) := by decide +kernel
theorem dX7_event_86 : decode cX7_event 86 = .ok (.getfield 100, 3) := by decide +kernel
theorem dX7_event_89 : decode cX7_event 89 = .ok (.iload_n 2, 1) := by decide +kernel
theorem dX7_event_90 : decode cX7_event 90 = .ok (.iastore, 1) := by decide +kernel
theorem dX7_event_91 : decode cX7_event 91 = .ok (.aload_n 0, 1) := by decide +kernel
theorem dX7_event_92 : decode cX7_event 92 = .ok (.dup, 1) := by decide +kernel
theorem dX7_event_93 : decode cX7_event 93 = .ok (.getfield 100, 3) := by decide +kernel
theorem dX7_event_96 : decode cX7_event 96 = .ok (.iconst 1, 1) := by decide +kernel
theorem dX7_event_97 : decode cX7_event 97 = .ok (.iadd, 1) := by decide +kernel
theorem dX7_event_98 : decode cX7_event 98 = .ok (.putfield 100, 3) := by decide +kernel
theorem dX7_event_101 : decode cX7_event 101 = .ok (.aload_n 0, 1) := by decide +kernel
theorem dX7_event_102 : decode cX7_event 102 = .ok (.getfield 100, 3) := by decide +kernel
theorem dX7_event_105 : decode cX7_event 105 = .ok (.ireturn, 1) := by decide +kernel
theorem dX7_happens_0 : decode cX7_happens 0 = .ok (.iload_n 1, 1) := by decide +kernel
theorem dX7_happens_1 : decode cX7_happens 1 = .ok (.iconst 2, 1) := by decide +kernel
theorem dX7_happens_2 : decode cX7_happens 2 = .ok (.if_icmp .ne 11, 3) := by decide +kernel
theorem dX7_happens_5 : decode cX7_happens 5 = .ok (.aload_n 0, 1) := by decide +kernel
theorem dX7_happens_6 : decode cX7_happens 6 = .ok (.iload_n 2, 1) := by decide +kernel
theorem dX7_happens_7 : decode cX7_happens 7 = .ok (.putfield 91, 3) := by decide +kernel
theorem dX7_happens_10 : decode cX7_happens 10 = .ok (.goto 57, 3) := by decide +kernel
theorem dX7_happens_13 : decode cX7_happens 13 = .ok (.iload_n 1, 1) := by decide +kernel
theorem dX7_happens_14 : decode cX7_happens 14 = .ok (.iconst 3, 1) := by decide +kernel
theorem dX7_happens_15 : decode cX7_happens 15 = .ok (.if_icmp .ne 18, 3) := by decide +kernel
theorem dX7_happens_18 : decode cX7_happens 18 = .ok (.aload_n 0, 1) := by decide +kernel
theorem dX7_happens_19 : decode cX7_happens 19 = .ok (.getfield 11, 3) := by decide +kernel
theorem dX7_happens_22 : decode cX7_happens 22 = .ok (.bipush 6, 2) := by decide +kernel
theorem dX7_happens_24 : decode cX7_happens 24 = .ok (.iload_n 2, 1) := by decide +kernel
theorem dX7_happens_25 : decode cX7_happens 25 = .ok (.imul, 1) := by decide +kernel
theorem dX7_happens_26 : decode cX7_happens 26 = .ok (.iconst 1, 1) := by decide +kernel
theorem dX7_happens_27 : decode cX7_happens 27 = .ok (.iadd, 1) := by decide +kernel
theorem dX7_happens_28 : decode cX7_happens 28 = .ok (.iconst 0, 1) := by decide +kernel
theorem dX7_happens_29 : decode cX7_happens 29 = .ok (.iastore, 1) := by decide +kernel
theorem dX7_happens_30 : decode cX7_happens 30 = .ok (.goto 37, 3) := by decide +kernel
theorem dX7_happens_33 : decode cX7_happens 33 = .ok (.iload_n 1, 1) := by decide +kernel
theorem dX7_happens_34 : decode cX7_happens 34 = .ok (.ifCond .ne 7, 3) := by decide +kernel
theorem dX7_happens_37 : decode cX7_happens 37 = .ok (.iconst 0, 1) := by decide +kernel
theorem dX7_happens_38 : decode cX7_happens 38 = .ok (.goto 4, 3) := by decide +kernel
theorem dX7_happens_41 : decode cX7_happens 41 = .ok (.iconst 2, 1) := by decide +kernel
theorem dX7_happens_42 : decode cX7_happens 42 = .ok (.istore_n 3, 1) := by decide +kernel
theorem dX7_happens_43 : decode cX7_happens 43 = .ok (.aload_n 0, 1) := by decide +kernel
theorem dX7_happens_44 : decode cX7_happens 44 = .ok (.getfield 11, 3) := by decide +kernel
theorem dX7_happens_47 : decode cX7_happens 47 = .ok (.bipush 6, 2) := by decide +kernel
theorem dX7_happens_49 : decode cX7_happens 49 = .ok (.iload_n 2, 1) := by decide +kernel
theorem dX7_happens_50 : decode cX7_happens 50 = .ok (.imul, 1) := by decide +kernel
theorem dX7_happens_51 : decode cX7_happens 51 = .ok (.iload_n 3, 1) := by decide +kernel
theorem dX7_happens_52 : decode cX7_happens 52 = .ok (.iadd, 1) := by decide +kernel
theorem dX7_happens_53 : decode cX7_happens 53 = .ok (.bipush 30, 2) := by decide +kernel
theorem dX7_happens_55 : decode cX7_happens 55 = .ok (.aload_n 0, 1) := by decide +kernel
theorem dX7_happens_56 : decode cX7_happens 56 = .ok (.iload_n 2, 1) := by decide +kernel
theorem dX7_happens_57 : decode cX7_happens 57 = .ok (.iload_n 3, 1) := by decide +kernel
theorem dX7_happens_58 : decode cX7_happens 58 = .ok (.invokevirtual 128, 3) := by decide +kernel
theorem dX7_happens_61 : decode cX7_happens 61 = .ok (.iconst 1, 1) := by decide +kernel
theorem dX7_happens_62 : decode cX7_happens 62 = .ok (.iadd, 1) := by decide +kernel
theorem dX7_happens_63 : decode cX7_happens 63 = .ok (.invokestatic 176, 3) := by decide +kernel
theorem dX7_happens_66 : decode cX7_happens 66 = .ok (.iastore, 1) := by decide +kernel
theorem dX7_happens_67 : decode cX7_happens 67 = .ok (.return_, 1) := by decide +kernel
theorem dX7_after_0 : decode cX7_after 0 = .ok (.iload_n 1, 1) := by decide +kernel
theorem dX7_after_1 : decode cX7_after 1 = .ok (.i2l, 1) := by decide +kernel
theorem dX7_after_2 : decode cX7_after 2 = .ok (.lconst 0, 1) := by decide +kernel
theorem dX7_after_3 : decode cX7_after 3 = .ok (.lconst 1, 1) := by decide +kernel
theorem dX7_after_4 : decode cX7_after 4 = .ok (.invokestatic 76, 3) := by decide +kernel
theorem dX7_after_7 : decode cX7_after 7 = .ok (.ifCond .eq 10, 3) := by decide +kernel
theorem dX7_after_10 : decode cX7_after 10 = .ok (.aload_n 0, 1) := by decide +kernel
theorem dX7_after_11 : decode cX7_after 11 = .ok (.getfield 72, 3) := by decide +kernel
theorem dX7_after_14 : decode cX7_after 14 = .ok (.ifCond .ne 7, 3) := by decide +kernel
theorem dX7_after_17 : decode cX7_after 17 = .ok (.ldc2_w 251, 3) := by decide +kernel
theorem dX7_after_20 : decode cX7_after 20 = .ok (.lreturn, 1) := by decide +kernel
theorem dX7_after_21 : decode cX7_after 21 = .ok (.aload_n 0, 1) := by decide +kernel
theorem dX7_after_22 : decode cX7_after 22 = .ok (.getfield 11, 3) := by decide +kernel
theorem dX7_after_25 : decode cX7_after 25 = .ok (.aload_n 0, 1) := by decide +kernel
theorem dX7_after_26 : decode cX7_after 26 = .ok (.getfield 54, 3) := by decide +kernel
theorem dX7_after_29 : decode cX7_after 29 = .ok (.invokestatic 232, 3) := by decide +kernel
theorem dX7_after_32 : decode cX7_after 32 = .ok (.aload_n 0, 1) := by decide +kernel
theorem dX7_after_33 : decode cX7_after 33 = .ok (.getfield 91, 3) := by decide +kernel
theorem dX7_after_36 : decode cX7_after 36 = .ok (.istore_n 2, 1) := by decide +kernel
theorem dX7_after_37 : decode cX7_after 37 = .ok (.iconst 0, 1) := by decide +kernel
theorem dX7_after_38 : decode cX7_after 38 = .ok (.istore_n 3, 1) := by decide +kernel
theorem dX7_after_39 : decode cX7_after 39 = .ok (.iload_n 3, 1) := by decide +kernel
theorem dX7_after_40 : decode cX7_after 40 = .ok (.aload_n 0, 1) := by decide +kernel
theorem dX7_after_41 : decode cX7_after 41 = .ok (.getfield 100, 3) := by decide +kernel
theorem dX7_after_44 : decode cX7_after 44 = .ok (.if_icmp .ge 25, 3) := by decide +kernel
theorem dX7_after_47 : decode cX7_after 47 = .ok (.aload_n 0, 1) := by decide +kernel
theorem dX7_after_48 : decode cX7_after 48 = .ok (.aload_n 0, 1) := by decide +kernel
theorem dX7_after_49 : decode cX7_after 49 = .ok (.getfield 24, 3) := by decide +kernel
theorem dX7_after_52 : decode cX7_after 52 = .ok (.iload_n 3, 1) := by decide +kernel
theorem dX7_after_53 : decode cX7_after 53 = .ok (.iaload, 1) := by decide +kernel
theorem dX7_after_54 : decode cX7_after 54 = .ok (.aload_n 0, 1) := by decide +kernel
theorem dX7_after_55 : decode cX7_after 55 = .ok (.getfield 27, 3) := by decide +kernel
theorem dX7_after_58 : decode cX7_after 58 = .ok (.iload_n 3, 1) := by decide +kernel
theorem dX7_after_59 : decode cX7_after 59 = .ok (.iaload, 1) := by decide +kernel
theorem dX7_after_60 : decode cX7_after 60 = .ok (.invokevirtual 306, 3) := by decide +kernel
theorem dX7_after_63 : decode cX7_after 63 = .ok (.iinc 3 1, 3) := by decide +kernel
theorem dX7_after_66 : decode cX7_after 66 = .ok (.goto (-27), 3) := by decide +kernel
theorem dX7_after_69 : decode cX7_after 69 = .ok (.iload_n 1, 1) := by decide +kernel
theorem dX7_after_70 : decode cX7_after 70 = .ok (.ifCond .ne 10, 3) := by decide +kernel
theorem dX7_after_73 : decode cX7_after 73 = .ok (.aload_n 0, 1) := by decide +kernel
theorem dX7_after_74 : decode cX7_after 74 = .ok (.invokevirtual 240, 3) := by decide +kernel
theorem dX7_after_77 : decode cX7_after 77 = .ok (.goto 15, 3) := by decide +kernel
theorem dX7_after_80 : decode cX7_after 80 = .ok (.aload_n 0, 1) := by decide +kernel
theorem dX7_after_81 : decode cX7_after 81 = .ok (.aload_n 0, 1) := by decide +kernel
theorem dX7_after_82 : decode cX7_after 82 = .ok (.getfield 91, 3) := by decide +kernel
theorem dX7_after_85 : decode cX7_after 85 = .ok (.aload_n 0, 1) := by decide +kernel
theorem dX7_after_86 : decode cX7_after 86 = .ok (.getfield 94, 3) := by decide +kernel
theorem dX7_after_89 : decode cX7_after 89 = .ok (.invokevirtual 286, 3) := by decide +kernel
theorem dX7_after_92 : decode cX7_after 92 = .ok (.istore_n 3, 1) := by decide +kernel
theorem dX7_after_93 : decode cX7_after 93 = .ok (.aload_n 0, 1) := by decide +kernel
theorem dX7_after_94 : decode cX7_after 94 = .ok (.getfield 54, 3) := by decide +kernel
theorem dX7_after_97 : decode cX7_after 97 = .ok (.aload_n 0, 1) := by decide +kernel
theorem dX7_after_98 : decode cX7_after 98 = .ok (.getfield 11, 3) := by decide +kernel
theorem dX7_after_101 : decode cX7_after 101 = .ok (.invokestatic 232, 3) := by decide +kernel
theorem dX7_after_104 : decode cX7_after 104 = .ok (.aload_n 0, 1) := by decide +kernel
theorem dX7_after_105 : decode cX7_after 105 = .ok (.iload_n 2, 1) := by decide +kernel
theorem dX7_after_106 : decode cX7_after 106 = .ok (.putfield 91, 3) := by decide +kernel
theorem dX7_after_109 : decode cX7_after 109 = .ok (.iload_n 3, 1) := by decide +kernel
theorem dX7_after_110 : decode cX7_after 110 = .ok (.i2l, 1) := by decide +kernel
theorem dX7_after_111 : decode cX7_after 111 = .ok (.lreturn, 1) := by decide +kernel
theorem dX7_book_0 : decode cX7_book 0 = .ok (.iload_n 1, 1) := by decide +kernel
theorem dX7_book_1 : decode cX7_book 1 = .ok (.iconst (-1), 1) := by decide +kernel
theorem dX7_book_2 : decode cX7_book 2 = .ok (.if_icmp .ne 10, 3) := by decide +kernel
theorem dX7_book_5 : decode cX7_book 5 = .ok (.aload_n 0, 1) := by decide +kernel
theorem dX7_book_6 : decode cX7_book 6 = .ok (.iconst 0, 1) := by decide +kernel
theorem dX7_book_7 : decode cX7_book 7 = .ok (.putfield 103, 3) := by decide +kernel
theorem dX7_book_10 : decode cX7_book 10 = .ok (.iconst 0, 1) := by decide +kernel
theorem dX7_book_11 : decode cX7_book 11 = .ok (.ireturn, 1) := by decide +kernel
theorem dX7_book_12 : decode cX7_book 12 = .ok (.aload_n 0, 1) := by decide +kernel
theorem dX7_book_13 : decode cX7_book 13 = .ok (.iload_n 1, 1) := by decide +kernel
theorem dX7_book_14 : decode cX7_book 14 = .ok (.invokevirtual 119, 3) := by decide +kernel
theorem dX7_book_17 : decode cX7_book 17 = .ok (.ifCond .ne 5, 3) := by decide +kernel
theorem dX7_book_20 : decode cX7_book 20 = .ok (.iconst (-1), 1) := by decide +kernel
theorem dX7_book_21 : decode cX7_book 21 = .ok (.ireturn, 1) := by decide +kernel
theorem dX7_book_22 : decode cX7_book 22 = .ok (.iload_n 2, 1) := by decide +kernel
theorem dX7_book_23 : decode cX7_book 23 = .ok (.i2l, 1) := by decide +kernel
theorem dX7_book_24 : decode cX7_book 24 = .ok (.lconst 0, 1) := by decide +kernel
theorem dX7_book_25 : decode cX7_book 25 = .ok (.ldc2_w 123, 3) := by decide +kernel
theorem dX7_book_28 : decode cX7_book 28 = .ok (.invokestatic 76, 3) := by decide +kernel
theorem dX7_book_31 : decode cX7_book 31 = .ok (.ifCond .ne 6, 3) := by decide +kernel
theorem dX7_book_34 : decode cX7_book 34 = .ok (.bipush (-2), 2) := by decide +kernel
theorem dX7_book_36 : decode cX7_book 36 = .ok (.ireturn, 1) := by decide +kernel
theorem dX7_book_37 : decode cX7_book 37 = .ok (.aload_n 0, 1) := by decide +kernel
theorem dX7_book_38 : decode cX7_book 38 = .ok (.getfield 103, 3) := by decide +kernel
theorem dX7_book_41 : decode cX7_book 41 = .ok (.bipush 8, 2) := by decide +kernel
theorem dX7_book_43 : decode cX7_book 43 = .ok (.if_icmp .ne 6, 3) := by decide +kernel
theorem dX7_book_46 : decode cX7_book 46 = .ok (.bipush (-4), 2) := by decide +kernel
theorem dX7_book_48 : decode cX7_book 48 = .ok (.ireturn, 1) := by decide +kernel
theorem dX7_book_49 : decode cX7_book 49 = .ok (.aload_n 0, 1) := by decide +kernel
theorem dX7_book_50 : decode cX7_book 50 = .ok (.getfield 30, 3) := by decide +kernel
theorem dX7_book_53 : decode cX7_book 53 = .ok (.aload_n 0, 1) := by decide +kernel
theorem dX7_book_54 : decode cX7_book 54 = .ok (.getfield 103, 3) := by decide +kernel
theorem dX7_book_57 : decode cX7_book 57 = .ok (.iload_n 1, 1) := by decide +kernel
theorem dX7_book_58 : decode cX7_book 58 = .ok (.iastore, 1) := by decide +kernel
theorem dX7_book_59 : decode cX7_book 59 = .ok (.aload_n 0, 1) := by decide +kernel
theorem dX7_book_60 : decode cX7_book 60 = .ok (.getfield 33, 3) := by decide +kernel
theorem dX7_book_63 : decode cX7_book 63 = .ok (.aload_n 0, 1) := by decide +kernel
theorem dX7_book_64 : decode cX7_book 64 = .ok (.getfield 103, 3) := by decide +kernel
theorem dX7_book_67 : decode cX7_book 67 = .ok (.iload_n 2, 1) := by decide +kernel
theorem dX7_book_68 : decode cX7_book 68 = .ok (.iastore, 1) := by decide +kernel
theorem dX7_book_69 : decode cX7_book 69 = .ok (.aload_n 0, 1) := by decide +kernel
theorem dX7_book_70 : decode cX7_book 70 = .ok (.dup, 1) := by decide +kernel
theorem dX7_book_71 : decode cX7_book 71 = .ok (.getfield 103, 3) := by decide +kernel
theorem dX7_book_74 : decode cX7_book 74 = .ok (.iconst 1, 1) := by decide +kernel
theorem dX7_book_75 : decode cX7_book 75 = .ok (.iadd, 1) := by decide +kernel
theorem dX7_book_76 : decode cX7_book 76 = .ok (.putfield 103, 3) := by decide +kernel
theorem dX7_book_79 : decode cX7_book 79 = .ok (.aload_n 0, 1) := by decide +kernel
theorem dX7_book_80 : decode cX7_book 80 = .ok (.getfield 103, 3) := by decide +kernel
theorem dX7_book_83 : decode cX7_book 83 = .ok (.ireturn, 1) := by decide +kernel
theorem dX7_looked_0 : decode cX7_looked 0 = .ok (.iconst 0, 1) := by decide +kernel
theorem dX7_looked_1 : decode cX7_looked 1 = .ok (.istore_n 1, 1) := by decide +kernel
theorem dX7_looked_2 : decode cX7_looked 2 = .ok (.iload_n 1, 1) := by decide +kernel
theorem dX7_looked_3 : decode cX7_looked 3 = .ok (.aload_n 0, 1) := by decide +kernel
theorem dX7_looked_4 : decode cX7_looked 4 = .ok (.getfield 103, 3) := by decide +kernel
theorem dX7_looked_7 : decode cX7_looked 7 = .ok (.if_icmp .ge 34, 3) := by decide +kernel
theorem dX7_looked_10 : decode cX7_looked 10 = .ok (.aload_n 0, 1) := by decide +kernel
theorem dX7_looked_11 : decode cX7_looked 11 = .ok (.aload_n 0, 1) := by decide +kernel
theorem dX7_looked_12 : decode cX7_looked 12 = .ok (.getfield 15, 3) := by decide +kernel
theorem dX7_looked_15 : decode cX7_looked 15 = .ok (.aload_n 0, 1) := by decide +kernel
theorem dX7_looked_16 : decode cX7_looked 16 = .ok (.getfield 30, 3) := by decide +kernel
theorem dX7_looked_19 : decode cX7_looked 19 = .ok (.iload_n 1, 1) := by decide +kernel
theorem dX7_looked_20 : decode cX7_looked 20 = .ok (.iaload, 1) := by decide +kernel
theorem dX7_looked_21 : decode cX7_looked 21 = .ok (.aload_n 0, 1) := by decide +kernel
theorem dX7_looked_22 : decode cX7_looked 22 = .ok (.getfield 33, 3) := by decide +kernel
theorem dX7_looked_25 : decode cX7_looked 25 = .ok (.iload_n 1, 1) := by decide +kernel
theorem dX7_looked_26 : decode cX7_looked 26 = .ok (.iaload, 1) := by decide +kernel
theorem dX7_looked_27 : decode cX7_looked 27 = .ok (.invokevirtual 293, 3) := by decide +kernel
theorem dX7_looked_30 : decode cX7_looked 30 = .ok (.ifCond .ne 5, 3) := by decide +kernel
theorem dX7_looked_33 : decode cX7_looked 33 = .ok (.iload_n 1, 1) := by decide +kernel
theorem dX7_looked_34 : decode cX7_looked 34 = .ok (.ireturn, 1) := by decide +kernel
theorem dX7_looked_35 : decode cX7_looked 35 = .ok (.iinc 1 1, 3) := by decide +kernel
theorem dX7_looked_38 : decode cX7_looked 38 = .ok (.goto (-36), 3) := by decide +kernel
theorem dX7_looked_41 : decode cX7_looked 41 = .ok (.bipush (-5), 2) := by decide +kernel
theorem dX7_looked_43 : decode cX7_looked 43 = .ok (.ireturn, 1) := by decide +kernel
theorem dX7_isTape_0 : decode cX7_isTape 0 = .ok (.iload_n 0, 1) := by decide +kernel
theorem dX7_isTape_1 : decode cX7_isTape 1 = .ok (.i2l, 1) := by decide +kernel
theorem dX7_isTape_2 : decode cX7_isTape 2 = .ok (.lconst 0, 1) := by decide +kernel
theorem dX7_isTape_3 : decode cX7_isTape 3 = .ok (.ldc2_w 123, 3) := by decide +kernel
theorem dX7_isTape_6 : decode cX7_isTape 6 = .ok (.invokestatic 76, 3) := by decide +kernel
theorem dX7_isTape_9 : decode cX7_isTape 9 = .ok (.ireturn, 1) := by decide +kernel
theorem dX7_judge_0 : decode cX7_judge 0 = .ok (.iload_n 1, 1) := by decide +kernel
theorem dX7_judge_1 : decode cX7_judge 1 = .ok (.invokestatic 310, 3) := by decide +kernel
theorem dX7_judge_4 : decode cX7_judge 4 = .ok (.ifCond .ne 5, 3) := by decide +kernel
theorem dX7_judge_7 : decode cX7_judge 7 = .ok (.iconst (-1), 1) := by decide +kernel
theorem dX7_judge_8 : decode cX7_judge 8 = .ok (.ireturn, 1) := by decide +kernel
theorem dX7_judge_9 : decode cX7_judge 9 = .ok (.aload_n 0, 1) := by decide +kernel
theorem dX7_judge_10 : decode cX7_judge 10 = .ok (.getfield 62, 3) := by decide +kernel
theorem dX7_judge_13 : decode cX7_judge 13 = .ok (.iload_n 1, 1) := by decide +kernel
theorem dX7_judge_14 : decode cX7_judge 14 = .ok (.iaload, 1) := by decide +kernel
theorem dX7_judge_15 : decode cX7_judge 15 = .ok (.ifCond .lt 16, 3) := by decide +kernel
theorem dX7_judge_18 : decode cX7_judge 18 = .ok (.aload_n 0, 1) := by decide +kernel
theorem dX7_judge_19 : decode cX7_judge 19 = .ok (.getfield 62, 3) := by decide +kernel
theorem dX7_judge_22 : decode cX7_judge 22 = .ok (.iload_n 1, 1) := by decide +kernel
theorem dX7_judge_23 : decode cX7_judge 23 = .ok (.iaload, 1) := by decide +kernel
theorem dX7_judge_24 : decode cX7_judge 24 = .ok (.iconst 1, 1) := by decide +kernel
theorem dX7_judge_25 : decode cX7_judge 25 = .ok (.if_icmp .eq 6, 3) := by decide +kernel
theorem dX7_judge_28 : decode cX7_judge 28 = .ok (.bipush (-12), 2) := by decide +kernel
theorem dX7_judge_30 : decode cX7_judge 30 = .ok (.ireturn, 1) := by decide +kernel
theorem dX7_judge_31 : decode cX7_judge 31 = .ok (.aload_n 0, 1) := by decide +kernel
theorem dX7_judge_32 : decode cX7_judge 32 = .ok (.aload_n 0, 1) := by decide +kernel
theorem dX7_judge_33 : decode cX7_judge 33 = .ok (.getfield 15, 3) := by decide +kernel
theorem dX7_judge_36 : decode cX7_judge 36 = .ok (.aload_n 0, 1) := by decide +kernel
theorem dX7_judge_37 : decode cX7_judge 37 = .ok (.getfield 91, 3) := by decide +kernel
theorem dX7_judge_40 : decode cX7_judge 40 = .ok (.invokevirtual 203, 3) := by decide +kernel
theorem dX7_judge_43 : decode cX7_judge 43 = .ok (.iconst 0, 1) := by decide +kernel
theorem dX7_judge_44 : decode cX7_judge 44 = .ok (.istore_n 3, 1) := by decide +kernel
theorem dX7_judge_45 : decode cX7_judge 45 = .ok (.iload_n 3, 1) := by decide +kernel
theorem dX7_judge_46 : decode cX7_judge 46 = .ok (.aload_n 0, 1) := by decide +kernel
theorem dX7_judge_47 : decode cX7_judge 47 = .ok (.getfield 72, 3) := by decide +kernel
theorem dX7_judge_50 : decode cX7_judge 50 = .ok (.if_icmp .ge 57, 3) := by decide +kernel
theorem dX7_judge_53 : decode cX7_judge 53 = .ok (.iload_n 2, 1) := by decide +kernel
theorem dX7_judge_54 : decode cX7_judge 54 = .ok (.ifCond .lt 15, 3) := by decide +kernel
theorem dX7_judge_57 : decode cX7_judge 57 = .ok (.iload_n 2, 1) := by decide +kernel
theorem dX7_judge_58 : decode cX7_judge 58 = .ok (.aload_n 0, 1) := by decide +kernel
theorem dX7_judge_59 : decode cX7_judge 59 = .ok (.getfield 65, 3) := by decide +kernel
theorem dX7_judge_62 : decode cX7_judge 62 = .ok (.iload_n 1, 1) := by decide +kernel
theorem dX7_judge_63 : decode cX7_judge 63 = .ok (.iaload, 1) := by decide +kernel
theorem dX7_judge_64 : decode cX7_judge 64 = .ok (.iload_n 3, 1) := by decide +kernel
theorem dX7_judge_65 : decode cX7_judge 65 = .ok (.isub, 1) := by decide +kernel
theorem dX7_judge_66 : decode cX7_judge 66 = .ok (.if_icmp .lt 8, 3) := by decide +kernel
theorem dX7_judge_69 : decode cX7_judge 69 = .ok (.bipush 100, 2) := by decide +kernel
theorem dX7_judge_71 : decode cX7_judge 71 = .ok (.iload_n 3, 1) := by decide +kernel
theorem dX7_judge_72 : decode cX7_judge 72 = .ok (.iadd, 1) := by decide +kernel
theorem dX7_judge_73 : decode cX7_judge 73 = .ok (.ireturn, 1) := by decide +kernel
theorem dX7_judge_74 : decode cX7_judge 74 = .ok (.aload_n 0, 1) := by decide +kernel
theorem dX7_judge_75 : decode cX7_judge 75 = .ok (.getfield 59, 3) := by decide +kernel
theorem dX7_judge_78 : decode cX7_judge 78 = .ok (.iload_n 1, 1) := by decide +kernel
theorem dX7_judge_79 : decode cX7_judge 79 = .ok (.aaload, 1) := by decide +kernel
theorem dX7_judge_80 : decode cX7_judge 80 = .ok (.iload_n 2, 1) := by decide +kernel
theorem dX7_judge_81 : decode cX7_judge 81 = .ok (.iload_n 3, 1) := by decide +kernel
theorem dX7_judge_82 : decode cX7_judge 82 = .ok (.iadd, 1) := by decide +kernel
theorem dX7_judge_83 : decode cX7_judge 83 = .ok (.laload, 1) := by decide +kernel
theorem dX7_judge_84 : decode cX7_judge 84 = .ok (.aload_n 0, 1) := by decide +kernel
theorem dX7_judge_85 : decode cX7_judge 85 = .ok (.aload_n 0, 1) := by decide +kernel
theorem dX7_judge_86 : decode cX7_judge 86 = .ok (.getfield 15, 3) := by decide +kernel
theorem dX7_judge_89 : decode cX7_judge 89 = .ok (.iload_n 3, 1) := by decide +kernel
theorem dX7_judge_90 : decode cX7_judge 90 = .ok (.iaload, 1) := by decide +kernel
theorem dX7_judge_91 : decode cX7_judge 91 = .ok (.invokevirtual 210, 3) := by decide +kernel
theorem dX7_judge_94 : decode cX7_judge 94 = .ok (.i2l, 1) := by decide +kernel
theorem dX7_judge_95 : decode cX7_judge 95 = .ok (.lcmp, 1) := by decide +kernel
theorem dX7_judge_96 : decode cX7_judge 96 = .ok (.ifCond .eq 5, 3) := by decide +kernel
theorem dX7_judge_99 : decode cX7_judge 99 = .ok (.iload_n 3, 1) := by decide +kernel
theorem dX7_judge_100 : decode cX7_judge 100 = .ok (.ireturn, 1) := by decide +kernel
theorem dX7_judge_101 : decode cX7_judge 101 = .ok (.iinc 3 1, 3) := by decide +kernel
theorem dX7_judge_104 : decode cX7_judge 104 = .ok (.goto (-59), 3) := by decide +kernel
theorem dX7_judge_107 : decode cX7_judge 107 = .ok (.bipush (-5), 2) := by decide +kernel
theorem dX7_judge_109 : decode cX7_judge 109 = .ok (.ireturn, 1) := by decide +kernel
theorem dX7_count_0 : decode cX7_count 0 = .ok (.iload_n 1, 1) := by decide +kernel
theorem dX7_count_1 : decode cX7_count 1 = .ok (.tableswitch 60 0 4 #[35, 40, 45, 50, 55], 35) := by decide +kernel
theorem dX7_count_36 : decode cX7_count 36 = .ok (.aload_n 0, 1) := by decide +kernel
theorem dX7_count_37 : decode cX7_count 37 = .ok (.getfield 72, 3) := by decide +kernel
theorem dX7_count_40 : decode cX7_count 40 = .ok (.ireturn, 1) := by decide +kernel
theorem dX7_count_41 : decode cX7_count 41 = .ok (.aload_n 0, 1) := by decide +kernel
theorem dX7_count_42 : decode cX7_count 42 = .ok (.getfield 97, 3) := by decide +kernel
theorem dX7_count_45 : decode cX7_count 45 = .ok (.ireturn, 1) := by decide +kernel
theorem dX7_count_46 : decode cX7_count 46 = .ok (.aload_n 0, 1) := by decide +kernel
theorem dX7_count_47 : decode cX7_count 47 = .ok (.getfield 100, 3) := by decide +kernel
theorem dX7_count_50 : decode cX7_count 50 = .ok (.ireturn, 1) := by decide +kernel
theorem dX7_count_51 : decode cX7_count 51 = .ok (.aload_n 0, 1) := by decide +kernel
theorem dX7_count_52 : decode cX7_count 52 = .ok (.getfield 103, 3) := by decide +kernel
theorem dX7_count_55 : decode cX7_count 55 = .ok (.ireturn, 1) := by decide +kernel
theorem dX7_count_56 : decode cX7_count 56 = .ok (.aload_n 0, 1) := by decide +kernel
theorem dX7_count_57 : decode cX7_count 57 = .ok (.getfield 143, 3) := by decide +kernel
theorem dX7_count_60 : decode cX7_count 60 = .ok (.ireturn, 1) := by decide +kernel
theorem dX7_count_61 : decode cX7_count 61 = .ok (.bipush (-2), 2) := by decide +kernel
theorem dX7_count_63 : decode cX7_count 63 = .ok (.ireturn, 1) := by decide +kernel
theorem dX7_tape_0 : decode cX7_tape 0 = .ok (.iload_n 1, 1) := by decide +kernel
theorem dX7_tape_1 : decode cX7_tape 1 = .ok (.invokestatic 310, 3) := by decide +kernel
theorem dX7_tape_4 : decode cX7_tape 4 = .ok (.ifCond .ne 5, 3) := by decide +kernel
theorem dX7_tape_7 : decode cX7_tape 7 = .ok (.iconst (-1), 1) := by decide +kernel
theorem dX7_tape_8 : decode cX7_tape 8 = .ok (.ireturn, 1) := by decide +kernel
theorem dX7_tape_9 : decode cX7_tape 9 = .ok (.iload_n 2, 1) := by decide +kernel
theorem dX7_tape_10 : decode cX7_tape 10 = .ok (.i2l, 1) := by decide +kernel
theorem dX7_tape_11 : decode cX7_tape 11 = .ok (.ldc2_w 313, 3) := by decide +kernel
theorem dX7_tape_14 : decode cX7_tape 14 = .ok (.ldc2_w 315, 3) := by decide +kernel
theorem dX7_tape_17 : decode cX7_tape 17 = .ok (.invokestatic 76, 3) := by decide +kernel
theorem dX7_tape_20 : decode cX7_tape 20 = .ok (.ifCond .eq 13, 3) := by decide +kernel
theorem dX7_tape_23 : decode cX7_tape 23 = .ok (.iload_n 2, 1) := by decide +kernel
theorem dX7_tape_24 : decode cX7_tape 24 = .ok (.ifCond .lt 12, 3) := by decide +kernel
theorem dX7_tape_27 : decode cX7_tape 27 = .ok (.iload_n 3, 1) := by decide +kernel
theorem dX7_tape_28 : decode cX7_tape 28 = .ok (.bipush 60, 2) := by decide +kernel
theorem dX7_tape_30 : decode cX7_tape 30 = .ok (.if_icmp .le 6, 3) := by decide +kernel
theorem dX7_tape_33 : decode cX7_tape 33 = .ok (.bipush (-2), 2) := by decide +kernel
theorem dX7_tape_35 : decode cX7_tape 35 = .ok (.ireturn, 1) := by decide +kernel
theorem dX7_tape_36 : decode cX7_tape 36 = .ok (.iload_n 2, 1) := by decide +kernel
theorem dX7_tape_37 : decode cX7_tape 37 = .ok (.ifCond .lt 10, 3) := by decide +kernel
theorem dX7_tape_40 : decode cX7_tape 40 = .ok (.iload_n 3, 1) := by decide +kernel
theorem dX7_tape_41 : decode cX7_tape 41 = .ok (.ifCond .ge 6, 3) := by decide +kernel
theorem dX7_tape_44 : decode cX7_tape 44 = .ok (.bipush (-14), 2) := by decide +kernel
theorem dX7_tape_46 : decode cX7_tape 46 = .ok (.ireturn, 1) := by decide +kernel
theorem dX7_tape_47 : decode cX7_tape 47 = .ok (.aload_n 0, 1) := by decide +kernel
theorem dX7_tape_48 : decode cX7_tape 48 = .ok (.getfield 62, 3) := by decide +kernel
theorem dX7_tape_51 : decode cX7_tape 51 = .ok (.iload_n 1, 1) := by decide +kernel
theorem dX7_tape_52 : decode cX7_tape 52 = .ok (.iload_n 2, 1) := by decide +kernel
theorem dX7_tape_53 : decode cX7_tape 53 = .ok (.iastore, 1) := by decide +kernel
theorem dX7_tape_54 : decode cX7_tape 54 = .ok (.aload_n 0, 1) := by decide +kernel
theorem dX7_tape_55 : decode cX7_tape 55 = .ok (.getfield 65, 3) := by decide +kernel
theorem dX7_tape_58 : decode cX7_tape 58 = .ok (.iload_n 1, 1) := by decide +kernel
theorem dX7_tape_59 : decode cX7_tape 59 = .ok (.iload_n 2, 1) := by decide +kernel
theorem dX7_tape_60 : decode cX7_tape 60 = .ok (.ifCond .ge 7, 3) := by decide +kernel
theorem dX7_tape_63 : decode cX7_tape 63 = .ok (.iconst 0, 1) := by decide +kernel
theorem dX7_tape_64 : decode cX7_tape 64 = .ok (.goto 4, 3) := by decide +kernel
theorem dX7_tape_67 : decode cX7_tape 67 = .ok (.iload_n 3, 1) := by decide +kernel
theorem dX7_tape_68 : decode cX7_tape 68 = .ok (.iastore, 1) := by decide +kernel
theorem dX7_tape_69 : decode cX7_tape 69 = .ok (.iconst 0, 1) := by decide +kernel
theorem dX7_tape_70 : decode cX7_tape 70 = .ok (.istore 4, 2) := by decide +kernel
theorem dX7_tape_72 : decode cX7_tape 72 = .ok (.iload 4, 2) := by decide +kernel
theorem dX7_tape_74 : decode cX7_tape 74 = .ok (.bipush 60, 2) := by decide +kernel
theorem dX7_tape_76 : decode cX7_tape 76 = .ok (.if_icmp .ge 19, 3) := by decide +kernel
theorem dX7_tape_79 : decode cX7_tape 79 = .ok (.aload_n 0, 1) := by decide +kernel
theorem dX7_tape_80 : decode cX7_tape 80 = .ok (.getfield 59, 3) := by decide +kernel
theorem dX7_tape_83 : decode cX7_tape 83 = .ok (.iload_n 1, 1) := by decide +kernel
theorem dX7_tape_84 : decode cX7_tape 84 = .ok (.aaload, 1) := by decide +kernel
theorem dX7_tape_85 : decode cX7_tape 85 = .ok (.iload 4, 2) := by decide +kernel
theorem dX7_tape_87 : decode cX7_tape 87 = .ok (.lconst 0, 1) := by decide +kernel
theorem dX7_tape_88 : decode cX7_tape 88 = .ok (.lastore, 1) := by decide +kernel
theorem dX7_tape_89 : decode cX7_tape 89 = .ok (.iinc 4 1, 3) := by decide +kernel
theorem dX7_tape_92 : decode cX7_tape 92 = .ok (.goto (-20), 3) := by decide +kernel
theorem dX7_tape_95 : decode cX7_tape 95 = .ok (.iconst 1, 1) := by decide +kernel
theorem dX7_tape_96 : decode cX7_tape 96 = .ok (.ireturn, 1) := by decide +kernel
theorem dX7_fit_0 : decode cX7_fit 0 = .ok (.iload_n 0, 1) := by decide +kernel
theorem dX7_fit_1 : decode cX7_fit 1 = .ok (.tableswitch 47 0 3 #[31, 36, 41, 45], 31) := by decide +kernel
theorem dX7_fit_32 : decode cX7_fit 32 = .ok (.lload_n 1, 1) := by decide +kernel
theorem dX7_fit_33 : decode cX7_fit 33 = .ok (.l2i, 1) := by decide +kernel
theorem dX7_fit_34 : decode cX7_fit 34 = .ok (.i2b, 1) := by decide +kernel
theorem dX7_fit_35 : decode cX7_fit 35 = .ok (.i2l, 1) := by decide +kernel
theorem dX7_fit_36 : decode cX7_fit 36 = .ok (.lreturn, 1) := by decide +kernel
theorem dX7_fit_37 : decode cX7_fit 37 = .ok (.lload_n 1, 1) := by decide +kernel
theorem dX7_fit_38 : decode cX7_fit 38 = .ok (.l2i, 1) := by decide +kernel
theorem dX7_fit_39 : decode cX7_fit 39 = .ok (.i2s, 1) := by decide +kernel
theorem dX7_fit_40 : decode cX7_fit 40 = .ok (.i2l, 1) := by decide +kernel
theorem dX7_fit_41 : decode cX7_fit 41 = .ok (.lreturn, 1) := by decide +kernel
theorem dX7_fit_42 : decode cX7_fit 42 = .ok (.lload_n 1, 1) := by decide +kernel
theorem dX7_fit_43 : decode cX7_fit 43 = .ok (.l2i, 1) := by decide +kernel
theorem dX7_fit_44 : decode cX7_fit 44 = .ok (.i2l, 1) := by decide +kernel
theorem dX7_fit_45 : decode cX7_fit 45 = .ok (.lreturn, 1) := by decide +kernel
theorem dX7_fit_46 : decode cX7_fit 46 = .ok (.lload_n 1, 1) := by decide +kernel
theorem dX7_fit_47 : decode cX7_fit 47 = .ok (.lreturn, 1) := by decide +kernel
theorem dX7_fit_48 : decode cX7_fit 48 = .ok (.lload_n 1, 1) := by decide +kernel
theorem dX7_fit_49 : decode cX7_fit 49 = .ok (.lconst 0, 1) := by decide +kernel
theorem dX7_fit_50 : decode cX7_fit 50 = .ok (.lcmp, 1) := by decide +kernel
theorem dX7_fit_51 : decode cX7_fit 51 = .ok (.ifCond .eq 7, 3) := by decide +kernel
theorem dX7_fit_54 : decode cX7_fit 54 = .ok (.lconst 1, 1) := by decide +kernel
theorem dX7_fit_55 : decode cX7_fit 55 = .ok (.goto 4, 3) := by decide +kernel
theorem dX7_fit_58 : decode cX7_fit 58 = .ok (.lconst 0, 1) := by decide +kernel
theorem dX7_fit_59 : decode cX7_fit 59 = .ok (.lreturn, 1) := by decide +kernel
theorem dX7_item_0 : decode cX7_item 0 = .ok (.iload_n 1, 1) := by decide +kernel
theorem dX7_item_1 : decode cX7_item 1 = .ok (.invokestatic 310, 3) := by decide +kernel
theorem dX7_item_4 : decode cX7_item 4 = .ok (.ifCond .ne 5, 3) := by decide +kernel
theorem dX7_item_7 : decode cX7_item 7 = .ok (.iconst (-1), 1) := by decide +kernel
theorem dX7_item_8 : decode cX7_item 8 = .ok (.ireturn, 1) := by decide +kernel
theorem dX7_item_9 : decode cX7_item 9 = .ok (.aload_n 0, 1) := by decide +kernel
theorem dX7_item_10 : decode cX7_item 10 = .ok (.getfield 62, 3) := by decide +kernel
theorem dX7_item_13 : decode cX7_item 13 = .ok (.iload_n 1, 1) := by decide +kernel
theorem dX7_item_14 : decode cX7_item 14 = .ok (.iaload, 1) := by decide +kernel
theorem dX7_item_15 : decode cX7_item 15 = .ok (.ifCond .ge 6, 3) := by decide +kernel
theorem dX7_item_18 : decode cX7_item 18 = .ok (.bipush (-11), 2) := by decide +kernel
theorem dX7_item_20 : decode cX7_item 20 = .ok (.ireturn, 1) := by decide +kernel
theorem dX7_item_21 : decode cX7_item 21 = .ok (.iload_n 2, 1) := by decide +kernel
theorem dX7_item_22 : decode cX7_item 22 = .ok (.i2l, 1) := by decide +kernel
theorem dX7_item_23 : decode cX7_item 23 = .ok (.lconst 0, 1) := by decide +kernel
theorem dX7_item_24 : decode cX7_item 24 = .ok (.aload_n 0, 1) := by decide +kernel
theorem dX7_item_25 : decode cX7_item 25 = .ok (.getfield 65, 3) := by decide +kernel
theorem dX7_item_28 : decode cX7_item 28 = .ok (.iload_n 1, 1) := by decide +kernel
theorem dX7_item_29 : decode cX7_item 29 = .ok (.iaload, 1) := by decide +kernel
theorem dX7_item_30 : decode cX7_item 30 = .ok (.iconst 1, 1) := by decide +kernel
theorem dX7_item_31 : decode cX7_item 31 = .ok (.isub, 1) := by decide +kernel
theorem dX7_item_32 : decode cX7_item 32 = .ok (.i2l, 1) := by decide +kernel
theorem dX7_item_33 : decode cX7_item 33 = .ok (.invokestatic 76, 3) := by decide +kernel
theorem dX7_item_36 : decode cX7_item 36 = .ok (.ifCond .ne 6, 3) := by decide +kernel
theorem dX7_item_39 : decode cX7_item 39 = .ok (.bipush (-13), 2) := by decide +kernel
theorem dX7_item_41 : decode cX7_item 41 = .ok (.ireturn, 1) := by decide +kernel
theorem dX7_item_42 : decode cX7_item 42 = .ok (.aload_n 0, 1) := by decide +kernel
theorem dX7_item_43 : decode cX7_item 43 = .ok (.getfield 59, 3) := by decide +kernel
theorem dX7_item_46 : decode cX7_item 46 = .ok (.iload_n 1, 1) := by decide +kernel
theorem dX7_item_47 : decode cX7_item 47 = .ok (.aaload, 1) := by decide +kernel
theorem dX7_item_48 : decode cX7_item 48 = .ok (.iload_n 2, 1) := by decide +kernel
theorem dX7_item_49 : decode cX7_item 49 = .ok (.aload_n 0, 1) := by decide +kernel
theorem dX7_item_50 : decode cX7_item 50 = .ok (.getfield 62, 3) := by decide +kernel
theorem dX7_item_53 : decode cX7_item 53 = .ok (.iload_n 1, 1) := by decide +kernel
theorem dX7_item_54 : decode cX7_item 54 = .ok (.iaload, 1) := by decide +kernel
theorem dX7_item_55 : decode cX7_item 55 = .ok (.lload_n 3, 1) := by decide +kernel
theorem dX7_item_56 : decode cX7_item 56 = .ok (.invokestatic 317, 3) := by decide +kernel
theorem dX7_item_59 : decode cX7_item 59 = .ok (.lastore, 1) := by decide +kernel
theorem dX7_item_60 : decode cX7_item 60 = .ok (.iconst 1, 1) := by decide +kernel
theorem dX7_item_61 : decode cX7_item 61 = .ok (.ireturn, 1) := by decide +kernel
theorem dX7_peek_0 : decode cX7_peek 0 = .ok (.iload_n 1, 1) := by decide +kernel
theorem dX7_peek_1 : decode cX7_peek 1 = .ok (.invokestatic 310, 3) := by decide +kernel
theorem dX7_peek_4 : decode cX7_peek 4 = .ok (.ifCond .eq 41, 3) := by decide +kernel
theorem dX7_peek_7 : decode cX7_peek 7 = .ok (.aload_n 0, 1) := by decide +kernel
theorem dX7_peek_8 : decode cX7_peek 8 = .ok (.getfield 62, 3) := by decide +kernel
theorem dX7_peek_11 : decode cX7_peek 11 = .ok (.iload_n 1, 1) := by decide +kernel
theorem dX7_peek_12 : decode cX7_peek 12 = .ok (.iaload, 1) := by decide +kernel
theorem dX7_peek_13 : decode cX7_peek 13 = .ok (.ifCond .lt 32, 3) := by decide +kernel
theorem dX7_peek_16 : decode cX7_peek 16 = .ok (.iload_n 2, 1) := by decide +kernel
theorem dX7_peek_17 : decode cX7_peek 17 = .ok (.i2l, 1) := by decide +kernel
theorem dX7_peek_18 : decode cX7_peek 18 = .ok (.lconst 0, 1) := by decide +kernel
theorem dX7_peek_19 : decode cX7_peek 19 = .ok (.aload_n 0, 1) := by decide +kernel
theorem dX7_peek_20 : decode cX7_peek 20 = .ok (.getfield 65, 3) := by decide +kernel
theorem dX7_peek_23 : decode cX7_peek 23 = .ok (.iload_n 1, 1) := by decide +kernel
theorem dX7_peek_24 : decode cX7_peek 24 = .ok (.iaload, 1) := by decide +kernel
theorem dX7_peek_25 : decode cX7_peek 25 = .ok (.iconst 1, 1) := by decide +kernel
theorem dX7_peek_26 : decode cX7_peek 26 = .ok (.isub, 1) := by decide +kernel
theorem dX7_peek_27 : decode cX7_peek 27 = .ok (.i2l, 1) := by decide +kernel
theorem dX7_peek_28 : decode cX7_peek 28 = .ok (.invokestatic 76, 3) := by decide +kernel
theorem dX7_peek_31 : decode cX7_peek 31 = .ok (.ifCond .eq 14, 3) := by decide +kernel
theorem dX7_peek_34 : decode cX7_peek 34 = .ok (.aload_n 0, 1) := by decide +kernel
theorem dX7_peek_35 : decode cX7_peek 35 = .ok (.getfield 59, 3) := by decide +kernel
theorem dX7_peek_38 : decode cX7_peek 38 = .ok (.iload_n 1, 1) := by decide +kernel
theorem dX7_peek_39 : decode cX7_peek 39 = .ok (.aaload, 1) := by decide +kernel
theorem dX7_peek_40 : decode cX7_peek 40 = .ok (.iload_n 2, 1) := by decide +kernel
theorem dX7_peek_41 : decode cX7_peek 41 = .ok (.laload, 1) := by decide +kernel
theorem dX7_peek_42 : decode cX7_peek 42 = .ok (.goto 6, 3) := by decide +kernel
theorem dX7_peek_45 : decode cX7_peek 45 = .ok (.ldc2_w 251, 3) := by decide +kernel
theorem dX7_peek_48 : decode cX7_peek 48 = .ok (.lreturn, 1) := by decide +kernel
theorem dX7_shift_0 : decode cX7_shift 0 = .ok (.iload_n 1, 1) := by decide +kernel
theorem dX7_shift_1 : decode cX7_shift 1 = .ok (.invokestatic 310, 3) := by decide +kernel
theorem dX7_shift_4 : decode cX7_shift 4 = .ok (.ifCond .eq 10, 3) := by decide +kernel
theorem dX7_shift_7 : decode cX7_shift 7 = .ok (.iload_n 3, 1) := by decide +kernel
theorem dX7_shift_8 : decode cX7_shift 8 = .ok (.invokestatic 310, 3) := by decide +kernel
theorem dX7_shift_11 : decode cX7_shift 11 = .ok (.ifCond .ne 5, 3) := by decide +kernel
theorem dX7_shift_14 : decode cX7_shift 14 = .ok (.iconst (-1), 1) := by decide +kernel
theorem dX7_shift_15 : decode cX7_shift 15 = .ok (.ireturn, 1) := by decide +kernel
theorem dX7_shift_16 : decode cX7_shift 16 = .ok (.aload_n 0, 1) := by decide +kernel
theorem dX7_shift_17 : decode cX7_shift 17 = .ok (.getfield 62, 3) := by decide +kernel
theorem dX7_shift_20 : decode cX7_shift 20 = .ok (.iload_n 1, 1) := by decide +kernel
theorem dX7_shift_21 : decode cX7_shift 21 = .ok (.iaload, 1) := by decide +kernel
theorem dX7_shift_22 : decode cX7_shift 22 = .ok (.ifCond .lt 12, 3) := by decide +kernel
theorem dX7_shift_25 : decode cX7_shift 25 = .ok (.aload_n 0, 1) := by decide +kernel
theorem dX7_shift_26 : decode cX7_shift 26 = .ok (.getfield 62, 3) := by decide +kernel
theorem dX7_shift_29 : decode cX7_shift 29 = .ok (.iload_n 3, 1) := by decide +kernel
theorem dX7_shift_30 : decode cX7_shift 30 = .ok (.iaload, 1) := by decide +kernel
theorem dX7_shift_31 : decode cX7_shift 31 = .ok (.ifCond .ge 6, 3) := by decide +kernel
theorem dX7_shift_34 : decode cX7_shift 34 = .ok (.bipush (-11), 2) := by decide +kernel
theorem dX7_shift_36 : decode cX7_shift 36 = .ok (.ireturn, 1) := by decide +kernel
theorem dX7_shift_37 : decode cX7_shift 37 = .ok (.aload_n 0, 1) := by decide +kernel
theorem dX7_shift_38 : decode cX7_shift 38 = .ok (.getfield 62, 3) := by decide +kernel
theorem dX7_shift_41 : decode cX7_shift 41 = .ok (.iload_n 1, 1) := by decide +kernel
theorem dX7_shift_42 : decode cX7_shift 42 = .ok (.iaload, 1) := by decide +kernel
theorem dX7_shift_43 : decode cX7_shift 43 = .ok (.aload_n 0, 1) := by decide +kernel
theorem dX7_shift_44 : decode cX7_shift 44 = .ok (.getfield 62, 3) := by decide +kernel
theorem dX7_shift_47 : decode cX7_shift 47 = .ok (.iload_n 3, 1) := by decide +kernel
theorem dX7_shift_48 : decode cX7_shift 48 = .ok (.iaload, 1) := by decide +kernel
theorem dX7_shift_49 : decode cX7_shift 49 = .ok (.if_icmp .eq 6, 3) := by decide +kernel
theorem dX7_shift_52 : decode cX7_shift 52 = .ok (.bipush (-12), 2) := by decide +kernel
theorem dX7_shift_54 : decode cX7_shift 54 = .ok (.ireturn, 1) := by decide +kernel
theorem dX7_shift_55 : decode cX7_shift 55 = .ok (.iload 5, 2) := by decide +kernel
theorem dX7_shift_57 : decode cX7_shift 57 = .ok (.ifCond .lt 61, 3) := by decide +kernel
theorem dX7_shift_60 : decode cX7_shift 60 = .ok (.iload_n 2, 1) := by decide +kernel
theorem dX7_shift_61 : decode cX7_shift 61 = .ok (.ifCond .lt 57, 3) := by decide +kernel
theorem dX7_shift_64 : decode cX7_shift 64 = .ok (.iload 4, 2) := by decide +kernel
theorem dX7_shift_66 : decode cX7_shift 66 = .ok (.ifCond .lt 52, 3) := by decide +kernel

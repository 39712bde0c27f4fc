theorem dX6_exchanges_14 : decode cX6_exchanges 14 = .ok (.aload_n 0, 1) := by decide +kernel
theorem dX6_exchanges_15 : decode cX6_exchanges 15 = .ok (.getfield 12, 3) := by decide +kernel
theorem dX6_exchanges_18 : decode cX6_exchanges 18 = .ok (.getfield 84, 3) := by decide +kernel
theorem dX6_exchanges_21 : decode cX6_exchanges 21 = .ok (.if_icmp .ge 43, 3) := by decide +kernel
theorem dX6_exchanges_24 : decode cX6_exchanges 24 = .ok (.aload_n 0, 1) := by decide +kernel
theorem dX6_exchanges_25 : decode cX6_exchanges 25 = .ok (.iload 4, 2) := by decide +kernel
theorem dX6_exchanges_27 : decode cX6_exchanges 27 = .ok (.iload 4, 2) := by decide +kernel
theorem dX6_exchanges_29 : decode cX6_exchanges 29 = .ok (.iconst 1, 1) := by decide +kernel
theorem dX6_exchanges_30 : decode cX6_exchanges 30 = .ok (.iadd, 1) := by decide +kernel
theorem dX6_exchanges_31 : decode cX6_exchanges 31 = .ok (.invokevirtual 167, 3) := by decide +kernel
theorem dX6_exchanges_34 : decode cX6_exchanges 34 = .ok (.istore 5, 2) := by decide +kernel
theorem dX6_exchanges_36 : decode cX6_exchanges 36 = .ok (.iload_n 1, 1) := by decide +kernel
theorem dX6_exchanges_37 : decode cX6_exchanges 37 = .ok (.ifCond .eq 12, 3) := by decide +kernel
theorem dX6_exchanges_40 : decode cX6_exchanges 40 = .ok (.iload 5, 2) := by decide +kernel
theorem dX6_exchanges_42 : decode cX6_exchanges 42 = .ok (.iload_n 2, 1) := by decide +kernel
theorem dX6_exchanges_43 : decode cX6_exchanges 43 = .ok (.if_icmp .ge 15, 3) := by decide +kernel
theorem dX6_exchanges_46 : decode cX6_exchanges 46 = .ok (.goto 9, 3) := by decide +kernel
theorem dX6_exchanges_49 : decode cX6_exchanges 49 = .ok (.iload 5, 2) := by decide +kernel
theorem dX6_exchanges_51 : decode cX6_exchanges 51 = .ok (.iload_n 2, 1) := by decide +kernel
theorem dX6_exchanges_52 : decode cX6_exchanges 52 = .ok (.if_icmp .ne 6, 3) := by decide +kernel
theorem dX6_exchanges_55 : decode cX6_exchanges 55 = .ok (.iinc 3 1, 3) := by decide +kernel
theorem dX6_exchanges_58 : decode cX6_exchanges 58 = .ok (.iinc 4 1, 3) := by decide +kernel
theorem dX6_exchanges_61 : decode cX6_exchanges 61 = .ok (.goto (-51), 3) := by decide +kernel
theorem dX6_exchanges_64 : decode cX6_exchanges 64 = .ok (.iload_n 3, 1) := by decide +kernel
theorem dX6_exchanges_65 : decode cX6_exchanges 65 = .ok (.ireturn, 1) := by decide +kernel
theorem dX6_would_0 : decode cX6_would 0 = .ok (.aload_n 0, 1) := by decide +kernel
theorem dX6_would_1 : decode cX6_would 1 = .ok (.iload_n 1, 1) := by decide +kernel
theorem dX6_would_2 : decode cX6_would 2 = .ok (.invokevirtual 157, 3) := by decide +kernel
theorem dX6_would_5 : decode cX6_would 5 = .ok (.ifCond .eq 15, 3) := by decide +kernel
theorem dX6_would_8 : decode cX6_would 8 = .ok (.aload_n 0, 1) := by decide +kernel
theorem dX6_would_9 : decode cX6_would 9 = .ok (.iload_n 1, 1) := by decide +kernel
theorem dX6_would_10 : decode cX6_would 10 = .ok (.iload_n 1, 1) := by decide +kernel
theorem dX6_would_11 : decode cX6_would 11 = .ok (.iconst 1, 1) := by decide +kernel
theorem dX6_would_12 : decode cX6_would 12 = .ok (.iadd, 1) := by decide +kernel
theorem dX6_would_13 : decode cX6_would 13 = .ok (.invokevirtual 167, 3) := by decide +kernel
theorem dX6_would_16 : decode cX6_would 16 = .ok (.i2l, 1) := by decide +kernel
theorem dX6_would_17 : decode cX6_would 17 = .ok (.goto 6, 3) := by decide +kernel
theorem dX6_would_20 : decode cX6_would 20 = .ok (.ldc2_w 170, 3) := by decide +kernel
theorem dX6_would_23 : decode cX6_would 23 = .ok (.lreturn, 1) := by decide +kernel
theorem dX6_ruled_0 : decode cX6_ruled 0 = .ok (.iload_n 1, 1) := by decide +kernel
theorem dX6_ruled_1 : decode cX6_ruled 1 = .ok (.iconst 4, 1) := by decide +kernel
theorem dX6_ruled_2 : decode cX6_ruled 2 = .ok (.invokestatic 96, 3) := by decide +kernel
theorem dX6_ruled_5 : decode cX6_ruled 5 = .ok (.ifCond .eq 17, 3) := by decide +kernel
theorem dX6_ruled_8 : decode cX6_ruled 8 = .ok (.iload_n 2, 1) := by decide +kernel
theorem dX6_ruled_9 : decode cX6_ruled 9 = .ok (.aload_n 0, 1) := by decide +kernel
theorem dX6_ruled_10 : decode cX6_ruled 10 = .ok (.getfield 12, 3) := by decide +kernel
theorem dX6_ruled_13 : decode cX6_ruled 13 = .ok (.getfield 84, 3) := by decide +kernel
theorem dX6_ruled_16 : decode cX6_ruled 16 = .ok (.invokestatic 96, 3) := by decide +kernel
theorem dX6_ruled_19 : decode cX6_ruled 19 = .ok (.ifCond .ne 5, 3) := by decide +kernel
theorem dX6_ruled_22 : decode cX6_ruled 22 = .ok (.iconst (-1), 1) := by decide +kernel
theorem dX6_ruled_23 : decode cX6_ruled 23 = .ok (.ireturn, 1) := by decide +kernel
theorem dX6_ruled_24 : decode cX6_ruled 24 = .ok (.aload_n 0, 1) := by decide +kernel
theorem dX6_ruled_25 : decode cX6_ruled 25 = .ok (.getfield 12, 3) := by decide +kernel
theorem dX6_ruled_28 : decode cX6_ruled 28 = .ok (.iload_n 1, 1) := by decide +kernel
theorem dX6_ruled_29 : decode cX6_ruled 29 = .ok (.aload_n 0, 1) := by decide +kernel
theorem dX6_ruled_30 : decode cX6_ruled 30 = .ok (.getfield 48, 3) := by decide +kernel
theorem dX6_ruled_33 : decode cX6_ruled 33 = .ok (.invokevirtual 146, 3) := by decide +kernel
theorem dX6_ruled_36 : decode cX6_ruled 36 = .ok (.aload_n 0, 1) := by decide +kernel
theorem dX6_ruled_37 : decode cX6_ruled 37 = .ok (.getfield 48, 3) := by decide +kernel
theorem dX6_ruled_40 : decode cX6_ruled 40 = .ok (.iload_n 2, 1) := by decide +kernel
theorem dX6_ruled_41 : decode cX6_ruled 41 = .ok (.iaload, 1) := by decide +kernel
theorem dX6_ruled_42 : decode cX6_ruled 42 = .ok (.ireturn, 1) := by decide +kernel
theorem dX6_cost_0 : decode cX6_cost 0 = .ok (.iload_n 1, 1) := by decide +kernel
theorem dX6_cost_1 : decode cX6_cost 1 = .ok (.iconst 4, 1) := by decide +kernel
theorem dX6_cost_2 : decode cX6_cost 2 = .ok (.invokestatic 96, 3) := by decide +kernel
theorem dX6_cost_5 : decode cX6_cost 5 = .ok (.ifCond .eq 21, 3) := by decide +kernel
theorem dX6_cost_8 : decode cX6_cost 8 = .ok (.iload_n 2, 1) := by decide +kernel
theorem dX6_cost_9 : decode cX6_cost 9 = .ok (.iload_n 3, 1) := by decide +kernel
theorem dX6_cost_10 : decode cX6_cost 10 = .ok (.invokestatic 221, 3) := by decide +kernel
theorem dX6_cost_13 : decode cX6_cost 13 = .ok (.ifCond .eq 13, 3) := by decide +kernel
theorem dX6_cost_16 : decode cX6_cost 16 = .ok (.aload_n 0, 1) := by decide +kernel
theorem dX6_cost_17 : decode cX6_cost 17 = .ok (.getfield 12, 3) := by decide +kernel
theorem dX6_cost_20 : decode cX6_cost 20 = .ok (.getfield 84, 3) := by decide +kernel
theorem dX6_cost_23 : decode cX6_cost 23 = .ok (.ifCond .ne 7, 3) := by decide +kernel
theorem dX6_cost_26 : decode cX6_cost 26 = .ok (.ldc2_w 170, 3) := by decide +kernel
theorem dX6_cost_29 : decode cX6_cost 29 = .ok (.lreturn, 1) := by decide +kernel
theorem dX6_cost_30 : decode cX6_cost 30 = .ok (.aload_n 0, 1) := by decide +kernel
theorem dX6_cost_31 : decode cX6_cost 31 = .ok (.getfield 12, 3) := by decide +kernel
theorem dX6_cost_34 : decode cX6_cost 34 = .ok (.iload_n 1, 1) := by decide +kernel
theorem dX6_cost_35 : decode cX6_cost 35 = .ok (.aload_n 0, 1) := by decide +kernel
theorem dX6_cost_36 : decode cX6_cost 36 = .ok (.getfield 48, 3) := by decide +kernel
theorem dX6_cost_39 : decode cX6_cost 39 = .ok (.invokevirtual 146, 3) := by decide +kernel
theorem dX6_cost_42 : decode cX6_cost 42 = .ok (.aload_n 0, 1) := by decide +kernel
theorem dX6_cost_43 : decode cX6_cost 43 = .ok (.aload_n 0, 1) := by decide +kernel
theorem dX6_cost_44 : decode cX6_cost 44 = .ok (.getfield 12, 3) := by decide +kernel
theorem dX6_cost_47 : decode cX6_cost 47 = .ok (.aload_n 0, 1) := by decide +kernel
theorem dX6_cost_48 : decode cX6_cost 48 = .ok (.getfield 48, 3) := by decide +kernel
theorem dX6_cost_51 : decode cX6_cost 51 = .ok (.iload_n 2, 1) := by decide +kernel
theorem dX6_cost_52 : decode cX6_cost 52 = .ok (.iload_n 3, 1) := by decide +kernel
theorem dX6_cost_53 : decode cX6_cost 53 = .ok (.invokevirtual 185, 3) := by decide +kernel
theorem dX6_cost_56 : decode cX6_cost 56 = .ok (.i2l, 1) := by decide +kernel
theorem dX6_cost_57 : decode cX6_cost 57 = .ok (.lreturn, 1) := by decide +kernel
theorem dX6_least_0 : decode cX6_least 0 = .ok (.iload_n 1, 1) := by decide +kernel
theorem dX6_least_1 : decode cX6_least 1 = .ok (.iload_n 2, 1) := by decide +kernel
theorem dX6_least_2 : decode cX6_least 2 = .ok (.invokestatic 221, 3) := by decide +kernel
theorem dX6_least_5 : decode cX6_least 5 = .ok (.ifCond .eq 13, 3) := by decide +kernel
theorem dX6_least_8 : decode cX6_least 8 = .ok (.aload_n 0, 1) := by decide +kernel
theorem dX6_least_9 : decode cX6_least 9 = .ok (.getfield 12, 3) := by decide +kernel
theorem dX6_least_12 : decode cX6_least 12 = .ok (.getfield 84, 3) := by decide +kernel
theorem dX6_least_15 : decode cX6_least 15 = .ok (.ifCond .ne 7, 3) := by decide +kernel
theorem dX6_least_18 : decode cX6_least 18 = .ok (.ldc2_w 170, 3) := by decide +kernel
theorem dX6_least_21 : decode cX6_least 21 = .ok (.lreturn, 1) := by decide +kernel
theorem dX6_least_22 : decode cX6_least 22 = .ok (.aload_n 0, 1) := by decide +kernel
theorem dX6_least_23 : decode cX6_least 23 = .ok (.getfield 62, 3) := by decide +kernel
theorem dX6_least_26 : decode cX6_least 26 = .ok (.aload_n 0, 1) := by decide +kernel
theorem dX6_least_27 : decode cX6_least 27 = .ok (.getfield 12, 3) := by decide +kernel
theorem dX6_least_30 : decode cX6_least 30 = .ok (.iload_n 1, 1) := by decide +kernel
theorem dX6_least_31 : decode cX6_least 31 = .ok (.iload_n 2, 1) := by decide +kernel
theorem dX6_least_32 : decode cX6_least 32 = .ok (.invokevirtual 224, 3) := by decide +kernel
theorem dX6_least_35 : decode cX6_least 35 = .ok (.aload_n 0, 1) := by decide +kernel
theorem dX6_least_36 : decode cX6_least 36 = .ok (.getfield 62, 3) := by decide +kernel
theorem dX6_least_39 : decode cX6_least 39 = .ok (.getfield 228, 3) := by decide +kernel
theorem dX6_least_42 : decode cX6_least 42 = .ok (.i2l, 1) := by decide +kernel
theorem dX6_least_43 : decode cX6_least 43 = .ok (.lreturn, 1) := by decide +kernel
theorem dX6_best_0 : decode cX6_best 0 = .ok (.iload_n 1, 1) := by decide +kernel
theorem dX6_best_1 : decode cX6_best 1 = .ok (.iload_n 2, 1) := by decide +kernel
theorem dX6_best_2 : decode cX6_best 2 = .ok (.invokestatic 221, 3) := by decide +kernel
theorem dX6_best_5 : decode cX6_best 5 = .ok (.ifCond .ne 6, 3) := by decide +kernel
theorem dX6_best_8 : decode cX6_best 8 = .ok (.bipush (-2), 2) := by decide +kernel
theorem dX6_best_10 : decode cX6_best 10 = .ok (.ireturn, 1) := by decide +kernel
theorem dX6_best_11 : decode cX6_best 11 = .ok (.iload_n 3, 1) := by decide +kernel
theorem dX6_best_12 : decode cX6_best 12 = .ok (.aload_n 0, 1) := by decide +kernel
theorem dX6_best_13 : decode cX6_best 13 = .ok (.getfield 12, 3) := by decide +kernel
theorem dX6_best_16 : decode cX6_best 16 = .ok (.getfield 84, 3) := by decide +kernel
theorem dX6_best_19 : decode cX6_best 19 = .ok (.invokestatic 96, 3) := by decide +kernel
theorem dX6_best_22 : decode cX6_best 22 = .ok (.ifCond .ne 5, 3) := by decide +kernel
theorem dX6_best_25 : decode cX6_best 25 = .ok (.iconst (-1), 1) := by decide +kernel
theorem dX6_best_26 : decode cX6_best 26 = .ok (.ireturn, 1) := by decide +kernel
theorem dX6_best_27 : decode cX6_best 27 = .ok (.aload_n 0, 1) := by decide +kernel
theorem dX6_best_28 : decode cX6_best 28 = .ok (.getfield 62, 3) := by decide +kernel
theorem dX6_best_31 : decode cX6_best 31 = .ok (.aload_n 0, 1) := by decide +kernel
theorem dX6_best_32 : decode cX6_best 32 = .ok (.getfield 12, 3) := by decide +kernel
theorem dX6_best_35 : decode cX6_best 35 = .ok (.iload_n 1, 1) := by decide +kernel
theorem dX6_best_36 : decode cX6_best 36 = .ok (.iload_n 2, 1) := by decide +kernel
theorem dX6_best_37 : decode cX6_best 37 = .ok (.invokevirtual 224, 3) := by decide +kernel
theorem dX6_best_40 : decode cX6_best 40 = .ok (.aload_n 0, 1) := by decide +kernel
theorem dX6_best_41 : decode cX6_best 41 = .ok (.getfield 62, 3) := by decide +kernel
theorem dX6_best_44 : decode cX6_best 44 = .ok (.getfield 231, 3) := by decide +kernel
theorem dX6_best_47 : decode cX6_best 47 = .ok (.iload_n 3, 1) := by decide +kernel
theorem dX6_best_48 : decode cX6_best 48 = .ok (.iaload, 1) := by decide +kernel
theorem dX6_best_49 : decode cX6_best 49 = .ok (.ireturn, 1) := by decide +kernel
theorem dX6_slack_0 : decode cX6_slack 0 = .ok (.aload_n 0, 1) := by decide +kernel
theorem dX6_slack_1 : decode cX6_slack 1 = .ok (.getfield 12, 3) := by decide +kernel
theorem dX6_slack_4 : decode cX6_slack 4 = .ok (.iload_n 1, 1) := by decide +kernel
theorem dX6_slack_5 : decode cX6_slack 5 = .ok (.invokevirtual 92, 3) := by decide +kernel
theorem dX6_slack_8 : decode cX6_slack 8 = .ok (.ifCond .ne 5, 3) := by decide +kernel
theorem dX6_slack_11 : decode cX6_slack 11 = .ok (.iconst (-1), 1) := by decide +kernel
theorem dX6_slack_12 : decode cX6_slack 12 = .ok (.ireturn, 1) := by decide +kernel
theorem dX6_slack_13 : decode cX6_slack 13 = .ok (.aload_n 0, 1) := by decide +kernel
theorem dX6_slack_14 : decode cX6_slack 14 = .ok (.getfield 45, 3) := by decide +kernel
theorem dX6_slack_17 : decode cX6_slack 17 = .ok (.aload_n 0, 1) := by decide +kernel
theorem dX6_slack_18 : decode cX6_slack 18 = .ok (.getfield 12, 3) := by decide +kernel
theorem dX6_slack_21 : decode cX6_slack 21 = .ok (.invokevirtual 234, 3) := by decide +kernel
theorem dX6_slack_24 : decode cX6_slack 24 = .ok (.iconst 1, 1) := by decide +kernel
theorem dX6_slack_25 : decode cX6_slack 25 = .ok (.istore_n 2, 1) := by decide +kernel
theorem dX6_slack_26 : decode cX6_slack 26 = .ok (.iload_n 2, 1) := by decide +kernel
theorem dX6_slack_27 : decode cX6_slack 27 = .ok (.bipush 30, 2) := by decide +kernel
theorem dX6_slack_29 : decode cX6_slack 29 = .ok (.if_icmp .gt 44, 3) := by decide +kernel
theorem dX6_slack_32 : decode cX6_slack 32 = .ok (.aload_n 0, 1) := by decide +kernel
theorem dX6_slack_33 : decode cX6_slack 33 = .ok (.getfield 45, 3) := by decide +kernel
theorem dX6_slack_36 : decode cX6_slack 36 = .ok (.getfield 99, 3) := by decide +kernel
theorem dX6_slack_39 : decode cX6_slack 39 = .ok (.iload_n 1, 1) := by decide +kernel
theorem dX6_slack_40 : decode cX6_slack 40 = .ok (.aaload, 1) := by decide +kernel
theorem dX6_slack_41 : decode cX6_slack 41 = .ok (.iconst 0, 1) := by decide +kernel
theorem dX6_slack_42 : decode cX6_slack 42 = .ok (.aload_n 0, 1) := by decide +kernel
theorem dX6_slack_43 : decode cX6_slack 43 = .ok (.getfield 12, 3) := by decide +kernel
theorem dX6_slack_46 : decode cX6_slack 46 = .ok (.getfield 99, 3) := by decide +kernel
theorem dX6_slack_49 : decode cX6_slack 49 = .ok (.iload_n 1, 1) := by decide +kernel
theorem dX6_slack_50 : decode cX6_slack 50 = .ok (.aaload, 1) := by decide +kernel
theorem dX6_slack_51 : decode cX6_slack 51 = .ok (.iconst 0, 1) := by decide +kernel
theorem dX6_slack_52 : decode cX6_slack 52 = .ok (.iaload, 1) := by decide +kernel
theorem dX6_slack_53 : decode cX6_slack 53 = .ok (.iload_n 2, 1) := by decide +kernel
theorem dX6_slack_54 : decode cX6_slack 54 = .ok (.iadd, 1) := by decide +kernel
theorem dX6_slack_55 : decode cX6_slack 55 = .ok (.iastore, 1) := by decide +kernel
theorem dX6_slack_56 : decode cX6_slack 56 = .ok (.aload_n 0, 1) := by decide +kernel
theorem dX6_slack_57 : decode cX6_slack 57 = .ok (.invokevirtual 238, 3) := by decide +kernel
theorem dX6_slack_60 : decode cX6_slack 60 = .ok (.ifCond .ne 7, 3) := by decide +kernel
theorem dX6_slack_63 : decode cX6_slack 63 = .ok (.iload_n 2, 1) := by decide +kernel
theorem dX6_slack_64 : decode cX6_slack 64 = .ok (.iconst 1, 1) := by decide +kernel
theorem dX6_slack_65 : decode cX6_slack 65 = .ok (.isub, 1) := by decide +kernel
theorem dX6_slack_66 : decode cX6_slack 66 = .ok (.ireturn, 1) := by decide +kernel
theorem dX6_slack_67 : decode cX6_slack 67 = .ok (.iinc 2 1, 3) := by decide +kernel
theorem dX6_slack_70 : decode cX6_slack 70 = .ok (.goto (-44), 3) := by decide +kernel
theorem dX6_slack_73 : decode cX6_slack 73 = .ok (.bipush 30, 2) := by decide +kernel
theorem dX6_slack_75 : decode cX6_slack 75 = .ok (.ireturn, 1) := by decide +kernel
theorem dX6_isListedAlike_0 : decode cX6_isListedAlike 0 = .ok (.iconst 0, 1) := by decide +kernel
theorem dX6_isListedAlike_1 : decode cX6_isListedAlike 1 = .ok (.istore_n 1, 1) := by decide +kernel
theorem dX6_isListedAlike_2 : decode cX6_isListedAlike 2 = .ok (.iload_n 1, 1) := by decide +kernel
theorem dX6_isListedAlike_3 : decode cX6_isListedAlike 3 = .ok (.aload_n 0, 1) := by decide +kernel
theorem dX6_isListedAlike_4 : decode cX6_isListedAlike 4 = .ok (.getfield 12, 3) := by decide +kernel
theorem dX6_isListedAlike_7 : decode cX6_isListedAlike 7 = .ok (.getfield 84, 3) := by decide +kernel
theorem dX6_isListedAlike_10 : decode cX6_isListedAlike 10 = .ok (.if_icmp .ge 32, 3) := by decide +kernel
theorem dX6_isListedAlike_13 : decode cX6_isListedAlike 13 = .ok (.aload_n 0, 1) := by decide +kernel
theorem dX6_isListedAlike_14 : decode cX6_isListedAlike 14 = .ok (.getfield 12, 3) := by decide +kernel
theorem dX6_isListedAlike_17 : decode cX6_isListedAlike 17 = .ok (.iconst 1, 1) := by decide +kernel
theorem dX6_isListedAlike_18 : decode cX6_isListedAlike 18 = .ok (.iload_n 1, 1) := by decide +kernel
theorem dX6_isListedAlike_19 : decode cX6_isListedAlike 19 = .ok (.invokevirtual 241, 3) := by decide +kernel
theorem dX6_isListedAlike_22 : decode cX6_isListedAlike 22 = .ok (.aload_n 0, 1) := by decide +kernel
theorem dX6_isListedAlike_23 : decode cX6_isListedAlike 23 = .ok (.getfield 45, 3) := by decide +kernel
theorem dX6_isListedAlike_26 : decode cX6_isListedAlike 26 = .ok (.iconst 1, 1) := by decide +kernel
theorem dX6_isListedAlike_27 : decode cX6_isListedAlike 27 = .ok (.iload_n 1, 1) := by decide +kernel
theorem dX6_isListedAlike_28 : decode cX6_isListedAlike 28 = .ok (.invokevirtual 241, 3) := by decide +kernel
theorem dX6_isListedAlike_31 : decode cX6_isListedAlike 31 = .ok (.if_icmp .eq 5, 3) := by decide +kernel
theorem dX6_isListedAlike_34 : decode cX6_isListedAlike 34 = .ok (.iconst 0, 1) := by decide +kernel
theorem dX6_isListedAlike_35 : decode cX6_isListedAlike 35 = .ok (.ireturn, 1) := by decide +kernel
theorem dX6_isListedAlike_36 : decode cX6_isListedAlike 36 = .ok (.iinc 1 1, 3) := by decide +kernel
theorem dX6_isListedAlike_39 : decode cX6_isListedAlike 39 = .ok (.goto (-37), 3) := by decide +kernel
theorem dX6_isListedAlike_42 : decode cX6_isListedAlike 42 = .ok (.iconst 1, 1) := by decide +kernel
theorem dX6_isListedAlike_43 : decode cX6_isListedAlike 43 = .ok (.ireturn, 1) := by decide +kernel
theorem dX6_see_0 : decode cX6_see 0 = .ok (.aload_n 0, 1) := by decide +kernel
theorem dX6_see_1 : decode cX6_see 1 = .ok (.aload_n 0, 1) := by decide +kernel
theorem dX6_see_2 : decode cX6_see 2 = .ok (.getfield 23, 3) := by decide +kernel
theorem dX6_see_5 : decode cX6_see 5 = .ok (.iload_n 1, 1) := by decide +kernel
theorem dX6_see_6 : decode cX6_see 6 = .ok (.iload_n 2, 1) := by decide +kernel
theorem dX6_see_7 : decode cX6_see 7 = .ok (.invokevirtual 244, 3) := by decide +kernel
theorem dX6_see_10 : decode cX6_see 10 = .ok (.ireturn, 1) := by decide +kernel
theorem dX6_noteIn_0 : decode cX6_noteIn 0 = .ok (.iload_n 2, 1) := by decide +kernel
theorem dX6_noteIn_1 : decode cX6_noteIn 1 = .ok (.iconst (-1), 1) := by decide +kernel
theorem dX6_noteIn_2 : decode cX6_noteIn 2 = .ok (.if_icmp .ne 10, 3) := by decide +kernel
theorem dX6_noteIn_5 : decode cX6_noteIn 5 = .ok (.aload_n 1, 1) := by decide +kernel
theorem dX6_noteIn_6 : decode cX6_noteIn 6 = .ok (.iconst 0, 1) := by decide +kernel
theorem dX6_noteIn_7 : decode cX6_noteIn 7 = .ok (.putfield 248, 3) := by decide +kernel
theorem dX6_noteIn_10 : decode cX6_noteIn 10 = .ok (.iconst 0, 1) := by decide +kernel
theorem dX6_noteIn_11 : decode cX6_noteIn 11 = .ok (.ireturn, 1) := by decide +kernel
theorem dX6_noteIn_12 : decode cX6_noteIn 12 = .ok (.aload_n 0, 1) := by decide +kernel
theorem dX6_noteIn_13 : decode cX6_noteIn 13 = .ok (.getfield 12, 3) := by decide +kernel
theorem dX6_noteIn_16 : decode cX6_noteIn 16 = .ok (.iload_n 2, 1) := by decide +kernel
theorem dX6_noteIn_17 : decode cX6_noteIn 17 = .ok (.invokevirtual 92, 3) := by decide +kernel
theorem dX6_noteIn_20 : decode cX6_noteIn 20 = .ok (.ifCond .ne 5, 3) := by decide +kernel
theorem dX6_noteIn_23 : decode cX6_noteIn 23 = .ok (.iconst (-1), 1) := by decide +kernel
theorem dX6_noteIn_24 : decode cX6_noteIn 24 = .ok (.ireturn, 1) := by decide +kernel
theorem dX6_noteIn_25 : decode cX6_noteIn 25 = .ok (.iload_n 3, 1) := by decide +kernel
theorem dX6_noteIn_26 : decode cX6_noteIn 26 = .ok (.bipush 6, 2) := by decide +kernel
theorem dX6_noteIn_28 : decode cX6_noteIn 28 = .ok (.invokestatic 96, 3) := by decide +kernel
theorem dX6_noteIn_31 : decode cX6_noteIn 31 = .ok (.ifCond .ne 6, 3) := by decide +kernel
theorem dX6_noteIn_34 : decode cX6_noteIn 34 = .ok (.bipush (-2), 2) := by decide +kernel
theorem dX6_noteIn_36 : decode cX6_noteIn 36 = .ok (.ireturn, 1) := by decide +kernel
theorem dX6_noteIn_37 : decode cX6_noteIn 37 = .ok (.aload_n 1, 1) := by decide +kernel
theorem dX6_noteIn_38 : decode cX6_noteIn 38 = .ok (.iload_n 2, 1) := by decide +kernel
theorem dX6_noteIn_39 : decode cX6_noteIn 39 = .ok (.iload_n 3, 1) := by decide +kernel
theorem dX6_noteIn_40 : decode cX6_noteIn 40 = .ok (.invokevirtual 251, 3) := by decide +kernel
theorem dX6_noteIn_43 : decode cX6_noteIn 43 = .ok (.ifCond .eq 10, 3) := by decide +kernel
theorem dX6_noteIn_46 : decode cX6_noteIn 46 = .ok (.aload_n 1, 1) := by decide +kernel
theorem dX6_noteIn_47 : decode cX6_noteIn 47 = .ok (.getfield 248, 3) := by decide +kernel
theorem dX6_noteIn_50 : decode cX6_noteIn 50 = .ok (.goto 5, 3) := by decide +kernel
theorem dX6_noteIn_53 : decode cX6_noteIn 53 = .ok (.bipush (-4), 2) := by decide +kernel
theorem dX6_noteIn_55 : decode cX6_noteIn 55 = .ok (.ireturn, 1) := by decide +kernel
theorem dX6_fits_0 : decode cX6_fits 0 = .ok (.aload_n 0, 1) := by decide +kernel
theorem dX6_fits_1 : decode cX6_fits 1 = .ok (.getfield 12, 3) := by decide +kernel
theorem dX6_fits_4 : decode cX6_fits 4 = .ok (.iload_n 1, 1) := by decide +kernel
theorem dX6_fits_5 : decode cX6_fits 5 = .ok (.invokevirtual 92, 3) := by decide +kernel
theorem dX6_fits_8 : decode cX6_fits 8 = .ok (.ifCond .eq 11, 3) := by decide +kernel
theorem dX6_fits_11 : decode cX6_fits 11 = .ok (.iload_n 2, 1) := by decide +kernel
theorem dX6_fits_12 : decode cX6_fits 12 = .ok (.iconst 2, 1) := by decide +kernel
theorem dX6_fits_13 : decode cX6_fits 13 = .ok (.invokestatic 96, 3) := by decide +kernel
theorem dX6_fits_16 : decode cX6_fits 16 = .ok (.ifCond .ne 5, 3) := by decide +kernel
theorem dX6_fits_19 : decode cX6_fits 19 = .ok (.iconst (-1), 1) := by decide +kernel
theorem dX6_fits_20 : decode cX6_fits 20 = .ok (.ireturn, 1) := by decide +kernel
theorem dX6_fits_21 : decode cX6_fits 21 = .ok (.aload_n 0, 1) := by decide +kernel
theorem dX6_fits_22 : decode cX6_fits 22 = .ok (.getfield 45, 3) := by decide +kernel
theorem dX6_fits_25 : decode cX6_fits 25 = .ok (.aload_n 0, 1) := by decide +kernel
theorem dX6_fits_26 : decode cX6_fits 26 = .ok (.getfield 12, 3) := by decide +kernel
theorem dX6_fits_29 : decode cX6_fits 29 = .ok (.invokevirtual 234, 3) := by decide +kernel
theorem dX6_fits_32 : decode cX6_fits 32 = .ok (.iconst 0, 1) := by decide +kernel
theorem dX6_fits_33 : decode cX6_fits 33 = .ok (.istore_n 3, 1) := by decide +kernel
theorem dX6_fits_34 : decode cX6_fits 34 = .ok (.bipush (-5), 2) := by decide +kernel
theorem dX6_fits_36 : decode cX6_fits 36 = .ok (.istore 4, 2) := by decide +kernel
theorem dX6_fits_38 : decode cX6_fits 38 = .ok (.bipush 30, 2) := by decide +kernel
theorem dX6_fits_40 : decode cX6_fits 40 = .ok (.istore 5, 2) := by decide +kernel
theorem dX6_fits_42 : decode cX6_fits 42 = .ok (.iload 5, 2) := by decide +kernel
theorem dX6_fits_44 : decode cX6_fits 44 = .ok (.ifCond .lt 36, 3) := by decide +kernel
theorem dX6_fits_47 : decode cX6_fits 47 = .ok (.aload_n 0, 1) := by decide +kernel
theorem dX6_fits_48 : decode cX6_fits 48 = .ok (.getfield 45, 3) := by decide +kernel
theorem dX6_fits_51 : decode cX6_fits 51 = .ok (.getfield 99, 3) := by decide +kernel
theorem dX6_fits_54 : decode cX6_fits 54 = .ok (.iload_n 1, 1) := by decide +kernel
theorem dX6_fits_55 : decode cX6_fits 55 = .ok (.aaload, 1) := by decide +kernel
theorem dX6_fits_56 : decode cX6_fits 56 = .ok (.iconst 0, 1) := by decide +kernel
theorem dX6_fits_57 : decode cX6_fits 57 = .ok (.iload 5, 2) := by decide +kernel
theorem dX6_fits_59 : decode cX6_fits 59 = .ok (.iastore, 1) := by decide +kernel
theorem dX6_fits_60 : decode cX6_fits 60 = .ok (.aload_n 0, 1) := by decide +kernel
theorem dX6_fits_61 : decode cX6_fits 61 = .ok (.invokevirtual 254, 3) := by decide +kernel
theorem dX6_fits_64 : decode cX6_fits 64 = .ok (.ifCond .eq 10, 3) := by decide +kernel
theorem dX6_fits_67 : decode cX6_fits 67 = .ok (.iinc 3 1, 3) := by decide +kernel
theorem dX6_fits_70 : decode cX6_fits 70 = .ok (.iload 5, 2) := by decide +kernel
theorem dX6_fits_72 : decode cX6_fits 72 = .ok (.istore 4, 2) := by decide +kernel
theorem dX6_fits_74 : decode cX6_fits 74 = .ok (.iinc 5 (-1), 3) := by decide +kernel
theorem dX6_fits_77 : decode cX6_fits 77 = .ok (.goto (-35), 3) := by decide +kernel
theorem dX6_fits_80 : decode cX6_fits 80 = .ok (.iload_n 2, 1) := by decide +kernel
theorem dX6_fits_81 : decode cX6_fits 81 = .ok (.ifCond .ne 7, 3) := by decide +kernel
theorem dX6_fits_84 : decode cX6_fits 84 = .ok (.iload_n 3, 1) := by decide +kernel
theorem dX6_fits_85 : decode cX6_fits 85 = .ok (.goto 5, 3) := by decide +kernel
theorem dX6_fits_88 : decode cX6_fits 88 = .ok (.iload 4, 2) := by decide +kernel
theorem dX6_fits_90 : decode cX6_fits 90 = .ok (.ireturn, 1) := by decide +kernel
theorem dX6_isAsSeen_0 : decode cX6_isAsSeen 0 = .ok (.iconst 0, 1) := by decide +kernel
theorem dX6_isAsSeen_1 : decode cX6_isAsSeen 1 = .ok (.istore_n 1, 1) := by decide +kernel
theorem dX6_isAsSeen_2 : decode cX6_isAsSeen 2 = .ok (.iload_n 1, 1) := by decide +kernel
theorem dX6_isAsSeen_3 : decode cX6_isAsSeen 3 = .ok (.aload_n 0, 1) := by decide +kernel
theorem dX6_isAsSeen_4 : decode cX6_isAsSeen 4 = .ok (.getfield 23, 3) := by decide +kernel
theorem dX6_isAsSeen_7 : decode cX6_isAsSeen 7 = .ok (.getfield 248, 3) := by decide +kernel
theorem dX6_isAsSeen_10 : decode cX6_isAsSeen 10 = .ok (.if_icmp .ge 40, 3) := by decide +kernel
theorem dX6_isAsSeen_13 : decode cX6_isAsSeen 13 = .ok (.aload_n 0, 1) := by decide +kernel
theorem dX6_isAsSeen_14 : decode cX6_isAsSeen 14 = .ok (.getfield 45, 3) := by decide +kernel
theorem dX6_isAsSeen_17 : decode cX6_isAsSeen 17 = .ok (.iconst 1, 1) := by decide +kernel
theorem dX6_isAsSeen_18 : decode cX6_isAsSeen 18 = .ok (.aload_n 0, 1) := by decide +kernel
theorem dX6_isAsSeen_19 : decode cX6_isAsSeen 19 = .ok (.getfield 23, 3) := by decide +kernel
theorem dX6_isAsSeen_22 : decode cX6_isAsSeen 22 = .ok (.getfield 257, 3) := by decide +kernel
theorem dX6_isAsSeen_25 : decode cX6_isAsSeen 25 = .ok (.iload_n 1, 1) := by decide +kernel
theorem dX6_isAsSeen_26 : decode cX6_isAsSeen 26 = .ok (.iaload, 1) := by decide +kernel
theorem dX6_isAsSeen_27 : decode cX6_isAsSeen 27 = .ok (.invokevirtual 241, 3) := by decide +kernel
theorem dX6_isAsSeen_30 : decode cX6_isAsSeen 30 = .ok (.aload_n 0, 1) := by decide +kernel
theorem dX6_isAsSeen_31 : decode cX6_isAsSeen 31 = .ok (.getfield 23, 3) := by decide +kernel
theorem dX6_isAsSeen_34 : decode cX6_isAsSeen 34 = .ok (.getfield 260, 3) := by decide +kernel
theorem dX6_isAsSeen_37 : decode cX6_isAsSeen 37 = .ok (.iload_n 1, 1) := by decide +kernel
theorem dX6_isAsSeen_38 : decode cX6_isAsSeen 38 = .ok (.iaload, 1) := by decide +kernel
theorem dX6_isAsSeen_39 : decode cX6_isAsSeen 39 = .ok (.if_icmp .eq 5, 3) := by decide +kernel
theorem dX6_isAsSeen_42 : decode cX6_isAsSeen 42 = .ok (.iconst 0, 1) := by decide +kernel
theorem dX6_isAsSeen_43 : decode cX6_isAsSeen 43 = .ok (.ireturn, 1) := by decide +kernel
theorem dX6_isAsSeen_44 : decode cX6_isAsSeen 44 = .ok (.iinc 1 1, 3) := by decide +kernel
theorem dX6_isAsSeen_47 : decode cX6_isAsSeen 47 = .ok (.goto (-45), 3) := by decide +kernel
theorem dX6_isAsSeen_50 : decode cX6_isAsSeen 50 = .ok (.iconst 1, 1) := by decide +kernel
theorem dX6_isAsSeen_51 : decode cX6_isAsSeen 51 = .ok (.ireturn, 1) := by decide +kernel
theorem dX6_odds_0 : decode cX6_odds 0 = .ok (.aload_n 0, 1) := by decide +kernel
theorem dX6_odds_1 : decode cX6_odds 1 = .ok (.getfield 12, 3) := by decide +kernel
theorem dX6_odds_4 : decode cX6_odds 4 = .ok (.iload_n 1, 1) := by decide +kernel
theorem dX6_odds_5 : decode cX6_odds 5 = .ok (.invokevirtual 92, 3) := by decide +kernel
theorem dX6_odds_8 : decode cX6_odds 8 = .ok (.ifCond .eq 11, 3) := by decide +kernel
theorem dX6_odds_11 : decode cX6_odds 11 = .ok (.iload_n 2, 1) := by decide +kernel
theorem dX6_odds_12 : decode cX6_odds 12 = .ok (.iconst 2, 1) := by decide +kernel
theorem dX6_odds_13 : decode cX6_odds 13 = .ok (.invokestatic 96, 3) := by decide +kernel
theorem dX6_odds_16 : decode cX6_odds 16 = .ok (.ifCond .ne 7, 3) := by decide +kernel
theorem dX6_odds_19 : decode cX6_odds 19 = .ok (.ldc2_w 170, 3) := by decide +kernel
theorem dX6_odds_22 : decode cX6_odds 22 = .ok (.lreturn, 1) := by decide +kernel
theorem dX6_odds_23 : decode cX6_odds 23 = .ok (.aload_n 0, 1) := by decide +kernel
theorem dX6_odds_24 : decode cX6_odds 24 = .ok (.getfield 45, 3) := by decide +kernel
theorem dX6_odds_27 : decode cX6_odds 27 = .ok (.aload_n 0, 1) := by decide +kernel
theorem dX6_odds_28 : decode cX6_odds 28 = .ok (.getfield 12, 3) := by decide +kernel
theorem dX6_odds_31 : decode cX6_odds 31 = .ok (.invokevirtual 234, 3) := by decide +kernel
theorem dX6_odds_34 : decode cX6_odds 34 = .ok (.iconst 0, 1) := by decide +kernel
theorem dX6_odds_35 : decode cX6_odds 35 = .ok (.istore_n 3, 1) := by decide +kernel
theorem dX6_odds_36 : decode cX6_odds 36 = .ok (.iconst 0, 1) := by decide +kernel
theorem dX6_odds_37 : decode cX6_odds 37 = .ok (.istore 4, 2) := by decide +kernel
theorem dX6_odds_39 : decode cX6_odds 39 = .ok (.iload 4, 2) := by decide +kernel
theorem dX6_odds_41 : decode cX6_odds 41 = .ok (.bipush 10, 2) := by decide +kernel
theorem dX6_odds_43 : decode cX6_odds 43 = .ok (.if_icmp .ge 63, 3) := by decide +kernel
theorem dX6_odds_46 : decode cX6_odds 46 = .ok (.aload_n 0, 1) := by decide +kernel
theorem dX6_odds_47 : decode cX6_odds 47 = .ok (.getfield 45, 3) := by decide +kernel
theorem dX6_odds_50 : decode cX6_odds 50 = .ok (.getfield 99, 3) := by decide +kernel
theorem dX6_odds_53 : decode cX6_odds 53 = .ok (.iload_n 1, 1) := by decide +kernel
theorem dX6_odds_54 : decode cX6_odds 54 = .ok (.aaload, 1) := by decide +kernel
theorem dX6_odds_55 : decode cX6_odds 55 = .ok (.iconst 0, 1) := by decide +kernel
theorem dX6_odds_56 : decode cX6_odds 56 = .ok (.iload 4, 2) := by decide +kernel
theorem dX6_odds_58 : decode cX6_odds 58 = .ok (.iastore, 1) := by decide +kernel
theorem dX6_odds_59 : decode cX6_odds 59 = .ok (.aload_n 0, 1) := by decide +kernel
theorem dX6_odds_60 : decode cX6_odds 60 = .ok (.getfield 62, 3) := by decide +kernel
theorem dX6_odds_63 : decode cX6_odds 63 = .ok (.aload_n 0, 1) := by decide +kernel
theorem dX6_odds_64 : decode cX6_odds 64 = .ok (.getfield 45, 3) := by decide +kernel
theorem dX6_odds_67 : decode cX6_odds 67 = .ok (.aload_n 0, 1) := by decide +kernel
theorem dX6_odds_68 : decode cX6_odds 68 = .ok (.getfield 12, 3) := by decide +kernel
theorem dX6_odds_71 : decode cX6_odds 71 = .ok (.getfield 107, 3) := by decide +kernel
theorem dX6_odds_74 : decode cX6_odds 74 = .ok (.aload_n 0, 1) := by decide +kernel
theorem dX6_odds_75 : decode cX6_odds 75 = .ok (.getfield 12, 3) := by decide +kernel
theorem dX6_odds_78 : decode cX6_odds 78 = .ok (.getfield 110, 3) := by decide +kernel
theorem dX6_odds_81 : decode cX6_odds 81 = .ok (.invokevirtual 224, 3) := by decide +kernel
theorem dX6_odds_84 : decode cX6_odds 84 = .ok (.aload_n 0, 1) := by decide +kernel
theorem dX6_odds_85 : decode cX6_odds 85 = .ok (.getfield 62, 3) := by decide +kernel
theorem dX6_odds_88 : decode cX6_odds 88 = .ok (.getfield 231, 3) := by decide +kernel
theorem dX6_odds_91 : decode cX6_odds 91 = .ok (.iconst 0, 1) := by decide +kernel
theorem dX6_odds_92 : decode cX6_odds 92 = .ok (.iaload, 1) := by decide +kernel
theorem dX6_odds_93 : decode cX6_odds 93 = .ok (.iload_n 1, 1) := by decide +kernel
theorem dX6_odds_94 : decode cX6_odds 94 = .ok (.if_icmp .ne 6, 3) := by decide +kernel
theorem dX6_odds_97 : decode cX6_odds 97 = .ok (.iinc 3 1, 3) := by decide +kernel
theorem dX6_odds_100 : decode cX6_odds 100 = .ok (.iinc 4 1, 3) := by decide +kernel
theorem dX6_odds_103 : decode cX6_odds 103 = .ok (.goto (-64), 3) := by decide +kernel
theorem dX6_odds_106 : decode cX6_odds 106 = .ok (.iload_n 3, 1) := by decide +kernel
theorem dX6_odds_107 : decode cX6_odds 107 = .ok (.bipush 10, 2) := by decide +kernel
theorem dX6_odds_109 : decode cX6_odds 109 = .ok (.iload_n 2, 1) := by decide +kernel
theorem dX6_odds_110 : decode cX6_odds 110 = .ok (.invokestatic 263, 3) := by decide +kernel
theorem dX6_odds_113 : decode cX6_odds 113 = .ok (.lreturn, 1) := by decide +kernel
theorem dX6_mean_0 : decode cX6_mean 0 = .ok (.aload_n 0, 1) := by decide +kernel
theorem dX6_mean_1 : decode cX6_mean 1 = .ok (.getfield 12, 3) := by decide +kernel
theorem dX6_mean_4 : decode cX6_mean 4 = .ok (.getfield 84, 3) := by decide +kernel
theorem dX6_mean_7 : decode cX6_mean 7 = .ok (.ifCond .eq 11, 3) := by decide +kernel
theorem dX6_mean_10 : decode cX6_mean 10 = .ok (.iload_n 1, 1) := by decide +kernel
theorem dX6_mean_11 : decode cX6_mean 11 = .ok (.iconst 2, 1) := by decide +kernel
theorem dX6_mean_12 : decode cX6_mean 12 = .ok (.invokestatic 96, 3) := by decide +kernel
theorem dX6_mean_15 : decode cX6_mean 15 = .ok (.ifCond .ne 7, 3) := by decide +kernel
theorem dX6_mean_18 : decode cX6_mean 18 = .ok (.ldc2_w 170, 3) := by decide +kernel
theorem dX6_mean_21 : decode cX6_mean 21 = .ok (.lreturn, 1) := by decide +kernel
theorem dX6_mean_22 : decode cX6_mean 22 = .ok (.aload_n 0, 1) := by decide +kernel
theorem dX6_mean_23 : decode cX6_mean 23 = .ok (.aload_n 0, 1) := by decide +kernel
theorem dX6_mean_24 : decode cX6_mean 24 = .ok (.getfield 12, 3) := by decide +kernel
theorem dX6_mean_27 : decode cX6_mean 27 = .ok (.aload_n 0, 1) := by decide +kernel
theorem dX6_mean_28 : decode cX6_mean 28 = .ok (.getfield 12, 3) := by decide +kernel
theorem dX6_mean_31 : decode cX6_mean 31 = .ok (.getfield 150, 3) := by decide +kernel
theorem dX6_mean_34 : decode cX6_mean 34 = .ok (.aload_n 0, 1) := by decide +kernel
theorem dX6_mean_35 : decode cX6_mean 35 = .ok (.getfield 12, 3) := by decide +kernel
theorem dX6_mean_38 : decode cX6_mean 38 = .ok (.getfield 107, 3) := by decide +kernel
theorem dX6_mean_41 : decode cX6_mean 41 = .ok (.iconst 1, 1) := by decide +kernel
theorem dX6_mean_42 : decode cX6_mean 42 = .ok (.invokevirtual 185, 3) := by decide +kernel
theorem dX6_mean_45 : decode cX6_mean 45 = .ok (.aload_n 0, 1) := by decide +kernel
theorem dX6_mean_46 : decode cX6_mean 46 = .ok (.getfield 12, 3) := by decide +kernel
theorem dX6_mean_49 : decode cX6_mean 49 = .ok (.getfield 84, 3) := by decide +kernel
theorem dX6_mean_52 : decode cX6_mean 52 = .ok (.iload_n 1, 1) := by decide +kernel
theorem dX6_mean_53 : decode cX6_mean 53 = .ok (.invokestatic 263, 3) := by decide +kernel
theorem dX6_mean_56 : decode cX6_mean 56 = .ok (.lreturn, 1) := by decide +kernel
theorem dX6_partOfFraction_0 : decode cX6_partOfFraction 0 = .ok (.iload_n 1, 1) := by decide +kernel
theorem dX6_partOfFraction_1 : decode cX6_partOfFraction 1 = .ok (.istore_n 3, 1) := by decide +kernel
theorem dX6_partOfFraction_2 : decode cX6_partOfFraction 2 = .ok (.iload_n 0, 1) := by decide +kernel
theorem dX6_partOfFraction_3 : decode cX6_partOfFraction 3 = .ok (.istore 4, 2) := by decide +kernel
theorem dX6_partOfFraction_5 : decode cX6_partOfFraction 5 = .ok (.iconst 0, 1) := by decide +kernel
theorem dX6_partOfFraction_6 : decode cX6_partOfFraction 6 = .ok (.istore 5, 2) := by decide +kernel
theorem dX6_partOfFraction_8 : decode cX6_partOfFraction 8 = .ok (.iload 5, 2) := by decide +kernel
theorem dX6_partOfFraction_10 : decode cX6_partOfFraction 10 = .ok (.bipush 64, 2) := by decide +kernel
theorem dX6_partOfFraction_12 : decode cX6_partOfFraction 12 = .ok (.if_icmp .ge 27, 3) := by decide +kernel
theorem dX6_partOfFraction_15 : decode cX6_partOfFraction 15 = .ok (.iload 4, 2) := by decide +kernel
theorem dX6_partOfFraction_17 : decode cX6_partOfFraction 17 = .ok (.ifCond .eq 22, 3) := by decide +kernel
theorem dX6_partOfFraction_20 : decode cX6_partOfFraction 20 = .ok (.iload_n 3, 1) := by decide +kernel
theorem dX6_partOfFraction_21 : decode cX6_partOfFraction 21 = .ok (.iload 4, 2) := by decide +kernel
theorem dX6_partOfFraction_23 : decode cX6_partOfFraction 23 = .ok (.irem, 1) := by decide +kernel
theorem dX6_partOfFraction_24 : decode cX6_partOfFraction 24 = .ok (.istore 6, 2) := by decide +kernel
theorem dX6_partOfFraction_26 : decode cX6_partOfFraction 26 = .ok (.iload 4, 2) := by decide +kernel
theorem dX6_partOfFraction_28 : decode cX6_partOfFraction 28 = .ok (.istore_n 3, 1) := by decide +kernel
theorem dX6_partOfFraction_29 : decode cX6_partOfFraction 29 = .ok (.iload 6, 2) := by decide +kernel
theorem dX6_partOfFraction_31 : decode cX6_partOfFraction 31 = .ok (.istore 4, 2) := by decide +kernel
theorem dX6_partOfFraction_33 : decode cX6_partOfFraction 33 = .ok (.iinc 5 1, 3) := by decide +kernel
theorem dX6_partOfFraction_36 : decode cX6_partOfFraction 36 = .ok (.goto (-28), 3) := by decide +kernel
theorem dX6_partOfFraction_39 : decode cX6_partOfFraction 39 = .ok (.iload_n 3, 1) := by decide +kernel
theorem dX6_partOfFraction_40 : decode cX6_partOfFraction 40 = .ok (.ifCond .ne 7, 3) := by decide +kernel
theorem dX6_partOfFraction_43 : decode cX6_partOfFraction 43 = .ok (.ldc2_w 170, 3) := by decide +kernel
theorem dX6_partOfFraction_46 : decode cX6_partOfFraction 46 = .ok (.lreturn, 1) := by decide +kernel
theorem dX6_partOfFraction_47 : decode cX6_partOfFraction 47 = .ok (.iload_n 2, 1) := by decide +kernel
theorem dX6_partOfFraction_48 : decode cX6_partOfFraction 48 = .ok (.ifCond .ne 7, 3) := by decide +kernel
theorem dX6_partOfFraction_51 : decode cX6_partOfFraction 51 = .ok (.iload_n 0, 1) := by decide +kernel
theorem dX6_partOfFraction_52 : decode cX6_partOfFraction 52 = .ok (.goto 4, 3) := by decide +kernel
theorem dX6_partOfFraction_55 : decode cX6_partOfFraction 55 = .ok (.iload_n 1, 1) := by decide +kernel
theorem dX6_partOfFraction_56 : decode cX6_partOfFraction 56 = .ok (.iload_n 3, 1) := by decide +kernel
theorem dX6_partOfFraction_57 : decode cX6_partOfFraction 57 = .ok (.idiv, 1) := by decide +kernel
theorem dX6_partOfFraction_58 : decode cX6_partOfFraction 58 = .ok (.i2l, 1) := by decide +kernel
theorem dX6_partOfFraction_59 : decode cX6_partOfFraction 59 = .ok (.lreturn, 1) := by decide +kernel
theorem dX6_event_0 : decode cX6_event 0 = .ok (.iload_n 1, 1) := by decide +kernel
theorem dX6_event_1 : decode cX6_event 1 = .ok (.iconst (-1), 1) := by decide +kernel
theorem dX6_event_2 : decode cX6_event 2 = .ok (.if_icmp .ne 13, 3) := by decide +kernel
theorem dX6_event_5 : decode cX6_event 5 = .ok (.aload_n 0, 1) := by decide +kernel
theorem dX6_event_6 : decode cX6_event 6 = .ok (.getfield 27, 3) := by decide +kernel
theorem dX6_event_9 : decode cX6_event 9 = .ok (.iconst 0, 1) := by decide +kernel
theorem dX6_event_10 : decode cX6_event 10 = .ok (.putfield 248, 3) := by decide +kernel
theorem dX6_event_13 : decode cX6_event 13 = .ok (.iconst 0, 1) := by decide +kernel
theorem dX6_event_14 : decode cX6_event 14 = .ok (.ireturn, 1) := by decide +kernel
theorem dX6_event_15 : decode cX6_event 15 = .ok (.iload_n 1, 1) := by decide +kernel
theorem dX6_event_16 : decode cX6_event 16 = .ok (.ifCond .lt 8, 3) := by decide +kernel
theorem dX6_event_19 : decode cX6_event 19 = .ok (.iload_n 1, 1) := by decide +kernel
theorem dX6_event_20 : decode cX6_event 20 = .ok (.iconst 3, 1) := by decide +kernel
theorem dX6_event_21 : decode cX6_event 21 = .ok (.if_icmp .le 5, 3) := by decide +kernel
theorem dX6_event_24 : decode cX6_event 24 = .ok (.iconst (-1), 1) := by decide +kernel
theorem dX6_event_25 : decode cX6_event 25 = .ok (.ireturn, 1) := by decide +kernel
theorem dX6_event_26 : decode cX6_event 26 = .ok (.iload_n 1, 1) := by decide +kernel
theorem dX6_event_27 : decode cX6_event 27 = .ok (.iconst 2, 1) := by decide +kernel
theorem dX6_event_28 : decode cX6_event 28 = .ok (.if_icmp .eq 16, 3) := by decide +kernel
theorem dX6_event_31 : decode cX6_event 31 = .ok (.aload_n 0, 1) := by decide +kernel
theorem dX6_event_32 : decode cX6_event 32 = .ok (.getfield 12, 3) := by decide +kernel
theorem dX6_event_35 : decode cX6_event 35 = .ok (.iload_n 2, 1) := by decide +kernel
theorem dX6_event_36 : decode cX6_event 36 = .ok (.invokevirtual 92, 3) := by decide +kernel
theorem dX6_event_39 : decode cX6_event 39 = .ok (.ifCond .ne 5, 3) := by decide +kernel
theorem dX6_event_42 : decode cX6_event 42 = .ok (.iconst (-1), 1) := by decide +kernel
theorem dX6_event_43 : decode cX6_event 43 = .ok (.ireturn, 1) := by decide +kernel
theorem dX6_event_44 : decode cX6_event 44 = .ok (.iload_n 1, 1) := by decide +kernel
theorem dX6_event_45 : decode cX6_event 45 = .ok (.iconst 2, 1) := by decide +kernel
theorem dX6_event_46 : decode cX6_event 46 = .ok (.if_icmp .ne 14, 3) := by decide +kernel
theorem dX6_event_49 : decode cX6_event 49 = .ok (.iload_n 2, 1) := by decide +kernel
theorem dX6_event_50 : decode cX6_event 50 = .ok (.iconst 3, 1) := by decide +kernel
theorem dX6_event_51 : decode cX6_event 51 = .ok (.invokestatic 96, 3) := by decide +kernel
theorem dX6_event_54 : decode cX6_event 54 = .ok (.ifCond .ne 6, 3) := by decide +kernel
theorem dX6_event_57 : decode cX6_event 57 = .ok (.bipush (-2), 2) := by decide +kernel
theorem dX6_event_59 : decode cX6_event 59 = .ok (.ireturn, 1) := by decide +kernel
theorem dX6_event_60 : decode cX6_event 60 = .ok (.aload_n 0, 1) := by decide +kernel
theorem dX6_event_61 : decode cX6_event 61 = .ok (.getfield 27, 3) := by decide +kernel
theorem dX6_event_64 : decode cX6_event 64 = .ok (.iload_n 1, 1) := by decide +kernel
theorem dX6_event_65 : decode cX6_event 65 = .ok (.iload_n 2, 1) := by decide +kernel
theorem dX6_event_66 : decode cX6_event 66 = .ok (.invokevirtual 251, 3) := by decide +kernel
theorem dX6_event_69 : decode cX6_event 69 = .ok (.ifCond .eq 13, 3) := by decide +kernel
theorem dX6_event_72 : decode cX6_event 72 = .ok (.aload_n 0, 1) := by decide +kernel
theorem dX6_event_73 : decode cX6_event 73 = .ok (.getfield 27, 3) := by decide +kernel
theorem dX6_event_76 : decode cX6_event 76 = .ok (.getfield 248, 3) := by decide +kernel
theorem dX6_event_79 : decode cX6_event 79 = .ok (.goto 5, 3) := by decide +kernel
theorem dX6_event_82 : decode cX6_event 82 = .ok (.bipush (-4), 2) := by decide +kernel
theorem dX6_event_84 : decode cX6_event 84 = .ok (.ireturn, 1) := by decide +kernel
theorem dX6_after_0 : decode cX6_after 0 = .ok (.iload_n 1, 1) := by decide +kernel
theorem dX6_after_1 : decode cX6_after 1 = .ok (.iconst 2, 1) := by decide +kernel
theorem dX6_after_2 : decode cX6_after 2 = .ok (.invokestatic 96, 3) := by decide +kernel
theorem dX6_after_5 : decode cX6_after 5 = .ok (.ifCond .eq 13, 3) := by decide +kernel
theorem dX6_after_8 : decode cX6_after 8 = .ok (.aload_n 0, 1) := by decide +kernel
theorem dX6_after_9 : decode cX6_after 9 = .ok (.getfield 12, 3) := by decide +kernel
theorem dX6_after_12 : decode cX6_after 12 = .ok (.getfield 84, 3) := by decide +kernel
theorem dX6_after_15 : decode cX6_after 15 = .ok (.ifCond .ne 7, 3) := by decide +kernel
theorem dX6_after_18 : decode cX6_after 18 = .ok (.ldc2_w 170, 3) := by decide +kernel
theorem dX6_after_21 : decode cX6_after 21 = .ok (.lreturn, 1) := by decide +kernel
theorem dX6_after_22 : decode cX6_after 22 = .ok (.aload_n 0, 1) := by decide +kernel
theorem dX6_after_23 : decode cX6_after 23 = .ok (.getfield 45, 3) := by decide +kernel
theorem dX6_after_26 : decode cX6_after 26 = .ok (.aload_n 0, 1) := by decide +kernel
theorem dX6_after_27 : decode cX6_after 27 = .ok (.getfield 12, 3) := by decide +kernel
theorem dX6_after_30 : decode cX6_after 30 = .ok (.invokevirtual 234, 3) := by decide +kernel
theorem dX6_after_33 : decode cX6_after 33 = .ok (.iconst 0, 1) := by decide +kernel
theorem dX6_after_34 : decode cX6_after 34 = .ok (.istore_n 2, 1) := by decide +kernel
theorem dX6_after_35 : decode cX6_after 35 = .ok (.iload_n 2, 1) := by decide +kernel
theorem dX6_after_36 : decode cX6_after 36 = .ok (.aload_n 0, 1) := by decide +kernel
theorem dX6_after_37 : decode cX6_after 37 = .ok (.getfield 27, 3) := by decide +kernel
theorem dX6_after_40 : decode cX6_after 40 = .ok (.getfield 248, 3) := by decide +kernel
theorem dX6_after_43 : decode cX6_after 43 = .ok (.if_icmp .ge 31, 3) := by decide +kernel
theorem dX6_after_46 : decode cX6_after 46 = .ok (.aload_n 0, 1) := by decide +kernel
theorem dX6_after_47 : decode cX6_after 47 = .ok (.aload_n 0, 1) := by decide +kernel
theorem dX6_after_48 : decode cX6_after 48 = .ok (.getfield 27, 3) := by decide +kernel
theorem dX6_after_51 : decode cX6_after 51 = .ok (.getfield 257, 3) := by decide +kernel
theorem dX6_after_54 : decode cX6_after 54 = .ok (.iload_n 2, 1) := by decide +kernel
theorem dX6_after_55 : decode cX6_after 55 = .ok (.iaload, 1) := by decide +kernel
theorem dX6_after_56 : decode cX6_after 56 = .ok (.aload_n 0, 1) := by decide +kernel
theorem dX6_after_57 : decode cX6_after 57 = .ok (.getfield 27, 3) := by decide +kernel
theorem dX6_after_60 : decode cX6_after 60 = .ok (.getfield 260, 3) := by decide +kernel
theorem dX6_after_63 : decode cX6_after 63 = .ok (.iload_n 2, 1) := by decide +kernel
theorem dX6_after_64 : decode cX6_after 64 = .ok (.iaload, 1) := by decide +kernel
theorem dX6_after_65 : decode cX6_after 65 = .ok (.invokevirtual 267, 3) := by decide +kernel
theorem dX6_after_68 : decode cX6_after 68 = .ok (.iinc 2 1, 3) := by decide +kernel
theorem dX6_after_71 : decode cX6_after 71 = .ok (.goto (-36), 3) := by decide +kernel
theorem dX6_after_74 : decode cX6_after 74 = .ok (.iload_n 1, 1) := by decide +kernel
theorem dX6_after_75 : decode cX6_after 75 = .ok (.ifCond .ne 34, 3) := by decide +kernel
theorem dX6_after_78 : decode cX6_after 78 = .ok (.aload_n 0, 1) := by decide +kernel
theorem dX6_after_79 : decode cX6_after 79 = .ok (.aload_n 0, 1) := by decide +kernel
theorem dX6_after_80 : decode cX6_after 80 = .ok (.getfield 45, 3) := by decide +kernel
theorem dX6_after_83 : decode cX6_after 83 = .ok (.aload_n 0, 1) := by decide +kernel
theorem dX6_after_84 : decode cX6_after 84 = .ok (.getfield 45, 3) := by decide +kernel
theorem dX6_after_87 : decode cX6_after 87 = .ok (.getfield 150, 3) := by decide +kernel
theorem dX6_after_90 : decode cX6_after 90 = .ok (.aload_n 0, 1) := by decide +kernel
theorem dX6_after_91 : decode cX6_after 91 = .ok (.getfield 45, 3) := by decide +kernel
theorem dX6_after_94 : decode cX6_after 94 = .ok (.getfield 107, 3) := by decide +kernel
theorem dX6_after_97 : decode cX6_after 97 = .ok (.aload_n 0, 1) := by decide +kernel
theorem dX6_after_98 : decode cX6_after 98 = .ok (.getfield 45, 3) := by decide +kernel
theorem dX6_after_101 : decode cX6_after 101 = .ok (.getfield 110, 3) := by decide +kernel
theorem dX6_after_104 : decode cX6_after 104 = .ok (.invokevirtual 185, 3) := by decide +kernel
theorem dX6_after_107 : decode cX6_after 107 = .ok (.i2l, 1) := by decide +kernel
theorem dX6_after_108 : decode cX6_after 108 = .ok (.lreturn, 1) := by decide +kernel
theorem dX6_after_109 : decode cX6_after 109 = .ok (.aload_n 0, 1) := by decide +kernel
theorem dX6_after_110 : decode cX6_after 110 = .ok (.getfield 62, 3) := by decide +kernel
theorem dX6_after_113 : decode cX6_after 113 = .ok (.aload_n 0, 1) := by decide +kernel
theorem dX6_after_114 : decode cX6_after 114 = .ok (.getfield 45, 3) := by decide +kernel
theorem dX6_after_117 : decode cX6_after 117 = .ok (.aload_n 0, 1) := by decide +kernel
theorem dX6_after_118 : decode cX6_after 118 = .ok (.getfield 45, 3) := by decide +kernel
theorem dX6_after_121 : decode cX6_after 121 = .ok (.getfield 107, 3) := by decide +kernel
theorem dX6_after_124 : decode cX6_after 124 = .ok (.aload_n 0, 1) := by decide +kernel
theorem dX6_after_125 : decode cX6_after 125 = .ok (.getfield 45, 3) := by decide +kernel
theorem dX6_after_128 : decode cX6_after 128 = .ok (.getfield 110, 3) := by decide +kernel
theorem dX6_after_131 : decode cX6_after 131 = .ok (.invokevirtual 224, 3) := by decide +kernel
theorem dX6_after_134 : decode cX6_after 134 = .ok (.aload_n 0, 1) := by decide +kernel
theorem dX6_after_135 : decode cX6_after 135 = .ok (.getfield 62, 3) := by decide +kernel
theorem dX6_after_138 : decode cX6_after 138 = .ok (.getfield 228, 3) := by decide +kernel
theorem dX6_after_141 : decode cX6_after 141 = .ok (.i2l, 1) := by decide +kernel
theorem dX6_after_142 : decode cX6_after 142 = .ok (.lreturn, 1) := by decide +kernel
theorem dX6_happen_0 : decode cX6_happen 0 = .ok (.iload_n 1, 1) := by decide +kernel
theorem dX6_happen_1 : decode cX6_happen 1 = .ok (.iconst 2, 1) := by decide +kernel
theorem dX6_happen_2 : decode cX6_happen 2 = .ok (.if_icmp .ne 12, 3) := by decide +kernel
theorem dX6_happen_5 : decode cX6_happen 5 = .ok (.aload_n 0, 1) := by decide +kernel
theorem dX6_happen_6 : decode cX6_happen 6 = .ok (.getfield 45, 3) := by decide +kernel
theorem dX6_happen_9 : decode cX6_happen 9 = .ok (.iload_n 2, 1) := by decide +kernel
theorem dX6_happen_10 : decode cX6_happen 10 = .ok (.putfield 107, 3) := by decide +kernel
theorem dX6_happen_13 : decode cX6_happen 13 = .ok (.return_, 1) := by decide +kernel
theorem dX6_happen_14 : decode cX6_happen 14 = .ok (.aload_n 0, 1) := by decide +kernel
theorem dX6_happen_15 : decode cX6_happen 15 = .ok (.getfield 45, 3) := by decide +kernel
theorem dX6_happen_18 : decode cX6_happen 18 = .ok (.iload_n 2, 1) := by decide +kernel
theorem dX6_happen_19 : decode cX6_happen 19 = .ok (.invokevirtual 92, 3) := by decide +kernel
theorem dX6_happen_22 : decode cX6_happen 22 = .ok (.ifCond .ne 4, 3) := by decide +kernel
theorem dX6_happen_25 : decode cX6_happen 25 = .ok (.return_, 1) := by decide +kernel
theorem dX6_happen_26 : decode cX6_happen 26 = .ok (.aload_n 0, 1) := by decide +kernel
theorem dX6_happen_27 : decode cX6_happen 27 = .ok (.getfield 45, 3) := by decide +kernel
theorem dX6_happen_30 : decode cX6_happen 30 = .ok (.getfield 99, 3) := by decide +kernel
theorem dX6_happen_33 : decode cX6_happen 33 = .ok (.iload_n 2, 1) := by decide +kernel
theorem dX6_happen_34 : decode cX6_happen 34 = .ok (.aaload, 1) := by decide +kernel
theorem dX6_happen_35 : decode cX6_happen 35 = .ok (.astore_n 3, 1) := by decide +kernel
theorem dX6_happen_36 : decode cX6_happen 36 = .ok (.iload_n 1, 1) := by decide +kernel
theorem dX6_happen_37 : decode cX6_happen 37 = .ok (.ifCond .ne 19, 3) := by decide +kernel
theorem dX6_happen_40 : decode cX6_happen 40 = .ok (.aload_n 3, 1) := by decide +kernel
theorem dX6_happen_41 : decode cX6_happen 41 = .ok (.iconst 0, 1) := by decide +kernel
theorem dX6_happen_42 : decode cX6_happen 42 = .ok (.aload_n 3, 1) := by decide +kernel
theorem dX6_happen_43 : decode cX6_happen 43 = .ok (.iconst 0, 1) := by decide +kernel
theorem dX6_happen_44 : decode cX6_happen 44 = .ok (.iaload, 1) := by decide +kernel
theorem dX6_happen_45 : decode cX6_happen 45 = .ok (.iconst 1, 1) := by decide +kernel
theorem dX6_happen_46 : decode cX6_happen 46 = .ok (.iadd, 1) := by decide +kernel
theorem dX6_happen_47 : decode cX6_happen 47 = .ok (.bipush 30, 2) := by decide +kernel
theorem dX6_happen_49 : decode cX6_happen 49 = .ok (.invokestatic 271, 3) := by decide +kernel
theorem dX6_happen_52 : decode cX6_happen 52 = .ok (.iastore, 1) := by decide +kernel
theorem dX6_happen_53 : decode cX6_happen 53 = .ok (.goto 28, 3) := by decide +kernel
theorem dX6_happen_56 : decode cX6_happen 56 = .ok (.iload_n 1, 1) := by decide +kernel
theorem dX6_happen_57 : decode cX6_happen 57 = .ok (.iconst 1, 1) := by decide +kernel
theorem dX6_happen_58 : decode cX6_happen 58 = .ok (.if_icmp .ne 19, 3) := by decide +kernel
theorem dX6_happen_61 : decode cX6_happen 61 = .ok (.aload_n 3, 1) := by decide +kernel
theorem dX6_happen_62 : decode cX6_happen 62 = .ok (.iconst 2, 1) := by decide +kernel
theorem dX6_happen_63 : decode cX6_happen 63 = .ok (.aload_n 3, 1) := by decide +kernel
theorem dX6_happen_64 : decode cX6_happen 64 = .ok (.iconst 2, 1) := by decide +kernel
theorem dX6_happen_65 : decode cX6_happen 65 = .ok (.iaload, 1) := by decide +kernel
theorem dX6_happen_66 : decode cX6_happen 66 = .ok (.iconst 1, 1) := by decide +kernel
theorem dX6_happen_67 : decode cX6_happen 67 = .ok (.iadd, 1) := by decide +kernel
theorem dX6_happen_68 : decode cX6_happen 68 = .ok (.bipush 30, 2) := by decide +kernel
theorem dX6_happen_70 : decode cX6_happen 70 = .ok (.invokestatic 271, 3) := by decide +kernel
theorem dX6_happen_73 : decode cX6_happen 73 = .ok (.iastore, 1) := by decide +kernel
theorem dX6_happen_74 : decode cX6_happen 74 = .ok (.goto 7, 3) := by decide +kernel
theorem dX6_happen_77 : decode cX6_happen 77 = .ok (.aload_n 3, 1) := by decide +kernel
theorem dX6_happen_78 : decode cX6_happen 78 = .ok (.iconst 1, 1) := by decide +kernel
theorem dX6_happen_79 : decode cX6_happen 79 = .ok (.iconst 0, 1) := by decide +kernel
theorem dX6_happen_80 : decode cX6_happen 80 = .ok (.iastore, 1) := by decide +kernel
theorem dX6_happen_81 : decode cX6_happen 81 = .ok (.return_, 1) := by decide +kernel
theorem dX6_book_0 : decode cX6_book 0 = .ok (.aload_n 0, 1) := by decide +kernel
theorem dX6_book_1 : decode cX6_book 1 = .ok (.aload_n 0, 1) := by decide +kernel
theorem dX6_book_2 : decode cX6_book 2 = .ok (.getfield 30, 3) := by decide +kernel
theorem dX6_book_5 : decode cX6_book 5 = .ok (.iload_n 1, 1) := by decide +kernel
theorem dX6_book_6 : decode cX6_book 6 = .ok (.iload_n 2, 1) := by decide +kernel
theorem dX6_book_7 : decode cX6_book 7 = .ok (.invokevirtual 244, 3) := by decide +kernel
theorem dX6_book_10 : decode cX6_book 10 = .ok (.ireturn, 1) := by decide +kernel
theorem dX6_looked_0 : decode cX6_looked 0 = .ok (.iconst 0, 1) := by decide +kernel
theorem dX6_looked_1 : decode cX6_looked 1 = .ok (.istore_n 1, 1) := by decide +kernel
theorem dX6_looked_2 : decode cX6_looked 2 = .ok (.iload_n 1, 1) := by decide +kernel
theorem dX6_looked_3 : decode cX6_looked 3 = .ok (.aload_n 0, 1) := by decide +kernel
theorem dX6_looked_4 : decode cX6_looked 4 = .ok (.getfield 30, 3) := by decide +kernel
theorem dX6_looked_7 : decode cX6_looked 7 = .ok (.getfield 248, 3) := by decide +kernel
theorem dX6_looked_10 : decode cX6_looked 10 = .ok (.if_icmp .ge 36, 3) := by decide +kernel
theorem dX6_looked_13 : decode cX6_looked 13 = .ok (.aload_n 0, 1) := by decide +kernel
theorem dX6_looked_14 : decode cX6_looked 14 = .ok (.aload_n 0, 1) := by decide +kernel
theorem dX6_looked_15 : decode cX6_looked 15 = .ok (.getfield 30, 3) := by decide +kernel
theorem dX6_looked_18 : decode cX6_looked 18 = .ok (.getfield 260, 3) := by decide +kernel
theorem dX6_looked_21 : decode cX6_looked 21 = .ok (.iload_n 1, 1) := by decide +kernel
theorem dX6_looked_22 : decode cX6_looked 22 = .ok (.iaload, 1) := by decide +kernel
theorem dX6_looked_23 : decode cX6_looked 23 = .ok (.invokevirtual 276, 3) := by decide +kernel
theorem dX6_looked_26 : decode cX6_looked 26 = .ok (.aload_n 0, 1) := by decide +kernel
theorem dX6_looked_27 : decode cX6_looked 27 = .ok (.getfield 30, 3) := by decide +kernel
theorem dX6_looked_30 : decode cX6_looked 30 = .ok (.getfield 257, 3) := by decide +kernel
theorem dX6_looked_33 : decode cX6_looked 33 = .ok (.iload_n 1, 1) := by decide +kernel
theorem dX6_looked_34 : decode cX6_looked 34 = .ok (.iaload, 1) := by decide +kernel
theorem dX6_looked_35 : decode cX6_looked 35 = .ok (.if_icmp .eq 5, 3) := by decide +kernel
theorem dX6_looked_38 : decode cX6_looked 38 = .ok (.iload_n 1, 1) := by decide +kernel
theorem dX6_looked_39 : decode cX6_looked 39 = .ok (.ireturn, 1) := by decide +kernel
theorem dX6_looked_40 : decode cX6_looked 40 = .ok (.iinc 1 1, 3) := by decide +kernel
theorem dX6_looked_43 : decode cX6_looked 43 = .ok (.goto (-41), 3) := by decide +kernel
theorem dX6_looked_46 : decode cX6_looked 46 = .ok (.bipush (-5), 2) := by decide +kernel
theorem dX6_looked_48 : decode cX6_looked 48 = .ok (.ireturn, 1) := by decide +kernel
theorem dX6_judge_0 : decode cX6_judge 0 = .ok (.iload_n 1, 1) := by decide +kernel
theorem dX6_judge_1 : decode cX6_judge 1 = .ok (.bipush 6, 2) := by decide +kernel
theorem dX6_judge_3 : decode cX6_judge 3 = .ok (.invokestatic 96, 3) := by decide +kernel
theorem dX6_judge_6 : decode cX6_judge 6 = .ok (.ifCond .ne 5, 3) := by decide +kernel
theorem dX6_judge_9 : decode cX6_judge 9 = .ok (.iconst (-1), 1) := by decide +kernel
theorem dX6_judge_10 : decode cX6_judge 10 = .ok (.ireturn, 1) := by decide +kernel
theorem dX6_judge_11 : decode cX6_judge 11 = .ok (.aload_n 0, 1) := by decide +kernel
theorem dX6_judge_12 : decode cX6_judge 12 = .ok (.getfield 75, 3) := by decide +kernel
theorem dX6_judge_15 : decode cX6_judge 15 = .ok (.iload_n 1, 1) := by decide +kernel
theorem dX6_judge_16 : decode cX6_judge 16 = .ok (.aaload, 1) := by decide +kernel
theorem dX6_judge_17 : decode cX6_judge 17 = .ok (.astore_n 3, 1) := by decide +kernel
theorem dX6_judge_18 : decode cX6_judge 18 = .ok (.aload_n 3, 1) := by decide +kernel
theorem dX6_judge_19 : decode cX6_judge 19 = .ok (.getfield 279, 3) := by decide +kernel
theorem dX6_judge_22 : decode cX6_judge 22 = .ok (.iconst (-1), 1) := by decide +kernel
theorem dX6_judge_23 : decode cX6_judge 23 = .ok (.if_icmp .eq 14, 3) := by decide +kernel
theorem dX6_judge_26 : decode cX6_judge 26 = .ok (.aload_n 3, 1) := by decide +kernel
theorem dX6_judge_27 : decode cX6_judge 27 = .ok (.getfield 279, 3) := by decide +kernel
theorem dX6_judge_30 : decode cX6_judge 30 = .ok (.iconst 1, 1) := by decide +kernel
theorem dX6_judge_31 : decode cX6_judge 31 = .ok (.if_icmp .eq 6, 3) := by decide +kernel
theorem dX6_judge_34 : decode cX6_judge 34 = .ok (.bipush (-12), 2) := by decide +kernel
theorem dX6_judge_36 : decode cX6_judge 36 = .ok (.ireturn, 1) := by decide +kernel
theorem dX6_judge_37 : decode cX6_judge 37 = .ok (.aload_n 0, 1) := by decide +kernel
theorem dX6_judge_38 : decode cX6_judge 38 = .ok (.getfield 12, 3) := by decide +kernel
theorem dX6_judge_41 : decode cX6_judge 41 = .ok (.getfield 84, 3) := by decide +kernel
theorem dX6_judge_44 : decode cX6_judge 44 = .ok (.ifCond .ne 6, 3) := by decide +kernel
theorem dX6_judge_47 : decode cX6_judge 47 = .ok (.bipush (-5), 2) := by decide +kernel
theorem dX6_judge_49 : decode cX6_judge 49 = .ok (.ireturn, 1) := by decide +kernel
theorem dX6_judge_50 : decode cX6_judge 50 = .ok (.aload_n 3, 1) := by decide +kernel
theorem dX6_judge_51 : decode cX6_judge 51 = .ok (.iload_n 2, 1) := by decide +kernel
theorem dX6_judge_52 : decode cX6_judge 52 = .ok (.invokevirtual 282, 3) := by decide +kernel
theorem dX6_judge_55 : decode cX6_judge 55 = .ok (.ifCond .ne 6, 3) := by decide +kernel
theorem dX6_judge_58 : decode cX6_judge 58 = .ok (.bipush 100, 2) := by decide +kernel
theorem dX6_judge_60 : decode cX6_judge 60 = .ok (.ireturn, 1) := by decide +kernel
theorem dX6_judge_61 : decode cX6_judge 61 = .ok (.aload_n 0, 1) := by decide +kernel
theorem dX6_judge_62 : decode cX6_judge 62 = .ok (.aload_n 3, 1) := by decide +kernel
theorem dX6_judge_63 : decode cX6_judge 63 = .ok (.iload_n 2, 1) := by decide +kernel
theorem dX6_judge_64 : decode cX6_judge 64 = .ok (.invokevirtual 285, 3) := by decide +kernel
theorem dX6_judge_67 : decode cX6_judge 67 = .ok (.ireturn, 1) := by decide +kernel
theorem dX6_firstOtherEnd_0 : decode cX6_firstOtherEnd 0 = .ok (.aload_n 0, 1) := by decide +kernel
theorem dX6_firstOtherEnd_1 : decode cX6_firstOtherEnd 1 = .ok (.getfield 55, 3) := by decide +kernel
theorem dX6_firstOtherEnd_4 : decode cX6_firstOtherEnd 4 = .ok (.invokevirtual 208, 3) := by decide +kernel
theorem dX6_firstOtherEnd_7 : decode cX6_firstOtherEnd 7 = .ok (.iconst 0, 1) := by decide +kernel
theorem dX6_firstOtherEnd_8 : decode cX6_firstOtherEnd 8 = .ok (.istore_n 3, 1) := by decide +kernel
theorem dX6_firstOtherEnd_9 : decode cX6_firstOtherEnd 9 = .ok (.iload_n 3, 1) := by decide +kernel
theorem dX6_firstOtherEnd_10 : decode cX6_firstOtherEnd 10 = .ok (.aload_n 0, 1) := by decide +kernel
theorem dX6_firstOtherEnd_11 : decode cX6_firstOtherEnd 11 = .ok (.getfield 12, 3) := by decide +kernel
theorem dX6_firstOtherEnd_14 : decode cX6_firstOtherEnd 14 = .ok (.getfield 84, 3) := by decide +kernel
theorem dX6_firstOtherEnd_17 : decode cX6_firstOtherEnd 17 = .ok (.if_icmp .ge 77, 3) := by decide +kernel
theorem dX6_firstOtherEnd_20 : decode cX6_firstOtherEnd 20 = .ok (.aload_n 1, 1) := by decide +kernel
theorem dX6_firstOtherEnd_21 : decode cX6_firstOtherEnd 21 = .ok (.iload_n 2, 1) := by decide +kernel
theorem dX6_firstOtherEnd_22 : decode cX6_firstOtherEnd 22 = .ok (.iload_n 3, 1) := by decide +kernel
theorem dX6_firstOtherEnd_23 : decode cX6_firstOtherEnd 23 = .ok (.iadd, 1) := by decide +kernel
theorem dX6_firstOtherEnd_24 : decode cX6_firstOtherEnd 24 = .ok (.invokevirtual 282, 3) := by decide +kernel
theorem dX6_firstOtherEnd_27 : decode cX6_firstOtherEnd 27 = .ok (.ifCond .ne 8, 3) := by decide +kernel
theorem dX6_firstOtherEnd_30 : decode cX6_firstOtherEnd 30 = .ok (.bipush 100, 2) := by decide +kernel
theorem dX6_firstOtherEnd_32 : decode cX6_firstOtherEnd 32 = .ok (.iload_n 3, 1) := by decide +kernel
theorem dX6_firstOtherEnd_33 : decode cX6_firstOtherEnd 33 = .ok (.iadd, 1) := by decide +kernel
theorem dX6_firstOtherEnd_34 : decode cX6_firstOtherEnd 34 = .ok (.ireturn, 1) := by decide +kernel
theorem dX6_firstOtherEnd_35 : decode cX6_firstOtherEnd 35 = .ok (.aload_n 0, 1) := by decide +kernel
theorem dX6_firstOtherEnd_36 : decode cX6_firstOtherEnd 36 = .ok (.getfield 55, 3) := by decide +kernel
theorem dX6_firstOtherEnd_39 : decode cX6_firstOtherEnd 39 = .ok (.aload_n 0, 1) := by decide +kernel
theorem dX6_firstOtherEnd_40 : decode cX6_firstOtherEnd 40 = .ok (.getfield 12, 3) := by decide +kernel
theorem dX6_firstOtherEnd_43 : decode cX6_firstOtherEnd 43 = .ok (.getfield 99, 3) := by decide +kernel
theorem dX6_firstOtherEnd_46 : decode cX6_firstOtherEnd 46 = .ok (.aload_n 0, 1) := by decide +kernel
theorem dX6_firstOtherEnd_47 : decode cX6_firstOtherEnd 47 = .ok (.getfield 12, 3) := by decide +kernel
theorem dX6_firstOtherEnd_50 : decode cX6_firstOtherEnd 50 = .ok (.getfield 150, 3) := by decide +kernel
theorem dX6_firstOtherEnd_53 : decode cX6_firstOtherEnd 53 = .ok (.iload_n 3, 1) := by decide +kernel
theorem dX6_firstOtherEnd_54 : decode cX6_firstOtherEnd 54 = .ok (.iaload, 1) := by decide +kernel
theorem dX6_firstOtherEnd_55 : decode cX6_firstOtherEnd 55 = .ok (.aaload, 1) := by decide +kernel
theorem dX6_firstOtherEnd_56 : decode cX6_firstOtherEnd 56 = .ok (.aload_n 0, 1) := by decide +kernel
theorem dX6_firstOtherEnd_57 : decode cX6_firstOtherEnd 57 = .ok (.getfield 12, 3) := by decide +kernel
theorem dX6_firstOtherEnd_60 : decode cX6_firstOtherEnd 60 = .ok (.getfield 107, 3) := by decide +kernel
theorem dX6_firstOtherEnd_63 : decode cX6_firstOtherEnd 63 = .ok (.invokevirtual 211, 3) := by decide +kernel
theorem dX6_firstOtherEnd_66 : decode cX6_firstOtherEnd 66 = .ok (.aload_n 1, 1) := by decide +kernel
theorem dX6_firstOtherEnd_67 : decode cX6_firstOtherEnd 67 = .ok (.getfield 289, 3) := by decide +kernel
theorem dX6_firstOtherEnd_70 : decode cX6_firstOtherEnd 70 = .ok (.iload_n 2, 1) := by decide +kernel
theorem dX6_firstOtherEnd_71 : decode cX6_firstOtherEnd 71 = .ok (.iload_n 3, 1) := by decide +kernel
theorem dX6_firstOtherEnd_72 : decode cX6_firstOtherEnd 72 = .ok (.iadd, 1) := by decide +kernel
theorem dX6_firstOtherEnd_73 : decode cX6_firstOtherEnd 73 = .ok (.laload, 1) := by decide +kernel
theorem dX6_firstOtherEnd_74 : decode cX6_firstOtherEnd 74 = .ok (.aload_n 0, 1) := by decide +kernel
theorem dX6_firstOtherEnd_75 : decode cX6_firstOtherEnd 75 = .ok (.getfield 55, 3) := by decide +kernel
theorem dX6_firstOtherEnd_78 : decode cX6_firstOtherEnd 78 = .ok (.getfield 175, 3) := by decide +kernel
theorem dX6_firstOtherEnd_81 : decode cX6_firstOtherEnd 81 = .ok (.i2l, 1) := by decide +kernel
theorem dX6_firstOtherEnd_82 : decode cX6_firstOtherEnd 82 = .ok (.lcmp, 1) := by decide +kernel
theorem dX6_firstOtherEnd_83 : decode cX6_firstOtherEnd 83 = .ok (.ifCond .eq 5, 3) := by decide +kernel
theorem dX6_firstOtherEnd_86 : decode cX6_firstOtherEnd 86 = .ok (.iload_n 3, 1) := by decide +kernel
theorem dX6_firstOtherEnd_87 : decode cX6_firstOtherEnd 87 = .ok (.ireturn, 1) := by decide +kernel
theorem dX6_firstOtherEnd_88 : decode cX6_firstOtherEnd 88 = .ok (.iinc 3 1, 3) := by decide +kernel
theorem dX6_firstOtherEnd_91 : decode cX6_firstOtherEnd 91 = .ok (.goto (-82), 3) := by decide +kernel
theorem dX6_firstOtherEnd_94 : decode cX6_firstOtherEnd 94 = .ok (.bipush (-5), 2) := by decide +kernel
theorem dX6_firstOtherEnd_96 : decode cX6_firstOtherEnd 96 = .ok (.ireturn, 1) := by decide +kernel
theorem dX6_image_0 : decode cX6_image 0 = .ok (.aload_n 0, 1) := by decide +kernel
theorem dX6_image_1 : decode cX6_image 1 = .ok (.getfield 33, 3) := by decide +kernel
theorem dX6_image_4 : decode cX6_image 4 = .ok (.aload_n 0, 1) := by decide +kernel
theorem dX6_image_5 : decode cX6_image 5 = .ok (.getfield 12, 3) := by decide +kernel
theorem dX6_image_8 : decode cX6_image 8 = .ok (.invokevirtual 234, 3) := by decide +kernel
theorem dX6_image_11 : decode cX6_image 11 = .ok (.aload_n 0, 1) := by decide +kernel
theorem dX6_image_12 : decode cX6_image 12 = .ok (.getfield 36, 3) := by decide +kernel
theorem dX6_image_15 : decode cX6_image 15 = .ok (.aload_n 0, 1) := by decide +kernel
theorem dX6_image_16 : decode cX6_image 16 = .ok (.getfield 23, 3) := by decide +kernel
theorem dX6_image_19 : decode cX6_image 19 = .ok (.invokevirtual 293, 3) := by decide +kernel
theorem dX6_image_22 : decode cX6_image 22 = .ok (.aload_n 0, 1) := by decide +kernel
theorem dX6_image_23 : decode cX6_image 23 = .ok (.getfield 39, 3) := by decide +kernel
theorem dX6_image_26 : decode cX6_image 26 = .ok (.aload_n 0, 1) := by decide +kernel
theorem dX6_image_27 : decode cX6_image 27 = .ok (.getfield 27, 3) := by decide +kernel
theorem dX6_image_30 : decode cX6_image 30 = .ok (.invokevirtual 293, 3) := by decide +kernel
theorem dX6_image_33 : decode cX6_image 33 = .ok (.aload_n 0, 1) := by decide +kernel
theorem dX6_image_34 : decode cX6_image 34 = .ok (.getfield 42, 3) := by decide +kernel
theorem dX6_image_37 : decode cX6_image 37 = .ok (.aload_n 0, 1) := by decide +kernel
theorem dX6_image_38 : decode cX6_image 38 = .ok (.getfield 30, 3) := by decide +kernel
theorem dX6_image_41 : decode cX6_image 41 = .ok (.invokevirtual 293, 3) := by decide +kernel
theorem dX6_image_44 : decode cX6_image 44 = .ok (.aload_n 0, 1) := by decide +kernel
theorem dX6_image_45 : decode cX6_image 45 = .ok (.iconst 1, 1) := by decide +kernel
theorem dX6_image_46 : decode cX6_image 46 = .ok (.putfield 296, 3) := by decide +kernel
theorem dX6_image_49 : decode cX6_image 49 = .ok (.aload_n 0, 1) := by decide +kernel
theorem dX6_image_50 : decode cX6_image 50 = .ok (.getfield 12, 3) := by decide +kernel
theorem dX6_image_53 : decode cX6_image 53 = .ok (.getfield 84, 3) := by decide +kernel
theorem dX6_image_56 : decode cX6_image 56 = .ok (.ireturn, 1) := by decide +kernel
theorem dX6_undo_0 : decode cX6_undo 0 = .ok (.aload_n 0, 1) := by decide +kernel
theorem dX6_undo_1 : decode cX6_undo 1 = .ok (.getfield 296, 3) := by decide +kernel
theorem dX6_undo_4 : decode cX6_undo 4 = .ok (.ifCond .ne 6, 3) := by decide +kernel
theorem dX6_undo_7 : decode cX6_undo 7 = .ok (.bipush (-3), 2) := by decide +kernel
theorem dX6_undo_9 : decode cX6_undo 9 = .ok (.ireturn, 1) := by decide +kernel
theorem dX6_undo_10 : decode cX6_undo 10 = .ok (.aload_n 0, 1) := by decide +kernel
theorem dX6_undo_11 : decode cX6_undo 11 = .ok (.getfield 12, 3) := by decide +kernel
theorem dX6_undo_14 : decode cX6_undo 14 = .ok (.aload_n 0, 1) := by decide +kernel
theorem dX6_undo_15 : decode cX6_undo 15 = .ok (.getfield 33, 3) := by decide +kernel
theorem dX6_undo_18 : decode cX6_undo 18 = .ok (.invokevirtual 234, 3) := by decide +kernel
theorem dX6_undo_21 : decode cX6_undo 21 = .ok (.aload_n 0, 1) := by decide +kernel
theorem dX6_undo_22 : decode cX6_undo 22 = .ok (.getfield 23, 3) := by decide +kernel
theorem dX6_undo_25 : decode cX6_undo 25 = .ok (.aload_n 0, 1) := by decide +kernel
theorem dX6_undo_26 : decode cX6_undo 26 = .ok (.getfield 36, 3) := by decide +kernel
theorem dX6_undo_29 : decode cX6_undo 29 = .ok (.invokevirtual 293, 3) := by decide +kernel
theorem dX6_undo_32 : decode cX6_undo 32 = .ok (.aload_n 0, 1) := by decide +kernel
theorem dX6_undo_33 : decode cX6_undo 33 = .ok (.getfield 27, 3) := by decide +kernel
theorem dX6_undo_36 : decode cX6_undo 36 = .ok (.aload_n 0, 1) := by decide +kernel
theorem dX6_undo_37 : decode cX6_undo 37 = .ok (.getfield 39, 3) := by decide +kernel
theorem dX6_undo_40 : decode cX6_undo 40 = .ok (.invokevirtual 293, 3) := by decide +kernel
theorem dX6_undo_43 : decode cX6_undo 43 = .ok (.aload_n 0, 1) := by decide +kernel
theorem dX6_undo_44 : decode cX6_undo 44 = .ok (.getfield 30, 3) := by decide +kernel
theorem dX6_undo_47 : decode cX6_undo 47 = .ok (.aload_n 0, 1) := by decide +kernel
theorem dX6_undo_48 : decode cX6_undo 48 = .ok (.getfield 42, 3) := by decide +kernel
theorem dX6_undo_51 : decode cX6_undo 51 = .ok (.invokevirtual 293, 3) := by decide +kernel
theorem dX6_undo_54 : decode cX6_undo 54 = .ok (.aload_n 0, 1) := by decide +kernel
theorem dX6_undo_55 : decode cX6_undo 55 = .ok (.getfield 12, 3) := by decide +kernel
theorem dX6_undo_58 : decode cX6_undo 58 = .ok (.getfield 84, 3) := by decide +kernel
theorem dX6_undo_61 : decode cX6_undo 61 = .ok (.ireturn, 1) := by decide +kernel
theorem dX6_count_0 : decode cX6_count 0 = .ok (.iload_n 1, 1) := by decide +kernel
theorem dX6_count_1 : decode cX6_count 1 = .ok (.tableswitch 75 0 4 #[35, 43, 51, 59, 67], 35) := by decide +kernel
theorem dX6_count_36 : decode cX6_count 36 = .ok (.aload_n 0, 1) := by decide +kernel
theorem dX6_count_37 : decode cX6_count 37 = .ok (.getfield 12, 3) := by decide +kernel
theorem dX6_count_40 : decode cX6_count 40 = .ok (.getfield 84, 3) := by decide +kernel
theorem dX6_count_43 : decode cX6_count 43 = .ok (.ireturn, 1) := by decide +kernel
theorem dX6_count_44 : decode cX6_count 44 = .ok (.aload_n 0, 1) := by decide +kernel
theorem dX6_count_45 : decode cX6_count 45 = .ok (.getfield 23, 3) := by decide +kernel
theorem dX6_count_48 : decode cX6_count 48 = .ok (.getfield 248, 3) := by decide +kernel
theorem dX6_count_51 : decode cX6_count 51 = .ok (.ireturn, 1) := by decide +kernel
theorem dX6_count_52 : decode cX6_count 52 = .ok (.aload_n 0, 1) := by decide +kernel
theorem dX6_count_53 : decode cX6_count 53 = .ok (.getfield 27, 3) := by decide +kernel
theorem dX6_count_56 : decode cX6_count 56 = .ok (.getfield 248, 3) := by decide +kernel
theorem dX6_count_59 : decode cX6_count 59 = .ok (.ireturn, 1) := by decide +kernel
theorem dX6_count_60 : decode cX6_count 60 = .ok (.aload_n 0, 1) := by decide +kernel
theorem dX6_count_61 : decode cX6_count 61 = .ok (.getfield 30, 3) := by decide +kernel
theorem dX6_count_64 : decode cX6_count 64 = .ok (.getfield 248, 3) := by decide +kernel
theorem dX6_count_67 : decode cX6_count 67 = .ok (.ireturn, 1) := by decide +kernel
theorem dX6_count_68 : decode cX6_count 68 = .ok (.aload_n 0, 1) := by decide +kernel
theorem dX6_count_69 : decode cX6_count 69 = .ok (.getfield 69, 3) := by decide +kernel
theorem dX6_count_72 : decode cX6_count 72 = .ok (.getfield 116, 3) := by decide +kernel
theorem dX6_count_75 : decode cX6_count 75 = .ok (.ireturn, 1) := by decide +kernel
theorem dX6_count_76 : decode cX6_count 76 = .ok (.bipush (-2), 2) := by decide +kernel
theorem dX6_count_78 : decode cX6_count 78 = .ok (.ireturn, 1) := by decide +kernel
theorem dX6_tape_0 : decode cX6_tape 0 = .ok (.iload_n 1, 1) := by decide +kernel
theorem dX6_tape_1 : decode cX6_tape 1 = .ok (.bipush 6, 2) := by decide +kernel
theorem dX6_tape_3 : decode cX6_tape 3 = .ok (.invokestatic 96, 3) := by decide +kernel
theorem dX6_tape_6 : decode cX6_tape 6 = .ok (.ifCond .ne 5, 3) := by decide +kernel
theorem dX6_tape_9 : decode cX6_tape 9 = .ok (.iconst (-1), 1) := by decide +kernel
theorem dX6_tape_10 : decode cX6_tape 10 = .ok (.ireturn, 1) := by decide +kernel
theorem dX6_tape_11 : decode cX6_tape 11 = .ok (.iload_n 2, 1) := by decide +kernel
theorem dX6_tape_12 : decode cX6_tape 12 = .ok (.iconst (-1), 1) := by decide +kernel
theorem dX6_tape_13 : decode cX6_tape 13 = .ok (.if_icmp .ne 16, 3) := by decide +kernel
theorem dX6_tape_16 : decode cX6_tape 16 = .ok (.aload_n 0, 1) := by decide +kernel
theorem dX6_tape_17 : decode cX6_tape 17 = .ok (.getfield 75, 3) := by decide +kernel
theorem dX6_tape_20 : decode cX6_tape 20 = .ok (.iload_n 1, 1) := by decide +kernel
theorem dX6_tape_21 : decode cX6_tape 21 = .ok (.aaload, 1) := by decide +kernel
theorem dX6_tape_22 : decode cX6_tape 22 = .ok (.iconst (-1), 1) := by decide +kernel
theorem dX6_tape_23 : decode cX6_tape 23 = .ok (.iconst 0, 1) := by decide +kernel
theorem dX6_tape_24 : decode cX6_tape 24 = .ok (.invokevirtual 300, 3) := by decide +kernel
theorem dX6_tape_27 : decode cX6_tape 27 = .ok (.iconst 1, 1) := by decide +kernel
theorem dX6_tape_28 : decode cX6_tape 28 = .ok (.ireturn, 1) := by decide +kernel
theorem dX6_tape_29 : decode cX6_tape 29 = .ok (.iload_n 2, 1) := by decide +kernel
theorem dX6_tape_30 : decode cX6_tape 30 = .ok (.iconst 5, 1) := by decide +kernel
theorem dX6_tape_31 : decode cX6_tape 31 = .ok (.invokestatic 96, 3) := by decide +kernel
theorem dX6_tape_34 : decode cX6_tape 34 = .ok (.ifCond .eq 9, 3) := by decide +kernel
theorem dX6_tape_37 : decode cX6_tape 37 = .ok (.iload_n 3, 1) := by decide +kernel
theorem dX6_tape_38 : decode cX6_tape 38 = .ok (.bipush 60, 2) := by decide +kernel
theorem dX6_tape_40 : decode cX6_tape 40 = .ok (.if_icmp .le 6, 3) := by decide +kernel
theorem dX6_tape_43 : decode cX6_tape 43 = .ok (.bipush (-2), 2) := by decide +kernel
theorem dX6_tape_45 : decode cX6_tape 45 = .ok (.ireturn, 1) := by decide +kernel
theorem dX6_tape_46 : decode cX6_tape 46 = .ok (.iload_n 3, 1) := by decide +kernel
theorem dX6_tape_47 : decode cX6_tape 47 = .ok (.ifCond .ge 6, 3) := by decide +kernel
theorem dX6_tape_50 : decode cX6_tape 50 = .ok (.bipush (-14), 2) := by decide +kernel
theorem dX6_tape_52 : decode cX6_tape 52 = .ok (.ireturn, 1) := by decide +kernel
theorem dX6_tape_53 : decode cX6_tape 53 = .ok (.aload_n 0, 1) := by decide +kernel
theorem dX6_tape_54 : decode cX6_tape 54 = .ok (.getfield 75, 3) := by decide +kernel
theorem dX6_tape_57 : decode cX6_tape 57 = .ok (.iload_n 1, 1) := by decide +kernel
theorem dX6_tape_58 : decode cX6_tape 58 = .ok (.aaload, 1) := by decide +kernel
theorem dX6_tape_59 : decode cX6_tape 59 = .ok (.iload_n 2, 1) := by decide +kernel
theorem dX6_tape_60 : decode cX6_tape 60 = .ok (.iload_n 3, 1) := by decide +kernel
theorem dX6_tape_61 : decode cX6_tape 61 = .ok (.invokevirtual 300, 3) := by decide +kernel
theorem dX6_tape_64 : decode cX6_tape 64 = .ok (.iconst 1, 1) := by decide +kernel
theorem dX6_tape_65 : decode cX6_tape 65 = .ok (.ireturn, 1) := by decide +kernel
theorem dX6_item_0 : decode cX6_item 0 = .ok (.iload_n 1, 1) := by decide +kernel
theorem dX6_item_1 : decode cX6_item 1 = .ok (.bipush 6, 2) := by decide +kernel
theorem dX6_item_3 : decode cX6_item 3 = .ok (.invokestatic 96, 3) := by decide +kernel
theorem dX6_item_6 : decode cX6_item 6 = .ok (.ifCond .ne 5, 3) := by decide +kernel
theorem dX6_item_9 : decode cX6_item 9 = .ok (.iconst (-1), 1) := by decide +kernel
theorem dX6_item_10 : decode cX6_item 10 = .ok (.ireturn, 1) := by decide +kernel
theorem dX6_item_11 : decode cX6_item 11 = .ok (.aload_n 0, 1) := by decide +kernel
theorem dX6_item_12 : decode cX6_item 12 = .ok (.getfield 75, 3) := by decide +kernel
theorem dX6_item_15 : decode cX6_item 15 = .ok (.iload_n 1, 1) := by decide +kernel
theorem dX6_item_16 : decode cX6_item 16 = .ok (.aaload, 1) := by decide +kernel
theorem dX6_item_17 : decode cX6_item 17 = .ok (.astore 5, 2) := by decide +kernel
theorem dX6_item_19 : decode cX6_item 19 = .ok (.aload 5, 2) := by decide +kernel
theorem dX6_item_21 : decode cX6_item 21 = .ok (.getfield 279, 3) := by decide +kernel
theorem dX6_item_24 : decode cX6_item 24 = .ok (.iconst (-1), 1) := by decide +kernel
theorem dX6_item_25 : decode cX6_item 25 = .ok (.if_icmp .ne 6, 3) := by decide +kernel
theorem dX6_item_28 : decode cX6_item 28 = .ok (.bipush (-11), 2) := by decide +kernel
theorem dX6_item_30 : decode cX6_item 30 = .ok (.ireturn, 1) := by decide +kernel
theorem dX6_item_31 : decode cX6_item 31 = .ok (.aload 5, 2) := by decide +kernel
theorem dX6_item_33 : decode cX6_item 33 = .ok (.iload_n 2, 1) := by decide +kernel
theorem dX6_item_34 : decode cX6_item 34 = .ok (.invokevirtual 282, 3) := by decide +kernel
theorem dX6_item_37 : decode cX6_item 37 = .ok (.ifCond .ne 6, 3) := by decide +kernel
theorem dX6_item_40 : decode cX6_item 40 = .ok (.bipush (-13), 2) := by decide +kernel
theorem dX6_item_42 : decode cX6_item 42 = .ok (.ireturn, 1) := by decide +kernel
theorem dX6_item_43 : decode cX6_item 43 = .ok (.aload 5, 2) := by decide +kernel
theorem dX6_item_45 : decode cX6_item 45 = .ok (.getfield 289, 3) := by decide +kernel
theorem dX6_item_48 : decode cX6_item 48 = .ok (.iload_n 2, 1) := by decide +kernel
theorem dX6_item_49 : decode cX6_item 49 = .ok (.aload 5, 2) := by decide +kernel
theorem dX6_item_51 : decode cX6_item 51 = .ok (.lload_n 3, 1) := by decide +kernel
theorem dX6_item_52 : decode cX6_item 52 = .ok (.invokevirtual 303, 3) := by decide +kernel
theorem dX6_item_55 : decode cX6_item 55 = .ok (.lastore, 1) := by decide +kernel
theorem dX6_item_56 : decode cX6_item 56 = .ok (.iconst 1, 1) := by decide +kernel
theorem dX6_item_57 : decode cX6_item 57 = .ok (.ireturn, 1) := by decide +kernel
theorem dX6_peek_0 : decode cX6_peek 0 = .ok (.iload_n 1, 1) := by decide +kernel
theorem dX6_peek_1 : decode cX6_peek 1 = .ok (.bipush 6, 2) := by decide +kernel
theorem dX6_peek_3 : decode cX6_peek 3 = .ok (.invokestatic 96, 3) := by decide +kernel
theorem dX6_peek_6 : decode cX6_peek 6 = .ok (.ifCond .eq 16, 3) := by decide +kernel
theorem dX6_peek_9 : decode cX6_peek 9 = .ok (.aload_n 0, 1) := by decide +kernel
theorem dX6_peek_10 : decode cX6_peek 10 = .ok (.getfield 75, 3) := by decide +kernel
theorem dX6_peek_13 : decode cX6_peek 13 = .ok (.iload_n 1, 1) := by decide +kernel
theorem dX6_peek_14 : decode cX6_peek 14 = .ok (.aaload, 1) := by decide +kernel
theorem dX6_peek_15 : decode cX6_peek 15 = .ok (.iload_n 2, 1) := by decide +kernel
theorem dX6_peek_16 : decode cX6_peek 16 = .ok (.invokevirtual 282, 3) := by decide +kernel
theorem dX6_peek_19 : decode cX6_peek 19 = .ok (.ifCond .ne 7, 3) := by decide +kernel
theorem dX6_peek_22 : decode cX6_peek 22 = .ok (.ldc2_w 170, 3) := by decide +kernel
theorem dX6_peek_25 : decode cX6_peek 25 = .ok (.lreturn, 1) := by decide +kernel
theorem dX6_peek_26 : decode cX6_peek 26 = .ok (.aload_n 0, 1) := by decide +kernel
theorem dX6_peek_27 : decode cX6_peek 27 = .ok (.getfield 75, 3) := by decide +kernel
theorem dX6_peek_30 : decode cX6_peek 30 = .ok (.iload_n 1, 1) := by decide +kernel
theorem dX6_peek_31 : decode cX6_peek 31 = .ok (.aaload, 1) := by decide +kernel
theorem dX6_peek_32 : decode cX6_peek 32 = .ok (.getfield 289, 3) := by decide +kernel
theorem dX6_peek_35 : decode cX6_peek 35 = .ok (.iload_n 2, 1) := by decide +kernel
theorem dX6_peek_36 : decode cX6_peek 36 = .ok (.laload, 1) := by decide +kernel
theorem dX6_peek_37 : decode cX6_peek 37 = .ok (.lreturn, 1) := by decide +kernel
theorem dX6_shift_0 : decode cX6_shift 0 = .ok (.iload_n 1, 1) := by decide +kernel
theorem dX6_shift_1 : decode cX6_shift 1 = .ok (.bipush 6, 2) := by decide +kernel
theorem dX6_shift_3 : decode cX6_shift 3 = .ok (.invokestatic 96, 3) := by decide +kernel
theorem dX6_shift_6 : decode cX6_shift 6 = .ok (.ifCond .eq 12, 3) := by decide +kernel
theorem dX6_shift_9 : decode cX6_shift 9 = .ok (.iload_n 3, 1) := by decide +kernel
theorem dX6_shift_10 : decode cX6_shift 10 = .ok (.bipush 6, 2) := by decide +kernel
theorem dX6_shift_12 : decode cX6_shift 12 = .ok (.invokestatic 96, 3) := by decide +kernel
theorem dX6_shift_15 : decode cX6_shift 15 = .ok (.ifCond .ne 5, 3) := by decide +kernel
theorem dX6_shift_18 : decode cX6_shift 18 = .ok (.iconst (-1), 1) := by decide +kernel
theorem dX6_shift_19 : decode cX6_shift 19 = .ok (.ireturn, 1) := by decide +kernel
theorem dX6_shift_20 : decode cX6_shift 20 = .ok (.aload_n 0, 1) := by decide +kernel
theorem dX6_shift_21 : decode cX6_shift 21 = .ok (.getfield 75, 3) := by decide +kernel
theorem dX6_shift_24 : decode cX6_shift 24 = .ok (.iload_n 1, 1) := by decide +kernel
theorem dX6_shift_25 : decode cX6_shift 25 = .ok (.aaload, 1) := by decide +kernel
theorem dX6_shift_26 : decode cX6_shift 26 = .ok (.astore 6, 2) := by decide +kernel
theorem dX6_shift_28 : decode cX6_shift 28 = .ok (.aload_n 0, 1) := by decide +kernel
theorem dX6_shift_29 : decode cX6_shift 29 = .ok (.getfield 75, 3) := by decide +kernel
theorem dX6_shift_32 : decode cX6_shift 32 = .ok (.iload_n 3, 1) := by decide +kernel
theorem dX6_shift_33 : decode cX6_shift 33 = .ok (.aaload, 1) := by decide +kernel
theorem dX6_shift_34 : decode cX6_shift 34 = .ok (.astore 7, 2) := by decide +kernel
theorem dX6_shift_36 : decode cX6_shift 36 = .ok (.aload 6, 2) := by decide +kernel
theorem dX6_shift_38 : decode cX6_shift 38 = .ok (.getfield 279, 3) := by decide +kernel
theorem dX6_shift_41 : decode cX6_shift 41 = .ok (.iconst (-1), 1) := by decide +kernel
theorem dX6_shift_42 : decode cX6_shift 42 = .ok (.if_icmp .eq 12, 3) := by decide +kernel
theorem dX6_shift_45 : decode cX6_shift 45 = .ok (.aload 7, 2) := by decide +kernel
theorem dX6_shift_47 : decode cX6_shift 47 = .ok (.getfield 279, 3) := by decide +kernel
theorem dX6_shift_50 : decode cX6_shift 50 = .ok (.iconst (-1), 1) := by decide +kernel
theorem dX6_shift_51 : decode cX6_shift 51 = .ok (.if_icmp .ne 6, 3) := by decide +kernel
theorem dX6_shift_54 : decode cX6_shift 54 = .ok (.bipush (-11), 2) := by decide +kernel
theorem dX6_shift_56 : decode cX6_shift 56 = .ok (.ireturn, 1) := by decide +kernel
theorem dX6_shift_57 : decode cX6_shift 57 = .ok (.aload 6, 2) := by decide +kernel
theorem dX6_shift_59 : decode cX6_shift 59 = .ok (.getfield 279, 3) := by decide +kernel
theorem dX6_shift_62 : decode cX6_shift 62 = .ok (.aload 7, 2) := by decide +kernel
theorem dX6_shift_64 : decode cX6_shift 64 = .ok (.getfield 279, 3) := by decide +kernel
theorem dX6_shift_67 : decode cX6_shift 67 = .ok (.if_icmp .eq 6, 3) := by decide +kernel
theorem dX6_shift_70 : decode cX6_shift 70 = .ok (.bipush (-12), 2) := by decide +kernel
theorem dX6_shift_72 : decode cX6_shift 72 = .ok (.ireturn, 1) := by decide +kernel
theorem dX6_shift_73 : decode cX6_shift 73 = .ok (.aload 6, 2) := by decide +kernel
theorem dX6_shift_75 : decode cX6_shift 75 = .ok (.iload_n 2, 1) := by decide +kernel
theorem dX6_shift_76 : decode cX6_shift 76 = .ok (.iload 5, 2) := by decide +kernel
theorem dX6_shift_78 : decode cX6_shift 78 = .ok (.invokevirtual 307, 3) := by decide +kernel
theorem dX6_shift_81 : decode cX6_shift 81 = .ok (.ifCond .eq 15, 3) := by decide +kernel
theorem dX6_shift_84 : decode cX6_shift 84 = .ok (.aload 7, 2) := by decide +kernel
theorem dX6_shift_86 : decode cX6_shift 86 = .ok (.iload 4, 2) := by decide +kernel
theorem dX6_shift_88 : decode cX6_shift 88 = .ok (.iload 5, 2) := by decide +kernel
theorem dX6_shift_90 : decode cX6_shift 90 = .ok (.invokevirtual 307, 3) := by decide +kernel
theorem dX6_shift_93 : decode cX6_shift 93 = .ok (.ifCond .ne 6, 3) := by decide +kernel
theorem dX6_shift_96 : decode cX6_shift 96 = .ok (.bipush (-13), 2) := by decide +kernel
theorem dX6_shift_98 : decode cX6_shift 98 = .ok (.ireturn, 1) := by decide +kernel
theorem dX6_shift_99 : decode cX6_shift 99 = .ok (.aload 6, 2) := by decide +kernel
theorem dX6_shift_101 : decode cX6_shift 101 = .ok (.getfield 289, 3) := by decide +kernel
theorem dX6_shift_104 : decode cX6_shift 104 = .ok (.iload_n 2, 1) := by decide +kernel
theorem dX6_shift_105 : decode cX6_shift 105 = .ok (.aload 7, 2) := by decide +kernel
theorem dX6_shift_107 : decode cX6_shift 107 = .ok (.getfield 289, 3) := by decide +kernel
theorem dX6_shift_110 : decode cX6_shift 110 = .ok (.iload 4, 2) := by decide +kernel
theorem dX6_shift_112 : decode cX6_shift 112 = .ok (.iload 5, 2) := by decide +kernel
theorem dX6_shift_114 : decode cX6_shift 114 = .ok (.invokestatic 310, 3) := by decide +kernel
theorem dX6_shift_117 : decode cX6_shift 117 = .ok (.iload 5, 2) := by decide +kernel
theorem dX6_shift_119 : decode cX6_shift 119 = .ok (.ireturn, 1) := by decide +kernel
theorem dX6_isBelow_0 : decode cX6_isBelow 0 = .ok (.iload_n 0, 1) := by decide +kernel
theorem dX6_isBelow_1 : decode cX6_isBelow 1 = .ok (.ifCond .lt 12, 3) := by decide +kernel
theorem dX6_isBelow_4 : decode cX6_isBelow 4 = .ok (.iload_n 0, 1) := by decide +kernel
theorem dX6_isBelow_5 : decode cX6_isBelow 5 = .ok (.iload_n 1, 1) := by decide +kernel
theorem dX6_isBelow_6 : decode cX6_isBelow 6 = .ok (.if_icmp .ge 7, 3) := by decide +kernel
theorem dX6_isBelow_9 : decode cX6_isBelow 9 = .ok (.iconst 1, 1) := by decide +kernel
theorem dX6_isBelow_10 : decode cX6_isBelow 10 = .ok (.goto 4, 3) := by decide +kernel
theorem dX6_isBelow_13 : decode cX6_isBelow 13 = .ok (.iconst 0, 1) := by decide +kernel
theorem dX6_isBelow_14 : decode cX6_isBelow 14 = .ok (.ireturn, 1) := by decide +kernel
theorem dX6_isWithin_0 : decode cX6_isWithin 0 = .ok (.iload_n 0, 1) := by decide +kernel
theorem dX6_isWithin_1 : decode cX6_isWithin 1 = .ok (.ifCond .lt 16, 3) := by decide +kernel
theorem dX6_isWithin_4 : decode cX6_isWithin 4 = .ok (.iload_n 0, 1) := by decide +kernel
theorem dX6_isWithin_5 : decode cX6_isWithin 5 = .ok (.getstatic 316, 3) := by decide +kernel
theorem dX6_isWithin_8 : decode cX6_isWithin 8 = .ok (.iload_n 1, 1) := by decide +kernel
theorem dX6_isWithin_9 : decode cX6_isWithin 9 = .ok (.iaload, 1) := by decide +kernel
theorem dX6_isWithin_10 : decode cX6_isWithin 10 = .ok (.if_icmp .gt 7, 3) := by decide +kernel
theorem dX6_isWithin_13 : decode cX6_isWithin 13 = .ok (.iconst 1, 1) := by decide +kernel
theorem dX6_isWithin_14 : decode cX6_isWithin 14 = .ok (.goto 4, 3) := by decide +kernel
theorem dX6_isWithin_17 : decode cX6_isWithin 17 = .ok (.iconst 0, 1) := by decide +kernel
theorem dX6_isWithin_18 : decode cX6_isWithin 18 = .ok (.ireturn, 1) := by decide +kernel
theorem dX6_isGoal_0 : decode cX6_isGoal 0 = .ok (.iload_n 0, 1) := by decide +kernel
theorem dX6_isGoal_1 : decode cX6_isGoal 1 = .ok (.iconst 3, 1) := by decide +kernel
theorem dX6_isGoal_2 : decode cX6_isGoal 2 = .ok (.invokestatic 96, 3) := by decide +kernel
theorem dX6_isGoal_5 : decode cX6_isGoal 5 = .ok (.ifCond .eq 15, 3) := by decide +kernel
theorem dX6_isGoal_8 : decode cX6_isGoal 8 = .ok (.iload_n 1, 1) := by decide +kernel
theorem dX6_isGoal_9 : decode cX6_isGoal 9 = .ok (.iconst 3, 1) := by decide +kernel
theorem dX6_isGoal_10 : decode cX6_isGoal 10 = .ok (.invokestatic 96, 3) := by decide +kernel
theorem dX6_isGoal_13 : decode cX6_isGoal 13 = .ok (.ifCond .eq 7, 3) := by decide +kernel
theorem dX6_isGoal_16 : decode cX6_isGoal 16 = .ok (.iconst 1, 1) := by decide +kernel
theorem dX6_isGoal_17 : decode cX6_isGoal 17 = .ok (.goto 4, 3) := by decide +kernel
theorem dX6_isGoal_20 : decode cX6_isGoal 20 = .ok (.iconst 0, 1) := by decide +kernel
theorem dX6_isGoal_21 : decode cX6_isGoal 21 = .ok (.ireturn, 1) := by decide +kernel
theorem dX6_isPair_0 : decode cX6_isPair 0 = .ok (.iload_n 1, 1) := by decide +kernel
theorem dX6_isPair_1 : decode cX6_isPair 1 = .ok (.ifCond .lt 20, 3) := by decide +kernel
theorem dX6_isPair_4 : decode cX6_isPair 4 = .ok (.iload_n 1, 1) := by decide +kernel
theorem dX6_isPair_5 : decode cX6_isPair 5 = .ok (.aload_n 0, 1) := by decide +kernel
theorem dX6_isPair_6 : decode cX6_isPair 6 = .ok (.getfield 12, 3) := by decide +kernel

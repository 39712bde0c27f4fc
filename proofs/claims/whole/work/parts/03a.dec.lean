theorem dJ6_signum_0f7a4_0 : decode cJ6_signum_0f7a4 0 = .ok (.iload_n 0, 1) := by decide +kernel
theorem dJ6_signum_0f7a4_1 : decode cJ6_signum_0f7a4 1 = .ok (.bipush 31, 2) := by decide +kernel
theorem dJ6_signum_0f7a4_3 : decode cJ6_signum_0f7a4 3 = .ok (.ishr, 1) := by decide +kernel
theorem dJ6_signum_0f7a4_4 : decode cJ6_signum_0f7a4 4 = .ok (.iload_n 0, 1) := by decide +kernel
theorem dJ6_signum_0f7a4_5 : decode cJ6_signum_0f7a4 5 = .ok (.ineg, 1) := by decide +kernel
theorem dJ6_signum_0f7a4_6 : decode cJ6_signum_0f7a4 6 = .ok (.bipush 31, 2) := by decide +kernel
theorem dJ6_signum_0f7a4_8 : decode cJ6_signum_0f7a4 8 = .ok (.iushr, 1) := by decide +kernel
theorem dJ6_signum_0f7a4_9 : decode cJ6_signum_0f7a4 9 = .ok (.ior, 1) := by decide +kernel
theorem dJ6_signum_0f7a4_10 : decode cJ6_signum_0f7a4 10 = .ok (.ireturn, 1) := by decide +kernel
theorem dJ9_max_7cf53_0 : decode cJ9_max_7cf53 0 = .ok (.iload_n 0, 1) := by decide +kernel
theorem dJ9_max_7cf53_1 : decode cJ9_max_7cf53 1 = .ok (.iload_n 1, 1) := by decide +kernel
theorem dJ9_max_7cf53_2 : decode cJ9_max_7cf53 2 = .ok (.if_icmp .lt 7, 3) := by decide +kernel
theorem dJ9_max_7cf53_5 : decode cJ9_max_7cf53 5 = .ok (.iload_n 0, 1) := by decide +kernel
theorem dJ9_max_7cf53_6 : decode cJ9_max_7cf53 6 = .ok (.goto 4, 3) := by decide +kernel
theorem dJ9_max_7cf53_9 : decode cJ9_max_7cf53 9 = .ok (.iload_n 1, 1) := by decide +kernel
theorem dJ9_max_7cf53_10 : decode cJ9_max_7cf53 10 = .ok (.ireturn, 1) := by decide +kernel
theorem dJ9_min_7cf53_0 : decode cJ9_min_7cf53 0 = .ok (.iload_n 0, 1) := by decide +kernel
theorem dJ9_min_7cf53_1 : decode cJ9_min_7cf53 1 = .ok (.iload_n 1, 1) := by decide +kernel
theorem dJ9_min_7cf53_2 : decode cJ9_min_7cf53 2 = .ok (.if_icmp .gt 7, 3) := by decide +kernel
theorem dJ9_min_7cf53_5 : decode cJ9_min_7cf53 5 = .ok (.iload_n 0, 1) := by decide +kernel
theorem dJ9_min_7cf53_6 : decode cJ9_min_7cf53 6 = .ok (.goto 4, 3) := by decide +kernel
theorem dJ9_min_7cf53_9 : decode cJ9_min_7cf53 9 = .ok (.iload_n 1, 1) := by decide +kernel
theorem dJ9_min_7cf53_10 : decode cJ9_min_7cf53 10 = .ok (.ireturn, 1) := by decide +kernel
theorem dJ7_fill_d0a16_0 : decode cJ7_fill_d0a16 0 = .ok (.iconst 0, 1) := by decide +kernel
theorem dJ7_fill_d0a16_1 : decode cJ7_fill_d0a16 1 = .ok (.istore_n 3, 1) := by decide +kernel
theorem dJ7_fill_d0a16_2 : decode cJ7_fill_d0a16 2 = .ok (.aload_n 0, 1) := by decide +kernel
theorem dJ7_fill_d0a16_3 : decode cJ7_fill_d0a16 3 = .ok (.arraylength, 1) := by decide +kernel
theorem dJ7_fill_d0a16_4 : decode cJ7_fill_d0a16 4 = .ok (.istore 4, 2) := by decide +kernel
theorem dJ7_fill_d0a16_6 : decode cJ7_fill_d0a16 6 = .ok (.iload_n 3, 1) := by decide +kernel
theorem dJ7_fill_d0a16_7 : decode cJ7_fill_d0a16 7 = .ok (.iload 4, 2) := by decide +kernel
theorem dJ7_fill_d0a16_9 : decode cJ7_fill_d0a16 9 = .ok (.if_icmp .ge 13, 3) := by decide +kernel
theorem dJ7_fill_d0a16_12 : decode cJ7_fill_d0a16 12 = .ok (.aload_n 0, 1) := by decide +kernel
theorem dJ7_fill_d0a16_13 : decode cJ7_fill_d0a16 13 = .ok (.iload_n 3, 1) := by decide +kernel
theorem dJ7_fill_d0a16_14 : decode cJ7_fill_d0a16 14 = .ok (.lload_n 1, 1) := by decide +kernel
theorem dJ7_fill_d0a16_15 : decode cJ7_fill_d0a16 15 = .ok (.lastore, 1) := by decide +kernel
theorem dJ7_fill_d0a16_16 : decode cJ7_fill_d0a16 16 = .ok (.iinc 3 1, 3) := by decide +kernel
theorem dJ7_fill_d0a16_19 : decode cJ7_fill_d0a16 19 = .ok (.goto (-13), 3) := by decide +kernel
theorem dJ7_fill_d0a16_22 : decode cJ7_fill_d0a16 22 = .ok (.return_, 1) := by decide +kernel
theorem dX0_init_0 : decode cX0_init 0 = .ok (.aload_n 0, 1) := by decide +kernel
theorem dX0_init_1 : decode cX0_init 1 = .ok (.invokespecial 3, 3) := by decide +kernel
theorem dX0_init_4 : decode cX0_init 4 = .ok (.return_, 1) := by decide +kernel
theorem dX0_open_0 : decode cX0_open 0 = .ok (.aload_n 0, 1) := by decide +kernel
theorem dX0_open_1 : decode cX0_open 1 = .ok (.iconst 0, 1) := by decide +kernel
theorem dX0_open_2 : decode cX0_open 2 = .ok (.putfield 9, 3) := by decide +kernel
theorem dX0_open_5 : decode cX0_open 5 = .ok (.aload_n 0, 1) := by decide +kernel
theorem dX0_open_6 : decode cX0_open 6 = .ok (.iconst 0, 1) := by decide +kernel
theorem dX0_open_7 : decode cX0_open 7 = .ok (.putfield 15, 3) := by decide +kernel
theorem dX0_open_10 : decode cX0_open 10 = .ok (.aload_n 0, 1) := by decide +kernel
theorem dX0_open_11 : decode cX0_open 11 = .ok (.iconst 0, 1) := by decide +kernel
theorem dX0_open_12 : decode cX0_open 12 = .ok (.putfield 18, 3) := by decide +kernel
theorem dX0_open_15 : decode cX0_open 15 = .ok (.aload_n 0, 1) := by decide +kernel
theorem dX0_open_16 : decode cX0_open 16 = .ok (.iconst 0, 1) := by decide +kernel
theorem dX0_open_17 : decode cX0_open 17 = .ok (.putfield 21, 3) := by decide +kernel
theorem dX0_open_20 : decode cX0_open 20 = .ok (.aload_n 0, 1) := by decide +kernel
theorem dX0_open_21 : decode cX0_open 21 = .ok (.iconst 0, 1) := by decide +kernel
theorem dX0_open_22 : decode cX0_open 22 = .ok (.putfield 24, 3) := by decide +kernel
theorem dX0_open_25 : decode cX0_open 25 = .ok (.aload_n 0, 1) := by decide +kernel
theorem dX0_open_26 : decode cX0_open 26 = .ok (.ldc 27, 2) := by decide +kernel
theorem dX0_open_28 : decode cX0_open 28 = .ok (.putfield 28, 3) := by decide +kernel
theorem dX0_open_31 : decode cX0_open 31 = .ok (.return_, 1) := by decide +kernel
theorem dX0_press_0 : decode cX0_press 0 = .ok (.aload_n 0, 1) := by decide +kernel
theorem dX0_press_1 : decode cX0_press 1 = .ok (.aload_n 0, 1) := by decide +kernel
theorem dX0_press_2 : decode cX0_press 2 = .ok (.getfield 9, 3) := by decide +kernel
theorem dX0_press_5 : decode cX0_press 5 = .ok (.putfield 31, 3) := by decide +kernel
theorem dX0_press_8 : decode cX0_press 8 = .ok (.aload_n 0, 1) := by decide +kernel
theorem dX0_press_9 : decode cX0_press 9 = .ok (.aload_n 0, 1) := by decide +kernel
theorem dX0_press_10 : decode cX0_press 10 = .ok (.getfield 31, 3) := by decide +kernel
theorem dX0_press_13 : decode cX0_press 13 = .ok (.aload_n 1, 1) := by decide +kernel
theorem dX0_press_14 : decode cX0_press 14 = .ok (.iconst 0, 1) := by decide +kernel
theorem dX0_press_15 : decode cX0_press 15 = .ok (.iaload, 1) := by decide +kernel
theorem dX0_press_16 : decode cX0_press 16 = .ok (.iadd, 1) := by decide +kernel
theorem dX0_press_17 : decode cX0_press 17 = .ok (.putfield 34, 3) := by decide +kernel
theorem dX0_press_20 : decode cX0_press 20 = .ok (.iload_n 2, 1) := by decide +kernel
theorem dX0_press_21 : decode cX0_press 21 = .ok (.iconst 1, 1) := by decide +kernel
theorem dX0_press_22 : decode cX0_press 22 = .ok (.if_icmp .ne 17, 3) := by decide +kernel
theorem dX0_press_25 : decode cX0_press 25 = .ok (.aload_n 0, 1) := by decide +kernel
theorem dX0_press_26 : decode cX0_press 26 = .ok (.getfield 34, 3) := by decide +kernel
theorem dX0_press_29 : decode cX0_press 29 = .ok (.aload_n 0, 1) := by decide +kernel
theorem dX0_press_30 : decode cX0_press 30 = .ok (.getfield 18, 3) := by decide +kernel
theorem dX0_press_33 : decode cX0_press 33 = .ok (.invokestatic 37, 3) := by decide +kernel
theorem dX0_press_36 : decode cX0_press 36 = .ok (.goto 7, 3) := by decide +kernel
theorem dX0_press_39 : decode cX0_press 39 = .ok (.aload_n 0, 1) := by decide +kernel
theorem dX0_press_40 : decode cX0_press 40 = .ok (.getfield 34, 3) := by decide +kernel
theorem dX0_press_43 : decode cX0_press 43 = .ok (.istore_n 3, 1) := by decide +kernel
theorem dX0_press_44 : decode cX0_press 44 = .ok (.aload_n 0, 1) := by decide +kernel
theorem dX0_press_45 : decode cX0_press 45 = .ok (.iload_n 3, 1) := by decide +kernel
theorem dX0_press_46 : decode cX0_press 46 = .ok (.aload_n 1, 1) := by decide +kernel
theorem dX0_press_47 : decode cX0_press 47 = .ok (.iconst 1, 1) := by decide +kernel
theorem dX0_press_48 : decode cX0_press 48 = .ok (.iaload, 1) := by decide +kernel
theorem dX0_press_49 : decode cX0_press 49 = .ok (.iadd, 1) := by decide +kernel
theorem dX0_press_50 : decode cX0_press 50 = .ok (.putfield 18, 3) := by decide +kernel
theorem dX0_press_53 : decode cX0_press 53 = .ok (.aload_n 0, 1) := by decide +kernel
theorem dX0_press_54 : decode cX0_press 54 = .ok (.aload_n 0, 1) := by decide +kernel
theorem dX0_press_55 : decode cX0_press 55 = .ok (.getfield 18, 3) := by decide +kernel
theorem dX0_press_58 : decode cX0_press 58 = .ok (.aload_n 0, 1) := by decide +kernel
theorem dX0_press_59 : decode cX0_press 59 = .ok (.getfield 15, 3) := by decide +kernel
theorem dX0_press_62 : decode cX0_press 62 = .ok (.invokestatic 37, 3) := by decide +kernel
theorem dX0_press_65 : decode cX0_press 65 = .ok (.putfield 43, 3) := by decide +kernel
theorem dX0_press_68 : decode cX0_press 68 = .ok (.aload_n 0, 1) := by decide +kernel
theorem dX0_press_69 : decode cX0_press 69 = .ok (.aload_n 0, 1) := by decide +kernel
theorem dX0_press_70 : decode cX0_press 70 = .ok (.getfield 43, 3) := by decide +kernel
theorem dX0_press_73 : decode cX0_press 73 = .ok (.aload_n 1, 1) := by decide +kernel
theorem dX0_press_74 : decode cX0_press 74 = .ok (.iconst 2, 1) := by decide +kernel
theorem dX0_press_75 : decode cX0_press 75 = .ok (.iaload, 1) := by decide +kernel
theorem dX0_press_76 : decode cX0_press 76 = .ok (.iadd, 1) := by decide +kernel
theorem dX0_press_77 : decode cX0_press 77 = .ok (.putfield 21, 3) := by decide +kernel
theorem dX0_press_80 : decode cX0_press 80 = .ok (.aload_n 0, 1) := by decide +kernel
theorem dX0_press_81 : decode cX0_press 81 = .ok (.iload_n 2, 1) := by decide +kernel
theorem dX0_press_82 : decode cX0_press 82 = .ok (.iconst 2, 1) := by decide +kernel
theorem dX0_press_83 : decode cX0_press 83 = .ok (.if_icmp .ne 14, 3) := by decide +kernel
theorem dX0_press_86 : decode cX0_press 86 = .ok (.aload_n 0, 1) := by decide +kernel
theorem dX0_press_87 : decode cX0_press 87 = .ok (.getfield 43, 3) := by decide +kernel
theorem dX0_press_90 : decode cX0_press 90 = .ok (.aload_n 1, 1) := by decide +kernel
theorem dX0_press_91 : decode cX0_press 91 = .ok (.iconst 1, 1) := by decide +kernel
theorem dX0_press_92 : decode cX0_press 92 = .ok (.iaload, 1) := by decide +kernel
theorem dX0_press_93 : decode cX0_press 93 = .ok (.isub, 1) := by decide +kernel
theorem dX0_press_94 : decode cX0_press 94 = .ok (.goto 7, 3) := by decide +kernel
theorem dX0_press_97 : decode cX0_press 97 = .ok (.aload_n 0, 1) := by decide +kernel
theorem dX0_press_98 : decode cX0_press 98 = .ok (.getfield 34, 3) := by decide +kernel
theorem dX0_press_101 : decode cX0_press 101 = .ok (.putfield 46, 3) := by decide +kernel
theorem dX0_press_104 : decode cX0_press 104 = .ok (.aload_n 0, 1) := by decide +kernel
theorem dX0_press_105 : decode cX0_press 105 = .ok (.aload_n 0, 1) := by decide +kernel
theorem dX0_press_106 : decode cX0_press 106 = .ok (.getfield 46, 3) := by decide +kernel
theorem dX0_press_109 : decode cX0_press 109 = .ok (.aload_n 1, 1) := by decide +kernel
theorem dX0_press_110 : decode cX0_press 110 = .ok (.iconst 3, 1) := by decide +kernel
theorem dX0_press_111 : decode cX0_press 111 = .ok (.iaload, 1) := by decide +kernel
theorem dX0_press_112 : decode cX0_press 112 = .ok (.iadd, 1) := by decide +kernel
theorem dX0_press_113 : decode cX0_press 113 = .ok (.putfield 9, 3) := by decide +kernel
theorem dX0_press_116 : decode cX0_press 116 = .ok (.aload_n 0, 1) := by decide +kernel
theorem dX0_press_117 : decode cX0_press 117 = .ok (.aload_n 0, 1) := by decide +kernel
theorem dX0_press_118 : decode cX0_press 118 = .ok (.getfield 21, 3) := by decide +kernel
theorem dX0_press_121 : decode cX0_press 121 = .ok (.aload_n 1, 1) := by decide +kernel
theorem dX0_press_122 : decode cX0_press 122 = .ok (.iconst 4, 1) := by decide +kernel
theorem dX0_press_123 : decode cX0_press 123 = .ok (.iaload, 1) := by decide +kernel
theorem dX0_press_124 : decode cX0_press 124 = .ok (.iadd, 1) := by decide +kernel
theorem dX0_press_125 : decode cX0_press 125 = .ok (.putfield 15, 3) := by decide +kernel
theorem dX0_press_128 : decode cX0_press 128 = .ok (.aload_n 0, 1) := by decide +kernel
theorem dX0_press_129 : decode cX0_press 129 = .ok (.dup, 1) := by decide +kernel
theorem dX0_press_130 : decode cX0_press 130 = .ok (.getfield 24, 3) := by decide +kernel
theorem dX0_press_133 : decode cX0_press 133 = .ok (.aload_n 0, 1) := by decide +kernel
theorem dX0_press_134 : decode cX0_press 134 = .ok (.getfield 21, 3) := by decide +kernel
theorem dX0_press_137 : decode cX0_press 137 = .ok (.iadd, 1) := by decide +kernel
theorem dX0_press_138 : decode cX0_press 138 = .ok (.putfield 24, 3) := by decide +kernel
theorem dX0_press_141 : decode cX0_press 141 = .ok (.aload_n 0, 1) := by decide +kernel
theorem dX0_press_142 : decode cX0_press 142 = .ok (.aload_n 0, 1) := by decide +kernel
theorem dX0_press_143 : decode cX0_press 143 = .ok (.getfield 28, 3) := by decide +kernel
theorem dX0_press_146 : decode cX0_press 146 = .ok (.aload_n 0, 1) := by decide +kernel
theorem dX0_press_147 : decode cX0_press 147 = .ok (.getfield 21, 3) := by decide +kernel
theorem dX0_press_150 : decode cX0_press 150 = .ok (.aload_n 1, 1) := by decide +kernel
theorem dX0_press_151 : decode cX0_press 151 = .ok (.iconst 5, 1) := by decide +kernel
theorem dX0_press_152 : decode cX0_press 152 = .ok (.iaload, 1) := by decide +kernel
theorem dX0_press_153 : decode cX0_press 153 = .ok (.isub, 1) := by decide +kernel
theorem dX0_press_154 : decode cX0_press 154 = .ok (.invokestatic 37, 3) := by decide +kernel
theorem dX0_press_157 : decode cX0_press 157 = .ok (.putfield 28, 3) := by decide +kernel
theorem dX0_press_160 : decode cX0_press 160 = .ok (.return_, 1) := by decide +kernel
theorem dX0_costBy_0 : decode cX0_costBy 0 = .ok (.iload_n 1, 1) := by decide +kernel
theorem dX0_costBy_1 : decode cX0_costBy 1 = .ok (.ifCond .ne 8, 3) := by decide +kernel
theorem dX0_costBy_4 : decode cX0_costBy 4 = .ok (.aload_n 0, 1) := by decide +kernel
theorem dX0_costBy_5 : decode cX0_costBy 5 = .ok (.getfield 21, 3) := by decide +kernel
theorem dX0_costBy_8 : decode cX0_costBy 8 = .ok (.ireturn, 1) := by decide +kernel
theorem dX0_costBy_9 : decode cX0_costBy 9 = .ok (.iload_n 1, 1) := by decide +kernel
theorem dX0_costBy_10 : decode cX0_costBy 10 = .ok (.iconst 1, 1) := by decide +kernel
theorem dX0_costBy_11 : decode cX0_costBy 11 = .ok (.if_icmp .ne 10, 3) := by decide +kernel
theorem dX0_costBy_14 : decode cX0_costBy 14 = .ok (.aload_n 0, 1) := by decide +kernel
theorem dX0_costBy_15 : decode cX0_costBy 15 = .ok (.getfield 24, 3) := by decide +kernel
theorem dX0_costBy_18 : decode cX0_costBy 18 = .ok (.goto 7, 3) := by decide +kernel
theorem dX0_costBy_21 : decode cX0_costBy 21 = .ok (.aload_n 0, 1) := by decide +kernel
theorem dX0_costBy_22 : decode cX0_costBy 22 = .ok (.getfield 28, 3) := by decide +kernel
theorem dX0_costBy_25 : decode cX0_costBy 25 = .ok (.ireturn, 1) := by decide +kernel
theorem dX0_timeOfLast_0 : decode cX0_timeOfLast 0 = .ok (.iload_n 1, 1) := by decide +kernel
theorem dX0_timeOfLast_1 : decode cX0_timeOfLast 1 = .ok (.tableswitch 60 0 4 #[35, 40, 45, 50, 55], 35) := by decide +kernel
theorem dX0_timeOfLast_36 : decode cX0_timeOfLast 36 = .ok (.aload_n 0, 1) := by decide +kernel
theorem dX0_timeOfLast_37 : decode cX0_timeOfLast 37 = .ok (.getfield 31, 3) := by decide +kernel
theorem dX0_timeOfLast_40 : decode cX0_timeOfLast 40 = .ok (.ireturn, 1) := by decide +kernel
theorem dX0_timeOfLast_41 : decode cX0_timeOfLast 41 = .ok (.aload_n 0, 1) := by decide +kernel
theorem dX0_timeOfLast_42 : decode cX0_timeOfLast 42 = .ok (.getfield 34, 3) := by decide +kernel
theorem dX0_timeOfLast_45 : decode cX0_timeOfLast 45 = .ok (.ireturn, 1) := by decide +kernel
theorem dX0_timeOfLast_46 : decode cX0_timeOfLast 46 = .ok (.aload_n 0, 1) := by decide +kernel
theorem dX0_timeOfLast_47 : decode cX0_timeOfLast 47 = .ok (.getfield 46, 3) := by decide +kernel
theorem dX0_timeOfLast_50 : decode cX0_timeOfLast 50 = .ok (.ireturn, 1) := by decide +kernel
theorem dX0_timeOfLast_51 : decode cX0_timeOfLast 51 = .ok (.aload_n 0, 1) := by decide +kernel
theorem dX0_timeOfLast_52 : decode cX0_timeOfLast 52 = .ok (.getfield 18, 3) := by decide +kernel
theorem dX0_timeOfLast_55 : decode cX0_timeOfLast 55 = .ok (.ireturn, 1) := by decide +kernel
theorem dX0_timeOfLast_56 : decode cX0_timeOfLast 56 = .ok (.aload_n 0, 1) := by decide +kernel
theorem dX0_timeOfLast_57 : decode cX0_timeOfLast 57 = .ok (.getfield 43, 3) := by decide +kernel
theorem dX0_timeOfLast_60 : decode cX0_timeOfLast 60 = .ok (.ireturn, 1) := by decide +kernel
theorem dX0_timeOfLast_61 : decode cX0_timeOfLast 61 = .ok (.aload_n 0, 1) := by decide +kernel
theorem dX0_timeOfLast_62 : decode cX0_timeOfLast 62 = .ok (.getfield 21, 3) := by decide +kernel
theorem dX0_timeOfLast_65 : decode cX0_timeOfLast 65 = .ok (.ireturn, 1) := by decide +kernel
theorem dX0_goOnFrom_0 : decode cX0_goOnFrom 0 = .ok (.aload_n 0, 1) := by decide +kernel
theorem dX0_goOnFrom_1 : decode cX0_goOnFrom 1 = .ok (.aload_n 1, 1) := by decide +kernel
theorem dX0_goOnFrom_2 : decode cX0_goOnFrom 2 = .ok (.getfield 9, 3) := by decide +kernel
theorem dX0_goOnFrom_5 : decode cX0_goOnFrom 5 = .ok (.putfield 9, 3) := by decide +kernel
theorem dX0_goOnFrom_8 : decode cX0_goOnFrom 8 = .ok (.aload_n 0, 1) := by decide +kernel
theorem dX0_goOnFrom_9 : decode cX0_goOnFrom 9 = .ok (.aload_n 1, 1) := by decide +kernel
theorem dX0_goOnFrom_10 : decode cX0_goOnFrom 10 = .ok (.getfield 15, 3) := by decide +kernel
theorem dX0_goOnFrom_13 : decode cX0_goOnFrom 13 = .ok (.putfield 15, 3) := by decide +kernel
theorem dX0_goOnFrom_16 : decode cX0_goOnFrom 16 = .ok (.aload_n 0, 1) := by decide +kernel
theorem dX0_goOnFrom_17 : decode cX0_goOnFrom 17 = .ok (.aload_n 1, 1) := by decide +kernel
theorem dX0_goOnFrom_18 : decode cX0_goOnFrom 18 = .ok (.getfield 18, 3) := by decide +kernel
theorem dX0_goOnFrom_21 : decode cX0_goOnFrom 21 = .ok (.putfield 18, 3) := by decide +kernel
theorem dX0_goOnFrom_24 : decode cX0_goOnFrom 24 = .ok (.aload_n 0, 1) := by decide +kernel
theorem dX0_goOnFrom_25 : decode cX0_goOnFrom 25 = .ok (.aload_n 1, 1) := by decide +kernel
theorem dX0_goOnFrom_26 : decode cX0_goOnFrom 26 = .ok (.getfield 24, 3) := by decide +kernel
theorem dX0_goOnFrom_29 : decode cX0_goOnFrom 29 = .ok (.putfield 24, 3) := by decide +kernel
theorem dX0_goOnFrom_32 : decode cX0_goOnFrom 32 = .ok (.aload_n 0, 1) := by decide +kernel
theorem dX0_goOnFrom_33 : decode cX0_goOnFrom 33 = .ok (.aload_n 1, 1) := by decide +kernel
theorem dX0_goOnFrom_34 : decode cX0_goOnFrom 34 = .ok (.getfield 28, 3) := by decide +kernel
theorem dX0_goOnFrom_37 : decode cX0_goOnFrom 37 = .ok (.putfield 28, 3) := by decide +kernel
theorem dX0_goOnFrom_40 : decode cX0_goOnFrom 40 = .ok (.return_, 1) := by decide +kernel
theorem dX1_init_0 : decode cX1_init 0 = .ok (.aload_n 0, 1) := by decide +kernel
theorem dX1_init_1 : decode cX1_init 1 = .ok (.invokespecial 1, 3) := by decide +kernel
theorem dX1_init_4 : decode cX1_init 4 = .ok (.aload_n 0, 1) := by decide +kernel
theorem dX1_init_5 : decode cX1_init 5 = .ok (.iload_n 1, 1) := by decide +kernel
theorem dX1_init_6 : decode cX1_init 6 = .ok (.newarray .int, 2) := by decide +kernel
theorem dX1_init_8 : decode cX1_init 8 = .ok (.putfield 7, 3) := by decide +kernel
theorem dX1_init_11 : decode cX1_init 11 = .ok (.aload_n 0, 1) := by decide +kernel
theorem dX1_init_12 : decode cX1_init 12 = .ok (.iload_n 1, 1) := by decide +kernel
theorem dX1_init_13 : decode cX1_init 13 = .ok (.newarray .int, 2) := by decide +kernel
theorem dX1_init_15 : decode cX1_init 15 = .ok (.putfield 13, 3) := by decide +kernel
theorem dX1_init_18 : decode cX1_init 18 = .ok (.return_, 1) := by decide +kernel
theorem dX1_add_0 : decode cX1_add 0 = .ok (.aload_n 0, 1) := by decide +kernel
theorem dX1_add_1 : decode cX1_add 1 = .ok (.getfield 16, 3) := by decide +kernel
theorem dX1_add_4 : decode cX1_add 4 = .ok (.aload_n 0, 1) := by decide +kernel
theorem dX1_add_5 : decode cX1_add 5 = .ok (.getfield 7, 3) := by decide +kernel
theorem dX1_add_8 : decode cX1_add 8 = .ok (.arraylength, 1) := by decide +kernel
theorem dX1_add_9 : decode cX1_add 9 = .ok (.if_icmp .lt 5, 3) := by decide +kernel
theorem dX1_add_12 : decode cX1_add 12 = .ok (.iconst 0, 1) := by decide +kernel
theorem dX1_add_13 : decode cX1_add 13 = .ok (.ireturn, 1) := by decide +kernel
theorem dX1_add_14 : decode cX1_add 14 = .ok (.aload_n 0, 1) := by decide +kernel
theorem dX1_add_15 : decode cX1_add 15 = .ok (.getfield 7, 3) := by decide +kernel
theorem dX1_add_18 : decode cX1_add 18 = .ok (.aload_n 0, 1) := by decide +kernel
theorem dX1_add_19 : decode cX1_add 19 = .ok (.getfield 16, 3) := by decide +kernel
theorem dX1_add_22 : decode cX1_add 22 = .ok (.iload_n 1, 1) := by decide +kernel
theorem dX1_add_23 : decode cX1_add 23 = .ok (.iastore, 1) := by decide +kernel
theorem dX1_add_24 : decode cX1_add 24 = .ok (.aload_n 0, 1) := by decide +kernel
theorem dX1_add_25 : decode cX1_add 25 = .ok (.getfield 13, 3) := by decide +kernel
theorem dX1_add_28 : decode cX1_add 28 = .ok (.aload_n 0, 1) := by decide +kernel
theorem dX1_add_29 : decode cX1_add 29 = .ok (.getfield 16, 3) := by decide +kernel
theorem dX1_add_32 : decode cX1_add 32 = .ok (.iload_n 2, 1) := by decide +kernel
theorem dX1_add_33 : decode cX1_add 33 = .ok (.iastore, 1) := by decide +kernel
theorem dX1_add_34 : decode cX1_add 34 = .ok (.aload_n 0, 1) := by decide +kernel
theorem dX1_add_35 : decode cX1_add 35 = .ok (.dup, 1) := by decide +kernel
theorem dX1_add_36 : decode cX1_add 36 = .ok (.getfield 16, 3) := by decide +kernel
theorem dX1_add_39 : decode cX1_add 39 = .ok (.iconst 1, 1) := by decide +kernel
theorem dX1_add_40 : decode cX1_add 40 = .ok (.iadd, 1) := by decide +kernel
theorem dX1_add_41 : decode cX1_add 41 = .ok (.putfield 16, 3) := by decide +kernel
theorem dX1_add_44 : decode cX1_add 44 = .ok (.iconst 1, 1) := by decide +kernel
theorem dX1_add_45 : decode cX1_add 45 = .ok (.ireturn, 1) := by decide +kernel
theorem dX1_copyFrom_0 : decode cX1_copyFrom 0 = .ok (.aload_n 0, 1) := by decide +kernel
theorem dX1_copyFrom_1 : decode cX1_copyFrom 1 = .ok (.aload_n 1, 1) := by decide +kernel
theorem dX1_copyFrom_2 : decode cX1_copyFrom 2 = .ok (.getfield 16, 3) := by decide +kernel
theorem dX1_copyFrom_5 : decode cX1_copyFrom 5 = .ok (.aload_n 0, 1) := by decide +kernel
theorem dX1_copyFrom_6 : decode cX1_copyFrom 6 = .ok (.getfield 7, 3) := by decide +kernel
theorem dX1_copyFrom_9 : decode cX1_copyFrom 9 = .ok (.arraylength, 1) := by decide +kernel
theorem dX1_copyFrom_10 : decode cX1_copyFrom 10 = .ok (.invokestatic 20, 3) := by decide +kernel
theorem dX1_copyFrom_13 : decode cX1_copyFrom 13 = .ok (.putfield 16, 3) := by decide +kernel
theorem dX1_copyFrom_16 : decode cX1_copyFrom 16 = .ok (.aload_n 1, 1) := by decide +kernel
theorem dX1_copyFrom_17 : decode cX1_copyFrom 17 = .ok (.getfield 7, 3) := by decide +kernel
theorem dX1_copyFrom_20 : decode cX1_copyFrom 20 = .ok (.iconst 0, 1) := by decide +kernel
theorem dX1_copyFrom_21 : decode cX1_copyFrom 21 = .ok (.aload_n 0, 1) := by decide +kernel
theorem dX1_copyFrom_22 : decode cX1_copyFrom 22 = .ok (.getfield 7, 3) := by decide +kernel
theorem dX1_copyFrom_25 : decode cX1_copyFrom 25 = .ok (.iconst 0, 1) := by decide +kernel
theorem dX1_copyFrom_26 : decode cX1_copyFrom 26 = .ok (.aload_n 0, 1) := by decide +kernel
theorem dX1_copyFrom_27 : decode cX1_copyFrom 27 = .ok (.getfield 16, 3) := by decide +kernel
theorem dX1_copyFrom_30 : decode cX1_copyFrom 30 = .ok (.invokestatic 26, 3) := by decide +kernel
theorem dX1_copyFrom_33 : decode cX1_copyFrom 33 = .ok (.aload_n 1, 1) := by decide +kernel
theorem dX1_copyFrom_34 : decode cX1_copyFrom 34 = .ok (.getfield 13, 3) := by decide +kernel
theorem dX1_copyFrom_37 : decode cX1_copyFrom 37 = .ok (.iconst 0, 1) := by decide +kernel
theorem dX1_copyFrom_38 : decode cX1_copyFrom 38 = .ok (.aload_n 0, 1) := by decide +kernel
theorem dX1_copyFrom_39 : decode cX1_copyFrom 39 = .ok (.getfield 13, 3) := by decide +kernel
theorem dX1_copyFrom_42 : decode cX1_copyFrom 42 = .ok (.iconst 0, 1) := by decide +kernel
theorem dX1_copyFrom_43 : decode cX1_copyFrom 43 = .ok (.aload_n 0, 1) := by decide +kernel
theorem dX1_copyFrom_44 : decode cX1_copyFrom 44 = .ok (.getfield 16, 3) := by decide +kernel
theorem dX1_copyFrom_47 : decode cX1_copyFrom 47 = .ok (.invokestatic 26, 3) := by decide +kernel
theorem dX1_copyFrom_50 : decode cX1_copyFrom 50 = .ok (.return_, 1) := by decide +kernel
theorem dX2_init_0 : decode cX2_init 0 = .ok (.aload_n 0, 1) := by decide +kernel
theorem dX2_init_1 : decode cX2_init 1 = .ok (.invokespecial 3, 3) := by decide +kernel
theorem dX2_init_4 : decode cX2_init 4 = .ok (.aload_n 0, 1) := by decide +kernel
theorem dX2_init_5 : decode cX2_init 5 = .ok (.bipush 7, 2) := by decide +kernel
theorem dX2_init_7 : decode cX2_init 7 = .ok (.anewarray 9, 3) := by decide +kernel
theorem dX2_init_10 : decode cX2_init 10 = .ok (.putfield 11, 3) := by decide +kernel
theorem dX2_init_13 : decode cX2_init 13 = .ok (.aload_n 0, 1) := by decide +kernel
theorem dX2_init_14 : decode cX2_init 14 = .ok (.bipush 6, 2) := by decide +kernel
theorem dX2_init_16 : decode cX2_init 16 = .ok (.newarray .int, 2) := by decide +kernel
theorem dX2_init_18 : decode cX2_init 18 = .ok (.putfield 17, 3) := by decide +kernel
theorem dX2_init_21 : decode cX2_init 21 = .ok (.aload_n 0, 1) := by decide +kernel
theorem dX2_init_22 : decode cX2_init 22 = .ok (.bipush 6, 2) := by decide +kernel
theorem dX2_init_24 : decode cX2_init 24 = .ok (.newarray .int, 2) := by decide +kernel
theorem dX2_init_26 : decode cX2_init 26 = .ok (.putfield 21, 3) := by decide +kernel
theorem dX2_init_29 : decode cX2_init 29 = .ok (.aload_n 0, 1) := by decide +kernel
theorem dX2_init_30 : decode cX2_init 30 = .ok (.bipush 6, 2) := by decide +kernel
theorem dX2_init_32 : decode cX2_init 32 = .ok (.newarray .boolean, 2) := by decide +kernel
theorem dX2_init_34 : decode cX2_init 34 = .ok (.putfield 24, 3) := by decide +kernel
theorem dX2_init_37 : decode cX2_init 37 = .ok (.iconst 0, 1) := by decide +kernel
theorem dX2_init_38 : decode cX2_init 38 = .ok (.istore_n 1, 1) := by decide +kernel
theorem dX2_init_39 : decode cX2_init 39 = .ok (.iload_n 1, 1) := by decide +kernel
theorem dX2_init_40 : decode cX2_init 40 = .ok (.bipush 6, 2) := by decide +kernel
theorem dX2_init_42 : decode cX2_init 42 = .ok (.if_icmp .gt 22, 3) := by decide +kernel
theorem dX2_init_45 : decode cX2_init 45 = .ok (.aload_n 0, 1) := by decide +kernel
theorem dX2_init_46 : decode cX2_init 46 = .ok (.getfield 11, 3) := by decide +kernel
theorem dX2_init_49 : decode cX2_init 49 = .ok (.iload_n 1, 1) := by decide +kernel
theorem dX2_init_50 : decode cX2_init 50 = .ok (.new 9, 3) := by decide +kernel
theorem dX2_init_53 : decode cX2_init 53 = .ok (.dup, 1) := by decide +kernel
theorem dX2_init_54 : decode cX2_init 54 = .ok (.invokespecial 28, 3) := by decide +kernel
theorem dX2_init_57 : decode cX2_init 57 = .ok (.aastore, 1) := by decide +kernel
theorem dX2_init_58 : decode cX2_init 58 = .ok (.iinc 1 1, 3) := by decide +kernel
theorem dX2_init_61 : decode cX2_init 61 = .ok (.goto (-22), 3) := by decide +kernel
theorem dX2_init_64 : decode cX2_init 64 = .ok (.return_, 1) := by decide +kernel
theorem dX2_find_0 : decode cX2_find 0 = .ok (.aload_n 0, 1) := by decide +kernel
theorem dX2_find_1 : decode cX2_find 1 = .ok (.iload_n 2, 1) := by decide +kernel
theorem dX2_find_2 : decode cX2_find 2 = .ok (.putfield 29, 3) := by decide +kernel
theorem dX2_find_5 : decode cX2_find 5 = .ok (.aload_n 0, 1) := by decide +kernel
theorem dX2_find_6 : decode cX2_find 6 = .ok (.iload_n 3, 1) := by decide +kernel
theorem dX2_find_7 : decode cX2_find 7 = .ok (.putfield 33, 3) := by decide +kernel
theorem dX2_find_10 : decode cX2_find 10 = .ok (.aload_n 0, 1) := by decide +kernel
theorem dX2_find_11 : decode cX2_find 11 = .ok (.ldc 36, 2) := by decide +kernel
theorem dX2_find_13 : decode cX2_find 13 = .ok (.putfield 37, 3) := by decide +kernel
theorem dX2_find_16 : decode cX2_find 16 = .ok (.aload_n 0, 1) := by decide +kernel
theorem dX2_find_17 : decode cX2_find 17 = .ok (.getfield 11, 3) := by decide +kernel
theorem dX2_find_20 : decode cX2_find 20 = .ok (.iconst 0, 1) := by decide +kernel
theorem dX2_find_21 : decode cX2_find 21 = .ok (.aaload, 1) := by decide +kernel
theorem dX2_find_22 : decode cX2_find 22 = .ok (.invokevirtual 40, 3) := by decide +kernel
theorem dX2_find_25 : decode cX2_find 25 = .ok (.aload_n 0, 1) := by decide +kernel
theorem dX2_find_26 : decode cX2_find 26 = .ok (.aload_n 1, 1) := by decide +kernel
theorem dX2_find_27 : decode cX2_find 27 = .ok (.iconst 0, 1) := by decide +kernel
theorem dX2_find_28 : decode cX2_find 28 = .ok (.invokestatic 43, 3) := by decide +kernel
theorem dX2_find_31 : decode cX2_find 31 = .ok (.return_, 1) := by decide +kernel
theorem dX2_extend_0 : decode cX2_extend 0 = .ok (.iload_n 2, 1) := by decide +kernel
theorem dX2_extend_1 : decode cX2_extend 1 = .ok (.aload_n 1, 1) := by decide +kernel
theorem dX2_extend_2 : decode cX2_extend 2 = .ok (.getfield 47, 3) := by decide +kernel
theorem dX2_extend_5 : decode cX2_extend 5 = .ok (.if_icmp .ge 9, 3) := by decide +kernel
theorem dX2_extend_8 : decode cX2_extend 8 = .ok (.iload_n 2, 1) := by decide +kernel
theorem dX2_extend_9 : decode cX2_extend 9 = .ok (.bipush 6, 2) := by decide +kernel
theorem dX2_extend_11 : decode cX2_extend 11 = .ok (.if_icmp .lt 36, 3) := by decide +kernel
theorem dX2_extend_14 : decode cX2_extend 14 = .ok (.aload_n 0, 1) := by decide +kernel
theorem dX2_extend_15 : decode cX2_extend 15 = .ok (.aload_n 0, 1) := by decide +kernel
theorem dX2_extend_16 : decode cX2_extend 16 = .ok (.getfield 11, 3) := by decide +kernel
theorem dX2_extend_19 : decode cX2_extend 19 = .ok (.iload_n 2, 1) := by decide +kernel
theorem dX2_extend_20 : decode cX2_extend 20 = .ok (.aaload, 1) := by decide +kernel
theorem dX2_extend_21 : decode cX2_extend 21 = .ok (.aload_n 0, 1) := by decide +kernel
theorem dX2_extend_22 : decode cX2_extend 22 = .ok (.getfield 33, 3) := by decide +kernel
theorem dX2_extend_25 : decode cX2_extend 25 = .ok (.invokevirtual 52, 3) := by decide +kernel
theorem dX2_extend_28 : decode cX2_extend 28 = .ok (.putfield 37, 3) := by decide +kernel
theorem dX2_extend_31 : decode cX2_extend 31 = .ok (.aload_n 0, 1) := by decide +kernel
theorem dX2_extend_32 : decode cX2_extend 32 = .ok (.getfield 17, 3) := by decide +kernel
theorem dX2_extend_35 : decode cX2_extend 35 = .ok (.iconst 0, 1) := by decide +kernel
theorem dX2_extend_36 : decode cX2_extend 36 = .ok (.aload_n 0, 1) := by decide +kernel
theorem dX2_extend_37 : decode cX2_extend 37 = .ok (.getfield 21, 3) := by decide +kernel
theorem dX2_extend_40 : decode cX2_extend 40 = .ok (.iconst 0, 1) := by decide +kernel
theorem dX2_extend_41 : decode cX2_extend 41 = .ok (.bipush 6, 2) := by decide +kernel
theorem dX2_extend_43 : decode cX2_extend 43 = .ok (.invokestatic 56, 3) := by decide +kernel
theorem dX2_extend_46 : decode cX2_extend 46 = .ok (.return_, 1) := by decide +kernel
theorem dX2_extend_47 : decode cX2_extend 47 = .ok (.aload_n 0, 1) := by decide +kernel
theorem dX2_extend_48 : decode cX2_extend 48 = .ok (.getfield 11, 3) := by decide +kernel
theorem dX2_extend_51 : decode cX2_extend 51 = .ok (.iload_n 2, 1) := by decide +kernel
theorem dX2_extend_52 : decode cX2_extend 52 = .ok (.iconst 1, 1) := by decide +kernel
theorem dX2_extend_53 : decode cX2_extend 53 = .ok (.iadd, 1) := by decide +kernel
theorem dX2_extend_54 : decode cX2_extend 54 = .ok (.aaload, 1) := by decide +kernel
theorem dX2_extend_55 : decode cX2_extend 55 = .ok (.astore_n 3, 1) := by decide +kernel
theorem dX2_extend_56 : decode cX2_extend 56 = .ok (.iconst 0, 1) := by decide +kernel
theorem dX2_extend_57 : decode cX2_extend 57 = .ok (.istore 4, 2) := by decide +kernel
theorem dX2_extend_59 : decode cX2_extend 59 = .ok (.iload 4, 2) := by decide +kernel
theorem dX2_extend_61 : decode cX2_extend 61 = .ok (.aload_n 1, 1) := by decide +kernel
theorem dX2_extend_62 : decode cX2_extend 62 = .ok (.getfield 47, 3) := by decide +kernel
theorem dX2_extend_65 : decode cX2_extend 65 = .ok (.if_icmp .ge 91, 3) := by decide +kernel
theorem dX2_extend_68 : decode cX2_extend 68 = .ok (.aload_n 0, 1) := by decide +kernel
theorem dX2_extend_69 : decode cX2_extend 69 = .ok (.getfield 24, 3) := by decide +kernel
theorem dX2_extend_72 : decode cX2_extend 72 = .ok (.iload 4, 2) := by decide +kernel
theorem dX2_extend_74 : decode cX2_extend 74 = .ok (.baload, 1) := by decide +kernel
theorem dX2_extend_75 : decode cX2_extend 75 = .ok (.ifCond .ne 75, 3) := by decide +kernel
theorem dX2_extend_78 : decode cX2_extend 78 = .ok (.aload_n 3, 1) := by decide +kernel
theorem dX2_extend_79 : decode cX2_extend 79 = .ok (.aload_n 0, 1) := by decide +kernel
theorem dX2_extend_80 : decode cX2_extend 80 = .ok (.getfield 11, 3) := by decide +kernel
theorem dX2_extend_83 : decode cX2_extend 83 = .ok (.iload_n 2, 1) := by decide +kernel
theorem dX2_extend_84 : decode cX2_extend 84 = .ok (.aaload, 1) := by decide +kernel
theorem dX2_extend_85 : decode cX2_extend 85 = .ok (.invokevirtual 62, 3) := by decide +kernel
theorem dX2_extend_88 : decode cX2_extend 88 = .ok (.aload_n 3, 1) := by decide +kernel
theorem dX2_extend_89 : decode cX2_extend 89 = .ok (.aload_n 1, 1) := by decide +kernel
theorem dX2_extend_90 : decode cX2_extend 90 = .ok (.getfield 66, 3) := by decide +kernel
theorem dX2_extend_93 : decode cX2_extend 93 = .ok (.iload 4, 2) := by decide +kernel
theorem dX2_extend_95 : decode cX2_extend 95 = .ok (.aaload, 1) := by decide +kernel
theorem dX2_extend_96 : decode cX2_extend 96 = .ok (.aload_n 0, 1) := by decide +kernel
theorem dX2_extend_97 : decode cX2_extend 97 = .ok (.getfield 29, 3) := by decide +kernel
theorem dX2_extend_100 : decode cX2_extend 100 = .ok (.invokevirtual 70, 3) := by decide +kernel
theorem dX2_extend_103 : decode cX2_extend 103 = .ok (.aload_n 3, 1) := by decide +kernel
theorem dX2_extend_104 : decode cX2_extend 104 = .ok (.aload_n 0, 1) := by decide +kernel
theorem dX2_extend_105 : decode cX2_extend 105 = .ok (.getfield 33, 3) := by decide +kernel
theorem dX2_extend_108 : decode cX2_extend 108 = .ok (.invokevirtual 52, 3) := by decide +kernel
theorem dX2_extend_111 : decode cX2_extend 111 = .ok (.aload_n 0, 1) := by decide +kernel
theorem dX2_extend_112 : decode cX2_extend 112 = .ok (.getfield 37, 3) := by decide +kernel
theorem dX2_extend_115 : decode cX2_extend 115 = .ok (.if_icmp .ge 35, 3) := by decide +kernel
theorem dX2_extend_118 : decode cX2_extend 118 = .ok (.aload_n 0, 1) := by decide +kernel
theorem dX2_extend_119 : decode cX2_extend 119 = .ok (.getfield 24, 3) := by decide +kernel
theorem dX2_extend_122 : decode cX2_extend 122 = .ok (.iload 4, 2) := by decide +kernel
theorem dX2_extend_124 : decode cX2_extend 124 = .ok (.iconst 1, 1) := by decide +kernel
theorem dX2_extend_125 : decode cX2_extend 125 = .ok (.bastore, 1) := by decide +kernel
theorem dX2_extend_126 : decode cX2_extend 126 = .ok (.aload_n 0, 1) := by decide +kernel
theorem dX2_extend_127 : decode cX2_extend 127 = .ok (.getfield 17, 3) := by decide +kernel
theorem dX2_extend_130 : decode cX2_extend 130 = .ok (.iload_n 2, 1) := by decide +kernel
theorem dX2_extend_131 : decode cX2_extend 131 = .ok (.iload 4, 2) := by decide +kernel
theorem dX2_extend_133 : decode cX2_extend 133 = .ok (.iastore, 1) := by decide +kernel
theorem dX2_extend_134 : decode cX2_extend 134 = .ok (.aload_n 0, 1) := by decide +kernel
theorem dX2_extend_135 : decode cX2_extend 135 = .ok (.aload_n 1, 1) := by decide +kernel
theorem dX2_extend_136 : decode cX2_extend 136 = .ok (.iload_n 2, 1) := by decide +kernel
theorem dX2_extend_137 : decode cX2_extend 137 = .ok (.iconst 1, 1) := by decide +kernel
theorem dX2_extend_138 : decode cX2_extend 138 = .ok (.iadd, 1) := by decide +kernel
theorem dX2_extend_139 : decode cX2_extend 139 = .ok (.invokestatic 43, 3) := by decide +kernel
theorem dX2_extend_142 : decode cX2_extend 142 = .ok (.aload_n 0, 1) := by decide +kernel
theorem dX2_extend_143 : decode cX2_extend 143 = .ok (.getfield 24, 3) := by decide +kernel
theorem dX2_extend_146 : decode cX2_extend 146 = .ok (.iload 4, 2) := by decide +kernel
theorem dX2_extend_148 : decode cX2_extend 148 = .ok (.iconst 0, 1) := by decide +kernel
theorem dX2_extend_149 : decode cX2_extend 149 = .ok (.bastore, 1) := by decide +kernel
theorem dX2_extend_150 : decode cX2_extend 150 = .ok (.iinc 4 1, 3) := by decide +kernel
theorem dX2_extend_153 : decode cX2_extend 153 = .ok (.goto (-94), 3) := by decide +kernel
theorem dX2_extend_156 : decode cX2_extend 156 = .ok (.return_, 1) := by decide +kernel
theorem dX3_init_0 : decode cX3_init 0 = .ok (.aload_n 0, 1) := by decide +kernel
theorem dX3_init_1 : decode cX3_init 1 = .ok (.invokespecial 3, 3) := by decide +kernel
theorem dX3_init_4 : decode cX3_init 4 = .ok (.aload_n 0, 1) := by decide +kernel
theorem dX3_init_5 : decode cX3_init 5 = .ok (.bipush 6, 2) := by decide +kernel
theorem dX3_init_7 : decode cX3_init 7 = .ok (.bipush 6, 2) := by decide +kernel
theorem dX3_init_9 : decode cX3_init 9 = .ok (.multianewarray 9 2, 4) := by decide +kernel
theorem dX3_init_13 : decode cX3_init 13 = .ok (.putfield 11, 3) := by decide +kernel
theorem dX3_init_16 : decode cX3_init 16 = .ok (.aload_n 0, 1) := by decide +kernel
theorem dX3_init_17 : decode cX3_init 17 = .ok (.bipush 6, 2) := by decide +kernel
theorem dX3_init_19 : decode cX3_init 19 = .ok (.newarray .int, 2) := by decide +kernel
theorem dX3_init_21 : decode cX3_init 21 = .ok (.putfield 16, 3) := by decide +kernel
theorem dX3_init_24 : decode cX3_init 24 = .ok (.return_, 1) := by decide +kernel
theorem dX3_copyFrom_0 : decode cX3_copyFrom 0 = .ok (.aload_n 0, 1) := by decide +kernel
theorem dX3_copyFrom_1 : decode cX3_copyFrom 1 = .ok (.aload_n 1, 1) := by decide +kernel
theorem dX3_copyFrom_2 : decode cX3_copyFrom 2 = .ok (.getfield 20, 3) := by decide +kernel
theorem dX3_copyFrom_5 : decode cX3_copyFrom 5 = .ok (.putfield 20, 3) := by decide +kernel
theorem dX3_copyFrom_8 : decode cX3_copyFrom 8 = .ok (.aload_n 0, 1) := by decide +kernel
theorem dX3_copyFrom_9 : decode cX3_copyFrom 9 = .ok (.aload_n 1, 1) := by decide +kernel
theorem dX3_copyFrom_10 : decode cX3_copyFrom 10 = .ok (.getfield 24, 3) := by decide +kernel
theorem dX3_copyFrom_13 : decode cX3_copyFrom 13 = .ok (.putfield 24, 3) := by decide +kernel
theorem dX3_copyFrom_16 : decode cX3_copyFrom 16 = .ok (.aload_n 0, 1) := by decide +kernel
theorem dX3_copyFrom_17 : decode cX3_copyFrom 17 = .ok (.aload_n 1, 1) := by decide +kernel
theorem dX3_copyFrom_18 : decode cX3_copyFrom 18 = .ok (.getfield 27, 3) := by decide +kernel
theorem dX3_copyFrom_21 : decode cX3_copyFrom 21 = .ok (.putfield 27, 3) := by decide +kernel
theorem dX3_copyFrom_24 : decode cX3_copyFrom 24 = .ok (.aload_n 1, 1) := by decide +kernel
theorem dX3_copyFrom_25 : decode cX3_copyFrom 25 = .ok (.getfield 16, 3) := by decide +kernel
theorem dX3_copyFrom_28 : decode cX3_copyFrom 28 = .ok (.iconst 0, 1) := by decide +kernel
theorem dX3_copyFrom_29 : decode cX3_copyFrom 29 = .ok (.aload_n 0, 1) := by decide +kernel
theorem dX3_copyFrom_30 : decode cX3_copyFrom 30 = .ok (.getfield 16, 3) := by decide +kernel
theorem dX3_copyFrom_33 : decode cX3_copyFrom 33 = .ok (.iconst 0, 1) := by decide +kernel
theorem dX3_copyFrom_34 : decode cX3_copyFrom 34 = .ok (.bipush 6, 2) := by decide +kernel
theorem dX3_copyFrom_36 : decode cX3_copyFrom 36 = .ok (.invokestatic 30, 3) := by decide +kernel
theorem dX3_copyFrom_39 : decode cX3_copyFrom 39 = .ok (.iconst 0, 1) := by decide +kernel
theorem dX3_copyFrom_40 : decode cX3_copyFrom 40 = .ok (.istore_n 2, 1) := by decide +kernel
theorem dX3_copyFrom_41 : decode cX3_copyFrom 41 = .ok (.iload_n 2, 1) := by decide +kernel
theorem dX3_copyFrom_42 : decode cX3_copyFrom 42 = .ok (.bipush 6, 2) := by decide +kernel
theorem dX3_copyFrom_44 : decode cX3_copyFrom 44 = .ok (.if_icmp .ge 28, 3) := by decide +kernel
theorem dX3_copyFrom_47 : decode cX3_copyFrom 47 = .ok (.aload_n 1, 1) := by decide +kernel
theorem dX3_copyFrom_48 : decode cX3_copyFrom 48 = .ok (.getfield 11, 3) := by decide +kernel
theorem dX3_copyFrom_51 : decode cX3_copyFrom 51 = .ok (.iload_n 2, 1) := by decide +kernel
theorem dX3_copyFrom_52 : decode cX3_copyFrom 52 = .ok (.aaload, 1) := by decide +kernel
theorem dX3_copyFrom_53 : decode cX3_copyFrom 53 = .ok (.iconst 0, 1) := by decide +kernel
theorem dX3_copyFrom_54 : decode cX3_copyFrom 54 = .ok (.aload_n 0, 1) := by decide +kernel
theorem dX3_copyFrom_55 : decode cX3_copyFrom 55 = .ok (.getfield 11, 3) := by decide +kernel
theorem dX3_copyFrom_58 : decode cX3_copyFrom 58 = .ok (.iload_n 2, 1) := by decide +kernel
theorem dX3_copyFrom_59 : decode cX3_copyFrom 59 = .ok (.aaload, 1) := by decide +kernel
theorem dX3_copyFrom_60 : decode cX3_copyFrom 60 = .ok (.iconst 0, 1) := by decide +kernel
theorem dX3_copyFrom_61 : decode cX3_copyFrom 61 = .ok (.bipush 6, 2) := by decide +kernel
theorem dX3_copyFrom_63 : decode cX3_copyFrom 63 = .ok (.invokestatic 30, 3) := by decide +kernel
theorem dX3_copyFrom_66 : decode cX3_copyFrom 66 = .ok (.iinc 2 1, 3) := by decide +kernel
theorem dX3_copyFrom_69 : decode cX3_copyFrom 69 = .ok (.goto (-28), 3) := by decide +kernel
theorem dX3_copyFrom_72 : decode cX3_copyFrom 72 = .ok (.return_, 1) := by decide +kernel
theorem dX3_hasJob_0 : decode cX3_hasJob 0 = .ok (.iload_n 1, 1) := by decide +kernel
theorem dX3_hasJob_1 : decode cX3_hasJob 1 = .ok (.ifCond .lt 15, 3) := by decide +kernel
theorem dX3_hasJob_4 : decode cX3_hasJob 4 = .ok (.iload_n 1, 1) := by decide +kernel
theorem dX3_hasJob_5 : decode cX3_hasJob 5 = .ok (.aload_n 0, 1) := by decide +kernel
theorem dX3_hasJob_6 : decode cX3_hasJob 6 = .ok (.getfield 20, 3) := by decide +kernel
theorem dX3_hasJob_9 : decode cX3_hasJob 9 = .ok (.if_icmp .ge 7, 3) := by decide +kernel
theorem dX3_hasJob_12 : decode cX3_hasJob 12 = .ok (.iconst 1, 1) := by decide +kernel
theorem dX3_hasJob_13 : decode cX3_hasJob 13 = .ok (.goto 4, 3) := by decide +kernel
theorem dX3_hasJob_16 : decode cX3_hasJob 16 = .ok (.iconst 0, 1) := by decide +kernel
theorem dX3_hasJob_17 : decode cX3_hasJob 17 = .ok (.ireturn, 1) := by decide +kernel
theorem dX3_addJob_0 : decode cX3_addJob 0 = .ok (.aload_n 0, 1) := by decide +kernel
theorem dX3_addJob_1 : decode cX3_addJob 1 = .ok (.getfield 11, 3) := by decide +kernel
theorem dX3_addJob_4 : decode cX3_addJob 4 = .ok (.aload_n 0, 1) := by decide +kernel
theorem dX3_addJob_5 : decode cX3_addJob 5 = .ok (.getfield 20, 3) := by decide +kernel
theorem dX3_addJob_8 : decode cX3_addJob 8 = .ok (.aaload, 1) := by decide +kernel
theorem dX3_addJob_9 : decode cX3_addJob 9 = .ok (.astore 4, 2) := by decide +kernel
theorem dX3_addJob_11 : decode cX3_addJob 11 = .ok (.aload 4, 2) := by decide +kernel
theorem dX3_addJob_13 : decode cX3_addJob 13 = .ok (.iconst 0, 1) := by decide +kernel
theorem dX3_addJob_14 : decode cX3_addJob 14 = .ok (.iload_n 1, 1) := by decide +kernel
theorem dX3_addJob_15 : decode cX3_addJob 15 = .ok (.iastore, 1) := by decide +kernel
theorem dX3_addJob_16 : decode cX3_addJob 16 = .ok (.aload 4, 2) := by decide +kernel
theorem dX3_addJob_18 : decode cX3_addJob 18 = .ok (.iconst 1, 1) := by decide +kernel
theorem dX3_addJob_19 : decode cX3_addJob 19 = .ok (.iload_n 2, 1) := by decide +kernel
theorem dX3_addJob_20 : decode cX3_addJob 20 = .ok (.iastore, 1) := by decide +kernel
theorem dX3_addJob_21 : decode cX3_addJob 21 = .ok (.aload 4, 2) := by decide +kernel
theorem dX3_addJob_23 : decode cX3_addJob 23 = .ok (.iconst 2, 1) := by decide +kernel
theorem dX3_addJob_24 : decode cX3_addJob 24 = .ok (.iload_n 3, 1) := by decide +kernel
theorem dX3_addJob_25 : decode cX3_addJob 25 = .ok (.iastore, 1) := by decide +kernel
theorem dX3_addJob_26 : decode cX3_addJob 26 = .ok (.aload 4, 2) := by decide +kernel
theorem dX3_addJob_28 : decode cX3_addJob 28 = .ok (.iconst 3, 1) := by decide +kernel
theorem dX3_addJob_29 : decode cX3_addJob 29 = .ok (.iconst 0, 1) := by decide +kernel
theorem dX3_addJob_30 : decode cX3_addJob 30 = .ok (.iastore, 1) := by decide +kernel
theorem dX3_addJob_31 : decode cX3_addJob 31 = .ok (.aload 4, 2) := by decide +kernel
theorem dX3_addJob_33 : decode cX3_addJob 33 = .ok (.iconst 4, 1) := by decide +kernel
theorem dX3_addJob_34 : decode cX3_addJob 34 = .ok (.iconst 0, 1) := by decide +kernel
theorem dX3_addJob_35 : decode cX3_addJob 35 = .ok (.iastore, 1) := by decide +kernel
theorem dX3_addJob_36 : decode cX3_addJob 36 = .ok (.aload 4, 2) := by decide +kernel
theorem dX3_addJob_38 : decode cX3_addJob 38 = .ok (.iconst 5, 1) := by decide +kernel
theorem dX3_addJob_39 : decode cX3_addJob 39 = .ok (.getstatic 36, 3) := by decide +kernel
theorem dX3_addJob_42 : decode cX3_addJob 42 = .ok (.iconst 5, 1) := by decide +kernel
theorem dX3_addJob_43 : decode cX3_addJob 43 = .ok (.iaload, 1) := by decide +kernel
theorem dX3_addJob_44 : decode cX3_addJob 44 = .ok (.iastore, 1) := by decide +kernel
theorem dX3_addJob_45 : decode cX3_addJob 45 = .ok (.aload_n 0, 1) := by decide +kernel
theorem dX3_addJob_46 : decode cX3_addJob 46 = .ok (.getfield 16, 3) := by decide +kernel
theorem dX3_addJob_49 : decode cX3_addJob 49 = .ok (.aload_n 0, 1) := by decide +kernel
theorem dX3_addJob_50 : decode cX3_addJob 50 = .ok (.getfield 20, 3) := by decide +kernel
theorem dX3_addJob_53 : decode cX3_addJob 53 = .ok (.aload_n 0, 1) := by decide +kernel
theorem dX3_addJob_54 : decode cX3_addJob 54 = .ok (.getfield 20, 3) := by decide +kernel
theorem dX3_addJob_57 : decode cX3_addJob 57 = .ok (.iastore, 1) := by decide +kernel
theorem dX3_addJob_58 : decode cX3_addJob 58 = .ok (.aload_n 0, 1) := by decide +kernel
theorem dX3_addJob_59 : decode cX3_addJob 59 = .ok (.dup, 1) := by decide +kernel
theorem dX3_addJob_60 : decode cX3_addJob 60 = .ok (.getfield 20, 3) := by decide +kernel
theorem dX3_addJob_63 : decode cX3_addJob 63 = .ok (.iconst 1, 1) := by decide +kernel
theorem dX3_addJob_64 : decode cX3_addJob 64 = .ok (.iadd, 1) := by decide +kernel
theorem dX3_addJob_65 : decode cX3_addJob 65 = .ok (.putfield 20, 3) := by decide +kernel
theorem dX3_addJob_68 : decode cX3_addJob 68 = .ok (.aload_n 0, 1) := by decide +kernel
theorem dX3_addJob_69 : decode cX3_addJob 69 = .ok (.getfield 20, 3) := by decide +kernel
theorem dX3_addJob_72 : decode cX3_addJob 72 = .ok (.iconst 1, 1) := by decide +kernel
theorem dX3_addJob_73 : decode cX3_addJob 73 = .ok (.isub, 1) := by decide +kernel
theorem dX3_addJob_74 : decode cX3_addJob 74 = .ok (.ireturn, 1) := by decide +kernel
theorem dX3_placeOf_0 : decode cX3_placeOf 0 = .ok (.iconst 0, 1) := by decide +kernel
theorem dX3_placeOf_1 : decode cX3_placeOf 1 = .ok (.istore_n 2, 1) := by decide +kernel
theorem dX3_placeOf_2 : decode cX3_placeOf 2 = .ok (.iload_n 2, 1) := by decide +kernel
theorem dX3_placeOf_3 : decode cX3_placeOf 3 = .ok (.aload_n 0, 1) := by decide +kernel
theorem dX3_placeOf_4 : decode cX3_placeOf 4 = .ok (.getfield 20, 3) := by decide +kernel
theorem dX3_placeOf_7 : decode cX3_placeOf 7 = .ok (.if_icmp .ge 21, 3) := by decide +kernel
theorem dX3_placeOf_10 : decode cX3_placeOf 10 = .ok (.aload_n 0, 1) := by decide +kernel
theorem dX3_placeOf_11 : decode cX3_placeOf 11 = .ok (.getfield 16, 3) := by decide +kernel
theorem dX3_placeOf_14 : decode cX3_placeOf 14 = .ok (.iload_n 2, 1) := by decide +kernel
theorem dX3_placeOf_15 : decode cX3_placeOf 15 = .ok (.iaload, 1) := by decide +kernel
theorem dX3_placeOf_16 : decode cX3_placeOf 16 = .ok (.iload_n 1, 1) := by decide +kernel
theorem dX3_placeOf_17 : decode cX3_placeOf 17 = .ok (.if_icmp .ne 5, 3) := by decide +kernel
theorem dX3_placeOf_20 : decode cX3_placeOf 20 = .ok (.iload_n 2, 1) := by decide +kernel
theorem dX3_placeOf_21 : decode cX3_placeOf 21 = .ok (.ireturn, 1) := by decide +kernel
theorem dX3_placeOf_22 : decode cX3_placeOf 22 = .ok (.iinc 2 1, 3) := by decide +kernel
theorem dX3_placeOf_25 : decode cX3_placeOf 25 = .ok (.goto (-23), 3) := by decide +kernel
theorem dX3_placeOf_28 : decode cX3_placeOf 28 = .ok (.iconst (-1), 1) := by decide +kernel
theorem dX3_placeOf_29 : decode cX3_placeOf 29 = .ok (.ireturn, 1) := by decide +kernel
theorem dX3_shiftJob_0 : decode cX3_shiftJob 0 = .ok (.aload_n 0, 1) := by decide +kernel
theorem dX3_shiftJob_1 : decode cX3_shiftJob 1 = .ok (.iload_n 2, 1) := by decide +kernel
theorem dX3_shiftJob_2 : decode cX3_shiftJob 2 = .ok (.invokevirtual 39, 3) := by decide +kernel
theorem dX3_shiftJob_5 : decode cX3_shiftJob 5 = .ok (.ifCond .eq 11, 3) := by decide +kernel
theorem dX3_shiftJob_8 : decode cX3_shiftJob 8 = .ok (.aload_n 0, 1) := by decide +kernel
theorem dX3_shiftJob_9 : decode cX3_shiftJob 9 = .ok (.iload_n 3, 1) := by decide +kernel
theorem dX3_shiftJob_10 : decode cX3_shiftJob 10 = .ok (.invokevirtual 39, 3) := by decide +kernel
theorem dX3_shiftJob_13 : decode cX3_shiftJob 13 = .ok (.ifCond .ne 4, 3) := by decide +kernel
theorem dX3_shiftJob_16 : decode cX3_shiftJob 16 = .ok (.return_, 1) := by decide +kernel
theorem dX3_shiftJob_17 : decode cX3_shiftJob 17 = .ok (.aload_n 1, 1) := by decide +kernel
theorem dX3_shiftJob_18 : decode cX3_shiftJob 18 = .ok (.iload_n 2, 1) := by decide +kernel
theorem dX3_shiftJob_19 : decode cX3_shiftJob 19 = .ok (.iaload, 1) := by decide +kernel
theorem dX3_shiftJob_20 : decode cX3_shiftJob 20 = .ok (.istore 4, 2) := by decide +kernel
theorem dX3_shiftJob_22 : decode cX3_shiftJob 22 = .ok (.iload_n 2, 1) := by decide +kernel
theorem dX3_shiftJob_23 : decode cX3_shiftJob 23 = .ok (.istore 5, 2) := by decide +kernel
theorem dX3_shiftJob_25 : decode cX3_shiftJob 25 = .ok (.iload 5, 2) := by decide +kernel
theorem dX3_shiftJob_27 : decode cX3_shiftJob 27 = .ok (.iload_n 3, 1) := by decide +kernel
theorem dX3_shiftJob_28 : decode cX3_shiftJob 28 = .ok (.if_icmp .ge 19, 3) := by decide +kernel
theorem dX3_shiftJob_31 : decode cX3_shiftJob 31 = .ok (.aload_n 1, 1) := by decide +kernel
theorem dX3_shiftJob_32 : decode cX3_shiftJob 32 = .ok (.iload 5, 2) := by decide +kernel
theorem dX3_shiftJob_34 : decode cX3_shiftJob 34 = .ok (.aload_n 1, 1) := by decide +kernel
theorem dX3_shiftJob_35 : decode cX3_shiftJob 35 = .ok (.iload 5, 2) := by decide +kernel
theorem dX3_shiftJob_37 : decode cX3_shiftJob 37 = .ok (.iconst 1, 1) := by decide +kernel
theorem dX3_shiftJob_38 : decode cX3_shiftJob 38 = .ok (.iadd, 1) := by decide +kernel
theorem dX3_shiftJob_39 : decode cX3_shiftJob 39 = .ok (.iaload, 1) := by decide +kernel
theorem dX3_shiftJob_40 : decode cX3_shiftJob 40 = .ok (.iastore, 1) := by decide +kernel
theorem dX3_shiftJob_41 : decode cX3_shiftJob 41 = .ok (.iinc 5 1, 3) := by decide +kernel
theorem dX3_shiftJob_44 : decode cX3_shiftJob 44 = .ok (.goto (-19), 3) := by decide +kernel
theorem dX3_shiftJob_47 : decode cX3_shiftJob 47 = .ok (.iload_n 2, 1) := by decide +kernel
theorem dX3_shiftJob_48 : decode cX3_shiftJob 48 = .ok (.istore 5, 2) := by decide +kernel
theorem dX3_shiftJob_50 : decode cX3_shiftJob 50 = .ok (.iload 5, 2) := by decide +kernel
theorem dX3_shiftJob_52 : decode cX3_shiftJob 52 = .ok (.iload_n 3, 1) := by decide +kernel
theorem dX3_shiftJob_53 : decode cX3_shiftJob 53 = .ok (.if_icmp .le 19, 3) := by decide +kernel
theorem dX3_shiftJob_56 : decode cX3_shiftJob 56 = .ok (.aload_n 1, 1) := by decide +kernel
theorem dX3_shiftJob_57 : decode cX3_shiftJob 57 = .ok (.iload 5, 2) := by decide +kernel
theorem dX3_shiftJob_59 : decode cX3_shiftJob 59 = .ok (.aload_n 1, 1) := by decide +kernel
theorem dX3_shiftJob_60 : decode cX3_shiftJob 60 = .ok (.iload 5, 2) := by decide +kernel
theorem dX3_shiftJob_62 : decode cX3_shiftJob 62 = .ok (.iconst 1, 1) := by decide +kernel
theorem dX3_shiftJob_63 : decode cX3_shiftJob 63 = .ok (.isub, 1) := by decide +kernel
theorem dX3_shiftJob_64 : decode cX3_shiftJob 64 = .ok (.iaload, 1) := by decide +kernel
theorem dX3_shiftJob_65 : decode cX3_shiftJob 65 = .ok (.iastore, 1) := by decide +kernel
theorem dX3_shiftJob_66 : decode cX3_shiftJob 66 = .ok (.iinc 5 (-1), 3) := by decide +kernel
theorem dX3_shiftJob_69 : decode cX3_shiftJob 69 = .ok (.goto (-19), 3) := by decide +kernel
theorem dX3_shiftJob_72 : decode cX3_shiftJob 72 = .ok (.aload_n 1, 1) := by decide +kernel
theorem dX3_shiftJob_73 : decode cX3_shiftJob 73 = .ok (.iload_n 3, 1) := by decide +kernel
theorem dX3_shiftJob_74 : decode cX3_shiftJob 74 = .ok (.iload 4, 2) := by decide +kernel
theorem dX3_shiftJob_76 : decode cX3_shiftJob 76 = .ok (.iastore, 1) := by decide +kernel
theorem dX3_shiftJob_77 : decode cX3_shiftJob 77 = .ok (.return_, 1) := by decide +kernel
theorem dX3_orderBy_0 : decode cX3_orderBy 0 = .ok (.iconst 0, 1) := by decide +kernel
theorem dX3_orderBy_1 : decode cX3_orderBy 1 = .ok (.istore_n 3, 1) := by decide +kernel
theorem dX3_orderBy_2 : decode cX3_orderBy 2 = .ok (.iload_n 3, 1) := by decide +kernel
theorem dX3_orderBy_3 : decode cX3_orderBy 3 = .ok (.aload_n 0, 1) := by decide +kernel
theorem dX3_orderBy_4 : decode cX3_orderBy 4 = .ok (.getfield 20, 3) := by decide +kernel
theorem dX3_orderBy_7 : decode cX3_orderBy 7 = .ok (.if_icmp .ge 18, 3) := by decide +kernel
theorem dX3_orderBy_10 : decode cX3_orderBy 10 = .ok (.aload_n 2, 1) := by decide +kernel
theorem dX3_orderBy_11 : decode cX3_orderBy 11 = .ok (.aload_n 0, 1) := by decide +kernel
theorem dX3_orderBy_12 : decode cX3_orderBy 12 = .ok (.iload_n 1, 1) := by decide +kernel
theorem dX3_orderBy_13 : decode cX3_orderBy 13 = .ok (.iload_n 3, 1) := by decide +kernel
theorem dX3_orderBy_14 : decode cX3_orderBy 14 = .ok (.invokevirtual 43, 3) := by decide +kernel
theorem dX3_orderBy_17 : decode cX3_orderBy 17 = .ok (.iload_n 3, 1) := by decide +kernel
theorem dX3_orderBy_18 : decode cX3_orderBy 18 = .ok (.iastore, 1) := by decide +kernel
theorem dX3_orderBy_19 : decode cX3_orderBy 19 = .ok (.iinc 3 1, 3) := by decide +kernel
theorem dX3_orderBy_22 : decode cX3_orderBy 22 = .ok (.goto (-20), 3) := by decide +kernel
theorem dX3_orderBy_25 : decode cX3_orderBy 25 = .ok (.return_, 1) := by decide +kernel
theorem dX3_placeBy_0 : decode cX3_placeBy 0 = .ok (.aload_n 0, 1) := by decide +kernel
theorem dX3_placeBy_1 : decode cX3_placeBy 1 = .ok (.iload_n 1, 1) := by decide +kernel
theorem dX3_placeBy_2 : decode cX3_placeBy 2 = .ok (.iload_n 2, 1) := by decide +kernel
theorem dX3_placeBy_3 : decode cX3_placeBy 3 = .ok (.invokevirtual 47, 3) := by decide +kernel
theorem dX3_placeBy_6 : decode cX3_placeBy 6 = .ok (.istore_n 3, 1) := by decide +kernel
theorem dX3_placeBy_7 : decode cX3_placeBy 7 = .ok (.iconst 0, 1) := by decide +kernel
theorem dX3_placeBy_8 : decode cX3_placeBy 8 = .ok (.istore 4, 2) := by decide +kernel
theorem dX3_placeBy_10 : decode cX3_placeBy 10 = .ok (.iconst 0, 1) := by decide +kernel
theorem dX3_placeBy_11 : decode cX3_placeBy 11 = .ok (.istore 5, 2) := by decide +kernel
theorem dX3_placeBy_13 : decode cX3_placeBy 13 = .ok (.iload 5, 2) := by decide +kernel
theorem dX3_placeBy_15 : decode cX3_placeBy 15 = .ok (.aload_n 0, 1) := by decide +kernel
theorem dX3_placeBy_16 : decode cX3_placeBy 16 = .ok (.getfield 20, 3) := by decide +kernel
theorem dX3_placeBy_19 : decode cX3_placeBy 19 = .ok (.if_icmp .ge 39, 3) := by decide +kernel
theorem dX3_placeBy_22 : decode cX3_placeBy 22 = .ok (.aload_n 0, 1) := by decide +kernel
theorem dX3_placeBy_23 : decode cX3_placeBy 23 = .ok (.iload_n 1, 1) := by decide +kernel
theorem dX3_placeBy_24 : decode cX3_placeBy 24 = .ok (.iload 5, 2) := by decide +kernel
theorem dX3_placeBy_26 : decode cX3_placeBy 26 = .ok (.invokevirtual 47, 3) := by decide +kernel
theorem dX3_placeBy_29 : decode cX3_placeBy 29 = .ok (.istore 6, 2) := by decide +kernel
theorem dX3_placeBy_31 : decode cX3_placeBy 31 = .ok (.iload 6, 2) := by decide +kernel
theorem dX3_placeBy_33 : decode cX3_placeBy 33 = .ok (.iload_n 3, 1) := by decide +kernel
theorem dX3_placeBy_34 : decode cX3_placeBy 34 = .ok (.if_icmp .lt 15, 3) := by decide +kernel
theorem dX3_placeBy_37 : decode cX3_placeBy 37 = .ok (.iload 6, 2) := by decide +kernel
theorem dX3_placeBy_39 : decode cX3_placeBy 39 = .ok (.iload_n 3, 1) := by decide +kernel
theorem dX3_placeBy_40 : decode cX3_placeBy 40 = .ok (.if_icmp .ne 12, 3) := by decide +kernel
theorem dX3_placeBy_43 : decode cX3_placeBy 43 = .ok (.iload 5, 2) := by decide +kernel
theorem dX3_placeBy_45 : decode cX3_placeBy 45 = .ok (.iload_n 2, 1) := by decide +kernel
theorem dX3_placeBy_46 : decode cX3_placeBy 46 = .ok (.if_icmp .ge 6, 3) := by decide +kernel
theorem dX3_placeBy_49 : decode cX3_placeBy 49 = .ok (.iinc 4 1, 3) := by decide +kernel
theorem dX3_placeBy_52 : decode cX3_placeBy 52 = .ok (.iinc 5 1, 3) := by decide +kernel
theorem dX3_placeBy_55 : decode cX3_placeBy 55 = .ok (.goto (-42), 3) := by decide +kernel
theorem dX3_placeBy_58 : decode cX3_placeBy 58 = .ok (.iload 4, 2) := by decide +kernel
theorem dX3_placeBy_60 : decode cX3_placeBy 60 = .ok (.ireturn, 1) := by decide +kernel
theorem dX3_keyOf_0 : decode cX3_keyOf 0 = .ok (.aload_n 0, 1) := by decide +kernel
theorem dX3_keyOf_1 : decode cX3_keyOf 1 = .ok (.getfield 11, 3) := by decide +kernel
theorem dX3_keyOf_4 : decode cX3_keyOf 4 = .ok (.iload_n 2, 1) := by decide +kernel
theorem dX3_keyOf_5 : decode cX3_keyOf 5 = .ok (.aaload, 1) := by decide +kernel
theorem dX3_keyOf_6 : decode cX3_keyOf 6 = .ok (.astore_n 3, 1) := by decide +kernel
theorem dX3_keyOf_7 : decode cX3_keyOf 7 = .ok (.iload_n 1, 1) := by decide +kernel
theorem dX3_keyOf_8 : decode cX3_keyOf 8 = .ok (.tableswitch 75 1 3 #[28, 59, 71], 28) := by decide +kernel
theorem dX3_keyOf_36 : decode cX3_keyOf 36 = .ok (.aload_n 3, 1) := by decide +kernel
theorem dX3_keyOf_37 : decode cX3_keyOf 37 = .ok (.iconst 0, 1) := by decide +kernel
theorem dX3_keyOf_38 : decode cX3_keyOf 38 = .ok (.iaload, 1) := by decide +kernel
theorem dX3_keyOf_39 : decode cX3_keyOf 39 = .ok (.aload_n 3, 1) := by decide +kernel
theorem dX3_keyOf_40 : decode cX3_keyOf 40 = .ok (.iconst 2, 1) := by decide +kernel
theorem dX3_keyOf_41 : decode cX3_keyOf 41 = .ok (.iaload, 1) := by decide +kernel
theorem dX3_keyOf_42 : decode cX3_keyOf 42 = .ok (.if_icmp .gt 13, 3) := by decide +kernel
theorem dX3_keyOf_45 : decode cX3_keyOf 45 = .ok (.aload_n 3, 1) := by decide +kernel
theorem dX3_keyOf_46 : decode cX3_keyOf 46 = .ok (.iconst 0, 1) := by decide +kernel
theorem dX3_keyOf_47 : decode cX3_keyOf 47 = .ok (.iaload, 1) := by decide +kernel
theorem dX3_keyOf_48 : decode cX3_keyOf 48 = .ok (.aload_n 3, 1) := by decide +kernel
theorem dX3_keyOf_49 : decode cX3_keyOf 49 = .ok (.iconst 1, 1) := by decide +kernel
theorem dX3_keyOf_50 : decode cX3_keyOf 50 = .ok (.iaload, 1) := by decide +kernel
theorem dX3_keyOf_51 : decode cX3_keyOf 51 = .ok (.iadd, 1) := by decide +kernel
theorem dX3_keyOf_52 : decode cX3_keyOf 52 = .ok (.goto 14, 3) := by decide +kernel
theorem dX3_keyOf_55 : decode cX3_keyOf 55 = .ok (.sipush 1000, 3) := by decide +kernel
theorem dX3_keyOf_58 : decode cX3_keyOf 58 = .ok (.aload_n 3, 1) := by decide +kernel
theorem dX3_keyOf_59 : decode cX3_keyOf 59 = .ok (.iconst 1, 1) := by decide +kernel
theorem dX3_keyOf_60 : decode cX3_keyOf 60 = .ok (.iaload, 1) := by decide +kernel
theorem dX3_keyOf_61 : decode cX3_keyOf 61 = .ok (.isub, 1) := by decide +kernel
theorem dX3_keyOf_62 : decode cX3_keyOf 62 = .ok (.aload_n 3, 1) := by decide +kernel
theorem dX3_keyOf_63 : decode cX3_keyOf 63 = .ok (.iconst 2, 1) := by decide +kernel
theorem dX3_keyOf_64 : decode cX3_keyOf 64 = .ok (.iaload, 1) := by decide +kernel
theorem dX3_keyOf_65 : decode cX3_keyOf 65 = .ok (.isub, 1) := by decide +kernel
theorem dX3_keyOf_66 : decode cX3_keyOf 66 = .ok (.ireturn, 1) := by decide +kernel
theorem dX3_keyOf_67 : decode cX3_keyOf 67 = .ok (.aload_n 3, 1) := by decide +kernel
theorem dX3_keyOf_68 : decode cX3_keyOf 68 = .ok (.iconst 0, 1) := by decide +kernel
theorem dX3_keyOf_69 : decode cX3_keyOf 69 = .ok (.iaload, 1) := by decide +kernel
theorem dX3_keyOf_70 : decode cX3_keyOf 70 = .ok (.aload_n 3, 1) := by decide +kernel
theorem dX3_keyOf_71 : decode cX3_keyOf 71 = .ok (.iconst 1, 1) := by decide +kernel
theorem dX3_keyOf_72 : decode cX3_keyOf 72 = .ok (.iaload, 1) := by decide +kernel
theorem dX3_keyOf_73 : decode cX3_keyOf 73 = .ok (.iadd, 1) := by decide +kernel
theorem dX3_keyOf_74 : decode cX3_keyOf 74 = .ok (.aload_n 3, 1) := by decide +kernel
theorem dX3_keyOf_75 : decode cX3_keyOf 75 = .ok (.iconst 2, 1) := by decide +kernel
theorem dX3_keyOf_76 : decode cX3_keyOf 76 = .ok (.iaload, 1) := by decide +kernel
theorem dX3_keyOf_77 : decode cX3_keyOf 77 = .ok (.iadd, 1) := by decide +kernel
theorem dX3_keyOf_78 : decode cX3_keyOf 78 = .ok (.ireturn, 1) := by decide +kernel
theorem dX3_keyOf_79 : decode cX3_keyOf 79 = .ok (.aload_n 3, 1) := by decide +kernel
theorem dX3_keyOf_80 : decode cX3_keyOf 80 = .ok (.iconst 5, 1) := by decide +kernel
theorem dX3_keyOf_81 : decode cX3_keyOf 81 = .ok (.iaload, 1) := by decide +kernel
theorem dX3_keyOf_82 : decode cX3_keyOf 82 = .ok (.ireturn, 1) := by decide +kernel
theorem dX3_keyOf_83 : decode cX3_keyOf 83 = .ok (.iload_n 2, 1) := by decide +kernel
theorem dX3_keyOf_84 : decode cX3_keyOf 84 = .ok (.ireturn, 1) := by decide +kernel
theorem dX3_bound_0 : decode cX3_bound 0 = .ok (.iconst 0, 1) := by decide +kernel
theorem dX3_bound_1 : decode cX3_bound 1 = .ok (.istore_n 1, 1) := by decide +kernel
theorem dX3_bound_2 : decode cX3_bound 2 = .ok (.iconst 0, 1) := by decide +kernel
theorem dX3_bound_3 : decode cX3_bound 3 = .ok (.istore_n 2, 1) := by decide +kernel
theorem dX3_bound_4 : decode cX3_bound 4 = .ok (.ldc 50, 2) := by decide +kernel
theorem dX3_bound_6 : decode cX3_bound 6 = .ok (.istore_n 3, 1) := by decide +kernel
theorem dX3_bound_7 : decode cX3_bound 7 = .ok (.ldc 50, 2) := by decide +kernel
theorem dX3_bound_9 : decode cX3_bound 9 = .ok (.istore 4, 2) := by decide +kernel
theorem dX3_bound_11 : decode cX3_bound 11 = .ok (.iconst 0, 1) := by decide +kernel
theorem dX3_bound_12 : decode cX3_bound 12 = .ok (.istore 5, 2) := by decide +kernel
theorem dX3_bound_14 : decode cX3_bound 14 = .ok (.iload 5, 2) := by decide +kernel
theorem dX3_bound_16 : decode cX3_bound 16 = .ok (.aload_n 0, 1) := by decide +kernel
theorem dX3_bound_17 : decode cX3_bound 17 = .ok (.getfield 20, 3) := by decide +kernel
theorem dX3_bound_20 : decode cX3_bound 20 = .ok (.if_icmp .ge 62, 3) := by decide +kernel
theorem dX3_bound_23 : decode cX3_bound 23 = .ok (.aload_n 0, 1) := by decide +kernel
theorem dX3_bound_24 : decode cX3_bound 24 = .ok (.getfield 11, 3) := by decide +kernel
theorem dX3_bound_27 : decode cX3_bound 27 = .ok (.iload 5, 2) := by decide +kernel
theorem dX3_bound_29 : decode cX3_bound 29 = .ok (.aaload, 1) := by decide +kernel
theorem dX3_bound_30 : decode cX3_bound 30 = .ok (.astore 6, 2) := by decide +kernel
theorem dX3_bound_32 : decode cX3_bound 32 = .ok (.iload_n 1, 1) := by decide +kernel
theorem dX3_bound_33 : decode cX3_bound 33 = .ok (.aload 6, 2) := by decide +kernel
theorem dX3_bound_35 : decode cX3_bound 35 = .ok (.iconst 0, 1) := by decide +kernel
theorem dX3_bound_36 : decode cX3_bound 36 = .ok (.iaload, 1) := by decide +kernel
theorem dX3_bound_37 : decode cX3_bound 37 = .ok (.iadd, 1) := by decide +kernel
theorem dX3_bound_38 : decode cX3_bound 38 = .ok (.istore_n 1, 1) := by decide +kernel
theorem dX3_bound_39 : decode cX3_bound 39 = .ok (.iload_n 2, 1) := by decide +kernel
theorem dX3_bound_40 : decode cX3_bound 40 = .ok (.aload 6, 2) := by decide +kernel
theorem dX3_bound_42 : decode cX3_bound 42 = .ok (.iconst 2, 1) := by decide +kernel
theorem dX3_bound_43 : decode cX3_bound 43 = .ok (.iaload, 1) := by decide +kernel
theorem dX3_bound_44 : decode cX3_bound 44 = .ok (.iadd, 1) := by decide +kernel
theorem dX3_bound_45 : decode cX3_bound 45 = .ok (.istore_n 2, 1) := by decide +kernel
theorem dX3_bound_46 : decode cX3_bound 46 = .ok (.iload_n 3, 1) := by decide +kernel
theorem dX3_bound_47 : decode cX3_bound 47 = .ok (.aload 6, 2) := by decide +kernel
theorem dX3_bound_49 : decode cX3_bound 49 = .ok (.iconst 1, 1) := by decide +kernel
theorem dX3_bound_50 : decode cX3_bound 50 = .ok (.iaload, 1) := by decide +kernel
theorem dX3_bound_51 : decode cX3_bound 51 = .ok (.aload 6, 2) := by decide +kernel
theorem dX3_bound_53 : decode cX3_bound 53 = .ok (.iconst 2, 1) := by decide +kernel
theorem dX3_bound_54 : decode cX3_bound 54 = .ok (.iaload, 1) := by decide +kernel
theorem dX3_bound_55 : decode cX3_bound 55 = .ok (.iadd, 1) := by decide +kernel
theorem dX3_bound_56 : decode cX3_bound 56 = .ok (.invokestatic 51, 3) := by decide +kernel
theorem dX3_bound_59 : decode cX3_bound 59 = .ok (.istore_n 3, 1) := by decide +kernel
theorem dX3_bound_60 : decode cX3_bound 60 = .ok (.iload 4, 2) := by decide +kernel
theorem dX3_bound_62 : decode cX3_bound 62 = .ok (.aload 6, 2) := by decide +kernel
theorem dX3_bound_64 : decode cX3_bound 64 = .ok (.iconst 0, 1) := by decide +kernel
theorem dX3_bound_65 : decode cX3_bound 65 = .ok (.iaload, 1) := by decide +kernel
theorem dX3_bound_66 : decode cX3_bound 66 = .ok (.aload 6, 2) := by decide +kernel
theorem dX3_bound_68 : decode cX3_bound 68 = .ok (.iconst 1, 1) := by decide +kernel
theorem dX3_bound_69 : decode cX3_bound 69 = .ok (.iaload, 1) := by decide +kernel
theorem dX3_bound_70 : decode cX3_bound 70 = .ok (.iadd, 1) := by decide +kernel
theorem dX3_bound_71 : decode cX3_bound 71 = .ok (.invokestatic 51, 3) := by decide +kernel
theorem dX3_bound_74 : decode cX3_bound 74 = .ok (.istore 4, 2) := by decide +kernel
theorem dX3_bound_76 : decode cX3_bound 76 = .ok (.iinc 5 1, 3) := by decide +kernel
theorem dX3_bound_79 : decode cX3_bound 79 = .ok (.goto (-65), 3) := by decide +kernel
theorem dX3_bound_82 : decode cX3_bound 82 = .ok (.iload_n 1, 1) := by decide +kernel
theorem dX3_bound_83 : decode cX3_bound 83 = .ok (.iload_n 3, 1) := by decide +kernel
theorem dX3_bound_84 : decode cX3_bound 84 = .ok (.iadd, 1) := by decide +kernel
theorem dX3_bound_85 : decode cX3_bound 85 = .ok (.iload_n 2, 1) := by decide +kernel
theorem dX3_bound_86 : decode cX3_bound 86 = .ok (.iload 4, 2) := by decide +kernel
theorem dX3_bound_88 : decode cX3_bound 88 = .ok (.iadd, 1) := by decide +kernel
theorem dX3_bound_89 : decode cX3_bound 89 = .ok (.invokestatic 56, 3) := by decide +kernel
theorem dX3_bound_92 : decode cX3_bound 92 = .ok (.ireturn, 1) := by decide +kernel
theorem dX3_isEasy_0 : decode cX3_isEasy 0 = .ok (.bipush 30, 2) := by decide +kernel
theorem dX3_isEasy_2 : decode cX3_isEasy 2 = .ok (.istore_n 1, 1) := by decide +kernel
theorem dX3_isEasy_3 : decode cX3_isEasy 3 = .ok (.bipush 30, 2) := by decide +kernel
theorem dX3_isEasy_5 : decode cX3_isEasy 5 = .ok (.istore_n 2, 1) := by decide +kernel
theorem dX3_isEasy_6 : decode cX3_isEasy 6 = .ok (.iconst 0, 1) := by decide +kernel
theorem dX3_isEasy_7 : decode cX3_isEasy 7 = .ok (.istore_n 3, 1) := by decide +kernel
theorem dX3_isEasy_8 : decode cX3_isEasy 8 = .ok (.iconst 0, 1) := by decide +kernel
theorem dX3_isEasy_9 : decode cX3_isEasy 9 = .ok (.istore 4, 2) := by decide +kernel
theorem dX3_isEasy_11 : decode cX3_isEasy 11 = .ok (.iload 4, 2) := by decide +kernel
theorem dX3_isEasy_13 : decode cX3_isEasy 13 = .ok (.aload_n 0, 1) := by decide +kernel
theorem dX3_isEasy_14 : decode cX3_isEasy 14 = .ok (.getfield 20, 3) := by decide +kernel
theorem dX3_isEasy_17 : decode cX3_isEasy 17 = .ok (.if_icmp .ge 45, 3) := by decide +kernel
theorem dX3_isEasy_20 : decode cX3_isEasy 20 = .ok (.aload_n 0, 1) := by decide +kernel
theorem dX3_isEasy_21 : decode cX3_isEasy 21 = .ok (.getfield 11, 3) := by decide +kernel
theorem dX3_isEasy_24 : decode cX3_isEasy 24 = .ok (.iload 4, 2) := by decide +kernel
theorem dX3_isEasy_26 : decode cX3_isEasy 26 = .ok (.aaload, 1) := by decide +kernel
theorem dX3_isEasy_27 : decode cX3_isEasy 27 = .ok (.astore 5, 2) := by decide +kernel
theorem dX3_isEasy_29 : decode cX3_isEasy 29 = .ok (.iload_n 1, 1) := by decide +kernel
theorem dX3_isEasy_30 : decode cX3_isEasy 30 = .ok (.aload 5, 2) := by decide +kernel
theorem dX3_isEasy_32 : decode cX3_isEasy 32 = .ok (.iconst 0, 1) := by decide +kernel
theorem dX3_isEasy_33 : decode cX3_isEasy 33 = .ok (.iaload, 1) := by decide +kernel
theorem dX3_isEasy_34 : decode cX3_isEasy 34 = .ok (.invokestatic 51, 3) := by decide +kernel
theorem dX3_isEasy_37 : decode cX3_isEasy 37 = .ok (.istore_n 1, 1) := by decide +kernel
theorem dX3_isEasy_38 : decode cX3_isEasy 38 = .ok (.iload_n 2, 1) := by decide +kernel
theorem dX3_isEasy_39 : decode cX3_isEasy 39 = .ok (.aload 5, 2) := by decide +kernel
theorem dX3_isEasy_41 : decode cX3_isEasy 41 = .ok (.iconst 2, 1) := by decide +kernel
theorem dX3_isEasy_42 : decode cX3_isEasy 42 = .ok (.iaload, 1) := by decide +kernel
theorem dX3_isEasy_43 : decode cX3_isEasy 43 = .ok (.invokestatic 51, 3) := by decide +kernel
theorem dX3_isEasy_46 : decode cX3_isEasy 46 = .ok (.istore_n 2, 1) := by decide +kernel
theorem dX3_isEasy_47 : decode cX3_isEasy 47 = .ok (.iload_n 3, 1) := by decide +kernel
theorem dX3_isEasy_48 : decode cX3_isEasy 48 = .ok (.aload 5, 2) := by decide +kernel
theorem dX3_isEasy_50 : decode cX3_isEasy 50 = .ok (.iconst 1, 1) := by decide +kernel
theorem dX3_isEasy_51 : decode cX3_isEasy 51 = .ok (.iaload, 1) := by decide +kernel
theorem dX3_isEasy_52 : decode cX3_isEasy 52 = .ok (.invokestatic 56, 3) := by decide +kernel
theorem dX3_isEasy_55 : decode cX3_isEasy 55 = .ok (.istore_n 3, 1) := by decide +kernel
theorem dX3_isEasy_56 : decode cX3_isEasy 56 = .ok (.iinc 4 1, 3) := by decide +kernel
theorem dX3_isEasy_59 : decode cX3_isEasy 59 = .ok (.goto (-48), 3) := by decide +kernel
theorem dX3_isEasy_62 : decode cX3_isEasy 62 = .ok (.iload_n 3, 1) := by decide +kernel
theorem dX3_isEasy_63 : decode cX3_isEasy 63 = .ok (.iload_n 1, 1) := by decide +kernel
theorem dX3_isEasy_64 : decode cX3_isEasy 64 = .ok (.if_icmp .le 8, 3) := by decide +kernel
theorem dX3_isEasy_67 : decode cX3_isEasy 67 = .ok (.iload_n 3, 1) := by decide +kernel
theorem dX3_isEasy_68 : decode cX3_isEasy 68 = .ok (.iload_n 2, 1) := by decide +kernel
theorem dX3_isEasy_69 : decode cX3_isEasy 69 = .ok (.if_icmp .gt 7, 3) := by decide +kernel
theorem dX3_isEasy_72 : decode cX3_isEasy 72 = .ok (.iconst 1, 1) := by decide +kernel
theorem dX3_isEasy_73 : decode cX3_isEasy 73 = .ok (.goto 4, 3) := by decide +kernel
theorem dX3_isEasy_76 : decode cX3_isEasy 76 = .ok (.iconst 0, 1) := by decide +kernel
theorem dX3_isEasy_77 : decode cX3_isEasy 77 = .ok (.ireturn, 1) := by decide +kernel
theorem dX3_firstListSize_0 : decode cX3_firstListSize 0 = .ok (.iconst 0, 1) := by decide +kernel
theorem dX3_firstListSize_1 : decode cX3_firstListSize 1 = .ok (.istore_n 1, 1) := by decide +kernel
theorem dX3_firstListSize_2 : decode cX3_firstListSize 2 = .ok (.iconst 0, 1) := by decide +kernel
theorem dX3_firstListSize_3 : decode cX3_firstListSize 3 = .ok (.istore_n 2, 1) := by decide +kernel
theorem dX3_firstListSize_4 : decode cX3_firstListSize 4 = .ok (.iload_n 2, 1) := by decide +kernel
theorem dX3_firstListSize_5 : decode cX3_firstListSize 5 = .ok (.aload_n 0, 1) := by decide +kernel
theorem dX3_firstListSize_6 : decode cX3_firstListSize 6 = .ok (.getfield 20, 3) := by decide +kernel
theorem dX3_firstListSize_9 : decode cX3_firstListSize 9 = .ok (.if_icmp .ge 31, 3) := by decide +kernel
theorem dX3_firstListSize_12 : decode cX3_firstListSize 12 = .ok (.aload_n 0, 1) := by decide +kernel
theorem dX3_firstListSize_13 : decode cX3_firstListSize 13 = .ok (.getfield 11, 3) := by decide +kernel
theorem dX3_firstListSize_16 : decode cX3_firstListSize 16 = .ok (.iload_n 2, 1) := by decide +kernel
theorem dX3_firstListSize_17 : decode cX3_firstListSize 17 = .ok (.aaload, 1) := by decide +kernel
theorem dX3_firstListSize_18 : decode cX3_firstListSize 18 = .ok (.iconst 0, 1) := by decide +kernel
theorem dX3_firstListSize_19 : decode cX3_firstListSize 19 = .ok (.iaload, 1) := by decide +kernel
theorem dX3_firstListSize_20 : decode cX3_firstListSize 20 = .ok (.aload_n 0, 1) := by decide +kernel
theorem dX3_firstListSize_21 : decode cX3_firstListSize 21 = .ok (.getfield 11, 3) := by decide +kernel
theorem dX3_firstListSize_24 : decode cX3_firstListSize 24 = .ok (.iload_n 2, 1) := by decide +kernel
theorem dX3_firstListSize_25 : decode cX3_firstListSize 25 = .ok (.aaload, 1) := by decide +kernel
theorem dX3_firstListSize_26 : decode cX3_firstListSize 26 = .ok (.iconst 2, 1) := by decide +kernel
theorem dX3_firstListSize_27 : decode cX3_firstListSize 27 = .ok (.iaload, 1) := by decide +kernel
theorem dX3_firstListSize_28 : decode cX3_firstListSize 28 = .ok (.if_icmp .gt 6, 3) := by decide +kernel
theorem dX3_firstListSize_31 : decode cX3_firstListSize 31 = .ok (.iinc 1 1, 3) := by decide +kernel
theorem dX3_firstListSize_34 : decode cX3_firstListSize 34 = .ok (.iinc 2 1, 3) := by decide +kernel
theorem dX3_firstListSize_37 : decode cX3_firstListSize 37 = .ok (.goto (-33), 3) := by decide +kernel
theorem dX3_firstListSize_40 : decode cX3_firstListSize 40 = .ok (.iload_n 1, 1) := by decide +kernel
theorem dX3_firstListSize_41 : decode cX3_firstListSize 41 = .ok (.ireturn, 1) := by decide +kernel
theorem dX4_init_0 : decode cX4_init 0 = .ok (.aload_n 0, 1) := by decide +kernel
theorem dX4_init_1 : decode cX4_init 1 = .ok (.invokespecial 1, 3) := by decide +kernel
theorem dX4_init_4 : decode cX4_init 4 = .ok (.aload_n 0, 1) := by decide +kernel
theorem dX4_init_5 : decode cX4_init 5 = .ok (.bipush 60, 2) := by decide +kernel
theorem dX4_init_7 : decode cX4_init 7 = .ok (.newarray .long, 2) := by decide +kernel
theorem dX4_init_9 : decode cX4_init 9 = .ok (.putfield 9, 3) := by decide +kernel
theorem dX4_init_12 : decode cX4_init 12 = .ok (.aload_n 0, 1) := by decide +kernel
theorem dX4_init_13 : decode cX4_init 13 = .ok (.iconst (-1), 1) := by decide +kernel
theorem dX4_init_14 : decode cX4_init 14 = .ok (.putfield 13, 3) := by decide +kernel
theorem dX4_init_17 : decode cX4_init 17 = .ok (.return_, 1) := by decide +kernel
theorem dX4_become_0 : decode cX4_become 0 = .ok (.aload_n 0, 1) := by decide +kernel
theorem dX4_become_1 : decode cX4_become 1 = .ok (.iload_n 1, 1) := by decide +kernel
theorem dX4_become_2 : decode cX4_become 2 = .ok (.putfield 13, 3) := by decide +kernel
theorem dX4_become_5 : decode cX4_become 5 = .ok (.aload_n 0, 1) := by decide +kernel
theorem dX4_become_6 : decode cX4_become 6 = .ok (.iload_n 2, 1) := by decide +kernel
theorem dX4_become_7 : decode cX4_become 7 = .ok (.putfield 17, 3) := by decide +kernel
theorem dX4_become_10 : decode cX4_become 10 = .ok (.aload_n 0, 1) := by decide +kernel
theorem dX4_become_11 : decode cX4_become 11 = .ok (.getfield 9, 3) := by decide +kernel
theorem dX4_become_14 : decode cX4_become 14 = .ok (.lconst 0, 1) := by decide +kernel
theorem dX4_become_15 : decode cX4_become 15 = .ok (.invokestatic 20, 3) := by decide +kernel
theorem dX4_become_18 : decode cX4_become 18 = .ok (.return_, 1) := by decide +kernel
theorem dX4_hasItem_0 : decode cX4_hasItem 0 = .ok (.iload_n 1, 1) := by decide +kernel
theorem dX4_hasItem_1 : decode cX4_hasItem 1 = .ok (.ifCond .lt 15, 3) := by decide +kernel
theorem dX4_hasItem_4 : decode cX4_hasItem 4 = .ok (.iload_n 1, 1) := by decide +kernel
theorem dX4_hasItem_5 : decode cX4_hasItem 5 = .ok (.aload_n 0, 1) := by decide +kernel
theorem dX4_hasItem_6 : decode cX4_hasItem 6 = .ok (.getfield 17, 3) := by decide +kernel
theorem dX4_hasItem_9 : decode cX4_hasItem 9 = .ok (.if_icmp .ge 7, 3) := by decide +kernel
theorem dX4_hasItem_12 : decode cX4_hasItem 12 = .ok (.iconst 1, 1) := by decide +kernel
theorem dX4_hasItem_13 : decode cX4_hasItem 13 = .ok (.goto 4, 3) := by decide +kernel
theorem dX4_hasItem_16 : decode cX4_hasItem 16 = .ok (.iconst 0, 1) := by decide +kernel
theorem dX4_hasItem_17 : decode cX4_hasItem 17 = .ok (.ireturn, 1) := by decide +kernel
theorem dX4_hasRun_0 : decode cX4_hasRun 0 = .ok (.iload_n 2, 1) := by decide +kernel
theorem dX4_hasRun_1 : decode cX4_hasRun 1 = .ok (.ifCond .lt 29, 3) := by decide +kernel
theorem dX4_hasRun_4 : decode cX4_hasRun 4 = .ok (.iload_n 1, 1) := by decide +kernel
theorem dX4_hasRun_5 : decode cX4_hasRun 5 = .ok (.ifCond .lt 25, 3) := by decide +kernel
theorem dX4_hasRun_8 : decode cX4_hasRun 8 = .ok (.iload_n 2, 1) := by decide +kernel
theorem dX4_hasRun_9 : decode cX4_hasRun 9 = .ok (.aload_n 0, 1) := by decide +kernel
theorem dX4_hasRun_10 : decode cX4_hasRun 10 = .ok (.getfield 17, 3) := by decide +kernel
theorem dX4_hasRun_13 : decode cX4_hasRun 13 = .ok (.if_icmp .gt 17, 3) := by decide +kernel
theorem dX4_hasRun_16 : decode cX4_hasRun 16 = .ok (.iload_n 1, 1) := by decide +kernel
theorem dX4_hasRun_17 : decode cX4_hasRun 17 = .ok (.aload_n 0, 1) := by decide +kernel
theorem dX4_hasRun_18 : decode cX4_hasRun 18 = .ok (.getfield 17, 3) := by decide +kernel
theorem dX4_hasRun_21 : decode cX4_hasRun 21 = .ok (.iload_n 2, 1) := by decide +kernel
theorem dX4_hasRun_22 : decode cX4_hasRun 22 = .ok (.isub, 1) := by decide +kernel
theorem dX4_hasRun_23 : decode cX4_hasRun 23 = .ok (.if_icmp .gt 7, 3) := by decide +kernel
theorem dX4_hasRun_26 : decode cX4_hasRun 26 = .ok (.iconst 1, 1) := by decide +kernel
theorem dX4_hasRun_27 : decode cX4_hasRun 27 = .ok (.goto 4, 3) := by decide +kernel
theorem dX4_hasRun_30 : decode cX4_hasRun 30 = .ok (.iconst 0, 1) := by decide +kernel
theorem dX4_hasRun_31 : decode cX4_hasRun 31 = .ok (.ireturn, 1) := by decide +kernel
theorem dX4_fitted_0 : decode cX4_fitted 0 = .ok (.aload_n 0, 1) := by decide +kernel
theorem dX4_fitted_1 : decode cX4_fitted 1 = .ok (.getfield 13, 3) := by decide +kernel
theorem dX4_fitted_4 : decode cX4_fitted 4 = .ok (.tableswitch 48 0 3 #[32, 37, 42, 46], 32) := by decide +kernel
theorem dX4_fitted_36 : decode cX4_fitted 36 = .ok (.lload_n 1, 1) := by decide +kernel
theorem dX4_fitted_37 : decode cX4_fitted 37 = .ok (.l2i, 1) := by decide +kernel
theorem dX4_fitted_38 : decode cX4_fitted 38 = .ok (.i2b, 1) := by decide +kernel
theorem dX4_fitted_39 : decode cX4_fitted 39 = .ok (.i2l, 1) := by decide +kernel
theorem dX4_fitted_40 : decode cX4_fitted 40 = .ok (.lreturn, 1) := by decide +kernel
theorem dX4_fitted_41 : decode cX4_fitted 41 = .ok (.lload_n 1, 1) := by decide +kernel
theorem dX4_fitted_42 : decode cX4_fitted 42 = .ok (.l2i, 1) := by decide +kernel
theorem dX4_fitted_43 : decode cX4_fitted 43 = .ok (.i2s, 1) := by decide +kernel
theorem dX4_fitted_44 : decode cX4_fitted 44 = .ok (.i2l, 1) := by decide +kernel
theorem dX4_fitted_45 : decode cX4_fitted 45 = .ok (.lreturn, 1) := by decide +kernel
theorem dX4_fitted_46 : decode cX4_fitted 46 = .ok (.lload_n 1, 1) := by decide +kernel
theorem dX4_fitted_47 : decode cX4_fitted 47 = .ok (.l2i, 1) := by decide +kernel
theorem dX4_fitted_48 : decode cX4_fitted 48 = .ok (.i2l, 1) := by decide +kernel
theorem dX4_fitted_49 : decode cX4_fitted 49 = .ok (.lreturn, 1) := by decide +kernel
theorem dX4_fitted_50 : decode cX4_fitted 50 = .ok (.lload_n 1, 1) := by decide +kernel
theorem dX4_fitted_51 : decode cX4_fitted 51 = .ok (.lreturn, 1) := by decide +kernel
theorem dX4_fitted_52 : decode cX4_fitted 52 = .ok (.lload_n 1, 1) := by decide +kernel
theorem dX4_fitted_53 : decode cX4_fitted 53 = .ok (.lconst 0, 1) := by decide +kernel
theorem dX4_fitted_54 : decode cX4_fitted 54 = .ok (.lcmp, 1) := by decide +kernel
theorem dX4_fitted_55 : decode cX4_fitted 55 = .ok (.ifCond .eq 7, 3) := by decide +kernel
theorem dX4_fitted_58 : decode cX4_fitted 58 = .ok (.lconst 1, 1) := by decide +kernel
theorem dX4_fitted_59 : decode cX4_fitted 59 = .ok (.goto 4, 3) := by decide +kernel
theorem dX4_fitted_62 : decode cX4_fitted 62 = .ok (.lconst 0, 1) := by decide +kernel
theorem dX4_fitted_63 : decode cX4_fitted 63 = .ok (.lreturn, 1) := by decide +kernel
theorem dX5_init_0 : decode cX5_init 0 = .ok (.aload_n 0, 1) := by decide +kernel
theorem dX5_init_1 : decode cX5_init 1 = .ok (.invokespecial 1, 3) := by decide +kernel
theorem dX5_init_4 : decode cX5_init 4 = .ok (.aload_n 0, 1) := by decide +kernel
theorem dX5_init_5 : decode cX5_init 5 = .ok (.bipush 100, 2) := by decide +kernel
theorem dX5_init_7 : decode cX5_init 7 = .ok (.newarray .byte, 2) := by decide +kernel
theorem dX5_init_9 : decode cX5_init 9 = .ok (.putfield 9, 3) := by decide +kernel
theorem dX5_init_12 : decode cX5_init 12 = .ok (.aload_n 0, 1) := by decide +kernel
theorem dX5_init_13 : decode cX5_init 13 = .ok (.bipush 12, 2) := by decide +kernel
theorem dX5_init_15 : decode cX5_init 15 = .ok (.iconst 4, 1) := by decide +kernel
theorem dX5_init_16 : decode cX5_init 16 = .ok (.multianewarray 13 2, 4) := by decide +kernel
theorem dX5_init_20 : decode cX5_init 20 = .ok (.putfield 15, 3) := by decide +kernel
theorem dX5_init_23 : decode cX5_init 23 = .ok (.return_, 1) := by decide +kernel
theorem dX5_append_0 : decode cX5_append 0 = .ok (.aload_n 0, 1) := by decide +kernel
theorem dX5_append_1 : decode cX5_append 1 = .ok (.getfield 18, 3) := by decide +kernel
theorem dX5_append_4 : decode cX5_append 4 = .ok (.bipush 100, 2) := by decide +kernel
theorem dX5_append_6 : decode cX5_append 6 = .ok (.if_icmp .lt 5, 3) := by decide +kernel
theorem dX5_append_9 : decode cX5_append 9 = .ok (.iconst 0, 1) := by decide +kernel
theorem dX5_append_10 : decode cX5_append 10 = .ok (.ireturn, 1) := by decide +kernel
theorem dX5_append_11 : decode cX5_append 11 = .ok (.aload_n 0, 1) := by decide +kernel
theorem dX5_append_12 : decode cX5_append 12 = .ok (.getfield 9, 3) := by decide +kernel
theorem dX5_append_15 : decode cX5_append 15 = .ok (.aload_n 0, 1) := by decide +kernel
theorem dX5_append_16 : decode cX5_append 16 = .ok (.getfield 18, 3) := by decide +kernel
theorem dX5_append_19 : decode cX5_append 19 = .ok (.iload_n 1, 1) := by decide +kernel
theorem dX5_append_20 : decode cX5_append 20 = .ok (.i2b, 1) := by decide +kernel
theorem dX5_append_21 : decode cX5_append 21 = .ok (.bastore, 1) := by decide +kernel
theorem dX5_append_22 : decode cX5_append 22 = .ok (.aload_n 0, 1) := by decide +kernel
theorem dX5_append_23 : decode cX5_append 23 = .ok (.dup, 1) := by decide +kernel
theorem dX5_append_24 : decode cX5_append 24 = .ok (.getfield 18, 3) := by decide +kernel
theorem dX5_append_27 : decode cX5_append 27 = .ok (.iconst 1, 1) := by decide +kernel
theorem dX5_append_28 : decode cX5_append 28 = .ok (.iadd, 1) := by decide +kernel
theorem dX5_append_29 : decode cX5_append 29 = .ok (.putfield 18, 3) := by decide +kernel
theorem dX5_append_32 : decode cX5_append 32 = .ok (.iconst 1, 1) := by decide +kernel
theorem dX5_append_33 : decode cX5_append 33 = .ok (.ireturn, 1) := by decide +kernel
theorem dX5_parse_0 : decode cX5_parse 0 = .ok (.aload_n 0, 1) := by decide +kernel
theorem dX5_parse_1 : decode cX5_parse 1 = .ok (.iconst 0, 1) := by decide +kernel
theorem dX5_parse_2 : decode cX5_parse 2 = .ok (.putfield 22, 3) := by decide +kernel
theorem dX5_parse_5 : decode cX5_parse 5 = .ok (.aload_n 0, 1) := by decide +kernel
theorem dX5_parse_6 : decode cX5_parse 6 = .ok (.iconst 0, 1) := by decide +kernel
theorem dX5_parse_7 : decode cX5_parse 7 = .ok (.putfield 25, 3) := by decide +kernel
theorem dX5_parse_10 : decode cX5_parse 10 = .ok (.iconst 1, 1) := by decide +kernel
theorem dX5_parse_11 : decode cX5_parse 11 = .ok (.istore_n 1, 1) := by decide +kernel
theorem dX5_parse_12 : decode cX5_parse 12 = .ok (.iload_n 1, 1) := by decide +kernel
theorem dX5_parse_13 : decode cX5_parse 13 = .ok (.ifCond .eq 67, 3) := by decide +kernel
theorem dX5_parse_16 : decode cX5_parse 16 = .ok (.aload_n 0, 1) := by decide +kernel
theorem dX5_parse_17 : decode cX5_parse 17 = .ok (.getfield 25, 3) := by decide +kernel
theorem dX5_parse_20 : decode cX5_parse 20 = .ok (.bipush 12, 2) := by decide +kernel
theorem dX5_parse_22 : decode cX5_parse 22 = .ok (.if_icmp .ge 58, 3) := by decide +kernel
theorem dX5_parse_25 : decode cX5_parse 25 = .ok (.aload_n 0, 1) := by decide +kernel
theorem dX5_parse_26 : decode cX5_parse 26 = .ok (.aload_n 0, 1) := by decide +kernel
theorem dX5_parse_27 : decode cX5_parse 27 = .ok (.getfield 15, 3) := by decide +kernel
theorem dX5_parse_30 : decode cX5_parse 30 = .ok (.aload_n 0, 1) := by decide +kernel
theorem dX5_parse_31 : decode cX5_parse 31 = .ok (.getfield 25, 3) := by decide +kernel
theorem dX5_parse_34 : decode cX5_parse 34 = .ok (.aaload, 1) := by decide +kernel
theorem dX5_parse_35 : decode cX5_parse 35 = .ok (.invokevirtual 28, 3) := by decide +kernel
theorem dX5_parse_38 : decode cX5_parse 38 = .ok (.ifCond .ne 5, 3) := by decide +kernel
theorem dX5_parse_41 : decode cX5_parse 41 = .ok (.iconst 0, 1) := by decide +kernel
theorem dX5_parse_42 : decode cX5_parse 42 = .ok (.ireturn, 1) := by decide +kernel
theorem dX5_parse_43 : decode cX5_parse 43 = .ok (.aload_n 0, 1) := by decide +kernel
theorem dX5_parse_44 : decode cX5_parse 44 = .ok (.dup, 1) := by decide +kernel
theorem dX5_parse_45 : decode cX5_parse 45 = .ok (.getfield 25, 3) := by decide +kernel
theorem dX5_parse_48 : decode cX5_parse 48 = .ok (.iconst 1, 1) := by decide +kernel
theorem dX5_parse_49 : decode cX5_parse 49 = .ok (.iadd, 1) := by decide +kernel
theorem dX5_parse_50 : decode cX5_parse 50 = .ok (.putfield 25, 3) := by decide +kernel
theorem dX5_parse_53 : decode cX5_parse 53 = .ok (.aload_n 0, 1) := by decide +kernel
theorem dX5_parse_54 : decode cX5_parse 54 = .ok (.getfield 25, 3) := by decide +kernel
theorem dX5_parse_57 : decode cX5_parse 57 = .ok (.bipush 12, 2) := by decide +kernel
theorem dX5_parse_59 : decode cX5_parse 59 = .ok (.if_icmp .ge 16, 3) := by decide +kernel
theorem dX5_parse_62 : decode cX5_parse 62 = .ok (.aload_n 0, 1) := by decide +kernel
theorem dX5_parse_63 : decode cX5_parse 63 = .ok (.bipush 59, 2) := by decide +kernel
theorem dX5_parse_65 : decode cX5_parse 65 = .ok (.invokevirtual 32, 3) := by decide +kernel
theorem dX5_parse_68 : decode cX5_parse 68 = .ok (.ifCond .eq 7, 3) := by decide +kernel
theorem dX5_parse_71 : decode cX5_parse 71 = .ok (.iconst 1, 1) := by decide +kernel
theorem dX5_parse_72 : decode cX5_parse 72 = .ok (.goto 4, 3) := by decide +kernel
theorem dX5_parse_75 : decode cX5_parse 75 = .ok (.iconst 0, 1) := by decide +kernel
theorem dX5_parse_76 : decode cX5_parse 76 = .ok (.istore_n 1, 1) := by decide +kernel
theorem dX5_parse_77 : decode cX5_parse 77 = .ok (.goto (-65), 3) := by decide +kernel
theorem dX5_parse_80 : decode cX5_parse 80 = .ok (.aload_n 0, 1) := by decide +kernel
theorem dX5_parse_81 : decode cX5_parse 81 = .ok (.getfield 22, 3) := by decide +kernel
theorem dX5_parse_84 : decode cX5_parse 84 = .ok (.aload_n 0, 1) := by decide +kernel
theorem dX5_parse_85 : decode cX5_parse 85 = .ok (.getfield 18, 3) := by decide +kernel
theorem dX5_parse_88 : decode cX5_parse 88 = .ok (.if_icmp .ne 7, 3) := by decide +kernel
theorem dX5_parse_91 : decode cX5_parse 91 = .ok (.iconst 1, 1) := by decide +kernel
theorem dX5_parse_92 : decode cX5_parse 92 = .ok (.goto 4, 3) := by decide +kernel
theorem dX5_parse_95 : decode cX5_parse 95 = .ok (.iconst 0, 1) := by decide +kernel
theorem dX5_parse_96 : decode cX5_parse 96 = .ok (.ireturn, 1) := by decide +kernel
theorem dX5_takeClause_0 : decode cX5_takeClause 0 = .ok (.aload_n 0, 1) := by decide +kernel
theorem dX5_takeClause_1 : decode cX5_takeClause 1 = .ok (.getfield 22, 3) := by decide +kernel
theorem dX5_takeClause_4 : decode cX5_takeClause 4 = .ok (.aload_n 0, 1) := by decide +kernel
theorem dX5_takeClause_5 : decode cX5_takeClause 5 = .ok (.getfield 18, 3) := by decide +kernel
theorem dX5_takeClause_8 : decode cX5_takeClause 8 = .ok (.if_icmp .lt 5, 3) := by decide +kernel
theorem dX5_takeClause_11 : decode cX5_takeClause 11 = .ok (.iconst 0, 1) := by decide +kernel
theorem dX5_takeClause_12 : decode cX5_takeClause 12 = .ok (.ireturn, 1) := by decide +kernel
theorem dX5_takeClause_13 : decode cX5_takeClause 13 = .ok (.aload_n 1, 1) := by decide +kernel
theorem dX5_takeClause_14 : decode cX5_takeClause 14 = .ok (.iconst 0, 1) := by decide +kernel
theorem dX5_takeClause_15 : decode cX5_takeClause 15 = .ok (.aload_n 0, 1) := by decide +kernel
theorem dX5_takeClause_16 : decode cX5_takeClause 16 = .ok (.getfield 9, 3) := by decide +kernel
theorem dX5_takeClause_19 : decode cX5_takeClause 19 = .ok (.aload_n 0, 1) := by decide +kernel
theorem dX5_takeClause_20 : decode cX5_takeClause 20 = .ok (.getfield 22, 3) := by decide +kernel

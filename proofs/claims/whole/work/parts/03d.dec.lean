theorem dX6_isPair_9 : decode cX6_isPair 9 = .ok (.getfield 84, 3) := by decide +kernel
theorem dX6_isPair_12 : decode cX6_isPair 12 = .ok (.iconst 1, 1) := by decide +kernel
theorem dX6_isPair_13 : decode cX6_isPair 13 = .ok (.isub, 1) := by decide +kernel
theorem dX6_isPair_14 : decode cX6_isPair 14 = .ok (.if_icmp .ge 7, 3) := by decide +kernel
theorem dX6_isPair_17 : decode cX6_isPair 17 = .ok (.iconst 1, 1) := by decide +kernel
theorem dX6_isPair_18 : decode cX6_isPair 18 = .ok (.goto 4, 3) := by decide +kernel
theorem dX6_isPair_21 : decode cX6_isPair 21 = .ok (.iconst 0, 1) := by decide +kernel
theorem dX6_isPair_22 : decode cX6_isPair 22 = .ok (.ireturn, 1) := by decide +kernel
theorem dX6_pressPlanUpTo_0 : decode cX6_pressPlanUpTo 0 = .ok (.aload_n 0, 1) := by decide +kernel
theorem dX6_pressPlanUpTo_1 : decode cX6_pressPlanUpTo 1 = .ok (.getfield 55, 3) := by decide +kernel
theorem dX6_pressPlanUpTo_4 : decode cX6_pressPlanUpTo 4 = .ok (.invokevirtual 208, 3) := by decide +kernel
theorem dX6_pressPlanUpTo_7 : decode cX6_pressPlanUpTo 7 = .ok (.iconst 0, 1) := by decide +kernel
theorem dX6_pressPlanUpTo_8 : decode cX6_pressPlanUpTo 8 = .ok (.istore_n 2, 1) := by decide +kernel
theorem dX6_pressPlanUpTo_9 : decode cX6_pressPlanUpTo 9 = .ok (.iload_n 2, 1) := by decide +kernel
theorem dX6_pressPlanUpTo_10 : decode cX6_pressPlanUpTo 10 = .ok (.iload_n 1, 1) := by decide +kernel
theorem dX6_pressPlanUpTo_11 : decode cX6_pressPlanUpTo 11 = .ok (.if_icmp .gt 51, 3) := by decide +kernel
theorem dX6_pressPlanUpTo_14 : decode cX6_pressPlanUpTo 14 = .ok (.iload_n 2, 1) := by decide +kernel
theorem dX6_pressPlanUpTo_15 : decode cX6_pressPlanUpTo 15 = .ok (.aload_n 0, 1) := by decide +kernel
theorem dX6_pressPlanUpTo_16 : decode cX6_pressPlanUpTo 16 = .ok (.getfield 12, 3) := by decide +kernel
theorem dX6_pressPlanUpTo_19 : decode cX6_pressPlanUpTo 19 = .ok (.getfield 84, 3) := by decide +kernel
theorem dX6_pressPlanUpTo_22 : decode cX6_pressPlanUpTo 22 = .ok (.if_icmp .ge 40, 3) := by decide +kernel
theorem dX6_pressPlanUpTo_25 : decode cX6_pressPlanUpTo 25 = .ok (.aload_n 0, 1) := by decide +kernel
theorem dX6_pressPlanUpTo_26 : decode cX6_pressPlanUpTo 26 = .ok (.getfield 55, 3) := by decide +kernel
theorem dX6_pressPlanUpTo_29 : decode cX6_pressPlanUpTo 29 = .ok (.aload_n 0, 1) := by decide +kernel
theorem dX6_pressPlanUpTo_30 : decode cX6_pressPlanUpTo 30 = .ok (.getfield 12, 3) := by decide +kernel
theorem dX6_pressPlanUpTo_33 : decode cX6_pressPlanUpTo 33 = .ok (.getfield 99, 3) := by decide +kernel
theorem dX6_pressPlanUpTo_36 : decode cX6_pressPlanUpTo 36 = .ok (.aload_n 0, 1) := by decide +kernel
theorem dX6_pressPlanUpTo_37 : decode cX6_pressPlanUpTo 37 = .ok (.getfield 12, 3) := by decide +kernel
theorem dX6_pressPlanUpTo_40 : decode cX6_pressPlanUpTo 40 = .ok (.getfield 150, 3) := by decide +kernel
theorem dX6_pressPlanUpTo_43 : decode cX6_pressPlanUpTo 43 = .ok (.iload_n 2, 1) := by decide +kernel
theorem dX6_pressPlanUpTo_44 : decode cX6_pressPlanUpTo 44 = .ok (.iaload, 1) := by decide +kernel
theorem dX6_pressPlanUpTo_45 : decode cX6_pressPlanUpTo 45 = .ok (.aaload, 1) := by decide +kernel
theorem dX6_pressPlanUpTo_46 : decode cX6_pressPlanUpTo 46 = .ok (.aload_n 0, 1) := by decide +kernel
theorem dX6_pressPlanUpTo_47 : decode cX6_pressPlanUpTo 47 = .ok (.getfield 12, 3) := by decide +kernel
theorem dX6_pressPlanUpTo_50 : decode cX6_pressPlanUpTo 50 = .ok (.getfield 107, 3) := by decide +kernel
theorem dX6_pressPlanUpTo_53 : decode cX6_pressPlanUpTo 53 = .ok (.invokevirtual 211, 3) := by decide +kernel
theorem dX6_pressPlanUpTo_56 : decode cX6_pressPlanUpTo 56 = .ok (.iinc 2 1, 3) := by decide +kernel
theorem dX6_pressPlanUpTo_59 : decode cX6_pressPlanUpTo 59 = .ok (.goto (-50), 3) := by decide +kernel
theorem dX6_pressPlanUpTo_62 : decode cX6_pressPlanUpTo 62 = .ok (.return_, 1) := by decide +kernel
theorem dX6_costOf_0 : decode cX6_costOf 0 = .ok (.aload_n 0, 1) := by decide +kernel
theorem dX6_costOf_1 : decode cX6_costOf 1 = .ok (.getfield 55, 3) := by decide +kernel
theorem dX6_costOf_4 : decode cX6_costOf 4 = .ok (.invokevirtual 208, 3) := by decide +kernel
theorem dX6_costOf_7 : decode cX6_costOf 7 = .ok (.iconst 0, 1) := by decide +kernel
theorem dX6_costOf_8 : decode cX6_costOf 8 = .ok (.istore 5, 2) := by decide +kernel
theorem dX6_costOf_10 : decode cX6_costOf 10 = .ok (.iload 5, 2) := by decide +kernel
theorem dX6_costOf_12 : decode cX6_costOf 12 = .ok (.aload_n 1, 1) := by decide +kernel
theorem dX6_costOf_13 : decode cX6_costOf 13 = .ok (.getfield 84, 3) := by decide +kernel
theorem dX6_costOf_16 : decode cX6_costOf 16 = .ok (.if_icmp .ge 26, 3) := by decide +kernel
theorem dX6_costOf_19 : decode cX6_costOf 19 = .ok (.aload_n 0, 1) := by decide +kernel
theorem dX6_costOf_20 : decode cX6_costOf 20 = .ok (.getfield 55, 3) := by decide +kernel
theorem dX6_costOf_23 : decode cX6_costOf 23 = .ok (.aload_n 1, 1) := by decide +kernel
theorem dX6_costOf_24 : decode cX6_costOf 24 = .ok (.getfield 99, 3) := by decide +kernel
theorem dX6_costOf_27 : decode cX6_costOf 27 = .ok (.aload_n 2, 1) := by decide +kernel
theorem dX6_costOf_28 : decode cX6_costOf 28 = .ok (.iload 5, 2) := by decide +kernel
theorem dX6_costOf_30 : decode cX6_costOf 30 = .ok (.iaload, 1) := by decide +kernel
theorem dX6_costOf_31 : decode cX6_costOf 31 = .ok (.aaload, 1) := by decide +kernel
theorem dX6_costOf_32 : decode cX6_costOf 32 = .ok (.iload_n 3, 1) := by decide +kernel
theorem dX6_costOf_33 : decode cX6_costOf 33 = .ok (.invokevirtual 211, 3) := by decide +kernel
theorem dX6_costOf_36 : decode cX6_costOf 36 = .ok (.iinc 5 1, 3) := by decide +kernel
theorem dX6_costOf_39 : decode cX6_costOf 39 = .ok (.goto (-29), 3) := by decide +kernel
theorem dX6_costOf_42 : decode cX6_costOf 42 = .ok (.aload_n 0, 1) := by decide +kernel
theorem dX6_costOf_43 : decode cX6_costOf 43 = .ok (.getfield 55, 3) := by decide +kernel
theorem dX6_costOf_46 : decode cX6_costOf 46 = .ok (.iload 4, 2) := by decide +kernel
theorem dX6_costOf_48 : decode cX6_costOf 48 = .ok (.invokevirtual 319, 3) := by decide +kernel
theorem dX6_costOf_51 : decode cX6_costOf 51 = .ok (.ireturn, 1) := by decide +kernel
theorem dX6_planCost_0 : decode cX6_planCost 0 = .ok (.aload_n 0, 1) := by decide +kernel
theorem dX6_planCost_1 : decode cX6_planCost 1 = .ok (.aload_n 0, 1) := by decide +kernel
theorem dX6_planCost_2 : decode cX6_planCost 2 = .ok (.getfield 12, 3) := by decide +kernel
theorem dX6_planCost_5 : decode cX6_planCost 5 = .ok (.aload_n 0, 1) := by decide +kernel
theorem dX6_planCost_6 : decode cX6_planCost 6 = .ok (.getfield 12, 3) := by decide +kernel
theorem dX6_planCost_9 : decode cX6_planCost 9 = .ok (.getfield 150, 3) := by decide +kernel
theorem dX6_planCost_12 : decode cX6_planCost 12 = .ok (.aload_n 0, 1) := by decide +kernel
theorem dX6_planCost_13 : decode cX6_planCost 13 = .ok (.getfield 12, 3) := by decide +kernel
theorem dX6_planCost_16 : decode cX6_planCost 16 = .ok (.getfield 107, 3) := by decide +kernel
theorem dX6_planCost_19 : decode cX6_planCost 19 = .ok (.aload_n 0, 1) := by decide +kernel
theorem dX6_planCost_20 : decode cX6_planCost 20 = .ok (.getfield 12, 3) := by decide +kernel
theorem dX6_planCost_23 : decode cX6_planCost 23 = .ok (.getfield 110, 3) := by decide +kernel
theorem dX6_planCost_26 : decode cX6_planCost 26 = .ok (.invokevirtual 185, 3) := by decide +kernel
theorem dX6_planCost_29 : decode cX6_planCost 29 = .ok (.ireturn, 1) := by decide +kernel
theorem dX6_movedCost_0 : decode cX6_movedCost 0 = .ok (.aload_n 0, 1) := by decide +kernel
theorem dX6_movedCost_1 : decode cX6_movedCost 1 = .ok (.getfield 12, 3) := by decide +kernel
theorem dX6_movedCost_4 : decode cX6_movedCost 4 = .ok (.getfield 150, 3) := by decide +kernel
theorem dX6_movedCost_7 : decode cX6_movedCost 7 = .ok (.iconst 0, 1) := by decide +kernel
theorem dX6_movedCost_8 : decode cX6_movedCost 8 = .ok (.aload_n 0, 1) := by decide +kernel
theorem dX6_movedCost_9 : decode cX6_movedCost 9 = .ok (.getfield 48, 3) := by decide +kernel
theorem dX6_movedCost_12 : decode cX6_movedCost 12 = .ok (.iconst 0, 1) := by decide +kernel
theorem dX6_movedCost_13 : decode cX6_movedCost 13 = .ok (.bipush 6, 2) := by decide +kernel
theorem dX6_movedCost_15 : decode cX6_movedCost 15 = .ok (.invokestatic 310, 3) := by decide +kernel
theorem dX6_movedCost_18 : decode cX6_movedCost 18 = .ok (.aload_n 0, 1) := by decide +kernel
theorem dX6_movedCost_19 : decode cX6_movedCost 19 = .ok (.getfield 12, 3) := by decide +kernel
theorem dX6_movedCost_22 : decode cX6_movedCost 22 = .ok (.aload_n 0, 1) := by decide +kernel
theorem dX6_movedCost_23 : decode cX6_movedCost 23 = .ok (.getfield 48, 3) := by decide +kernel
theorem dX6_movedCost_26 : decode cX6_movedCost 26 = .ok (.iload_n 1, 1) := by decide +kernel
theorem dX6_movedCost_27 : decode cX6_movedCost 27 = .ok (.iload_n 2, 1) := by decide +kernel
theorem dX6_movedCost_28 : decode cX6_movedCost 28 = .ok (.invokevirtual 153, 3) := by decide +kernel
theorem dX6_movedCost_31 : decode cX6_movedCost 31 = .ok (.aload_n 0, 1) := by decide +kernel
theorem dX6_movedCost_32 : decode cX6_movedCost 32 = .ok (.aload_n 0, 1) := by decide +kernel
theorem dX6_movedCost_33 : decode cX6_movedCost 33 = .ok (.getfield 12, 3) := by decide +kernel
theorem dX6_movedCost_36 : decode cX6_movedCost 36 = .ok (.aload_n 0, 1) := by decide +kernel
theorem dX6_movedCost_37 : decode cX6_movedCost 37 = .ok (.getfield 48, 3) := by decide +kernel
theorem dX6_movedCost_40 : decode cX6_movedCost 40 = .ok (.aload_n 0, 1) := by decide +kernel
theorem dX6_movedCost_41 : decode cX6_movedCost 41 = .ok (.getfield 12, 3) := by decide +kernel
theorem dX6_movedCost_44 : decode cX6_movedCost 44 = .ok (.getfield 107, 3) := by decide +kernel
theorem dX6_movedCost_47 : decode cX6_movedCost 47 = .ok (.aload_n 0, 1) := by decide +kernel
theorem dX6_movedCost_48 : decode cX6_movedCost 48 = .ok (.getfield 12, 3) := by decide +kernel
theorem dX6_movedCost_51 : decode cX6_movedCost 51 = .ok (.getfield 110, 3) := by decide +kernel
theorem dX6_movedCost_54 : decode cX6_movedCost 54 = .ok (.invokevirtual 185, 3) := by decide +kernel
theorem dX6_movedCost_57 : decode cX6_movedCost 57 = .ok (.ireturn, 1) := by decide +kernel
theorem dX7_init_0 : decode cX7_init 0 = .ok (.aload_n 0, 1) := by decide +kernel
theorem dX7_init_1 : decode cX7_init 1 = .ok (.invokespecial 3, 3) := by decide +kernel
theorem dX7_init_4 : decode cX7_init 4 = .ok (.aload_n 0, 1) := by decide +kernel
theorem dX7_init_5 : decode cX7_init 5 = .ok (.bipush 36, 2) := by decide +kernel
theorem dX7_init_7 : decode cX7_init 7 = .ok (.newarray .int, 2) := by decide +kernel
theorem dX7_init_9 : decode cX7_init 9 = .ok (.putfield 11, 3) := by decide +kernel
theorem dX7_init_12 : decode cX7_init 12 = .ok (.aload_n 0, 1) := by decide +kernel
theorem dX7_init_13 : decode cX7_init 13 = .ok (.bipush 6, 2) := by decide +kernel
theorem dX7_init_15 : decode cX7_init 15 = .ok (.newarray .int, 2) := by decide +kernel
theorem dX7_init_17 : decode cX7_init 17 = .ok (.putfield 15, 3) := by decide +kernel
theorem dX7_init_20 : decode cX7_init 20 = .ok (.aload_n 0, 1) := by decide +kernel
theorem dX7_init_21 : decode cX7_init 21 = .ok (.iconst 5, 1) := by decide +kernel
theorem dX7_init_22 : decode cX7_init 22 = .ok (.newarray .int, 2) := by decide +kernel
theorem dX7_init_24 : decode cX7_init 24 = .ok (.putfield 18, 3) := by decide +kernel
theorem dX7_init_27 : decode cX7_init 27 = .ok (.aload_n 0, 1) := by decide +kernel
theorem dX7_init_28 : decode cX7_init 28 = .ok (.iconst 5, 1) := by decide +kernel
theorem dX7_init_29 : decode cX7_init 29 = .ok (.newarray .int, 2) := by decide +kernel
theorem dX7_init_31 : decode cX7_init 31 = .ok (.putfield 21, 3) := by decide +kernel
theorem dX7_init_34 : decode cX7_init 34 = .ok (.aload_n 0, 1) := by decide +kernel
theorem dX7_init_35 : decode cX7_init 35 = .ok (.bipush 8, 2) := by decide +kernel
theorem dX7_init_37 : decode cX7_init 37 = .ok (.newarray .int, 2) := by decide +kernel
theorem dX7_init_39 : decode cX7_init 39 = .ok (.putfield 24, 3) := by decide +kernel
theorem dX7_init_42 : decode cX7_init 42 = .ok (.aload_n 0, 1) := by decide +kernel
theorem dX7_init_43 : decode cX7_init 43 = .ok (.bipush 8, 2) := by decide +kernel
theorem dX7_init_45 : decode cX7_init 45 = .ok (.newarray .int, 2) := by decide +kernel
theorem dX7_init_47 : decode cX7_init 47 = .ok (.putfield 27, 3) := by decide +kernel
theorem dX7_init_50 : decode cX7_init 50 = .ok (.aload_n 0, 1) := by decide +kernel
theorem dX7_init_51 : decode cX7_init 51 = .ok (.bipush 8, 2) := by decide +kernel
theorem dX7_init_53 : decode cX7_init 53 = .ok (.newarray .int, 2) := by decide +kernel
theorem dX7_init_55 : decode cX7_init 55 = .ok (.putfield 30, 3) := by decide +kernel
theorem dX7_init_58 : decode cX7_init 58 = .ok (.aload_n 0, 1) := by decide +kernel
theorem dX7_init_59 : decode cX7_init 59 = .ok (.bipush 8, 2) := by decide +kernel
theorem dX7_init_61 : decode cX7_init 61 = .ok (.newarray .int, 2) := by decide +kernel
theorem dX7_init_63 : decode cX7_init 63 = .ok (.putfield 33, 3) := by decide +kernel
theorem dX7_init_66 : decode cX7_init 66 = .ok (.aload_n 0, 1) := by decide +kernel
theorem dX7_init_67 : decode cX7_init 67 = .ok (.bipush 100, 2) := by decide +kernel
theorem dX7_init_69 : decode cX7_init 69 = .ok (.newarray .int, 2) := by decide +kernel
theorem dX7_init_71 : decode cX7_init 71 = .ok (.putfield 36, 3) := by decide +kernel
theorem dX7_init_74 : decode cX7_init 74 = .ok (.aload_n 0, 1) := by decide +kernel
theorem dX7_init_75 : decode cX7_init 75 = .ok (.bipush 100, 2) := by decide +kernel
theorem dX7_init_77 : decode cX7_init 77 = .ok (.newarray .int, 2) := by decide +kernel
theorem dX7_init_79 : decode cX7_init 79 = .ok (.putfield 39, 3) := by decide +kernel
theorem dX7_init_82 : decode cX7_init 82 = .ok (.aload_n 0, 1) := by decide +kernel
theorem dX7_init_83 : decode cX7_init 83 = .ok (.bipush 36, 2) := by decide +kernel
theorem dX7_init_85 : decode cX7_init 85 = .ok (.newarray .int, 2) := by decide +kernel
theorem dX7_init_87 : decode cX7_init 87 = .ok (.putfield 42, 3) := by decide +kernel
theorem dX7_init_90 : decode cX7_init 90 = .ok (.aload_n 0, 1) := by decide +kernel
theorem dX7_init_91 : decode cX7_init 91 = .ok (.bipush 6, 2) := by decide +kernel
theorem dX7_init_93 : decode cX7_init 93 = .ok (.newarray .int, 2) := by decide +kernel
theorem dX7_init_95 : decode cX7_init 95 = .ok (.putfield 45, 3) := by decide +kernel
theorem dX7_init_98 : decode cX7_init 98 = .ok (.aload_n 0, 1) := by decide +kernel
theorem dX7_init_99 : decode cX7_init 99 = .ok (.bipush 6, 2) := by decide +kernel
theorem dX7_init_101 : decode cX7_init 101 = .ok (.newarray .int, 2) := by decide +kernel
theorem dX7_init_103 : decode cX7_init 103 = .ok (.putfield 48, 3) := by decide +kernel
theorem dX7_init_106 : decode cX7_init 106 = .ok (.aload_n 0, 1) := by decide +kernel
theorem dX7_init_107 : decode cX7_init 107 = .ok (.bipush 6, 2) := by decide +kernel
theorem dX7_init_109 : decode cX7_init 109 = .ok (.newarray .int, 2) := by decide +kernel
theorem dX7_init_111 : decode cX7_init 111 = .ok (.putfield 51, 3) := by decide +kernel
theorem dX7_init_114 : decode cX7_init 114 = .ok (.aload_n 0, 1) := by decide +kernel
theorem dX7_init_115 : decode cX7_init 115 = .ok (.bipush 36, 2) := by decide +kernel
theorem dX7_init_117 : decode cX7_init 117 = .ok (.newarray .int, 2) := by decide +kernel
theorem dX7_init_119 : decode cX7_init 119 = .ok (.putfield 54, 3) := by decide +kernel
theorem dX7_init_122 : decode cX7_init 122 = .ok (.aload_n 0, 1) := by decide +kernel
theorem dX7_init_123 : decode cX7_init 123 = .ok (.bipush 6, 2) := by decide +kernel
theorem dX7_init_125 : decode cX7_init 125 = .ok (.bipush 60, 2) := by decide +kernel
theorem dX7_init_127 : decode cX7_init 127 = .ok (.multianewarray 57 2, 4) := by decide +kernel
theorem dX7_init_131 : decode cX7_init 131 = .ok (.putfield 59, 3) := by decide +kernel
theorem dX7_init_134 : decode cX7_init 134 = .ok (.aload_n 0, 1) := by decide +kernel
theorem dX7_init_135 : decode cX7_init 135 = .ok (.bipush 6, 2) := by decide +kernel
theorem dX7_init_137 : decode cX7_init 137 = .ok (.newarray .int, 2) := by decide +kernel
theorem dX7_init_139 : decode cX7_init 139 = .ok (.dup, 1) := by decide +kernel
theorem dX7_init_140 : decode cX7_init 140 = .ok (.iconst 0, 1) := by decide +kernel
theorem dX7_init_141 : decode cX7_init 141 = .ok (.iconst (-1), 1) := by decide +kernel
theorem dX7_init_142 : decode cX7_init 142 = .ok (.iastore, 1) := by decide +kernel
theorem dX7_init_143 : decode cX7_init 143 = .ok (.dup, 1) := by decide +kernel
theorem dX7_init_144 : decode cX7_init 144 = .ok (.iconst 1, 1) := by decide +kernel
theorem dX7_init_145 : decode cX7_init 145 = .ok (.iconst (-1), 1) := by decide +kernel
theorem dX7_init_146 : decode cX7_init 146 = .ok (.iastore, 1) := by decide +kernel
theorem dX7_init_147 : decode cX7_init 147 = .ok (.dup, 1) := by decide +kernel
theorem dX7_init_148 : decode cX7_init 148 = .ok (.iconst 2, 1) := by decide +kernel
theorem dX7_init_149 : decode cX7_init 149 = .ok (.iconst (-1), 1) := by decide +kernel
theorem dX7_init_150 : decode cX7_init 150 = .ok (.iastore, 1) := by decide +kernel
theorem dX7_init_151 : decode cX7_init 151 = .ok (.dup, 1) := by decide +kernel
theorem dX7_init_152 : decode cX7_init 152 = .ok (.iconst 3, 1) := by decide +kernel
theorem dX7_init_153 : decode cX7_init 153 = .ok (.iconst (-1), 1) := by decide +kernel
theorem dX7_init_154 : decode cX7_init 154 = .ok (.iastore, 1) := by decide +kernel
theorem dX7_init_155 : decode cX7_init 155 = .ok (.dup, 1) := by decide +kernel
theorem dX7_init_156 : decode cX7_init 156 = .ok (.iconst 4, 1) := by decide +kernel
theorem dX7_init_157 : decode cX7_init 157 = .ok (.iconst (-1), 1) := by decide +kernel
theorem dX7_init_158 : decode cX7_init 158 = .ok (.iastore, 1) := by decide +kernel
theorem dX7_init_159 : decode cX7_init 159 = .ok (.dup, 1) := by decide +kernel
theorem dX7_init_160 : decode cX7_init 160 = .ok (.iconst 5, 1) := by decide +kernel
theorem dX7_init_161 : decode cX7_init 161 = .ok (.iconst (-1), 1) := by decide +kernel
theorem dX7_init_162 : decode cX7_init 162 = .ok (.iastore, 1) := by decide +kernel
theorem dX7_init_163 : decode cX7_init 163 = .ok (.putfield 62, 3) := by decide +kernel
theorem dX7_init_166 : decode cX7_init 166 = .ok (.aload_n 0, 1) := by decide +kernel
theorem dX7_init_167 : decode cX7_init 167 = .ok (.bipush 6, 2) := by decide +kernel
theorem dX7_init_169 : decode cX7_init 169 = .ok (.newarray .int, 2) := by decide +kernel
theorem dX7_init_171 : decode cX7_init 171 = .ok (.putfield 65, 3) := by decide +kernel
theorem dX7_init_174 : decode cX7_init 174 = .ok (.aload_n 0, 1) := by decide +kernel
theorem dX7_init_175 : decode cX7_init 175 = .ok (.bipush 60, 2) := by decide +kernel
theorem dX7_init_177 : decode cX7_init 177 = .ok (.newarray .long, 2) := by decide +kernel
theorem dX7_init_179 : decode cX7_init 179 = .ok (.putfield 68, 3) := by decide +kernel
theorem dX7_init_182 : decode cX7_init 182 = .ok (.return_, 1) := by decide +kernel
theorem dX7_in_0 : decode cX7_in 0 = .ok (.lload_n 0, 1) := by decide +kernel
theorem dX7_in_1 : decode cX7_in 1 = .ok (.lload_n 2, 1) := by decide +kernel
theorem dX7_in_2 : decode cX7_in 2 = .ok (.lcmp, 1) := by decide +kernel
theorem dX7_in_3 : decode cX7_in 3 = .ok (.ifCond .lt 14, 3) := by decide +kernel
theorem dX7_in_6 : decode cX7_in 6 = .ok (.lload_n 0, 1) := by decide +kernel
theorem dX7_in_7 : decode cX7_in 7 = .ok (.lload 4, 2) := by decide +kernel
theorem dX7_in_9 : decode cX7_in 9 = .ok (.lcmp, 1) := by decide +kernel
theorem dX7_in_10 : decode cX7_in 10 = .ok (.ifCond .gt 7, 3) := by decide +kernel
theorem dX7_in_13 : decode cX7_in 13 = .ok (.iconst 1, 1) := by decide +kernel
theorem dX7_in_14 : decode cX7_in 14 = .ok (.goto 4, 3) := by decide +kernel
theorem dX7_in_17 : decode cX7_in 17 = .ok (.iconst 0, 1) := by decide +kernel
theorem dX7_in_18 : decode cX7_in 18 = .ok (.ireturn, 1) := by decide +kernel
theorem dX7_isJob_0 : decode cX7_isJob 0 = .ok (.iload_n 1, 1) := by decide +kernel
theorem dX7_isJob_1 : decode cX7_isJob 1 = .ok (.i2l, 1) := by decide +kernel
theorem dX7_isJob_2 : decode cX7_isJob 2 = .ok (.lconst 0, 1) := by decide +kernel
theorem dX7_isJob_3 : decode cX7_isJob 3 = .ok (.aload_n 0, 1) := by decide +kernel
theorem dX7_isJob_4 : decode cX7_isJob 4 = .ok (.getfield 72, 3) := by decide +kernel
theorem dX7_isJob_7 : decode cX7_isJob 7 = .ok (.iconst 1, 1) := by decide +kernel
theorem dX7_isJob_8 : decode cX7_isJob 8 = .ok (.isub, 1) := by decide +kernel
theorem dX7_isJob_9 : decode cX7_isJob 9 = .ok (.i2l, 1) := by decide +kernel
theorem dX7_isJob_10 : decode cX7_isJob 10 = .ok (.invokestatic 76, 3) := by decide +kernel
theorem dX7_isJob_13 : decode cX7_isJob 13 = .ok (.ireturn, 1) := by decide +kernel
theorem dX7_get_0 : decode cX7_get 0 = .ok (.aload_n 0, 1) := by decide +kernel
theorem dX7_get_1 : decode cX7_get 1 = .ok (.getfield 11, 3) := by decide +kernel
theorem dX7_get_4 : decode cX7_get 4 = .ok (.bipush 6, 2) := by decide +kernel
theorem dX7_get_6 : decode cX7_get 6 = .ok (.iload_n 1, 1) := by decide +kernel
theorem dX7_get_7 : decode cX7_get 7 = .ok (.imul, 1) := by decide +kernel
theorem dX7_get_8 : decode cX7_get 8 = .ok (.iload_n 2, 1) := by decide +kernel
theorem dX7_get_9 : decode cX7_get 9 = .ok (.iadd, 1) := by decide +kernel
theorem dX7_get_10 : decode cX7_get 10 = .ok (.iaload, 1) := by decide +kernel
theorem dX7_get_11 : decode cX7_get 11 = .ok (.ireturn, 1) := by decide +kernel
theorem dX7_passes_0 : decode cX7_passes 0 = .ok (.aload_n 0, 1) := by decide +kernel
theorem dX7_passes_1 : decode cX7_passes 1 = .ok (.getfield 80, 3) := by decide +kernel
theorem dX7_passes_4 : decode cX7_passes 4 = .ok (.ifCond .eq 7, 3) := by decide +kernel
theorem dX7_passes_7 : decode cX7_passes 7 = .ok (.iload_n 1, 1) := by decide +kernel
theorem dX7_passes_8 : decode cX7_passes 8 = .ok (.goto 12, 3) := by decide +kernel
theorem dX7_passes_11 : decode cX7_passes 11 = .ok (.aload_n 0, 1) := by decide +kernel
theorem dX7_passes_12 : decode cX7_passes 12 = .ok (.getfield 39, 3) := by decide +kernel
theorem dX7_passes_15 : decode cX7_passes 15 = .ok (.aload_n 0, 1) := by decide +kernel
theorem dX7_passes_16 : decode cX7_passes 16 = .ok (.getfield 84, 3) := by decide +kernel
theorem dX7_passes_19 : decode cX7_passes 19 = .ok (.iaload, 1) := by decide +kernel
theorem dX7_passes_20 : decode cX7_passes 20 = .ok (.istore_n 2, 1) := by decide +kernel
theorem dX7_passes_21 : decode cX7_passes 21 = .ok (.aload_n 0, 1) := by decide +kernel
theorem dX7_passes_22 : decode cX7_passes 22 = .ok (.getfield 39, 3) := by decide +kernel
theorem dX7_passes_25 : decode cX7_passes 25 = .ok (.aload_n 0, 1) := by decide +kernel
theorem dX7_passes_26 : decode cX7_passes 26 = .ok (.getfield 84, 3) := by decide +kernel
theorem dX7_passes_29 : decode cX7_passes 29 = .ok (.iload_n 2, 1) := by decide +kernel
theorem dX7_passes_30 : decode cX7_passes 30 = .ok (.iastore, 1) := by decide +kernel
theorem dX7_passes_31 : decode cX7_passes 31 = .ok (.aload_n 0, 1) := by decide +kernel
theorem dX7_passes_32 : decode cX7_passes 32 = .ok (.dup, 1) := by decide +kernel
theorem dX7_passes_33 : decode cX7_passes 33 = .ok (.getfield 84, 3) := by decide +kernel
theorem dX7_passes_36 : decode cX7_passes 36 = .ok (.iconst 1, 1) := by decide +kernel
theorem dX7_passes_37 : decode cX7_passes 37 = .ok (.iadd, 1) := by decide +kernel
theorem dX7_passes_38 : decode cX7_passes 38 = .ok (.putfield 84, 3) := by decide +kernel
theorem dX7_passes_41 : decode cX7_passes 41 = .ok (.iload_n 2, 1) := by decide +kernel
theorem dX7_passes_42 : decode cX7_passes 42 = .ok (.ireturn, 1) := by decide +kernel
theorem dX7_passesRow_0 : decode cX7_passesRow 0 = .ok (.iconst 0, 1) := by decide +kernel
theorem dX7_passesRow_1 : decode cX7_passesRow 1 = .ok (.istore_n 2, 1) := by decide +kernel
theorem dX7_passesRow_2 : decode cX7_passesRow 2 = .ok (.iload_n 2, 1) := by decide +kernel
theorem dX7_passesRow_3 : decode cX7_passesRow 3 = .ok (.aload_n 1, 1) := by decide +kernel
theorem dX7_passesRow_4 : decode cX7_passesRow 4 = .ok (.arraylength, 1) := by decide +kernel
theorem dX7_passesRow_5 : decode cX7_passesRow 5 = .ok (.if_icmp .ge 19, 3) := by decide +kernel
theorem dX7_passesRow_8 : decode cX7_passesRow 8 = .ok (.aload_n 1, 1) := by decide +kernel
theorem dX7_passesRow_9 : decode cX7_passesRow 9 = .ok (.iload_n 2, 1) := by decide +kernel
theorem dX7_passesRow_10 : decode cX7_passesRow 10 = .ok (.aload_n 0, 1) := by decide +kernel
theorem dX7_passesRow_11 : decode cX7_passesRow 11 = .ok (.aload_n 1, 1) := by decide +kernel
theorem dX7_passesRow_12 : decode cX7_passesRow 12 = .ok (.iload_n 2, 1) := by decide +kernel
theorem dX7_passesRow_13 : decode cX7_passesRow 13 = .ok (.iaload, 1) := by decide +kernel
theorem dX7_passesRow_14 : decode cX7_passesRow 14 = .ok (.invokevirtual 87, 3) := by decide +kernel
theorem dX7_passesRow_17 : decode cX7_passesRow 17 = .ok (.iastore, 1) := by decide +kernel
theorem dX7_passesRow_18 : decode cX7_passesRow 18 = .ok (.iinc 2 1, 3) := by decide +kernel
theorem dX7_passesRow_21 : decode cX7_passesRow 21 = .ok (.goto (-19), 3) := by decide +kernel
theorem dX7_passesRow_24 : decode cX7_passesRow 24 = .ok (.return_, 1) := by decide +kernel
theorem dX7_passesAll_0 : decode cX7_passesAll 0 = .ok (.aload_n 0, 1) := by decide +kernel
theorem dX7_passesAll_1 : decode cX7_passesAll 1 = .ok (.iload_n 1, 1) := by decide +kernel
theorem dX7_passesAll_2 : decode cX7_passesAll 2 = .ok (.putfield 80, 3) := by decide +kernel
theorem dX7_passesAll_5 : decode cX7_passesAll 5 = .ok (.aload_n 0, 1) := by decide +kernel
theorem dX7_passesAll_6 : decode cX7_passesAll 6 = .ok (.iconst 0, 1) := by decide +kernel
theorem dX7_passesAll_7 : decode cX7_passesAll 7 = .ok (.putfield 84, 3) := by decide +kernel
theorem dX7_passesAll_10 : decode cX7_passesAll 10 = .ok (.aload_n 0, 1) := by decide +kernel
theorem dX7_passesAll_11 : decode cX7_passesAll 11 = .ok (.aload_n 0, 1) := by decide +kernel
theorem dX7_passesAll_12 : decode cX7_passesAll 12 = .ok (.aload_n 0, 1) := by decide +kernel
theorem dX7_passesAll_13 : decode cX7_passesAll 13 = .ok (.getfield 72, 3) := by decide +kernel
theorem dX7_passesAll_16 : decode cX7_passesAll 16 = .ok (.invokevirtual 87, 3) := by decide +kernel
theorem dX7_passesAll_19 : decode cX7_passesAll 19 = .ok (.putfield 72, 3) := by decide +kernel
theorem dX7_passesAll_22 : decode cX7_passesAll 22 = .ok (.aload_n 0, 1) := by decide +kernel
theorem dX7_passesAll_23 : decode cX7_passesAll 23 = .ok (.aload_n 0, 1) := by decide +kernel
theorem dX7_passesAll_24 : decode cX7_passesAll 24 = .ok (.aload_n 0, 1) := by decide +kernel
theorem dX7_passesAll_25 : decode cX7_passesAll 25 = .ok (.getfield 91, 3) := by decide +kernel
theorem dX7_passesAll_28 : decode cX7_passesAll 28 = .ok (.invokevirtual 87, 3) := by decide +kernel
theorem dX7_passesAll_31 : decode cX7_passesAll 31 = .ok (.putfield 91, 3) := by decide +kernel
theorem dX7_passesAll_34 : decode cX7_passesAll 34 = .ok (.aload_n 0, 1) := by decide +kernel
theorem dX7_passesAll_35 : decode cX7_passesAll 35 = .ok (.aload_n 0, 1) := by decide +kernel
theorem dX7_passesAll_36 : decode cX7_passesAll 36 = .ok (.aload_n 0, 1) := by decide +kernel
theorem dX7_passesAll_37 : decode cX7_passesAll 37 = .ok (.getfield 94, 3) := by decide +kernel
theorem dX7_passesAll_40 : decode cX7_passesAll 40 = .ok (.invokevirtual 87, 3) := by decide +kernel
theorem dX7_passesAll_43 : decode cX7_passesAll 43 = .ok (.putfield 94, 3) := by decide +kernel
theorem dX7_passesAll_46 : decode cX7_passesAll 46 = .ok (.aload_n 0, 1) := by decide +kernel
theorem dX7_passesAll_47 : decode cX7_passesAll 47 = .ok (.aload_n 0, 1) := by decide +kernel
theorem dX7_passesAll_48 : decode cX7_passesAll 48 = .ok (.aload_n 0, 1) := by decide +kernel
theorem dX7_passesAll_49 : decode cX7_passesAll 49 = .ok (.getfield 97, 3) := by decide +kernel
theorem dX7_passesAll_52 : decode cX7_passesAll 52 = .ok (.invokevirtual 87, 3) := by decide +kernel
theorem dX7_passesAll_55 : decode cX7_passesAll 55 = .ok (.putfield 97, 3) := by decide +kernel
theorem dX7_passesAll_58 : decode cX7_passesAll 58 = .ok (.aload_n 0, 1) := by decide +kernel
theorem dX7_passesAll_59 : decode cX7_passesAll 59 = .ok (.aload_n 0, 1) := by decide +kernel
theorem dX7_passesAll_60 : decode cX7_passesAll 60 = .ok (.aload_n 0, 1) := by decide +kernel
theorem dX7_passesAll_61 : decode cX7_passesAll 61 = .ok (.getfield 100, 3) := by decide +kernel
theorem dX7_passesAll_64 : decode cX7_passesAll 64 = .ok (.invokevirtual 87, 3) := by decide +kernel
theorem dX7_passesAll_67 : decode cX7_passesAll 67 = .ok (.putfield 100, 3) := by decide +kernel
theorem dX7_passesAll_70 : decode cX7_passesAll 70 = .ok (.aload_n 0, 1) := by decide +kernel
theorem dX7_passesAll_71 : decode cX7_passesAll 71 = .ok (.aload_n 0, 1) := by decide +kernel
theorem dX7_passesAll_72 : decode cX7_passesAll 72 = .ok (.aload_n 0, 1) := by decide +kernel
theorem dX7_passesAll_73 : decode cX7_passesAll 73 = .ok (.getfield 103, 3) := by decide +kernel
theorem dX7_passesAll_76 : decode cX7_passesAll 76 = .ok (.invokevirtual 87, 3) := by decide +kernel
theorem dX7_passesAll_79 : decode cX7_passesAll 79 = .ok (.putfield 103, 3) := by decide +kernel
theorem dX7_passesAll_82 : decode cX7_passesAll 82 = .ok (.aload_n 0, 1) := by decide +kernel
theorem dX7_passesAll_83 : decode cX7_passesAll 83 = .ok (.aload_n 0, 1) := by decide +kernel
theorem dX7_passesAll_84 : decode cX7_passesAll 84 = .ok (.getfield 11, 3) := by decide +kernel
theorem dX7_passesAll_87 : decode cX7_passesAll 87 = .ok (.invokevirtual 106, 3) := by decide +kernel
theorem dX7_passesAll_90 : decode cX7_passesAll 90 = .ok (.aload_n 0, 1) := by decide +kernel
theorem dX7_passesAll_91 : decode cX7_passesAll 91 = .ok (.aload_n 0, 1) := by decide +kernel
theorem dX7_passesAll_92 : decode cX7_passesAll 92 = .ok (.getfield 15, 3) := by decide +kernel
theorem dX7_passesAll_95 : decode cX7_passesAll 95 = .ok (.invokevirtual 106, 3) := by decide +kernel
theorem dX7_passesAll_98 : decode cX7_passesAll 98 = .ok (.aload_n 0, 1) := by decide +kernel
theorem dX7_passesAll_99 : decode cX7_passesAll 99 = .ok (.aload_n 0, 1) := by decide +kernel
theorem dX7_passesAll_100 : decode cX7_passesAll 100 = .ok (.getfield 18, 3) := by decide +kernel
theorem dX7_passesAll_103 : decode cX7_passesAll 103 = .ok (.invokevirtual 106, 3) := by decide +kernel
theorem dX7_passesAll_106 : decode cX7_passesAll 106 = .ok (.aload_n 0, 1) := by decide +kernel
theorem dX7_passesAll_107 : decode cX7_passesAll 107 = .ok (.aload_n 0, 1) := by decide +kernel
theorem dX7_passesAll_108 : decode cX7_passesAll 108 = .ok (.getfield 21, 3) := by decide +kernel
theorem dX7_passesAll_111 : decode cX7_passesAll 111 = .ok (.invokevirtual 106, 3) := by decide +kernel
theorem dX7_passesAll_114 : decode cX7_passesAll 114 = .ok (.aload_n 0, 1) := by decide +kernel
theorem dX7_passesAll_115 : decode cX7_passesAll 115 = .ok (.aload_n 0, 1) := by decide +kernel
theorem dX7_passesAll_116 : decode cX7_passesAll 116 = .ok (.getfield 24, 3) := by decide +kernel
theorem dX7_passesAll_119 : decode cX7_passesAll 119 = .ok (.invokevirtual 106, 3) := by decide +kernel
theorem dX7_passesAll_122 : decode cX7_passesAll 122 = .ok (.aload_n 0, 1) := by decide +kernel
theorem dX7_passesAll_123 : decode cX7_passesAll 123 = .ok (.aload_n 0, 1) := by decide +kernel
theorem dX7_passesAll_124 : decode cX7_passesAll 124 = .ok (.getfield 27, 3) := by decide +kernel
theorem dX7_passesAll_127 : decode cX7_passesAll 127 = .ok (.invokevirtual 106, 3) := by decide +kernel
theorem dX7_passesAll_130 : decode cX7_passesAll 130 = .ok (.aload_n 0, 1) := by decide +kernel
theorem dX7_passesAll_131 : decode cX7_passesAll 131 = .ok (.aload_n 0, 1) := by decide +kernel
theorem dX7_passesAll_132 : decode cX7_passesAll 132 = .ok (.getfield 30, 3) := by decide +kernel
theorem dX7_passesAll_135 : decode cX7_passesAll 135 = .ok (.invokevirtual 106, 3) := by decide +kernel
theorem dX7_passesAll_138 : decode cX7_passesAll 138 = .ok (.aload_n 0, 1) := by decide +kernel
theorem dX7_passesAll_139 : decode cX7_passesAll 139 = .ok (.aload_n 0, 1) := by decide +kernel
theorem dX7_passesAll_140 : decode cX7_passesAll 140 = .ok (.getfield 33, 3) := by decide +kernel
theorem dX7_passesAll_143 : decode cX7_passesAll 143 = .ok (.invokevirtual 106, 3) := by decide +kernel
theorem dX7_passesAll_146 : decode cX7_passesAll 146 = .ok (.aload_n 0, 1) := by decide +kernel
theorem dX7_passesAll_147 : decode cX7_passesAll 147 = .ok (.getfield 72, 3) := by decide +kernel
theorem dX7_passesAll_150 : decode cX7_passesAll 150 = .ok (.ireturn, 1) := by decide +kernel
theorem dX7_image_0 : decode cX7_image 0 = .ok (.aload_n 0, 1) := by decide +kernel
theorem dX7_image_1 : decode cX7_image 1 = .ok (.iconst 1, 1) := by decide +kernel
theorem dX7_image_2 : decode cX7_image 2 = .ok (.putfield 110, 3) := by decide +kernel
theorem dX7_image_5 : decode cX7_image 5 = .ok (.aload_n 0, 1) := by decide +kernel
theorem dX7_image_6 : decode cX7_image 6 = .ok (.iconst 1, 1) := by decide +kernel
theorem dX7_image_7 : decode cX7_image 7 = .ok (.invokevirtual 113, 3) := by decide +kernel
theorem dX7_image_10 : decode cX7_image 10 = .ok (.ireturn, 1) := by decide +kernel
theorem dX7_undo_0 : decode cX7_undo 0 = .ok (.aload_n 0, 1) := by decide +kernel
theorem dX7_undo_1 : decode cX7_undo 1 = .ok (.getfield 110, 3) := by decide +kernel
theorem dX7_undo_4 : decode cX7_undo 4 = .ok (.ifCond .eq 11, 3) := by decide +kernel
theorem dX7_undo_7 : decode cX7_undo 7 = .ok (.aload_n 0, 1) := by decide +kernel
theorem dX7_undo_8 : decode cX7_undo 8 = .ok (.iconst 0, 1) := by decide +kernel
theorem dX7_undo_9 : decode cX7_undo 9 = .ok (.invokevirtual 113, 3) := by decide +kernel
theorem dX7_undo_12 : decode cX7_undo 12 = .ok (.goto 5, 3) := by decide +kernel
theorem dX7_undo_15 : decode cX7_undo 15 = .ok (.bipush (-3), 2) := by decide +kernel
theorem dX7_undo_17 : decode cX7_undo 17 = .ok (.ireturn, 1) := by decide +kernel
theorem dX7_most_0 : decode cX7_most 0 = .ok (.iload_n 0, 1) := by decide +kernel
theorem dX7_most_1 : decode cX7_most 1 = .ok (.iconst 3, 1) := by decide +kernel
theorem dX7_most_2 : decode cX7_most 2 = .ok (.if_icmp .ge 8, 3) := by decide +kernel
theorem dX7_most_5 : decode cX7_most 5 = .ok (.bipush 30, 2) := by decide +kernel
theorem dX7_most_7 : decode cX7_most 7 = .ok (.goto 15, 3) := by decide +kernel
theorem dX7_most_10 : decode cX7_most 10 = .ok (.iload_n 0, 1) := by decide +kernel
theorem dX7_most_11 : decode cX7_most 11 = .ok (.iconst 5, 1) := by decide +kernel
theorem dX7_most_12 : decode cX7_most 12 = .ok (.if_icmp .ge 8, 3) := by decide +kernel
theorem dX7_most_15 : decode cX7_most 15 = .ok (.bipush 9, 2) := by decide +kernel
theorem dX7_most_17 : decode cX7_most 17 = .ok (.goto 5, 3) := by decide +kernel
theorem dX7_most_20 : decode cX7_most 20 = .ok (.bipush 99, 2) := by decide +kernel
theorem dX7_most_22 : decode cX7_most 22 = .ok (.ireturn, 1) := by decide +kernel
theorem dX7_job_0 : decode cX7_job 0 = .ok (.iload_n 1, 1) := by decide +kernel
theorem dX7_job_1 : decode cX7_job 1 = .ok (.i2l, 1) := by decide +kernel
theorem dX7_job_2 : decode cX7_job 2 = .ok (.lconst 0, 1) := by decide +kernel
theorem dX7_job_3 : decode cX7_job 3 = .ok (.ldc2_w 117, 3) := by decide +kernel
theorem dX7_job_6 : decode cX7_job 6 = .ok (.invokestatic 76, 3) := by decide +kernel
theorem dX7_job_9 : decode cX7_job 9 = .ok (.ifCond .eq 27, 3) := by decide +kernel
theorem dX7_job_12 : decode cX7_job 12 = .ok (.iload_n 2, 1) := by decide +kernel
theorem dX7_job_13 : decode cX7_job 13 = .ok (.i2l, 1) := by decide +kernel
theorem dX7_job_14 : decode cX7_job 14 = .ok (.lconst 0, 1) := by decide +kernel
theorem dX7_job_15 : decode cX7_job 15 = .ok (.ldc2_w 117, 3) := by decide +kernel
theorem dX7_job_18 : decode cX7_job 18 = .ok (.invokestatic 76, 3) := by decide +kernel
theorem dX7_job_21 : decode cX7_job 21 = .ok (.ifCond .eq 15, 3) := by decide +kernel
theorem dX7_job_24 : decode cX7_job 24 = .ok (.iload_n 3, 1) := by decide +kernel
theorem dX7_job_25 : decode cX7_job 25 = .ok (.i2l, 1) := by decide +kernel
theorem dX7_job_26 : decode cX7_job 26 = .ok (.lconst 0, 1) := by decide +kernel
theorem dX7_job_27 : decode cX7_job 27 = .ok (.ldc2_w 117, 3) := by decide +kernel
theorem dX7_job_30 : decode cX7_job 30 = .ok (.invokestatic 76, 3) := by decide +kernel
theorem dX7_job_33 : decode cX7_job 33 = .ok (.ifCond .ne 6, 3) := by decide +kernel
theorem dX7_job_36 : decode cX7_job 36 = .ok (.bipush (-2), 2) := by decide +kernel
theorem dX7_job_38 : decode cX7_job 38 = .ok (.ireturn, 1) := by decide +kernel
theorem dX7_job_39 : decode cX7_job 39 = .ok (.aload_n 0, 1) := by decide +kernel
theorem dX7_job_40 : decode cX7_job 40 = .ok (.getfield 72, 3) := by decide +kernel
theorem dX7_job_43 : decode cX7_job 43 = .ok (.bipush 6, 2) := by decide +kernel
theorem dX7_job_45 : decode cX7_job 45 = .ok (.if_icmp .ne 6, 3) := by decide +kernel
theorem dX7_job_48 : decode cX7_job 48 = .ok (.bipush (-4), 2) := by decide +kernel
theorem dX7_job_50 : decode cX7_job 50 = .ok (.ireturn, 1) := by decide +kernel
theorem dX7_job_51 : decode cX7_job 51 = .ok (.aload_n 0, 1) := by decide +kernel
theorem dX7_job_52 : decode cX7_job 52 = .ok (.getfield 11, 3) := by decide +kernel
theorem dX7_job_55 : decode cX7_job 55 = .ok (.bipush 6, 2) := by decide +kernel
theorem dX7_job_57 : decode cX7_job 57 = .ok (.aload_n 0, 1) := by decide +kernel
theorem dX7_job_58 : decode cX7_job 58 = .ok (.getfield 72, 3) := by decide +kernel
theorem dX7_job_61 : decode cX7_job 61 = .ok (.imul, 1) := by decide +kernel
theorem dX7_job_62 : decode cX7_job 62 = .ok (.iconst 0, 1) := by decide +kernel
theorem dX7_job_63 : decode cX7_job 63 = .ok (.iadd, 1) := by decide +kernel
theorem dX7_job_64 : decode cX7_job 64 = .ok (.iload_n 1, 1) := by decide +kernel
theorem dX7_job_65 : decode cX7_job 65 = .ok (.iastore, 1) := by decide +kernel
theorem dX7_job_66 : decode cX7_job 66 = .ok (.aload_n 0, 1) := by decide +kernel
theorem dX7_job_67 : decode cX7_job 67 = .ok (.getfield 11, 3) := by decide +kernel
theorem dX7_job_70 : decode cX7_job 70 = .ok (.bipush 6, 2) := by decide +kernel
theorem dX7_job_72 : decode cX7_job 72 = .ok (.aload_n 0, 1) := by decide +kernel
theorem dX7_job_73 : decode cX7_job 73 = .ok (.getfield 72, 3) := by decide +kernel
theorem dX7_job_76 : decode cX7_job 76 = .ok (.imul, 1) := by decide +kernel
theorem dX7_job_77 : decode cX7_job 77 = .ok (.iconst 1, 1) := by decide +kernel
theorem dX7_job_78 : decode cX7_job 78 = .ok (.iadd, 1) := by decide +kernel
theorem dX7_job_79 : decode cX7_job 79 = .ok (.iload_n 2, 1) := by decide +kernel
theorem dX7_job_80 : decode cX7_job 80 = .ok (.iastore, 1) := by decide +kernel
theorem dX7_job_81 : decode cX7_job 81 = .ok (.aload_n 0, 1) := by decide +kernel
theorem dX7_job_82 : decode cX7_job 82 = .ok (.getfield 11, 3) := by decide +kernel
theorem dX7_job_85 : decode cX7_job 85 = .ok (.bipush 6, 2) := by decide +kernel
theorem dX7_job_87 : decode cX7_job 87 = .ok (.aload_n 0, 1) := by decide +kernel
theorem dX7_job_88 : decode cX7_job 88 = .ok (.getfield 72, 3) := by decide +kernel
theorem dX7_job_91 : decode cX7_job 91 = .ok (.imul, 1) := by decide +kernel
theorem dX7_job_92 : decode cX7_job 92 = .ok (.iconst 2, 1) := by decide +kernel
theorem dX7_job_93 : decode cX7_job 93 = .ok (.iadd, 1) := by decide +kernel
theorem dX7_job_94 : decode cX7_job 94 = .ok (.iload_n 3, 1) := by decide +kernel
theorem dX7_job_95 : decode cX7_job 95 = .ok (.iastore, 1) := by decide +kernel
theorem dX7_job_96 : decode cX7_job 96 = .ok (.aload_n 0, 1) := by decide +kernel
theorem dX7_job_97 : decode cX7_job 97 = .ok (.getfield 11, 3) := by decide +kernel
theorem dX7_job_100 : decode cX7_job 100 = .ok (.bipush 6, 2) := by decide +kernel
theorem dX7_job_102 : decode cX7_job 102 = .ok (.aload_n 0, 1) := by decide +kernel
theorem dX7_job_103 : decode cX7_job 103 = .ok (.getfield 72, 3) := by decide +kernel
theorem dX7_job_106 : decode cX7_job 106 = .ok (.imul, 1) := by decide +kernel
theorem dX7_job_107 : decode cX7_job 107 = .ok (.iconst 3, 1) := by decide +kernel
theorem dX7_job_108 : decode cX7_job 108 = .ok (.iadd, 1) := by decide +kernel
theorem dX7_job_109 : decode cX7_job 109 = .ok (.iconst 0, 1) := by decide +kernel
theorem dX7_job_110 : decode cX7_job 110 = .ok (.iastore, 1) := by decide +kernel
theorem dX7_job_111 : decode cX7_job 111 = .ok (.aload_n 0, 1) := by decide +kernel
theorem dX7_job_112 : decode cX7_job 112 = .ok (.getfield 11, 3) := by decide +kernel
theorem dX7_job_115 : decode cX7_job 115 = .ok (.bipush 6, 2) := by decide +kernel
theorem dX7_job_117 : decode cX7_job 117 = .ok (.aload_n 0, 1) := by decide +kernel
theorem dX7_job_118 : decode cX7_job 118 = .ok (.getfield 72, 3) := by decide +kernel
theorem dX7_job_121 : decode cX7_job 121 = .ok (.imul, 1) := by decide +kernel
theorem dX7_job_122 : decode cX7_job 122 = .ok (.iconst 4, 1) := by decide +kernel
theorem dX7_job_123 : decode cX7_job 123 = .ok (.iadd, 1) := by decide +kernel
theorem dX7_job_124 : decode cX7_job 124 = .ok (.iconst 0, 1) := by decide +kernel
theorem dX7_job_125 : decode cX7_job 125 = .ok (.iastore, 1) := by decide +kernel
theorem dX7_job_126 : decode cX7_job 126 = .ok (.aload_n 0, 1) := by decide +kernel
theorem dX7_job_127 : decode cX7_job 127 = .ok (.getfield 11, 3) := by decide +kernel
theorem dX7_job_130 : decode cX7_job 130 = .ok (.bipush 6, 2) := by decide +kernel
theorem dX7_job_132 : decode cX7_job 132 = .ok (.aload_n 0, 1) := by decide +kernel
theorem dX7_job_133 : decode cX7_job 133 = .ok (.getfield 72, 3) := by decide +kernel
theorem dX7_job_136 : decode cX7_job 136 = .ok (.imul, 1) := by decide +kernel
theorem dX7_job_137 : decode cX7_job 137 = .ok (.iconst 5, 1) := by decide +kernel
theorem dX7_job_138 : decode cX7_job 138 = .ok (.iadd, 1) := by decide +kernel
theorem dX7_job_139 : decode cX7_job 139 = .ok (.bipush 99, 2) := by decide +kernel
theorem dX7_job_141 : decode cX7_job 141 = .ok (.iastore, 1) := by decide +kernel
theorem dX7_job_142 : decode cX7_job 142 = .ok (.aload_n 0, 1) := by decide +kernel
theorem dX7_job_143 : decode cX7_job 143 = .ok (.getfield 15, 3) := by decide +kernel
theorem dX7_job_146 : decode cX7_job 146 = .ok (.aload_n 0, 1) := by decide +kernel
theorem dX7_job_147 : decode cX7_job 147 = .ok (.getfield 72, 3) := by decide +kernel
theorem dX7_job_150 : decode cX7_job 150 = .ok (.aload_n 0, 1) := by decide +kernel
theorem dX7_job_151 : decode cX7_job 151 = .ok (.getfield 72, 3) := by decide +kernel
theorem dX7_job_154 : decode cX7_job 154 = .ok (.iastore, 1) := by decide +kernel
theorem dX7_job_155 : decode cX7_job 155 = .ok (.aload_n 0, 1) := by decide +kernel
theorem dX7_job_156 : decode cX7_job 156 = .ok (.dup, 1) := by decide +kernel
theorem dX7_job_157 : decode cX7_job 157 = .ok (.getfield 72, 3) := by decide +kernel
theorem dX7_job_160 : decode cX7_job 160 = .ok (.iconst 1, 1) := by decide +kernel
theorem dX7_job_161 : decode cX7_job 161 = .ok (.iadd, 1) := by decide +kernel
theorem dX7_job_162 : decode cX7_job 162 = .ok (.putfield 72, 3) := by decide +kernel
theorem dX7_job_165 : decode cX7_job 165 = .ok (.aload_n 0, 1) := by decide +kernel
theorem dX7_job_166 : decode cX7_job 166 = .ok (.getfield 72, 3) := by decide +kernel
theorem dX7_job_169 : decode cX7_job 169 = .ok (.iconst 1, 1) := by decide +kernel
theorem dX7_job_170 : decode cX7_job 170 = .ok (.isub, 1) := by decide +kernel
theorem dX7_job_171 : decode cX7_job 171 = .ok (.ireturn, 1) := by decide +kernel
theorem dX7_renew_0 : decode cX7_renew 0 = .ok (.aload_n 0, 1) := by decide +kernel
theorem dX7_renew_1 : decode cX7_renew 1 = .ok (.iload_n 1, 1) := by decide +kernel
theorem dX7_renew_2 : decode cX7_renew 2 = .ok (.invokevirtual 119, 3) := by decide +kernel
theorem dX7_renew_5 : decode cX7_renew 5 = .ok (.ifCond .eq 15, 3) := by decide +kernel
theorem dX7_renew_8 : decode cX7_renew 8 = .ok (.iload_n 2, 1) := by decide +kernel
theorem dX7_renew_9 : decode cX7_renew 9 = .ok (.i2l, 1) := by decide +kernel
theorem dX7_renew_10 : decode cX7_renew 10 = .ok (.lconst 0, 1) := by decide +kernel
theorem dX7_renew_11 : decode cX7_renew 11 = .ok (.ldc2_w 123, 3) := by decide +kernel
theorem dX7_renew_14 : decode cX7_renew 14 = .ok (.invokestatic 76, 3) := by decide +kernel
theorem dX7_renew_17 : decode cX7_renew 17 = .ok (.ifCond .ne 5, 3) := by decide +kernel
theorem dX7_renew_20 : decode cX7_renew 20 = .ok (.iconst (-1), 1) := by decide +kernel
theorem dX7_renew_21 : decode cX7_renew 21 = .ok (.ireturn, 1) := by decide +kernel
theorem dX7_renew_22 : decode cX7_renew 22 = .ok (.iload_n 3, 1) := by decide +kernel
theorem dX7_renew_23 : decode cX7_renew 23 = .ok (.i2l, 1) := by decide +kernel
theorem dX7_renew_24 : decode cX7_renew 24 = .ok (.lconst 0, 1) := by decide +kernel
theorem dX7_renew_25 : decode cX7_renew 25 = .ok (.iload_n 2, 1) := by decide +kernel
theorem dX7_renew_26 : decode cX7_renew 26 = .ok (.invokestatic 125, 3) := by decide +kernel
theorem dX7_renew_29 : decode cX7_renew 29 = .ok (.i2l, 1) := by decide +kernel
theorem dX7_renew_30 : decode cX7_renew 30 = .ok (.invokestatic 76, 3) := by decide +kernel
theorem dX7_renew_33 : decode cX7_renew 33 = .ok (.ifCond .ne 6, 3) := by decide +kernel
theorem dX7_renew_36 : decode cX7_renew 36 = .ok (.bipush (-2), 2) := by decide +kernel
theorem dX7_renew_38 : decode cX7_renew 38 = .ok (.ireturn, 1) := by decide +kernel
theorem dX7_renew_39 : decode cX7_renew 39 = .ok (.aload_n 0, 1) := by decide +kernel
theorem dX7_renew_40 : decode cX7_renew 40 = .ok (.iload_n 1, 1) := by decide +kernel
theorem dX7_renew_41 : decode cX7_renew 41 = .ok (.iload_n 2, 1) := by decide +kernel
theorem dX7_renew_42 : decode cX7_renew 42 = .ok (.invokevirtual 128, 3) := by decide +kernel
theorem dX7_renew_45 : decode cX7_renew 45 = .ok (.istore 4, 2) := by decide +kernel
theorem dX7_renew_47 : decode cX7_renew 47 = .ok (.aload_n 0, 1) := by decide +kernel
theorem dX7_renew_48 : decode cX7_renew 48 = .ok (.getfield 11, 3) := by decide +kernel
theorem dX7_renew_51 : decode cX7_renew 51 = .ok (.bipush 6, 2) := by decide +kernel
theorem dX7_renew_53 : decode cX7_renew 53 = .ok (.iload_n 1, 1) := by decide +kernel
theorem dX7_renew_54 : decode cX7_renew 54 = .ok (.imul, 1) := by decide +kernel
theorem dX7_renew_55 : decode cX7_renew 55 = .ok (.iload_n 2, 1) := by decide +kernel
theorem dX7_renew_56 : decode cX7_renew 56 = .ok (.iadd, 1) := by decide +kernel
theorem dX7_renew_57 : decode cX7_renew 57 = .ok (.iload_n 3, 1) := by decide +kernel
theorem dX7_renew_58 : decode cX7_renew 58 = .ok (.iastore, 1) := by decide +kernel
theorem dX7_renew_59 : decode cX7_renew 59 = .ok (.iload 4, 2) := by decide +kernel
theorem dX7_renew_61 : decode cX7_renew 61 = .ok (.ireturn, 1) := by decide +kernel
theorem dX7_placeOf_0 : decode cX7_placeOf 0 = .ok (.iconst 0, 1) := by decide +kernel
theorem dX7_placeOf_1 : decode cX7_placeOf 1 = .ok (.istore_n 3, 1) := by decide +kernel
theorem dX7_placeOf_2 : decode cX7_placeOf 2 = .ok (.aload_n 1, 1) := by decide +kernel
theorem dX7_placeOf_3 : decode cX7_placeOf 3 = .ok (.iload_n 3, 1) := by decide +kernel
theorem dX7_placeOf_4 : decode cX7_placeOf 4 = .ok (.iaload, 1) := by decide +kernel
theorem dX7_placeOf_5 : decode cX7_placeOf 5 = .ok (.iload_n 2, 1) := by decide +kernel
theorem dX7_placeOf_6 : decode cX7_placeOf 6 = .ok (.if_icmp .eq 9, 3) := by decide +kernel
theorem dX7_placeOf_9 : decode cX7_placeOf 9 = .ok (.iinc 3 1, 3) := by decide +kernel
theorem dX7_placeOf_12 : decode cX7_placeOf 12 = .ok (.goto (-10), 3) := by decide +kernel
theorem dX7_placeOf_15 : decode cX7_placeOf 15 = .ok (.iload_n 3, 1) := by decide +kernel
theorem dX7_placeOf_16 : decode cX7_placeOf 16 = .ok (.ireturn, 1) := by decide +kernel
theorem dX7_of_0 : decode cX7_of 0 = .ok (.aload_n 0, 1) := by decide +kernel
theorem dX7_of_1 : decode cX7_of 1 = .ok (.iload_n 1, 1) := by decide +kernel
theorem dX7_of_2 : decode cX7_of 2 = .ok (.invokevirtual 119, 3) := by decide +kernel
theorem dX7_of_5 : decode cX7_of 5 = .ok (.ifCond .eq 15, 3) := by decide +kernel
theorem dX7_of_8 : decode cX7_of 8 = .ok (.iload_n 2, 1) := by decide +kernel
theorem dX7_of_9 : decode cX7_of 9 = .ok (.i2l, 1) := by decide +kernel
theorem dX7_of_10 : decode cX7_of 10 = .ok (.lconst 0, 1) := by decide +kernel
theorem dX7_of_11 : decode cX7_of 11 = .ok (.ldc2_w 132, 3) := by decide +kernel
theorem dX7_of_14 : decode cX7_of 14 = .ok (.invokestatic 76, 3) := by decide +kernel
theorem dX7_of_17 : decode cX7_of 17 = .ok (.ifCond .ne 5, 3) := by decide +kernel
theorem dX7_of_20 : decode cX7_of 20 = .ok (.iconst (-1), 1) := by decide +kernel
theorem dX7_of_21 : decode cX7_of 21 = .ok (.ireturn, 1) := by decide +kernel
theorem dX7_of_22 : decode cX7_of 22 = .ok (.iload_n 2, 1) := by decide +kernel
theorem dX7_of_23 : decode cX7_of 23 = .ok (.iconst 5, 1) := by decide +kernel
theorem dX7_of_24 : decode cX7_of 24 = .ok (.if_icmp .gt 12, 3) := by decide +kernel
theorem dX7_of_27 : decode cX7_of 27 = .ok (.aload_n 0, 1) := by decide +kernel
theorem dX7_of_28 : decode cX7_of 28 = .ok (.iload_n 1, 1) := by decide +kernel
theorem dX7_of_29 : decode cX7_of 29 = .ok (.iload_n 2, 1) := by decide +kernel
theorem dX7_of_30 : decode cX7_of 30 = .ok (.invokevirtual 128, 3) := by decide +kernel
theorem dX7_of_33 : decode cX7_of 33 = .ok (.goto 12, 3) := by decide +kernel
theorem dX7_of_36 : decode cX7_of 36 = .ok (.aload_n 0, 1) := by decide +kernel
theorem dX7_of_37 : decode cX7_of 37 = .ok (.aload_n 0, 1) := by decide +kernel
theorem dX7_of_38 : decode cX7_of 38 = .ok (.getfield 15, 3) := by decide +kernel
theorem dX7_of_41 : decode cX7_of 41 = .ok (.iload_n 1, 1) := by decide +kernel
theorem dX7_of_42 : decode cX7_of 42 = .ok (.invokevirtual 134, 3) := by decide +kernel
theorem dX7_of_45 : decode cX7_of 45 = .ok (.ireturn, 1) := by decide +kernel
theorem dX7_set_0 : decode cX7_set 0 = .ok (.iload_n 1, 1) := by decide +kernel
theorem dX7_set_1 : decode cX7_set 1 = .ok (.i2l, 1) := by decide +kernel
theorem dX7_set_2 : decode cX7_set 2 = .ok (.lconst 0, 1) := by decide +kernel
theorem dX7_set_3 : decode cX7_set 3 = .ok (.lconst 1, 1) := by decide +kernel
theorem dX7_set_4 : decode cX7_set 4 = .ok (.invokestatic 76, 3) := by decide +kernel
theorem dX7_set_7 : decode cX7_set 7 = .ok (.ifCond .ne 5, 3) := by decide +kernel
theorem dX7_set_10 : decode cX7_set 10 = .ok (.iconst (-1), 1) := by decide +kernel
theorem dX7_set_11 : decode cX7_set 11 = .ok (.ireturn, 1) := by decide +kernel
theorem dX7_set_12 : decode cX7_set 12 = .ok (.iload_n 2, 1) := by decide +kernel
theorem dX7_set_13 : decode cX7_set 13 = .ok (.i2l, 1) := by decide +kernel
theorem dX7_set_14 : decode cX7_set 14 = .ok (.lconst 0, 1) := by decide +kernel
theorem dX7_set_15 : decode cX7_set 15 = .ok (.ldc2_w 138, 3) := by decide +kernel
theorem dX7_set_18 : decode cX7_set 18 = .ok (.invokestatic 76, 3) := by decide +kernel
theorem dX7_set_21 : decode cX7_set 21 = .ok (.ifCond .ne 6, 3) := by decide +kernel
theorem dX7_set_24 : decode cX7_set 24 = .ok (.bipush (-2), 2) := by decide +kernel
theorem dX7_set_26 : decode cX7_set 26 = .ok (.ireturn, 1) := by decide +kernel
theorem dX7_set_27 : decode cX7_set 27 = .ok (.iload_n 1, 1) := by decide +kernel
theorem dX7_set_28 : decode cX7_set 28 = .ok (.ifCond .ne 10, 3) := by decide +kernel
theorem dX7_set_31 : decode cX7_set 31 = .ok (.aload_n 0, 1) := by decide +kernel
theorem dX7_set_32 : decode cX7_set 32 = .ok (.getfield 91, 3) := by decide +kernel
theorem dX7_set_35 : decode cX7_set 35 = .ok (.goto 7, 3) := by decide +kernel
theorem dX7_set_38 : decode cX7_set 38 = .ok (.aload_n 0, 1) := by decide +kernel
theorem dX7_set_39 : decode cX7_set 39 = .ok (.getfield 94, 3) := by decide +kernel
theorem dX7_set_42 : decode cX7_set 42 = .ok (.istore_n 3, 1) := by decide +kernel
theorem dX7_set_43 : decode cX7_set 43 = .ok (.aload_n 0, 1) := by decide +kernel
theorem dX7_set_44 : decode cX7_set 44 = .ok (.iload_n 1, 1) := by decide +kernel
theorem dX7_set_45 : decode cX7_set 45 = .ok (.ifCond .ne 7, 3) := by decide +kernel
theorem dX7_set_48 : decode cX7_set 48 = .ok (.iload_n 2, 1) := by decide +kernel
theorem dX7_set_49 : decode cX7_set 49 = .ok (.goto 7, 3) := by decide +kernel
theorem dX7_set_52 : decode cX7_set 52 = .ok (.aload_n 0, 1) := by decide +kernel
theorem dX7_set_53 : decode cX7_set 53 = .ok (.getfield 91, 3) := by decide +kernel
theorem dX7_set_56 : decode cX7_set 56 = .ok (.putfield 91, 3) := by decide +kernel
theorem dX7_set_59 : decode cX7_set 59 = .ok (.aload_n 0, 1) := by decide +kernel
theorem dX7_set_60 : decode cX7_set 60 = .ok (.iload_n 1, 1) := by decide +kernel
theorem dX7_set_61 : decode cX7_set 61 = .ok (.iconst 1, 1) := by decide +kernel
theorem dX7_set_62 : decode cX7_set 62 = .ok (.if_icmp .ne 7, 3) := by decide +kernel
theorem dX7_set_65 : decode cX7_set 65 = .ok (.iload_n 2, 1) := by decide +kernel
theorem dX7_set_66 : decode cX7_set 66 = .ok (.goto 7, 3) := by decide +kernel
theorem dX7_set_69 : decode cX7_set 69 = .ok (.aload_n 0, 1) := by decide +kernel
theorem dX7_set_70 : decode cX7_set 70 = .ok (.getfield 94, 3) := by decide +kernel
theorem dX7_set_73 : decode cX7_set 73 = .ok (.putfield 94, 3) := by decide +kernel
theorem dX7_set_76 : decode cX7_set 76 = .ok (.iload_n 3, 1) := by decide +kernel
theorem dX7_set_77 : decode cX7_set 77 = .ok (.ireturn, 1) := by decide +kernel
theorem dX7_here_0 : decode cX7_here 0 = .ok (.aload_n 0, 1) := by decide +kernel
theorem dX7_here_1 : decode cX7_here 1 = .ok (.getfield 140, 3) := by decide +kernel
theorem dX7_here_4 : decode cX7_here 4 = .ok (.aload_n 0, 1) := by decide +kernel
theorem dX7_here_5 : decode cX7_here 5 = .ok (.getfield 143, 3) := by decide +kernel
theorem dX7_here_8 : decode cX7_here 8 = .ok (.if_icmp .ge 15, 3) := by decide +kernel
theorem dX7_here_11 : decode cX7_here 11 = .ok (.aload_n 0, 1) := by decide +kernel
theorem dX7_here_12 : decode cX7_here 12 = .ok (.getfield 36, 3) := by decide +kernel
theorem dX7_here_15 : decode cX7_here 15 = .ok (.aload_n 0, 1) := by decide +kernel
theorem dX7_here_16 : decode cX7_here 16 = .ok (.getfield 140, 3) := by decide +kernel
theorem dX7_here_19 : decode cX7_here 19 = .ok (.iaload, 1) := by decide +kernel
theorem dX7_here_20 : decode cX7_here 20 = .ok (.goto 4, 3) := by decide +kernel
theorem dX7_here_23 : decode cX7_here 23 = .ok (.iconst (-1), 1) := by decide +kernel
theorem dX7_here_24 : decode cX7_here 24 = .ok (.ireturn, 1) := by decide +kernel
theorem dX7_takes_0 : decode cX7_takes 0 = .ok (.aload_n 0, 1) := by decide +kernel
theorem dX7_takes_1 : decode cX7_takes 1 = .ok (.dup, 1) := by decide +kernel
theorem dX7_takes_2 : decode cX7_takes 2 = .ok (.getfield 146, 3) := by decide +kernel
theorem dX7_takes_5 : decode cX7_takes 5 = .ok (.aload_n 0, 1) := by decide +kernel
theorem dX7_takes_6 : decode cX7_takes 6 = .ok (.invokevirtual 149, 3) := by decide +kernel
theorem dX7_takes_9 : decode cX7_takes 9 = .ok (.i2l, 1) := by decide +kernel
theorem dX7_takes_10 : decode cX7_takes 10 = .ok (.iload_n 1, 1) := by decide +kernel
theorem dX7_takes_11 : decode cX7_takes 11 = .ok (.i2l, 1) := by decide +kernel
theorem dX7_takes_12 : decode cX7_takes 12 = .ok (.iload_n 2, 1) := by decide +kernel
theorem dX7_takes_13 : decode cX7_takes 13 = .ok (.i2l, 1) := by decide +kernel
theorem dX7_takes_14 : decode cX7_takes 14 = .ok (.invokestatic 76, 3) := by decide +kernel
theorem dX7_takes_17 : decode cX7_takes 17 = .ok (.ifCond .ne 7, 3) := by decide +kernel
theorem dX7_takes_20 : decode cX7_takes 20 = .ok (.iconst 1, 1) := by decide +kernel
theorem dX7_takes_21 : decode cX7_takes 21 = .ok (.goto 4, 3) := by decide +kernel
theorem dX7_takes_24 : decode cX7_takes 24 = .ok (.iconst 0, 1) := by decide +kernel
theorem dX7_takes_25 : decode cX7_takes 25 = .ok (.ior, 1) := by decide +kernel
theorem dX7_takes_26 : decode cX7_takes 26 = .ok (.putfield 146, 3) := by decide +kernel
theorem dX7_takes_29 : decode cX7_takes 29 = .ok (.aload_n 0, 1) := by decide +kernel
theorem dX7_takes_30 : decode cX7_takes 30 = .ok (.getfield 146, 3) := by decide +kernel
theorem dX7_takes_33 : decode cX7_takes 33 = .ok (.ifCond .eq 7, 3) := by decide +kernel
theorem dX7_takes_36 : decode cX7_takes 36 = .ok (.iconst 0, 1) := by decide +kernel
theorem dX7_takes_37 : decode cX7_takes 37 = .ok (.goto 9, 3) := by decide +kernel
theorem dX7_takes_40 : decode cX7_takes 40 = .ok (.aload_n 0, 1) := by decide +kernel
theorem dX7_takes_41 : decode cX7_takes 41 = .ok (.invokevirtual 149, 3) := by decide +kernel
theorem dX7_takes_44 : decode cX7_takes 44 = .ok (.iload_n 1, 1) := by decide +kernel
theorem dX7_takes_45 : decode cX7_takes 45 = .ok (.isub, 1) := by decide +kernel
theorem dX7_takes_46 : decode cX7_takes 46 = .ok (.istore_n 3, 1) := by decide +kernel
theorem dX7_takes_47 : decode cX7_takes 47 = .ok (.aload_n 0, 1) := by decide +kernel
theorem dX7_takes_48 : decode cX7_takes 48 = .ok (.dup, 1) := by decide +kernel
theorem dX7_takes_49 : decode cX7_takes 49 = .ok (.getfield 140, 3) := by decide +kernel
theorem dX7_takes_52 : decode cX7_takes 52 = .ok (.aload_n 0, 1) := by decide +kernel
theorem dX7_takes_53 : decode cX7_takes 53 = .ok (.getfield 146, 3) := by decide +kernel
theorem dX7_takes_56 : decode cX7_takes 56 = .ok (.ifCond .eq 7, 3) := by decide +kernel
theorem dX7_takes_59 : decode cX7_takes 59 = .ok (.iconst 0, 1) := by decide +kernel
theorem dX7_takes_60 : decode cX7_takes 60 = .ok (.goto 4, 3) := by decide +kernel
theorem dX7_takes_63 : decode cX7_takes 63 = .ok (.iconst 1, 1) := by decide +kernel
theorem dX7_takes_64 : decode cX7_takes 64 = .ok (.iadd, 1) := by decide +kernel
theorem dX7_takes_65 : decode cX7_takes 65 = .ok (.putfield 140, 3) := by decide +kernel
theorem dX7_takes_68 : decode cX7_takes 68 = .ok (.iload_n 3, 1) := by decide +kernel
theorem dX7_takes_69 : decode cX7_takes 69 = .ok (.ireturn, 1) := by decide +kernel
theorem dX7_takesDigit_0 : decode cX7_takesDigit 0 = .ok (.aload_n 0, 1) := by decide +kernel
theorem dX7_takesDigit_1 : decode cX7_takesDigit 1 = .ok (.bipush 48, 2) := by decide +kernel
theorem dX7_takesDigit_3 : decode cX7_takesDigit 3 = .ok (.bipush 57, 2) := by decide +kernel
theorem dX7_takesDigit_5 : decode cX7_takesDigit 5 = .ok (.invokevirtual 153, 3) := by decide +kernel
theorem dX7_takesDigit_8 : decode cX7_takesDigit 8 = .ok (.ireturn, 1) := by decide +kernel
theorem dX7_takesNumber_0 : decode cX7_takesNumber 0 = .ok (.aload_n 0, 1) := by decide +kernel
theorem dX7_takesNumber_1 : decode cX7_takesNumber 1 = .ok (.invokevirtual 156, 3) := by decide +kernel
theorem dX7_takesNumber_4 : decode cX7_takesNumber 4 = .ok (.istore_n 1, 1) := by decide +kernel
theorem dX7_takesNumber_5 : decode cX7_takesNumber 5 = .ok (.aload_n 0, 1) := by decide +kernel
theorem dX7_takesNumber_6 : decode cX7_takesNumber 6 = .ok (.getfield 146, 3) := by decide +kernel
theorem dX7_takesNumber_9 : decode cX7_takesNumber 9 = .ok (.ifCond .ne 32, 3) := by decide +kernel
theorem dX7_takesNumber_12 : decode cX7_takesNumber 12 = .ok (.aload_n 0, 1) := by decide +kernel
theorem dX7_takesNumber_13 : decode cX7_takesNumber 13 = .ok (.invokevirtual 149, 3) := by decide +kernel
theorem dX7_takesNumber_16 : decode cX7_takesNumber 16 = .ok (.i2l, 1) := by decide +kernel
theorem dX7_takesNumber_17 : decode cX7_takesNumber 17 = .ok (.ldc2_w 159, 3) := by decide +kernel
theorem dX7_takesNumber_20 : decode cX7_takesNumber 20 = .ok (.ldc2_w 161, 3) := by decide +kernel
theorem dX7_takesNumber_23 : decode cX7_takesNumber 23 = .ok (.invokestatic 76, 3) := by decide +kernel
theorem dX7_takesNumber_26 : decode cX7_takesNumber 26 = .ok (.ifCond .eq 15, 3) := by decide +kernel
theorem dX7_takesNumber_29 : decode cX7_takesNumber 29 = .ok (.bipush 10, 2) := by decide +kernel
theorem dX7_takesNumber_31 : decode cX7_takesNumber 31 = .ok (.iload_n 1, 1) := by decide +kernel
theorem dX7_takesNumber_32 : decode cX7_takesNumber 32 = .ok (.imul, 1) := by decide +kernel
theorem dX7_takesNumber_33 : decode cX7_takesNumber 33 = .ok (.aload_n 0, 1) := by decide +kernel
theorem dX7_takesNumber_34 : decode cX7_takesNumber 34 = .ok (.invokevirtual 156, 3) := by decide +kernel
theorem dX7_takesNumber_37 : decode cX7_takesNumber 37 = .ok (.iadd, 1) := by decide +kernel
theorem dX7_takesNumber_38 : decode cX7_takesNumber 38 = .ok (.goto 4, 3) := by decide +kernel
theorem dX7_takesNumber_41 : decode cX7_takesNumber 41 = .ok (.iload_n 1, 1) := by decide +kernel
theorem dX7_takesNumber_42 : decode cX7_takesNumber 42 = .ok (.ireturn, 1) := by decide +kernel
theorem dX7_rest_0 : decode cX7_rest 0 = .ok (.iload_n 1, 1) := by decide +kernel
theorem dX7_rest_1 : decode cX7_rest 1 = .ok (.bipush 106, 2) := by decide +kernel
theorem dX7_rest_3 : decode cX7_rest 3 = .ok (.if_icmp .ne 56, 3) := by decide +kernel
theorem dX7_rest_6 : decode cX7_rest 6 = .ok (.aload_n 0, 1) := by decide +kernel
theorem dX7_rest_7 : decode cX7_rest 7 = .ok (.invokevirtual 163, 3) := by decide +kernel
theorem dX7_rest_10 : decode cX7_rest 10 = .ok (.istore_n 3, 1) := by decide +kernel
theorem dX7_rest_11 : decode cX7_rest 11 = .ok (.aload_n 0, 1) := by decide +kernel
theorem dX7_rest_12 : decode cX7_rest 12 = .ok (.bipush 44, 2) := by decide +kernel
theorem dX7_rest_14 : decode cX7_rest 14 = .ok (.bipush 44, 2) := by decide +kernel
theorem dX7_rest_16 : decode cX7_rest 16 = .ok (.invokevirtual 153, 3) := by decide +kernel
theorem dX7_rest_19 : decode cX7_rest 19 = .ok (.pop, 1) := by decide +kernel
theorem dX7_rest_20 : decode cX7_rest 20 = .ok (.aload_n 0, 1) := by decide +kernel
theorem dX7_rest_21 : decode cX7_rest 21 = .ok (.invokevirtual 163, 3) := by decide +kernel
theorem dX7_rest_24 : decode cX7_rest 24 = .ok (.istore 4, 2) := by decide +kernel
theorem dX7_rest_26 : decode cX7_rest 26 = .ok (.aload_n 0, 1) := by decide +kernel
theorem dX7_rest_27 : decode cX7_rest 27 = .ok (.bipush 44, 2) := by decide +kernel
theorem dX7_rest_29 : decode cX7_rest 29 = .ok (.bipush 44, 2) := by decide +kernel
theorem dX7_rest_31 : decode cX7_rest 31 = .ok (.invokevirtual 153, 3) := by decide +kernel
theorem dX7_rest_34 : decode cX7_rest 34 = .ok (.pop, 1) := by decide +kernel
theorem dX7_rest_35 : decode cX7_rest 35 = .ok (.aload_n 0, 1) := by decide +kernel
theorem dX7_rest_36 : decode cX7_rest 36 = .ok (.invokevirtual 163, 3) := by decide +kernel
theorem dX7_rest_39 : decode cX7_rest 39 = .ok (.istore 5, 2) := by decide +kernel
theorem dX7_rest_41 : decode cX7_rest 41 = .ok (.iload_n 2, 1) := by decide +kernel
theorem dX7_rest_42 : decode cX7_rest 42 = .ok (.ifCond .eq 15, 3) := by decide +kernel
theorem dX7_rest_45 : decode cX7_rest 45 = .ok (.aload_n 0, 1) := by decide +kernel
theorem dX7_rest_46 : decode cX7_rest 46 = .ok (.iload_n 3, 1) := by decide +kernel
theorem dX7_rest_47 : decode cX7_rest 47 = .ok (.iload 4, 2) := by decide +kernel
theorem dX7_rest_49 : decode cX7_rest 49 = .ok (.iload 5, 2) := by decide +kernel
theorem dX7_rest_51 : decode cX7_rest 51 = .ok (.invokevirtual 166, 3) := by decide +kernel
theorem dX7_rest_54 : decode cX7_rest 54 = .ok (.goto 4, 3) := by decide +kernel
theorem dX7_rest_57 : decode cX7_rest 57 = .ok (.iconst 0, 1) := by decide +kernel
theorem dX7_rest_58 : decode cX7_rest 58 = .ok (.ireturn, 1) := by decide +kernel
theorem dX7_rest_59 : decode cX7_rest 59 = .ok (.aload_n 0, 1) := by decide +kernel
theorem dX7_rest_60 : decode cX7_rest 60 = .ok (.invokevirtual 156, 3) := by decide +kernel
theorem dX7_rest_63 : decode cX7_rest 63 = .ok (.istore_n 3, 1) := by decide +kernel
theorem dX7_rest_64 : decode cX7_rest 64 = .ok (.iload_n 1, 1) := by decide +kernel
theorem dX7_rest_65 : decode cX7_rest 65 = .ok (.bipush 109, 2) := by decide +kernel
theorem dX7_rest_67 : decode cX7_rest 67 = .ok (.if_icmp .eq 9, 3) := by decide +kernel
theorem dX7_rest_70 : decode cX7_rest 70 = .ok (.iload_n 1, 1) := by decide +kernel
theorem dX7_rest_71 : decode cX7_rest 71 = .ok (.bipush 97, 2) := by decide +kernel
theorem dX7_rest_73 : decode cX7_rest 73 = .ok (.if_icmp .ne 28, 3) := by decide +kernel
theorem dX7_rest_76 : decode cX7_rest 76 = .ok (.iload_n 2, 1) := by decide +kernel
theorem dX7_rest_77 : decode cX7_rest 77 = .ok (.ifCond .eq 22, 3) := by decide +kernel
theorem dX7_rest_80 : decode cX7_rest 80 = .ok (.aload_n 0, 1) := by decide +kernel
theorem dX7_rest_81 : decode cX7_rest 81 = .ok (.iload_n 1, 1) := by decide +kernel
theorem dX7_rest_82 : decode cX7_rest 82 = .ok (.bipush 109, 2) := by decide +kernel
theorem dX7_rest_84 : decode cX7_rest 84 = .ok (.if_icmp .ne 7, 3) := by decide +kernel
theorem dX7_rest_87 : decode cX7_rest 87 = .ok (.iconst 0, 1) := by decide +kernel
theorem dX7_rest_88 : decode cX7_rest 88 = .ok (.goto 4, 3) := by decide +kernel
theorem dX7_rest_91 : decode cX7_rest 91 = .ok (.iconst 1, 1) := by decide +kernel
theorem dX7_rest_92 : decode cX7_rest 92 = .ok (.iload_n 3, 1) := by decide +kernel
theorem dX7_rest_93 : decode cX7_rest 93 = .ok (.invokevirtual 170, 3) := by decide +kernel
theorem dX7_rest_96 : decode cX7_rest 96 = .ok (.goto 4, 3) := by decide +kernel
theorem dX7_rest_99 : decode cX7_rest 99 = .ok (.iconst 0, 1) := by decide +kernel
theorem dX7_rest_100 : decode cX7_rest 100 = .ok (.ireturn, 1) := by decide +kernel
theorem dX7_rest_101 : decode cX7_rest 101 = .ok (.iload_n 1, 1) := by decide +kernel
theorem dX7_rest_102 : decode cX7_rest 102 = .ok (.bipush 100, 2) := by decide +kernel
theorem dX7_rest_104 : decode cX7_rest 104 = .ok (.if_icmp .ne 10, 3) := by decide +kernel
theorem dX7_rest_107 : decode cX7_rest 107 = .ok (.aload_n 0, 1) := by decide +kernel
theorem dX7_rest_108 : decode cX7_rest 108 = .ok (.invokevirtual 163, 3) := by decide +kernel
theorem dX7_rest_111 : decode cX7_rest 111 = .ok (.goto 7, 3) := by decide +kernel
theorem dX7_rest_114 : decode cX7_rest 114 = .ok (.aload_n 0, 1) := by decide +kernel
theorem dX7_rest_115 : decode cX7_rest 115 = .ok (.invokevirtual 156, 3) := by decide +kernel
theorem dX7_rest_118 : decode cX7_rest 118 = .ok (.istore 4, 2) := by decide +kernel
theorem dX7_rest_120 : decode cX7_rest 120 = .ok (.iload_n 1, 1) := by decide +kernel
theorem dX7_rest_121 : decode cX7_rest 121 = .ok (.bipush 100, 2) := by decide +kernel
theorem dX7_rest_123 : decode cX7_rest 123 = .ok (.if_icmp .ne 20, 3) := by decide +kernel
theorem dX7_rest_126 : decode cX7_rest 126 = .ok (.iload_n 2, 1) := by decide +kernel
theorem dX7_rest_127 : decode cX7_rest 127 = .ok (.ifCond .eq 14, 3) := by decide +kernel
theorem dX7_rest_130 : decode cX7_rest 130 = .ok (.aload_n 0, 1) := by decide +kernel
theorem dX7_rest_131 : decode cX7_rest 131 = .ok (.iload_n 3, 1) := by decide +kernel
theorem dX7_rest_132 : decode cX7_rest 132 = .ok (.iconst 5, 1) := by decide +kernel
theorem dX7_rest_133 : decode cX7_rest 133 = .ok (.iload 4, 2) := by decide +kernel
theorem dX7_rest_135 : decode cX7_rest 135 = .ok (.invokevirtual 173, 3) := by decide +kernel
theorem dX7_rest_138 : decode cX7_rest 138 = .ok (.goto 4, 3) := by decide +kernel
theorem dX7_rest_141 : decode cX7_rest 141 = .ok (.iconst 0, 1) := by decide +kernel
theorem dX7_rest_142 : decode cX7_rest 142 = .ok (.ireturn, 1) := by decide +kernel
theorem dX7_rest_143 : decode cX7_rest 143 = .ok (.aload_n 0, 1) := by decide +kernel
theorem dX7_rest_144 : decode cX7_rest 144 = .ok (.invokevirtual 156, 3) := by decide +kernel
theorem dX7_rest_147 : decode cX7_rest 147 = .ok (.istore 5, 2) := by decide +kernel
theorem dX7_rest_149 : decode cX7_rest 149 = .ok (.iload_n 2, 1) := by decide +kernel
theorem dX7_rest_150 : decode cX7_rest 150 = .ok (.ifCond .eq 25, 3) := by decide +kernel
theorem dX7_rest_153 : decode cX7_rest 153 = .ok (.aload_n 0, 1) := by decide +kernel
theorem dX7_rest_154 : decode cX7_rest 154 = .ok (.iload_n 3, 1) := by decide +kernel
theorem dX7_rest_155 : decode cX7_rest 155 = .ok (.iconst 3, 1) := by decide +kernel
theorem dX7_rest_156 : decode cX7_rest 156 = .ok (.iload 4, 2) := by decide +kernel
theorem dX7_rest_158 : decode cX7_rest 158 = .ok (.invokevirtual 173, 3) := by decide +kernel
theorem dX7_rest_161 : decode cX7_rest 161 = .ok (.aload_n 0, 1) := by decide +kernel
theorem dX7_rest_162 : decode cX7_rest 162 = .ok (.iload_n 3, 1) := by decide +kernel
theorem dX7_rest_163 : decode cX7_rest 163 = .ok (.iconst 4, 1) := by decide +kernel
theorem dX7_rest_164 : decode cX7_rest 164 = .ok (.iload 5, 2) := by decide +kernel
theorem dX7_rest_166 : decode cX7_rest 166 = .ok (.invokevirtual 173, 3) := by decide +kernel
theorem dX7_rest_169 : decode cX7_rest 169 = .ok (.invokestatic 176, 3) := by decide +kernel
theorem dX7_rest_172 : decode cX7_rest 172 = .ok (.goto 4, 3) := by decide +kernel
theorem dX7_rest_175 : decode cX7_rest 175 = .ok (.iconst 0, 1) := by decide +kernel
theorem dX7_rest_176 : decode cX7_rest 176 = .ok (.ireturn, 1) := by decide +kernel
theorem dX7_clause_0 : decode cX7_clause 0 = .ok (.aload_n 0, 1) := by decide +kernel
theorem dX7_clause_1 : decode cX7_clause 1 = .ok (.invokevirtual 149, 3) := by decide +kernel
theorem dX7_clause_4 : decode cX7_clause 4 = .ok (.istore_n 2, 1) := by decide +kernel
theorem dX7_clause_5 : decode cX7_clause 5 = .ok (.iload_n 2, 1) := by decide +kernel
theorem dX7_clause_6 : decode cX7_clause 6 = .ok (.bipush 106, 2) := by decide +kernel
theorem dX7_clause_8 : decode cX7_clause 8 = .ok (.if_icmp .eq 33, 3) := by decide +kernel
theorem dX7_clause_11 : decode cX7_clause 11 = .ok (.iload_n 2, 1) := by decide +kernel
theorem dX7_clause_12 : decode cX7_clause 12 = .ok (.bipush 99, 2) := by decide +kernel
theorem dX7_clause_14 : decode cX7_clause 14 = .ok (.if_icmp .eq 27, 3) := by decide +kernel
theorem dX7_clause_17 : decode cX7_clause 17 = .ok (.iload_n 2, 1) := by decide +kernel
theorem dX7_clause_18 : decode cX7_clause 18 = .ok (.bipush 100, 2) := by decide +kernel
theorem dX7_clause_20 : decode cX7_clause 20 = .ok (.if_icmp .eq 21, 3) := by decide +kernel
theorem dX7_clause_23 : decode cX7_clause 23 = .ok (.iload_n 2, 1) := by decide +kernel
theorem dX7_clause_24 : decode cX7_clause 24 = .ok (.bipush 109, 2) := by decide +kernel
theorem dX7_clause_26 : decode cX7_clause 26 = .ok (.if_icmp .eq 15, 3) := by decide +kernel
theorem dX7_clause_29 : decode cX7_clause 29 = .ok (.iload_n 2, 1) := by decide +kernel
theorem dX7_clause_30 : decode cX7_clause 30 = .ok (.bipush 97, 2) := by decide +kernel
theorem dX7_clause_32 : decode cX7_clause 32 = .ok (.if_icmp .eq 9, 3) := by decide +kernel
theorem dX7_clause_35 : decode cX7_clause 35 = .ok (.aload_n 0, 1) := by decide +kernel
theorem dX7_clause_36 : decode cX7_clause 36 = .ok (.iconst 1, 1) := by decide +kernel
theorem dX7_clause_37 : decode cX7_clause 37 = .ok (.putfield 146, 3) := by decide +kernel
theorem dX7_clause_40 : decode cX7_clause 40 = .ok (.return_, 1) := by decide +kernel
theorem dX7_clause_41 : decode cX7_clause 41 = .ok (.aload_n 0, 1) := by decide +kernel
theorem dX7_clause_42 : decode cX7_clause 42 = .ok (.dup, 1) := by decide +kernel
theorem dX7_clause_43 : decode cX7_clause 43 = .ok (.getfield 140, 3) := by decide +kernel
theorem dX7_clause_46 : decode cX7_clause 46 = .ok (.iconst 1, 1) := by decide +kernel
theorem dX7_clause_47 : decode cX7_clause 47 = .ok (.iadd, 1) := by decide +kernel
theorem dX7_clause_48 : decode cX7_clause 48 = .ok (.putfield 140, 3) := by decide +kernel
theorem dX7_clause_51 : decode cX7_clause 51 = .ok (.aload_n 0, 1) := by decide +kernel
theorem dX7_clause_52 : decode cX7_clause 52 = .ok (.iload_n 2, 1) := by decide +kernel
theorem dX7_clause_53 : decode cX7_clause 53 = .ok (.iload_n 1, 1) := by decide +kernel
theorem dX7_clause_54 : decode cX7_clause 54 = .ok (.invokevirtual 181, 3) := by decide +kernel
theorem dX7_clause_57 : decode cX7_clause 57 = .ok (.istore_n 3, 1) := by decide +kernel
theorem dX7_clause_58 : decode cX7_clause 58 = .ok (.aload_n 0, 1) := by decide +kernel
theorem dX7_clause_59 : decode cX7_clause 59 = .ok (.dup, 1) := by decide +kernel
theorem dX7_clause_60 : decode cX7_clause 60 = .ok (.getfield 185, 3) := by decide +kernel
theorem dX7_clause_63 : decode cX7_clause 63 = .ok (.aload_n 0, 1) := by decide +kernel
theorem dX7_clause_64 : decode cX7_clause 64 = .ok (.getfield 146, 3) := by decide +kernel
theorem dX7_clause_67 : decode cX7_clause 67 = .ok (.ifCond .eq 7, 3) := by decide +kernel
theorem dX7_clause_70 : decode cX7_clause 70 = .ok (.iconst 0, 1) := by decide +kernel
theorem dX7_clause_71 : decode cX7_clause 71 = .ok (.goto 4, 3) := by decide +kernel
theorem dX7_clause_74 : decode cX7_clause 74 = .ok (.iconst 1, 1) := by decide +kernel
theorem dX7_clause_75 : decode cX7_clause 75 = .ok (.iadd, 1) := by decide +kernel
theorem dX7_clause_76 : decode cX7_clause 76 = .ok (.putfield 185, 3) := by decide +kernel
theorem dX7_clause_79 : decode cX7_clause 79 = .ok (.aload_n 0, 1) := by decide +kernel
theorem dX7_clause_80 : decode cX7_clause 80 = .ok (.dup, 1) := by decide +kernel
theorem dX7_clause_81 : decode cX7_clause 81 = .ok (.getfield 188, 3) := by decide +kernel
theorem dX7_clause_84 : decode cX7_clause 84 = .ok (.iload_n 3, 1) := by decide +kernel
theorem dX7_clause_85 : decode cX7_clause 85 = .ok (.ifCond .lt 7, 3) := by decide +kernel
theorem dX7_clause_88 : decode cX7_clause 88 = .ok (.iconst 1, 1) := by decide +kernel
theorem dX7_clause_89 : decode cX7_clause 89 = .ok (.goto 4, 3) := by decide +kernel
theorem dX7_clause_92 : decode cX7_clause 92 = .ok (.iconst 0, 1) := by decide +kernel
theorem dX7_clause_93 : decode cX7_clause 93 = .ok (.iadd, 1) := by decide +kernel
theorem dX7_clause_94 : decode cX7_clause 94 = .ok (.putfield 188, 3) := by decide +kernel
theorem dX7_clause_97 : decode cX7_clause 97 = .ok (.return_, 1) := by decide +kernel
theorem dX7_goesThrough_0 : decode cX7_goesThrough 0 = .ok (.aload_n 0, 1) := by decide +kernel
theorem dX7_goesThrough_1 : decode cX7_goesThrough 1 = .ok (.iconst 0, 1) := by decide +kernel
theorem dX7_goesThrough_2 : decode cX7_goesThrough 2 = .ok (.putfield 140, 3) := by decide +kernel
theorem dX7_goesThrough_5 : decode cX7_goesThrough 5 = .ok (.aload_n 0, 1) := by decide +kernel
theorem dX7_goesThrough_6 : decode cX7_goesThrough 6 = .ok (.iconst 0, 1) := by decide +kernel
theorem dX7_goesThrough_7 : decode cX7_goesThrough 7 = .ok (.putfield 185, 3) := by decide +kernel
theorem dX7_goesThrough_10 : decode cX7_goesThrough 10 = .ok (.aload_n 0, 1) := by decide +kernel
theorem dX7_goesThrough_11 : decode cX7_goesThrough 11 = .ok (.iconst 0, 1) := by decide +kernel
theorem dX7_goesThrough_12 : decode cX7_goesThrough 12 = .ok (.putfield 188, 3) := by decide +kernel
theorem dX7_goesThrough_15 : decode cX7_goesThrough 15 = .ok (.aload_n 0, 1) := by decide +kernel
theorem dX7_goesThrough_16 : decode cX7_goesThrough 16 = .ok (.iconst 0, 1) := by decide +kernel
theorem dX7_goesThrough_17 : decode cX7_goesThrough 17 = .ok (.putfield 146, 3) := by decide +kernel
theorem dX7_goesThrough_20 : decode cX7_goesThrough 20 = .ok (.aload_n 0, 1) := by decide +kernel
theorem dX7_goesThrough_21 : decode cX7_goesThrough 21 = .ok (.iload_n 1, 1) := by decide +kernel
theorem dX7_goesThrough_22 : decode cX7_goesThrough 22 = .ok (.invokevirtual 191, 3) := by decide +kernel
theorem dX7_goesThrough_25 : decode cX7_goesThrough 25 = .ok (.aload_n 0, 1) := by decide +kernel
theorem dX7_goesThrough_26 : decode cX7_goesThrough 26 = .ok (.getfield 146, 3) := by decide +kernel
theorem dX7_goesThrough_29 : decode cX7_goesThrough 29 = .ok (.ifCond .ne 66, 3) := by decide +kernel
theorem dX7_goesThrough_32 : decode cX7_goesThrough 32 = .ok (.aload_n 0, 1) := by decide +kernel
theorem dX7_goesThrough_33 : decode cX7_goesThrough 33 = .ok (.getfield 140, 3) := by decide +kernel
theorem dX7_goesThrough_36 : decode cX7_goesThrough 36 = .ok (.aload_n 0, 1) := by decide +kernel
theorem dX7_goesThrough_37 : decode cX7_goesThrough 37 = .ok (.getfield 143, 3) := by decide +kernel
theorem dX7_goesThrough_40 : decode cX7_goesThrough 40 = .ok (.if_icmp .ge 55, 3) := by decide +kernel
theorem dX7_goesThrough_43 : decode cX7_goesThrough 43 = .ok (.aload_n 0, 1) := by decide +kernel
theorem dX7_goesThrough_44 : decode cX7_goesThrough 44 = .ok (.aload_n 0, 1) := by decide +kernel
theorem dX7_goesThrough_45 : decode cX7_goesThrough 45 = .ok (.getfield 185, 3) := by decide +kernel
theorem dX7_goesThrough_48 : decode cX7_goesThrough 48 = .ok (.bipush 12, 2) := by decide +kernel
theorem dX7_goesThrough_50 : decode cX7_goesThrough 50 = .ok (.if_icmp .eq 12, 3) := by decide +kernel
theorem dX7_goesThrough_53 : decode cX7_goesThrough 53 = .ok (.aload_n 0, 1) := by decide +kernel
theorem dX7_goesThrough_54 : decode cX7_goesThrough 54 = .ok (.invokevirtual 149, 3) := by decide +kernel
theorem dX7_goesThrough_57 : decode cX7_goesThrough 57 = .ok (.bipush 59, 2) := by decide +kernel
theorem dX7_goesThrough_59 : decode cX7_goesThrough 59 = .ok (.if_icmp .eq 7, 3) := by decide +kernel
theorem dX7_goesThrough_62 : decode cX7_goesThrough 62 = .ok (.iconst 1, 1) := by decide +kernel
theorem dX7_goesThrough_63 : decode cX7_goesThrough 63 = .ok (.goto 4, 3) := by decide +kernel
theorem dX7_goesThrough_66 : decode cX7_goesThrough 66 = .ok (.iconst 0, 1) := by decide +kernel
theorem dX7_goesThrough_67 : decode cX7_goesThrough 67 = .ok (.putfield 146, 3) := by decide +kernel
theorem dX7_goesThrough_70 : decode cX7_goesThrough 70 = .ok (.aload_n 0, 1) := by decide +kernel
theorem dX7_goesThrough_71 : decode cX7_goesThrough 71 = .ok (.getfield 146, 3) := by decide +kernel
theorem dX7_goesThrough_74 : decode cX7_goesThrough 74 = .ok (.ifCond .ne (-49), 3) := by decide +kernel
theorem dX7_goesThrough_77 : decode cX7_goesThrough 77 = .ok (.aload_n 0, 1) := by decide +kernel
theorem dX7_goesThrough_78 : decode cX7_goesThrough 78 = .ok (.dup, 1) := by decide +kernel
theorem dX7_goesThrough_79 : decode cX7_goesThrough 79 = .ok (.getfield 140, 3) := by decide +kernel
theorem dX7_goesThrough_82 : decode cX7_goesThrough 82 = .ok (.iconst 1, 1) := by decide +kernel
theorem dX7_goesThrough_83 : decode cX7_goesThrough 83 = .ok (.iadd, 1) := by decide +kernel
theorem dX7_goesThrough_84 : decode cX7_goesThrough 84 = .ok (.putfield 140, 3) := by decide +kernel
theorem dX7_goesThrough_87 : decode cX7_goesThrough 87 = .ok (.aload_n 0, 1) := by decide +kernel
theorem dX7_goesThrough_88 : decode cX7_goesThrough 88 = .ok (.iload_n 1, 1) := by decide +kernel
theorem dX7_goesThrough_89 : decode cX7_goesThrough 89 = .ok (.invokevirtual 191, 3) := by decide +kernel
theorem dX7_goesThrough_92 : decode cX7_goesThrough 92 = .ok (.goto (-67), 3) := by decide +kernel
theorem dX7_goesThrough_95 : decode cX7_goesThrough 95 = .ok (.return_, 1) := by decide +kernel
theorem dX7_feed_0 : decode cX7_feed 0 = .ok (.iload_n 1, 1) := by decide +kernel
theorem dX7_feed_1 : decode cX7_feed 1 = .ok (.i2l, 1) := by decide +kernel
theorem dX7_feed_2 : decode cX7_feed 2 = .ok (.lconst 0, 1) := by decide +kernel
theorem dX7_feed_3 : decode cX7_feed 3 = .ok (.ldc2_w 195, 3) := by decide +kernel
theorem dX7_feed_6 : decode cX7_feed 6 = .ok (.invokestatic 76, 3) := by decide +kernel
theorem dX7_feed_9 : decode cX7_feed 9 = .ok (.ifCond .ne 6, 3) := by decide +kernel
theorem dX7_feed_12 : decode cX7_feed 12 = .ok (.bipush (-2), 2) := by decide +kernel
theorem dX7_feed_14 : decode cX7_feed 14 = .ok (.ireturn, 1) := by decide +kernel
theorem dX7_feed_15 : decode cX7_feed 15 = .ok (.aload_n 0, 1) := by decide +kernel
theorem dX7_feed_16 : decode cX7_feed 16 = .ok (.getfield 143, 3) := by decide +kernel
theorem dX7_feed_19 : decode cX7_feed 19 = .ok (.bipush 100, 2) := by decide +kernel
theorem dX7_feed_21 : decode cX7_feed 21 = .ok (.if_icmp .ne 6, 3) := by decide +kernel
theorem dX7_feed_24 : decode cX7_feed 24 = .ok (.bipush (-4), 2) := by decide +kernel
theorem dX7_feed_26 : decode cX7_feed 26 = .ok (.ireturn, 1) := by decide +kernel
theorem dX7_feed_27 : decode cX7_feed 27 = .ok (.aload_n 0, 1) := by decide +kernel
theorem dX7_feed_28 : decode cX7_feed 28 = .ok (.getfield 36, 3) := by decide +kernel
theorem dX7_feed_31 : decode cX7_feed 31 = .ok (.aload_n 0, 1) := by decide +kernel
theorem dX7_feed_32 : decode cX7_feed 32 = .ok (.getfield 143, 3) := by decide +kernel
theorem dX7_feed_35 : decode cX7_feed 35 = .ok (.iload_n 1, 1) := by decide +kernel
theorem dX7_feed_36 : decode cX7_feed 36 = .ok (.iastore, 1) := by decide +kernel
theorem dX7_feed_37 : decode cX7_feed 37 = .ok (.aload_n 0, 1) := by decide +kernel
theorem dX7_feed_38 : decode cX7_feed 38 = .ok (.dup, 1) := by decide +kernel
theorem dX7_feed_39 : decode cX7_feed 39 = .ok (.getfield 143, 3) := by decide +kernel
theorem dX7_feed_42 : decode cX7_feed 42 = .ok (.iconst 1, 1) := by decide +kernel
theorem dX7_feed_43 : decode cX7_feed 43 = .ok (.iadd, 1) := by decide +kernel
theorem dX7_feed_44 : decode cX7_feed 44 = .ok (.putfield 143, 3) := by decide +kernel
theorem dX7_feed_47 : decode cX7_feed 47 = .ok (.aload_n 0, 1) := by decide +kernel
theorem dX7_feed_48 : decode cX7_feed 48 = .ok (.getfield 143, 3) := by decide +kernel
theorem dX7_feed_51 : decode cX7_feed 51 = .ok (.ireturn, 1) := by decide +kernel
theorem dX7_read_0 : decode cX7_read 0 = .ok (.aload_n 0, 1) := by decide +kernel
theorem dX7_read_1 : decode cX7_read 1 = .ok (.iconst 0, 1) := by decide +kernel
theorem dX7_read_2 : decode cX7_read 2 = .ok (.invokevirtual 197, 3) := by decide +kernel
theorem dX7_read_5 : decode cX7_read 5 = .ok (.bipush (-10), 2) := by decide +kernel
theorem dX7_read_7 : decode cX7_read 7 = .ok (.aload_n 0, 1) := by decide +kernel
theorem dX7_read_8 : decode cX7_read 8 = .ok (.getfield 140, 3) := by decide +kernel
theorem dX7_read_11 : decode cX7_read 11 = .ok (.isub, 1) := by decide +kernel
theorem dX7_read_12 : decode cX7_read 12 = .ok (.istore_n 1, 1) := by decide +kernel
theorem dX7_read_13 : decode cX7_read 13 = .ok (.aload_n 0, 1) := by decide +kernel
theorem dX7_read_14 : decode cX7_read 14 = .ok (.getfield 146, 3) := by decide +kernel
theorem dX7_read_17 : decode cX7_read 17 = .ok (.ifCond .ne 13, 3) := by decide +kernel
theorem dX7_read_20 : decode cX7_read 20 = .ok (.aload_n 0, 1) := by decide +kernel
theorem dX7_read_21 : decode cX7_read 21 = .ok (.iconst 1, 1) := by decide +kernel
theorem dX7_read_22 : decode cX7_read 22 = .ok (.invokevirtual 197, 3) := by decide +kernel
theorem dX7_read_25 : decode cX7_read 25 = .ok (.aload_n 0, 1) := by decide +kernel
theorem dX7_read_26 : decode cX7_read 26 = .ok (.getfield 188, 3) := by decide +kernel
theorem dX7_read_29 : decode cX7_read 29 = .ok (.istore_n 1, 1) := by decide +kernel
theorem dX7_read_30 : decode cX7_read 30 = .ok (.aload_n 0, 1) := by decide +kernel
theorem dX7_read_31 : decode cX7_read 31 = .ok (.iconst 0, 1) := by decide +kernel
theorem dX7_read_32 : decode cX7_read 32 = .ok (.putfield 143, 3) := by decide +kernel
theorem dX7_read_35 : decode cX7_read 35 = .ok (.iload_n 1, 1) := by decide +kernel
theorem dX7_read_36 : decode cX7_read 36 = .ok (.ireturn, 1) := by decide +kernel
theorem dX7_goes_0 : decode cX7_goes 0 = .ok (.iconst 0, 1) := by decide +kernel
theorem dX7_goes_1 : decode cX7_goes 1 = .ok (.istore_n 3, 1) := by decide +kernel
theorem dX7_goes_2 : decode cX7_goes 2 = .ok (.iconst 0, 1) := by decide +kernel
theorem dX7_goes_3 : decode cX7_goes 3 = .ok (.istore 4, 2) := by decide +kernel
theorem dX7_goes_5 : decode cX7_goes 5 = .ok (.iconst 0, 1) := by decide +kernel
theorem dX7_goes_6 : decode cX7_goes 6 = .ok (.istore 5, 2) := by decide +kernel
theorem dX7_goes_8 : decode cX7_goes 8 = .ok (.iconst 0, 1) := by decide +kernel
theorem dX7_goes_9 : decode cX7_goes 9 = .ok (.istore 6, 2) := by decide +kernel
theorem dX7_goes_11 : decode cX7_goes 11 = .ok (.iload 6, 2) := by decide +kernel
theorem dX7_goes_13 : decode cX7_goes 13 = .ok (.aload_n 0, 1) := by decide +kernel
theorem dX7_goes_14 : decode cX7_goes 14 = .ok (.getfield 72, 3) := by decide +kernel
theorem dX7_goes_17 : decode cX7_goes 17 = .ok (.if_icmp .ge 204, 3) := by decide +kernel
theorem dX7_goes_20 : decode cX7_goes 20 = .ok (.aload_n 1, 1) := by decide +kernel
theorem dX7_goes_21 : decode cX7_goes 21 = .ok (.iload 6, 2) := by decide +kernel
theorem dX7_goes_23 : decode cX7_goes 23 = .ok (.iaload, 1) := by decide +kernel
theorem dX7_goes_24 : decode cX7_goes 24 = .ok (.istore 7, 2) := by decide +kernel
theorem dX7_goes_26 : decode cX7_goes 26 = .ok (.iload_n 3, 1) := by decide +kernel
theorem dX7_goes_27 : decode cX7_goes 27 = .ok (.aload_n 0, 1) := by decide +kernel
theorem dX7_goes_28 : decode cX7_goes 28 = .ok (.iload 7, 2) := by decide +kernel
theorem dX7_goes_30 : decode cX7_goes 30 = .ok (.iconst 0, 1) := by decide +kernel
theorem dX7_goes_31 : decode cX7_goes 31 = .ok (.invokevirtual 128, 3) := by decide +kernel
theorem dX7_goes_34 : decode cX7_goes 34 = .ok (.iadd, 1) := by decide +kernel
theorem dX7_goes_35 : decode cX7_goes 35 = .ok (.istore 8, 2) := by decide +kernel
theorem dX7_goes_37 : decode cX7_goes 37 = .ok (.iload_n 2, 1) := by decide +kernel
theorem dX7_goes_38 : decode cX7_goes 38 = .ok (.iconst 1, 1) := by decide +kernel
theorem dX7_goes_39 : decode cX7_goes 39 = .ok (.if_icmp .ne 13, 3) := by decide +kernel
theorem dX7_goes_42 : decode cX7_goes 42 = .ok (.iload 8, 2) := by decide +kernel
theorem dX7_goes_44 : decode cX7_goes 44 = .ok (.iload 5, 2) := by decide +kernel
theorem dX7_goes_46 : decode cX7_goes 46 = .ok (.invokestatic 200, 3) := by decide +kernel
theorem dX7_goes_49 : decode cX7_goes 49 = .ok (.goto 5, 3) := by decide +kernel
theorem dX7_goes_52 : decode cX7_goes 52 = .ok (.iload 8, 2) := by decide +kernel
theorem dX7_goes_54 : decode cX7_goes 54 = .ok (.aload_n 0, 1) := by decide +kernel
theorem dX7_goes_55 : decode cX7_goes 55 = .ok (.iload 7, 2) := by decide +kernel
theorem dX7_goes_57 : decode cX7_goes 57 = .ok (.iconst 1, 1) := by decide +kernel
theorem dX7_goes_58 : decode cX7_goes 58 = .ok (.invokevirtual 128, 3) := by decide +kernel
theorem dX7_goes_61 : decode cX7_goes 61 = .ok (.iadd, 1) := by decide +kernel
theorem dX7_goes_62 : decode cX7_goes 62 = .ok (.istore 5, 2) := by decide +kernel
theorem dX7_goes_64 : decode cX7_goes 64 = .ok (.iload 5, 2) := by decide +kernel
theorem dX7_goes_66 : decode cX7_goes 66 = .ok (.iload 4, 2) := by decide +kernel
theorem dX7_goes_68 : decode cX7_goes 68 = .ok (.invokestatic 200, 3) := by decide +kernel
theorem dX7_goes_71 : decode cX7_goes 71 = .ok (.istore 9, 2) := by decide +kernel
theorem dX7_goes_73 : decode cX7_goes 73 = .ok (.iload_n 2, 1) := by decide +kernel
theorem dX7_goes_74 : decode cX7_goes 74 = .ok (.iconst 2, 1) := by decide +kernel
theorem dX7_goes_75 : decode cX7_goes 75 = .ok (.if_icmp .ne 16, 3) := by decide +kernel
theorem dX7_goes_78 : decode cX7_goes 78 = .ok (.iload 9, 2) := by decide +kernel
theorem dX7_goes_80 : decode cX7_goes 80 = .ok (.aload_n 0, 1) := by decide +kernel
theorem dX7_goes_81 : decode cX7_goes 81 = .ok (.iload 7, 2) := by decide +kernel
theorem dX7_goes_83 : decode cX7_goes 83 = .ok (.iconst 1, 1) := by decide +kernel
theorem dX7_goes_84 : decode cX7_goes 84 = .ok (.invokevirtual 128, 3) := by decide +kernel
theorem dX7_goes_87 : decode cX7_goes 87 = .ok (.isub, 1) := by decide +kernel
theorem dX7_goes_88 : decode cX7_goes 88 = .ok (.goto 5, 3) := by decide +kernel
theorem dX7_goes_91 : decode cX7_goes 91 = .ok (.iload 8, 2) := by decide +kernel
theorem dX7_goes_93 : decode cX7_goes 93 = .ok (.istore 10, 2) := by decide +kernel
theorem dX7_goes_95 : decode cX7_goes 95 = .ok (.aload_n 0, 1) := by decide +kernel
theorem dX7_goes_96 : decode cX7_goes 96 = .ok (.getfield 42, 3) := by decide +kernel
theorem dX7_goes_99 : decode cX7_goes 99 = .ok (.bipush 6, 2) := by decide +kernel

theorem dX7_goes_101 : decode cX7_goes 101 = .ok (.iload 7, 2) := by decide +kernel
theorem dX7_goes_103 : decode cX7_goes 103 = .ok (.imul, 1) := by decide +kernel
theorem dX7_goes_104 : decode cX7_goes 104 = .ok (.iload_n 3, 1) := by decide +kernel
theorem dX7_goes_105 : decode cX7_goes 105 = .ok (.iastore, 1) := by decide +kernel
theorem dX7_goes_106 : decode cX7_goes 106 = .ok (.aload_n 0, 1) := by decide +kernel
theorem dX7_goes_107 : decode cX7_goes 107 = .ok (.getfield 42, 3) := by decide +kernel
theorem dX7_goes_110 : decode cX7_goes 110 = .ok (.bipush 6, 2) := by decide +kernel
theorem dX7_goes_112 : decode cX7_goes 112 = .ok (.iload 7, 2) := by decide +kernel
theorem dX7_goes_114 : decode cX7_goes 114 = .ok (.imul, 1) := by decide +kernel
theorem dX7_goes_115 : decode cX7_goes 115 = .ok (.iconst 1, 1) := by decide +kernel
theorem dX7_goes_116 : decode cX7_goes 116 = .ok (.iadd, 1) := by decide +kernel
theorem dX7_goes_117 : decode cX7_goes 117 = .ok (.iload 8, 2) := by decide +kernel
theorem dX7_goes_119 : decode cX7_goes 119 = .ok (.iastore, 1) := by decide +kernel
theorem dX7_goes_120 : decode cX7_goes 120 = .ok (.aload_n 0, 1) := by decide +kernel
theorem dX7_goes_121 : decode cX7_goes 121 = .ok (.getfield 42, 3) := by decide +kernel
theorem dX7_goes_124 : decode cX7_goes 124 = .ok (.bipush 6, 2) := by decide +kernel
theorem dX7_goes_126 : decode cX7_goes 126 = .ok (.iload 7, 2) := by decide +kernel
theorem dX7_goes_128 : decode cX7_goes 128 = .ok (.imul, 1) := by decide +kernel
theorem dX7_goes_129 : decode cX7_goes 129 = .ok (.iconst 2, 1) := by decide +kernel
theorem dX7_goes_130 : decode cX7_goes 130 = .ok (.iadd, 1) := by decide +kernel
theorem dX7_goes_131 : decode cX7_goes 131 = .ok (.iload 10, 2) := by decide +kernel
theorem dX7_goes_133 : decode cX7_goes 133 = .ok (.iastore, 1) := by decide +kernel
theorem dX7_goes_134 : decode cX7_goes 134 = .ok (.aload_n 0, 1) := by decide +kernel
theorem dX7_goes_135 : decode cX7_goes 135 = .ok (.getfield 42, 3) := by decide +kernel
theorem dX7_goes_138 : decode cX7_goes 138 = .ok (.bipush 6, 2) := by decide +kernel
theorem dX7_goes_140 : decode cX7_goes 140 = .ok (.iload 7, 2) := by decide +kernel
theorem dX7_goes_142 : decode cX7_goes 142 = .ok (.imul, 1) := by decide +kernel
theorem dX7_goes_143 : decode cX7_goes 143 = .ok (.iconst 3, 1) := by decide +kernel
theorem dX7_goes_144 : decode cX7_goes 144 = .ok (.iadd, 1) := by decide +kernel
theorem dX7_goes_145 : decode cX7_goes 145 = .ok (.iload 5, 2) := by decide +kernel
theorem dX7_goes_147 : decode cX7_goes 147 = .ok (.iastore, 1) := by decide +kernel
theorem dX7_goes_148 : decode cX7_goes 148 = .ok (.aload_n 0, 1) := by decide +kernel
theorem dX7_goes_149 : decode cX7_goes 149 = .ok (.getfield 42, 3) := by decide +kernel
theorem dX7_goes_152 : decode cX7_goes 152 = .ok (.bipush 6, 2) := by decide +kernel
theorem dX7_goes_154 : decode cX7_goes 154 = .ok (.iload 7, 2) := by decide +kernel
theorem dX7_goes_156 : decode cX7_goes 156 = .ok (.imul, 1) := by decide +kernel
theorem dX7_goes_157 : decode cX7_goes 157 = .ok (.iconst 4, 1) := by decide +kernel
theorem dX7_goes_158 : decode cX7_goes 158 = .ok (.iadd, 1) := by decide +kernel
theorem dX7_goes_159 : decode cX7_goes 159 = .ok (.iload 9, 2) := by decide +kernel
theorem dX7_goes_161 : decode cX7_goes 161 = .ok (.iastore, 1) := by decide +kernel
theorem dX7_goes_162 : decode cX7_goes 162 = .ok (.aload_n 0, 1) := by decide +kernel
theorem dX7_goes_163 : decode cX7_goes 163 = .ok (.getfield 42, 3) := by decide +kernel
theorem dX7_goes_166 : decode cX7_goes 166 = .ok (.bipush 6, 2) := by decide +kernel
theorem dX7_goes_168 : decode cX7_goes 168 = .ok (.iload 7, 2) := by decide +kernel
theorem dX7_goes_170 : decode cX7_goes 170 = .ok (.imul, 1) := by decide +kernel
theorem dX7_goes_171 : decode cX7_goes 171 = .ok (.iconst 5, 1) := by decide +kernel
theorem dX7_goes_172 : decode cX7_goes 172 = .ok (.iadd, 1) := by decide +kernel
theorem dX7_goes_173 : decode cX7_goes 173 = .ok (.iload 9, 2) := by decide +kernel
theorem dX7_goes_175 : decode cX7_goes 175 = .ok (.aload_n 0, 1) := by decide +kernel
theorem dX7_goes_176 : decode cX7_goes 176 = .ok (.iload 7, 2) := by decide +kernel
theorem dX7_goes_178 : decode cX7_goes 178 = .ok (.iconst 2, 1) := by decide +kernel
theorem dX7_goes_179 : decode cX7_goes 179 = .ok (.invokevirtual 128, 3) := by decide +kernel
theorem dX7_goes_182 : decode cX7_goes 182 = .ok (.iadd, 1) := by decide +kernel
theorem dX7_goes_183 : decode cX7_goes 183 = .ok (.iastore, 1) := by decide +kernel
theorem dX7_goes_184 : decode cX7_goes 184 = .ok (.iload 10, 2) := by decide +kernel
theorem dX7_goes_186 : decode cX7_goes 186 = .ok (.aload_n 0, 1) := by decide +kernel
theorem dX7_goes_187 : decode cX7_goes 187 = .ok (.iload 7, 2) := by decide +kernel
theorem dX7_goes_189 : decode cX7_goes 189 = .ok (.iconst 3, 1) := by decide +kernel
theorem dX7_goes_190 : decode cX7_goes 190 = .ok (.invokevirtual 128, 3) := by decide +kernel
theorem dX7_goes_193 : decode cX7_goes 193 = .ok (.iadd, 1) := by decide +kernel
theorem dX7_goes_194 : decode cX7_goes 194 = .ok (.istore_n 3, 1) := by decide +kernel
theorem dX7_goes_195 : decode cX7_goes 195 = .ok (.iload 9, 2) := by decide +kernel
theorem dX7_goes_197 : decode cX7_goes 197 = .ok (.aload_n 0, 1) := by decide +kernel
theorem dX7_goes_198 : decode cX7_goes 198 = .ok (.iload 7, 2) := by decide +kernel
theorem dX7_goes_200 : decode cX7_goes 200 = .ok (.iconst 2, 1) := by decide +kernel
theorem dX7_goes_201 : decode cX7_goes 201 = .ok (.invokevirtual 128, 3) := by decide +kernel
theorem dX7_goes_204 : decode cX7_goes 204 = .ok (.iadd, 1) := by decide +kernel
theorem dX7_goes_205 : decode cX7_goes 205 = .ok (.aload_n 0, 1) := by decide +kernel
theorem dX7_goes_206 : decode cX7_goes 206 = .ok (.iload 7, 2) := by decide +kernel
theorem dX7_goes_208 : decode cX7_goes 208 = .ok (.iconst 4, 1) := by decide +kernel
theorem dX7_goes_209 : decode cX7_goes 209 = .ok (.invokevirtual 128, 3) := by decide +kernel
theorem dX7_goes_212 : decode cX7_goes 212 = .ok (.iadd, 1) := by decide +kernel
theorem dX7_goes_213 : decode cX7_goes 213 = .ok (.istore 4, 2) := by decide +kernel
theorem dX7_goes_215 : decode cX7_goes 215 = .ok (.iinc 6 1, 3) := by decide +kernel
theorem dX7_goes_218 : decode cX7_goes 218 = .ok (.goto (-207), 3) := by decide +kernel
theorem dX7_goes_221 : decode cX7_goes 221 = .ok (.return_, 1) := by decide +kernel
theorem dX7_ends_0 : decode cX7_ends 0 = .ok (.aload_n 0, 1) := by decide +kernel
theorem dX7_ends_1 : decode cX7_ends 1 = .ok (.getfield 42, 3) := by decide +kernel
theorem dX7_ends_4 : decode cX7_ends 4 = .ok (.bipush 6, 2) := by decide +kernel
theorem dX7_ends_6 : decode cX7_ends 6 = .ok (.iload_n 1, 1) := by decide +kernel
theorem dX7_ends_7 : decode cX7_ends 7 = .ok (.imul, 1) := by decide +kernel
theorem dX7_ends_8 : decode cX7_ends 8 = .ok (.iconst 5, 1) := by decide +kernel
theorem dX7_ends_9 : decode cX7_ends 9 = .ok (.iadd, 1) := by decide +kernel
theorem dX7_ends_10 : decode cX7_ends 10 = .ok (.iaload, 1) := by decide +kernel
theorem dX7_ends_11 : decode cX7_ends 11 = .ok (.ireturn, 1) := by decide +kernel
theorem dX7_costOf_0 : decode cX7_costOf 0 = .ok (.aload_n 0, 1) := by decide +kernel
theorem dX7_costOf_1 : decode cX7_costOf 1 = .ok (.aload_n 1, 1) := by decide +kernel
theorem dX7_costOf_2 : decode cX7_costOf 2 = .ok (.iload_n 2, 1) := by decide +kernel
theorem dX7_costOf_3 : decode cX7_costOf 3 = .ok (.invokevirtual 203, 3) := by decide +kernel
theorem dX7_costOf_6 : decode cX7_costOf 6 = .ok (.iload_n 3, 1) := by decide +kernel
theorem dX7_costOf_7 : decode cX7_costOf 7 = .ok (.iconst 1, 1) := by decide +kernel
theorem dX7_costOf_8 : decode cX7_costOf 8 = .ok (.if_icmp .ne 7, 3) := by decide +kernel
theorem dX7_costOf_11 : decode cX7_costOf 11 = .ok (.iconst 0, 1) := by decide +kernel
theorem dX7_costOf_12 : decode cX7_costOf 12 = .ok (.goto 5, 3) := by decide +kernel
theorem dX7_costOf_15 : decode cX7_costOf 15 = .ok (.ldc 209, 2) := by decide +kernel
theorem dX7_costOf_17 : decode cX7_costOf 17 = .ok (.istore 4, 2) := by decide +kernel
theorem dX7_costOf_19 : decode cX7_costOf 19 = .ok (.iconst 0, 1) := by decide +kernel
theorem dX7_costOf_20 : decode cX7_costOf 20 = .ok (.istore 5, 2) := by decide +kernel
theorem dX7_costOf_22 : decode cX7_costOf 22 = .ok (.iload 5, 2) := by decide +kernel
theorem dX7_costOf_24 : decode cX7_costOf 24 = .ok (.aload_n 0, 1) := by decide +kernel
theorem dX7_costOf_25 : decode cX7_costOf 25 = .ok (.getfield 72, 3) := by decide +kernel
theorem dX7_costOf_28 : decode cX7_costOf 28 = .ok (.if_icmp .ge 65, 3) := by decide +kernel
theorem dX7_costOf_31 : decode cX7_costOf 31 = .ok (.iload_n 3, 1) := by decide +kernel
theorem dX7_costOf_32 : decode cX7_costOf 32 = .ok (.ifCond .ne 17, 3) := by decide +kernel
theorem dX7_costOf_35 : decode cX7_costOf 35 = .ok (.iload 4, 2) := by decide +kernel
theorem dX7_costOf_37 : decode cX7_costOf 37 = .ok (.aload_n 0, 1) := by decide +kernel
theorem dX7_costOf_38 : decode cX7_costOf 38 = .ok (.iload 5, 2) := by decide +kernel
theorem dX7_costOf_40 : decode cX7_costOf 40 = .ok (.invokevirtual 210, 3) := by decide +kernel
theorem dX7_costOf_43 : decode cX7_costOf 43 = .ok (.invokestatic 200, 3) := by decide +kernel
theorem dX7_costOf_46 : decode cX7_costOf 46 = .ok (.goto 39, 3) := by decide +kernel
theorem dX7_costOf_49 : decode cX7_costOf 49 = .ok (.iload_n 3, 1) := by decide +kernel
theorem dX7_costOf_50 : decode cX7_costOf 50 = .ok (.iconst 1, 1) := by decide +kernel
theorem dX7_costOf_51 : decode cX7_costOf 51 = .ok (.if_icmp .ne 15, 3) := by decide +kernel
theorem dX7_costOf_54 : decode cX7_costOf 54 = .ok (.iload 4, 2) := by decide +kernel
theorem dX7_costOf_56 : decode cX7_costOf 56 = .ok (.aload_n 0, 1) := by decide +kernel
theorem dX7_costOf_57 : decode cX7_costOf 57 = .ok (.iload 5, 2) := by decide +kernel
theorem dX7_costOf_59 : decode cX7_costOf 59 = .ok (.invokevirtual 210, 3) := by decide +kernel
theorem dX7_costOf_62 : decode cX7_costOf 62 = .ok (.iadd, 1) := by decide +kernel
theorem dX7_costOf_63 : decode cX7_costOf 63 = .ok (.goto 22, 3) := by decide +kernel
theorem dX7_costOf_66 : decode cX7_costOf 66 = .ok (.iload 4, 2) := by decide +kernel
theorem dX7_costOf_68 : decode cX7_costOf 68 = .ok (.aload_n 0, 1) := by decide +kernel
theorem dX7_costOf_69 : decode cX7_costOf 69 = .ok (.iload 5, 2) := by decide +kernel
theorem dX7_costOf_71 : decode cX7_costOf 71 = .ok (.invokevirtual 210, 3) := by decide +kernel
theorem dX7_costOf_74 : decode cX7_costOf 74 = .ok (.aload_n 0, 1) := by decide +kernel
theorem dX7_costOf_75 : decode cX7_costOf 75 = .ok (.iload 5, 2) := by decide +kernel
theorem dX7_costOf_77 : decode cX7_costOf 77 = .ok (.iconst 5, 1) := by decide +kernel
theorem dX7_costOf_78 : decode cX7_costOf 78 = .ok (.invokevirtual 128, 3) := by decide +kernel
theorem dX7_costOf_81 : decode cX7_costOf 81 = .ok (.isub, 1) := by decide +kernel
theorem dX7_costOf_82 : decode cX7_costOf 82 = .ok (.invokestatic 200, 3) := by decide +kernel
theorem dX7_costOf_85 : decode cX7_costOf 85 = .ok (.istore 4, 2) := by decide +kernel
theorem dX7_costOf_87 : decode cX7_costOf 87 = .ok (.iinc 5 1, 3) := by decide +kernel
theorem dX7_costOf_90 : decode cX7_costOf 90 = .ok (.goto (-68), 3) := by decide +kernel
theorem dX7_costOf_93 : decode cX7_costOf 93 = .ok (.iload 4, 2) := by decide +kernel
theorem dX7_costOf_95 : decode cX7_costOf 95 = .ok (.ireturn, 1) := by decide +kernel
theorem dX7_isFirst_0 : decode cX7_isFirst 0 = .ok (.aload_n 0, 1) := by decide +kernel
theorem dX7_isFirst_1 : decode cX7_isFirst 1 = .ok (.iload_n 1, 1) := by decide +kernel
theorem dX7_isFirst_2 : decode cX7_isFirst 2 = .ok (.iconst 0, 1) := by decide +kernel
theorem dX7_isFirst_3 : decode cX7_isFirst 3 = .ok (.invokevirtual 128, 3) := by decide +kernel
theorem dX7_isFirst_6 : decode cX7_isFirst 6 = .ok (.aload_n 0, 1) := by decide +kernel
theorem dX7_isFirst_7 : decode cX7_isFirst 7 = .ok (.iload_n 1, 1) := by decide +kernel
theorem dX7_isFirst_8 : decode cX7_isFirst 8 = .ok (.iconst 2, 1) := by decide +kernel
theorem dX7_isFirst_9 : decode cX7_isFirst 9 = .ok (.invokevirtual 128, 3) := by decide +kernel
theorem dX7_isFirst_12 : decode cX7_isFirst 12 = .ok (.if_icmp .gt 7, 3) := by decide +kernel
theorem dX7_isFirst_15 : decode cX7_isFirst 15 = .ok (.iconst 1, 1) := by decide +kernel
theorem dX7_isFirst_16 : decode cX7_isFirst 16 = .ok (.goto 4, 3) := by decide +kernel
theorem dX7_isFirst_19 : decode cX7_isFirst 19 = .ok (.iconst 0, 1) := by decide +kernel
theorem dX7_isFirst_20 : decode cX7_isFirst 20 = .ok (.ireturn, 1) := by decide +kernel
theorem dX7_weight_0 : decode cX7_weight 0 = .ok (.iload_n 1, 1) := by decide +kernel
theorem dX7_weight_1 : decode cX7_weight 1 = .ok (.tableswitch 96 0 2 #[27, 29, 75], 27) := by decide +kernel
theorem dX7_weight_28 : decode cX7_weight 28 = .ok (.iconst 0, 1) := by decide +kernel
theorem dX7_weight_29 : decode cX7_weight 29 = .ok (.ireturn, 1) := by decide +kernel
theorem dX7_weight_30 : decode cX7_weight 30 = .ok (.aload_n 0, 1) := by decide +kernel
theorem dX7_weight_31 : decode cX7_weight 31 = .ok (.iload_n 2, 1) := by decide +kernel
theorem dX7_weight_32 : decode cX7_weight 32 = .ok (.invokevirtual 213, 3) := by decide +kernel
theorem dX7_weight_35 : decode cX7_weight 35 = .ok (.ifCond .eq 23, 3) := by decide +kernel
theorem dX7_weight_38 : decode cX7_weight 38 = .ok (.aload_n 0, 1) := by decide +kernel
theorem dX7_weight_39 : decode cX7_weight 39 = .ok (.iload_n 2, 1) := by decide +kernel
theorem dX7_weight_40 : decode cX7_weight 40 = .ok (.iconst 0, 1) := by decide +kernel
theorem dX7_weight_41 : decode cX7_weight 41 = .ok (.invokevirtual 128, 3) := by decide +kernel
theorem dX7_weight_44 : decode cX7_weight 44 = .ok (.aload_n 0, 1) := by decide +kernel
theorem dX7_weight_45 : decode cX7_weight 45 = .ok (.iload_n 2, 1) := by decide +kernel
theorem dX7_weight_46 : decode cX7_weight 46 = .ok (.iconst 1, 1) := by decide +kernel
theorem dX7_weight_47 : decode cX7_weight 47 = .ok (.invokevirtual 128, 3) := by decide +kernel
theorem dX7_weight_50 : decode cX7_weight 50 = .ok (.iadd, 1) := by decide +kernel
theorem dX7_weight_51 : decode cX7_weight 51 = .ok (.sipush 1000, 3) := by decide +kernel
theorem dX7_weight_54 : decode cX7_weight 54 = .ok (.isub, 1) := by decide +kernel
theorem dX7_weight_55 : decode cX7_weight 55 = .ok (.goto 20, 3) := by decide +kernel
theorem dX7_weight_58 : decode cX7_weight 58 = .ok (.sipush 1000, 3) := by decide +kernel
theorem dX7_weight_61 : decode cX7_weight 61 = .ok (.aload_n 0, 1) := by decide +kernel
theorem dX7_weight_62 : decode cX7_weight 62 = .ok (.iload_n 2, 1) := by decide +kernel
theorem dX7_weight_63 : decode cX7_weight 63 = .ok (.iconst 1, 1) := by decide +kernel
theorem dX7_weight_64 : decode cX7_weight 64 = .ok (.invokevirtual 128, 3) := by decide +kernel
theorem dX7_weight_67 : decode cX7_weight 67 = .ok (.isub, 1) := by decide +kernel
theorem dX7_weight_68 : decode cX7_weight 68 = .ok (.aload_n 0, 1) := by decide +kernel
theorem dX7_weight_69 : decode cX7_weight 69 = .ok (.iload_n 2, 1) := by decide +kernel
theorem dX7_weight_70 : decode cX7_weight 70 = .ok (.iconst 2, 1) := by decide +kernel
theorem dX7_weight_71 : decode cX7_weight 71 = .ok (.invokevirtual 128, 3) := by decide +kernel
theorem dX7_weight_74 : decode cX7_weight 74 = .ok (.isub, 1) := by decide +kernel
theorem dX7_weight_75 : decode cX7_weight 75 = .ok (.ireturn, 1) := by decide +kernel
theorem dX7_weight_76 : decode cX7_weight 76 = .ok (.aload_n 0, 1) := by decide +kernel
theorem dX7_weight_77 : decode cX7_weight 77 = .ok (.iload_n 2, 1) := by decide +kernel
theorem dX7_weight_78 : decode cX7_weight 78 = .ok (.iconst 0, 1) := by decide +kernel
theorem dX7_weight_79 : decode cX7_weight 79 = .ok (.invokevirtual 128, 3) := by decide +kernel
theorem dX7_weight_82 : decode cX7_weight 82 = .ok (.aload_n 0, 1) := by decide +kernel
theorem dX7_weight_83 : decode cX7_weight 83 = .ok (.iload_n 2, 1) := by decide +kernel
theorem dX7_weight_84 : decode cX7_weight 84 = .ok (.iconst 1, 1) := by decide +kernel
theorem dX7_weight_85 : decode cX7_weight 85 = .ok (.invokevirtual 128, 3) := by decide +kernel
theorem dX7_weight_88 : decode cX7_weight 88 = .ok (.iadd, 1) := by decide +kernel
theorem dX7_weight_89 : decode cX7_weight 89 = .ok (.aload_n 0, 1) := by decide +kernel
theorem dX7_weight_90 : decode cX7_weight 90 = .ok (.iload_n 2, 1) := by decide +kernel
theorem dX7_weight_91 : decode cX7_weight 91 = .ok (.iconst 2, 1) := by decide +kernel
theorem dX7_weight_92 : decode cX7_weight 92 = .ok (.invokevirtual 128, 3) := by decide +kernel
theorem dX7_weight_95 : decode cX7_weight 95 = .ok (.iadd, 1) := by decide +kernel
theorem dX7_weight_96 : decode cX7_weight 96 = .ok (.ireturn, 1) := by decide +kernel
theorem dX7_weight_97 : decode cX7_weight 97 = .ok (.aload_n 0, 1) := by decide +kernel
theorem dX7_weight_98 : decode cX7_weight 98 = .ok (.iload_n 2, 1) := by decide +kernel
theorem dX7_weight_99 : decode cX7_weight 99 = .ok (.iconst 5, 1) := by decide +kernel
theorem dX7_weight_100 : decode cX7_weight 100 = .ok (.invokevirtual 128, 3) := by decide +kernel
theorem dX7_weight_103 : decode cX7_weight 103 = .ok (.ireturn, 1) := by decide +kernel
theorem dX7_orders_0 : decode cX7_orders 0 = .ok (.iconst 0, 1) := by decide +kernel
theorem dX7_orders_1 : decode cX7_orders 1 = .ok (.istore_n 3, 1) := by decide +kernel
theorem dX7_orders_2 : decode cX7_orders 2 = .ok (.iload_n 3, 1) := by decide +kernel
theorem dX7_orders_3 : decode cX7_orders 3 = .ok (.aload_n 0, 1) := by decide +kernel
theorem dX7_orders_4 : decode cX7_orders 4 = .ok (.getfield 72, 3) := by decide +kernel
theorem dX7_orders_7 : decode cX7_orders 7 = .ok (.if_icmp .ge 58, 3) := by decide +kernel
theorem dX7_orders_10 : decode cX7_orders 10 = .ok (.iload_n 3, 1) := by decide +kernel
theorem dX7_orders_11 : decode cX7_orders 11 = .ok (.istore 4, 2) := by decide +kernel
theorem dX7_orders_13 : decode cX7_orders 13 = .ok (.iload 4, 2) := by decide +kernel
theorem dX7_orders_15 : decode cX7_orders 15 = .ok (.ifCond .le 39, 3) := by decide +kernel
theorem dX7_orders_18 : decode cX7_orders 18 = .ok (.aload_n 0, 1) := by decide +kernel
theorem dX7_orders_19 : decode cX7_orders 19 = .ok (.iload_n 1, 1) := by decide +kernel
theorem dX7_orders_20 : decode cX7_orders 20 = .ok (.aload_n 2, 1) := by decide +kernel
theorem dX7_orders_21 : decode cX7_orders 21 = .ok (.iload 4, 2) := by decide +kernel
theorem dX7_orders_23 : decode cX7_orders 23 = .ok (.iconst 1, 1) := by decide +kernel
theorem dX7_orders_24 : decode cX7_orders 24 = .ok (.isub, 1) := by decide +kernel
theorem dX7_orders_25 : decode cX7_orders 25 = .ok (.iaload, 1) := by decide +kernel
theorem dX7_orders_26 : decode cX7_orders 26 = .ok (.invokevirtual 216, 3) := by decide +kernel
theorem dX7_orders_29 : decode cX7_orders 29 = .ok (.aload_n 0, 1) := by decide +kernel
theorem dX7_orders_30 : decode cX7_orders 30 = .ok (.iload_n 1, 1) := by decide +kernel
theorem dX7_orders_31 : decode cX7_orders 31 = .ok (.iload_n 3, 1) := by decide +kernel
theorem dX7_orders_32 : decode cX7_orders 32 = .ok (.invokevirtual 216, 3) := by decide +kernel
theorem dX7_orders_35 : decode cX7_orders 35 = .ok (.if_icmp .le 19, 3) := by decide +kernel
theorem dX7_orders_38 : decode cX7_orders 38 = .ok (.aload_n 2, 1) := by decide +kernel
theorem dX7_orders_39 : decode cX7_orders 39 = .ok (.iload 4, 2) := by decide +kernel
theorem dX7_orders_41 : decode cX7_orders 41 = .ok (.aload_n 2, 1) := by decide +kernel
theorem dX7_orders_42 : decode cX7_orders 42 = .ok (.iload 4, 2) := by decide +kernel
theorem dX7_orders_44 : decode cX7_orders 44 = .ok (.iconst 1, 1) := by decide +kernel
theorem dX7_orders_45 : decode cX7_orders 45 = .ok (.isub, 1) := by decide +kernel
theorem dX7_orders_46 : decode cX7_orders 46 = .ok (.iaload, 1) := by decide +kernel
theorem dX7_orders_47 : decode cX7_orders 47 = .ok (.iastore, 1) := by decide +kernel
theorem dX7_orders_48 : decode cX7_orders 48 = .ok (.iinc 4 (-1), 3) := by decide +kernel
theorem dX7_orders_51 : decode cX7_orders 51 = .ok (.goto (-38), 3) := by decide +kernel
theorem dX7_orders_54 : decode cX7_orders 54 = .ok (.aload_n 2, 1) := by decide +kernel
theorem dX7_orders_55 : decode cX7_orders 55 = .ok (.iload 4, 2) := by decide +kernel
theorem dX7_orders_57 : decode cX7_orders 57 = .ok (.iload_n 3, 1) := by decide +kernel
theorem dX7_orders_58 : decode cX7_orders 58 = .ok (.iastore, 1) := by decide +kernel
theorem dX7_orders_59 : decode cX7_orders 59 = .ok (.iinc 3 1, 3) := by decide +kernel
theorem dX7_orders_62 : decode cX7_orders 62 = .ok (.goto (-60), 3) := by decide +kernel
theorem dX7_orders_65 : decode cX7_orders 65 = .ok (.return_, 1) := by decide +kernel
theorem dX7_copies_0 : decode cX7_copies 0 = .ok (.iconst 0, 1) := by decide +kernel
theorem dX7_copies_1 : decode cX7_copies 1 = .ok (.istore_n 2, 1) := by decide +kernel
theorem dX7_copies_2 : decode cX7_copies 2 = .ok (.iload_n 2, 1) := by decide +kernel
theorem dX7_copies_3 : decode cX7_copies 3 = .ok (.aload_n 0, 1) := by decide +kernel
theorem dX7_copies_4 : decode cX7_copies 4 = .ok (.arraylength, 1) := by decide +kernel
theorem dX7_copies_5 : decode cX7_copies 5 = .ok (.if_icmp .ge 15, 3) := by decide +kernel
theorem dX7_copies_8 : decode cX7_copies 8 = .ok (.aload_n 1, 1) := by decide +kernel
theorem dX7_copies_9 : decode cX7_copies 9 = .ok (.iload_n 2, 1) := by decide +kernel
theorem dX7_copies_10 : decode cX7_copies 10 = .ok (.aload_n 0, 1) := by decide +kernel
theorem dX7_copies_11 : decode cX7_copies 11 = .ok (.iload_n 2, 1) := by decide +kernel
theorem dX7_copies_12 : decode cX7_copies 12 = .ok (.iaload, 1) := by decide +kernel
theorem dX7_copies_13 : decode cX7_copies 13 = .ok (.iastore, 1) := by decide +kernel
theorem dX7_copies_14 : decode cX7_copies 14 = .ok (.iinc 2 1, 3) := by decide +kernel
theorem dX7_copies_17 : decode cX7_copies 17 = .ok (.goto (-15), 3) := by decide +kernel
theorem dX7_copies_20 : decode cX7_copies 20 = .ok (.return_, 1) := by decide +kernel
theorem dX7_plan_0 : decode cX7_plan 0 = .ok (.iload_n 1, 1) := by decide +kernel
theorem dX7_plan_1 : decode cX7_plan 1 = .ok (.i2l, 1) := by decide +kernel
theorem dX7_plan_2 : decode cX7_plan 2 = .ok (.lconst 0, 1) := by decide +kernel
theorem dX7_plan_3 : decode cX7_plan 3 = .ok (.ldc2_w 219, 3) := by decide +kernel
theorem dX7_plan_6 : decode cX7_plan 6 = .ok (.invokestatic 76, 3) := by decide +kernel
theorem dX7_plan_9 : decode cX7_plan 9 = .ok (.ifCond .ne 6, 3) := by decide +kernel
theorem dX7_plan_12 : decode cX7_plan 12 = .ok (.bipush (-2), 2) := by decide +kernel
theorem dX7_plan_14 : decode cX7_plan 14 = .ok (.ireturn, 1) := by decide +kernel
theorem dX7_plan_15 : decode cX7_plan 15 = .ok (.aload_n 0, 1) := by decide +kernel
theorem dX7_plan_16 : decode cX7_plan 16 = .ok (.getfield 72, 3) := by decide +kernel
theorem dX7_plan_19 : decode cX7_plan 19 = .ok (.ifCond .ne 6, 3) := by decide +kernel
theorem dX7_plan_22 : decode cX7_plan 22 = .ok (.bipush (-3), 2) := by decide +kernel
theorem dX7_plan_24 : decode cX7_plan 24 = .ok (.ireturn, 1) := by decide +kernel
theorem dX7_plan_25 : decode cX7_plan 25 = .ok (.aload_n 0, 1) := by decide +kernel
theorem dX7_plan_26 : decode cX7_plan 26 = .ok (.iload_n 1, 1) := by decide +kernel
theorem dX7_plan_27 : decode cX7_plan 27 = .ok (.aload_n 0, 1) := by decide +kernel
theorem dX7_plan_28 : decode cX7_plan 28 = .ok (.getfield 45, 3) := by decide +kernel
theorem dX7_plan_31 : decode cX7_plan 31 = .ok (.invokevirtual 221, 3) := by decide +kernel
theorem dX7_plan_34 : decode cX7_plan 34 = .ok (.iconst 0, 1) := by decide +kernel
theorem dX7_plan_35 : decode cX7_plan 35 = .ok (.istore_n 2, 1) := by decide +kernel
theorem dX7_plan_36 : decode cX7_plan 36 = .ok (.iconst 0, 1) := by decide +kernel
theorem dX7_plan_37 : decode cX7_plan 37 = .ok (.istore_n 3, 1) := by decide +kernel
theorem dX7_plan_38 : decode cX7_plan 38 = .ok (.iload_n 3, 1) := by decide +kernel
theorem dX7_plan_39 : decode cX7_plan 39 = .ok (.aload_n 0, 1) := by decide +kernel
theorem dX7_plan_40 : decode cX7_plan 40 = .ok (.getfield 72, 3) := by decide +kernel
theorem dX7_plan_43 : decode cX7_plan 43 = .ok (.if_icmp .ge 44, 3) := by decide +kernel
theorem dX7_plan_46 : decode cX7_plan 46 = .ok (.iload_n 2, 1) := by decide +kernel
theorem dX7_plan_47 : decode cX7_plan 47 = .ok (.aload_n 0, 1) := by decide +kernel
theorem dX7_plan_48 : decode cX7_plan 48 = .ok (.getfield 15, 3) := by decide +kernel
theorem dX7_plan_51 : decode cX7_plan 51 = .ok (.iload_n 3, 1) := by decide +kernel
theorem dX7_plan_52 : decode cX7_plan 52 = .ok (.iaload, 1) := by decide +kernel
theorem dX7_plan_53 : decode cX7_plan 53 = .ok (.aload_n 0, 1) := by decide +kernel
theorem dX7_plan_54 : decode cX7_plan 54 = .ok (.getfield 45, 3) := by decide +kernel
theorem dX7_plan_57 : decode cX7_plan 57 = .ok (.iload_n 3, 1) := by decide +kernel
theorem dX7_plan_58 : decode cX7_plan 58 = .ok (.iaload, 1) := by decide +kernel
theorem dX7_plan_59 : decode cX7_plan 59 = .ok (.if_icmp .eq 7, 3) := by decide +kernel
theorem dX7_plan_62 : decode cX7_plan 62 = .ok (.iconst 1, 1) := by decide +kernel
theorem dX7_plan_63 : decode cX7_plan 63 = .ok (.goto 4, 3) := by decide +kernel
theorem dX7_plan_66 : decode cX7_plan 66 = .ok (.iconst 0, 1) := by decide +kernel
theorem dX7_plan_67 : decode cX7_plan 67 = .ok (.iadd, 1) := by decide +kernel
theorem dX7_plan_68 : decode cX7_plan 68 = .ok (.istore_n 2, 1) := by decide +kernel
theorem dX7_plan_69 : decode cX7_plan 69 = .ok (.aload_n 0, 1) := by decide +kernel
theorem dX7_plan_70 : decode cX7_plan 70 = .ok (.getfield 15, 3) := by decide +kernel
theorem dX7_plan_73 : decode cX7_plan 73 = .ok (.iload_n 3, 1) := by decide +kernel
theorem dX7_plan_74 : decode cX7_plan 74 = .ok (.aload_n 0, 1) := by decide +kernel
theorem dX7_plan_75 : decode cX7_plan 75 = .ok (.getfield 45, 3) := by decide +kernel
theorem dX7_plan_78 : decode cX7_plan 78 = .ok (.iload_n 3, 1) := by decide +kernel
theorem dX7_plan_79 : decode cX7_plan 79 = .ok (.iaload, 1) := by decide +kernel
theorem dX7_plan_80 : decode cX7_plan 80 = .ok (.iastore, 1) := by decide +kernel
theorem dX7_plan_81 : decode cX7_plan 81 = .ok (.iinc 3 1, 3) := by decide +kernel
theorem dX7_plan_84 : decode cX7_plan 84 = .ok (.goto (-46), 3) := by decide +kernel
theorem dX7_plan_87 : decode cX7_plan 87 = .ok (.iload_n 2, 1) := by decide +kernel
theorem dX7_plan_88 : decode cX7_plan 88 = .ok (.ireturn, 1) := by decide +kernel
theorem dX7_shifts_0 : decode cX7_shifts 0 = .ok (.aload_n 0, 1) := by decide +kernel
theorem dX7_shifts_1 : decode cX7_shifts 1 = .ok (.iload_n 1, 1) := by decide +kernel
theorem dX7_shifts_2 : decode cX7_shifts 2 = .ok (.iaload, 1) := by decide +kernel
theorem dX7_shifts_3 : decode cX7_shifts 3 = .ok (.istore_n 3, 1) := by decide +kernel
theorem dX7_shifts_4 : decode cX7_shifts 4 = .ok (.iload_n 1, 1) := by decide +kernel
theorem dX7_shifts_5 : decode cX7_shifts 5 = .ok (.iload_n 2, 1) := by decide +kernel
theorem dX7_shifts_6 : decode cX7_shifts 6 = .ok (.if_icmp .ge 7, 3) := by decide +kernel
theorem dX7_shifts_9 : decode cX7_shifts 9 = .ok (.iconst 1, 1) := by decide +kernel
theorem dX7_shifts_10 : decode cX7_shifts 10 = .ok (.goto 4, 3) := by decide +kernel
theorem dX7_shifts_13 : decode cX7_shifts 13 = .ok (.iconst (-1), 1) := by decide +kernel
theorem dX7_shifts_14 : decode cX7_shifts 14 = .ok (.istore 4, 2) := by decide +kernel
theorem dX7_shifts_16 : decode cX7_shifts 16 = .ok (.iload_n 1, 1) := by decide +kernel
theorem dX7_shifts_17 : decode cX7_shifts 17 = .ok (.istore 5, 2) := by decide +kernel
theorem dX7_shifts_19 : decode cX7_shifts 19 = .ok (.iload 5, 2) := by decide +kernel
theorem dX7_shifts_21 : decode cX7_shifts 21 = .ok (.iload_n 2, 1) := by decide +kernel
theorem dX7_shifts_22 : decode cX7_shifts 22 = .ok (.if_icmp .eq 24, 3) := by decide +kernel
theorem dX7_shifts_25 : decode cX7_shifts 25 = .ok (.aload_n 0, 1) := by decide +kernel
theorem dX7_shifts_26 : decode cX7_shifts 26 = .ok (.iload 5, 2) := by decide +kernel
theorem dX7_shifts_28 : decode cX7_shifts 28 = .ok (.aload_n 0, 1) := by decide +kernel
theorem dX7_shifts_29 : decode cX7_shifts 29 = .ok (.iload 5, 2) := by decide +kernel
theorem dX7_shifts_31 : decode cX7_shifts 31 = .ok (.iload 4, 2) := by decide +kernel
theorem dX7_shifts_33 : decode cX7_shifts 33 = .ok (.iadd, 1) := by decide +kernel
theorem dX7_shifts_34 : decode cX7_shifts 34 = .ok (.iaload, 1) := by decide +kernel
theorem dX7_shifts_35 : decode cX7_shifts 35 = .ok (.iastore, 1) := by decide +kernel
theorem dX7_shifts_36 : decode cX7_shifts 36 = .ok (.iload 5, 2) := by decide +kernel
theorem dX7_shifts_38 : decode cX7_shifts 38 = .ok (.iload 4, 2) := by decide +kernel
theorem dX7_shifts_40 : decode cX7_shifts 40 = .ok (.iadd, 1) := by decide +kernel
theorem dX7_shifts_41 : decode cX7_shifts 41 = .ok (.istore 5, 2) := by decide +kernel
theorem dX7_shifts_43 : decode cX7_shifts 43 = .ok (.goto (-24), 3) := by decide +kernel
theorem dX7_shifts_46 : decode cX7_shifts 46 = .ok (.aload_n 0, 1) := by decide +kernel
theorem dX7_shifts_47 : decode cX7_shifts 47 = .ok (.iload_n 2, 1) := by decide +kernel
theorem dX7_shifts_48 : decode cX7_shifts 48 = .ok (.iload_n 3, 1) := by decide +kernel
theorem dX7_shifts_49 : decode cX7_shifts 49 = .ok (.iastore, 1) := by decide +kernel
theorem dX7_shifts_50 : decode cX7_shifts 50 = .ok (.return_, 1) := by decide +kernel
theorem dX7_move_0 : decode cX7_move 0 = .ok (.aload_n 0, 1) := by decide +kernel
theorem dX7_move_1 : decode cX7_move 1 = .ok (.iload_n 1, 1) := by decide +kernel
theorem dX7_move_2 : decode cX7_move 2 = .ok (.invokevirtual 119, 3) := by decide +kernel
theorem dX7_move_5 : decode cX7_move 5 = .ok (.ifCond .ne 5, 3) := by decide +kernel
theorem dX7_move_8 : decode cX7_move 8 = .ok (.iconst (-1), 1) := by decide +kernel
theorem dX7_move_9 : decode cX7_move 9 = .ok (.ireturn, 1) := by decide +kernel
theorem dX7_move_10 : decode cX7_move 10 = .ok (.aload_n 0, 1) := by decide +kernel
theorem dX7_move_11 : decode cX7_move 11 = .ok (.iload_n 2, 1) := by decide +kernel
theorem dX7_move_12 : decode cX7_move 12 = .ok (.invokevirtual 119, 3) := by decide +kernel
theorem dX7_move_15 : decode cX7_move 15 = .ok (.ifCond .ne 6, 3) := by decide +kernel
theorem dX7_move_18 : decode cX7_move 18 = .ok (.bipush (-2), 2) := by decide +kernel
theorem dX7_move_20 : decode cX7_move 20 = .ok (.ireturn, 1) := by decide +kernel
theorem dX7_move_21 : decode cX7_move 21 = .ok (.aload_n 0, 1) := by decide +kernel
theorem dX7_move_22 : decode cX7_move 22 = .ok (.aload_n 0, 1) := by decide +kernel
theorem dX7_move_23 : decode cX7_move 23 = .ok (.getfield 15, 3) := by decide +kernel
theorem dX7_move_26 : decode cX7_move 26 = .ok (.iload_n 1, 1) := by decide +kernel
theorem dX7_move_27 : decode cX7_move 27 = .ok (.invokevirtual 134, 3) := by decide +kernel
theorem dX7_move_30 : decode cX7_move 30 = .ok (.istore_n 3, 1) := by decide +kernel
theorem dX7_move_31 : decode cX7_move 31 = .ok (.aload_n 0, 1) := by decide +kernel
theorem dX7_move_32 : decode cX7_move 32 = .ok (.getfield 15, 3) := by decide +kernel
theorem dX7_move_35 : decode cX7_move 35 = .ok (.iload_n 3, 1) := by decide +kernel
theorem dX7_move_36 : decode cX7_move 36 = .ok (.iload_n 2, 1) := by decide +kernel
theorem dX7_move_37 : decode cX7_move 37 = .ok (.invokestatic 225, 3) := by decide +kernel
theorem dX7_move_40 : decode cX7_move 40 = .ok (.iload_n 3, 1) := by decide +kernel
theorem dX7_move_41 : decode cX7_move 41 = .ok (.ireturn, 1) := by decide +kernel
theorem dX7_isPair_0 : decode cX7_isPair 0 = .ok (.iload_n 1, 1) := by decide +kernel
theorem dX7_isPair_1 : decode cX7_isPair 1 = .ok (.ifCond .lt 17, 3) := by decide +kernel
theorem dX7_isPair_4 : decode cX7_isPair 4 = .ok (.iload_n 1, 1) := by decide +kernel
theorem dX7_isPair_5 : decode cX7_isPair 5 = .ok (.aload_n 0, 1) := by decide +kernel
theorem dX7_isPair_6 : decode cX7_isPair 6 = .ok (.getfield 72, 3) := by decide +kernel
theorem dX7_isPair_9 : decode cX7_isPair 9 = .ok (.iconst 1, 1) := by decide +kernel
theorem dX7_isPair_10 : decode cX7_isPair 10 = .ok (.isub, 1) := by decide +kernel
theorem dX7_isPair_11 : decode cX7_isPair 11 = .ok (.if_icmp .ge 7, 3) := by decide +kernel
theorem dX7_isPair_14 : decode cX7_isPair 14 = .ok (.iconst 1, 1) := by decide +kernel
theorem dX7_isPair_15 : decode cX7_isPair 15 = .ok (.goto 4, 3) := by decide +kernel
theorem dX7_isPair_18 : decode cX7_isPair 18 = .ok (.iconst 0, 1) := by decide +kernel
theorem dX7_isPair_19 : decode cX7_isPair 19 = .ok (.ireturn, 1) := by decide +kernel
theorem dX7_swap_0 : decode cX7_swap 0 = .ok (.aload_n 0, 1) := by decide +kernel
theorem dX7_swap_1 : decode cX7_swap 1 = .ok (.iload_n 1, 1) := by decide +kernel
theorem dX7_swap_2 : decode cX7_swap 2 = .ok (.invokevirtual 229, 3) := by decide +kernel
theorem dX7_swap_5 : decode cX7_swap 5 = .ok (.ifCond .ne 5, 3) := by decide +kernel
theorem dX7_swap_8 : decode cX7_swap 8 = .ok (.iconst (-1), 1) := by decide +kernel
theorem dX7_swap_9 : decode cX7_swap 9 = .ok (.ireturn, 1) := by decide +kernel
theorem dX7_swap_10 : decode cX7_swap 10 = .ok (.aload_n 0, 1) := by decide +kernel
theorem dX7_swap_11 : decode cX7_swap 11 = .ok (.getfield 15, 3) := by decide +kernel
theorem dX7_swap_14 : decode cX7_swap 14 = .ok (.iload_n 1, 1) := by decide +kernel
theorem dX7_swap_15 : decode cX7_swap 15 = .ok (.iload_n 1, 1) := by decide +kernel
theorem dX7_swap_16 : decode cX7_swap 16 = .ok (.iconst 1, 1) := by decide +kernel
theorem dX7_swap_17 : decode cX7_swap 17 = .ok (.iadd, 1) := by decide +kernel
theorem dX7_swap_18 : decode cX7_swap 18 = .ok (.invokestatic 225, 3) := by decide +kernel
theorem dX7_swap_21 : decode cX7_swap 21 = .ok (.aload_n 0, 1) := by decide +kernel
theorem dX7_swap_22 : decode cX7_swap 22 = .ok (.getfield 15, 3) := by decide +kernel
theorem dX7_swap_25 : decode cX7_swap 25 = .ok (.iload_n 1, 1) := by decide +kernel
theorem dX7_swap_26 : decode cX7_swap 26 = .ok (.iaload, 1) := by decide +kernel
theorem dX7_swap_27 : decode cX7_swap 27 = .ok (.ireturn, 1) := by decide +kernel
theorem dX7_wouldCost_0 : decode cX7_wouldCost 0 = .ok (.aload_n 0, 1) := by decide +kernel
theorem dX7_wouldCost_1 : decode cX7_wouldCost 1 = .ok (.getfield 15, 3) := by decide +kernel
theorem dX7_wouldCost_4 : decode cX7_wouldCost 4 = .ok (.aload_n 0, 1) := by decide +kernel
theorem dX7_wouldCost_5 : decode cX7_wouldCost 5 = .ok (.getfield 45, 3) := by decide +kernel
theorem dX7_wouldCost_8 : decode cX7_wouldCost 8 = .ok (.invokestatic 232, 3) := by decide +kernel
theorem dX7_wouldCost_11 : decode cX7_wouldCost 11 = .ok (.aload_n 0, 1) := by decide +kernel
theorem dX7_wouldCost_12 : decode cX7_wouldCost 12 = .ok (.getfield 45, 3) := by decide +kernel
theorem dX7_wouldCost_15 : decode cX7_wouldCost 15 = .ok (.iload_n 1, 1) := by decide +kernel
theorem dX7_wouldCost_16 : decode cX7_wouldCost 16 = .ok (.iload_n 2, 1) := by decide +kernel
theorem dX7_wouldCost_17 : decode cX7_wouldCost 17 = .ok (.invokestatic 225, 3) := by decide +kernel
theorem dX7_wouldCost_20 : decode cX7_wouldCost 20 = .ok (.aload_n 0, 1) := by decide +kernel
theorem dX7_wouldCost_21 : decode cX7_wouldCost 21 = .ok (.aload_n 0, 1) := by decide +kernel
theorem dX7_wouldCost_22 : decode cX7_wouldCost 22 = .ok (.getfield 45, 3) := by decide +kernel
theorem dX7_wouldCost_25 : decode cX7_wouldCost 25 = .ok (.aload_n 0, 1) := by decide +kernel
theorem dX7_wouldCost_26 : decode cX7_wouldCost 26 = .ok (.getfield 91, 3) := by decide +kernel
theorem dX7_wouldCost_29 : decode cX7_wouldCost 29 = .ok (.aload_n 0, 1) := by decide +kernel
theorem dX7_wouldCost_30 : decode cX7_wouldCost 30 = .ok (.getfield 94, 3) := by decide +kernel
theorem dX7_wouldCost_33 : decode cX7_wouldCost 33 = .ok (.invokevirtual 236, 3) := by decide +kernel
theorem dX7_wouldCost_36 : decode cX7_wouldCost 36 = .ok (.ireturn, 1) := by decide +kernel
theorem dX7_now_0 : decode cX7_now 0 = .ok (.aload_n 0, 1) := by decide +kernel
theorem dX7_now_1 : decode cX7_now 1 = .ok (.aload_n 0, 1) := by decide +kernel
theorem dX7_now_2 : decode cX7_now 2 = .ok (.getfield 15, 3) := by decide +kernel
theorem dX7_now_5 : decode cX7_now 5 = .ok (.aload_n 0, 1) := by decide +kernel
theorem dX7_now_6 : decode cX7_now 6 = .ok (.getfield 91, 3) := by decide +kernel
theorem dX7_now_9 : decode cX7_now 9 = .ok (.aload_n 0, 1) := by decide +kernel
theorem dX7_now_10 : decode cX7_now 10 = .ok (.getfield 94, 3) := by decide +kernel
theorem dX7_now_13 : decode cX7_now 13 = .ok (.invokevirtual 236, 3) := by decide +kernel
theorem dX7_now_16 : decode cX7_now 16 = .ok (.ireturn, 1) := by decide +kernel
theorem dX7_betters_0 : decode cX7_betters 0 = .ok (.aload_n 0, 1) := by decide +kernel
theorem dX7_betters_1 : decode cX7_betters 1 = .ok (.invokevirtual 240, 3) := by decide +kernel
theorem dX7_betters_4 : decode cX7_betters 4 = .ok (.istore_n 2, 1) := by decide +kernel
theorem dX7_betters_5 : decode cX7_betters 5 = .ok (.iconst (-1), 1) := by decide +kernel
theorem dX7_betters_6 : decode cX7_betters 6 = .ok (.istore_n 3, 1) := by decide +kernel
theorem dX7_betters_7 : decode cX7_betters 7 = .ok (.iconst (-1), 1) := by decide +kernel
theorem dX7_betters_8 : decode cX7_betters 8 = .ok (.istore 4, 2) := by decide +kernel
theorem dX7_betters_10 : decode cX7_betters 10 = .ok (.iconst 0, 1) := by decide +kernel
theorem dX7_betters_11 : decode cX7_betters 11 = .ok (.istore 5, 2) := by decide +kernel
theorem dX7_betters_13 : decode cX7_betters 13 = .ok (.iload 5, 2) := by decide +kernel
theorem dX7_betters_15 : decode cX7_betters 15 = .ok (.aload_n 0, 1) := by decide +kernel
theorem dX7_betters_16 : decode cX7_betters 16 = .ok (.getfield 72, 3) := by decide +kernel
theorem dX7_betters_19 : decode cX7_betters 19 = .ok (.if_icmp .ge 89, 3) := by decide +kernel
theorem dX7_betters_22 : decode cX7_betters 22 = .ok (.iload_n 1, 1) := by decide +kernel
theorem dX7_betters_23 : decode cX7_betters 23 = .ok (.iconst 2, 1) := by decide +kernel
theorem dX7_betters_24 : decode cX7_betters 24 = .ok (.if_icmp .ne 7, 3) := by decide +kernel
theorem dX7_betters_27 : decode cX7_betters 27 = .ok (.iconst 0, 1) := by decide +kernel
theorem dX7_betters_28 : decode cX7_betters 28 = .ok (.goto 7, 3) := by decide +kernel
theorem dX7_betters_31 : decode cX7_betters 31 = .ok (.iload 5, 2) := by decide +kernel
theorem dX7_betters_33 : decode cX7_betters 33 = .ok (.iconst 1, 1) := by decide +kernel
theorem dX7_betters_34 : decode cX7_betters 34 = .ok (.iadd, 1) := by decide +kernel
theorem dX7_betters_35 : decode cX7_betters 35 = .ok (.istore 6, 2) := by decide +kernel
theorem dX7_betters_37 : decode cX7_betters 37 = .ok (.iload 6, 2) := by decide +kernel
theorem dX7_betters_39 : decode cX7_betters 39 = .ok (.aload_n 0, 1) := by decide +kernel
theorem dX7_betters_40 : decode cX7_betters 40 = .ok (.getfield 72, 3) := by decide +kernel
theorem dX7_betters_43 : decode cX7_betters 43 = .ok (.if_icmp .ge 59, 3) := by decide +kernel
theorem dX7_betters_46 : decode cX7_betters 46 = .ok (.iload_n 1, 1) := by decide +kernel
theorem dX7_betters_47 : decode cX7_betters 47 = .ok (.iconst 2, 1) := by decide +kernel
theorem dX7_betters_48 : decode cX7_betters 48 = .ok (.if_icmp .eq 12, 3) := by decide +kernel
theorem dX7_betters_51 : decode cX7_betters 51 = .ok (.iload 6, 2) := by decide +kernel
theorem dX7_betters_53 : decode cX7_betters 53 = .ok (.iload 5, 2) := by decide +kernel
theorem dX7_betters_55 : decode cX7_betters 55 = .ok (.iconst 1, 1) := by decide +kernel
theorem dX7_betters_56 : decode cX7_betters 56 = .ok (.iadd, 1) := by decide +kernel
theorem dX7_betters_57 : decode cX7_betters 57 = .ok (.if_icmp .ne 45, 3) := by decide +kernel
theorem dX7_betters_60 : decode cX7_betters 60 = .ok (.iload_n 3, 1) := by decide +kernel
theorem dX7_betters_61 : decode cX7_betters 61 = .ok (.ifCond .lt 7, 3) := by decide +kernel
theorem dX7_betters_64 : decode cX7_betters 64 = .ok (.iload_n 1, 1) := by decide +kernel
theorem dX7_betters_65 : decode cX7_betters 65 = .ok (.ifCond .le 31, 3) := by decide +kernel
theorem dX7_betters_68 : decode cX7_betters 68 = .ok (.aload_n 0, 1) := by decide +kernel
theorem dX7_betters_69 : decode cX7_betters 69 = .ok (.iload 5, 2) := by decide +kernel
theorem dX7_betters_71 : decode cX7_betters 71 = .ok (.iload 6, 2) := by decide +kernel
theorem dX7_betters_73 : decode cX7_betters 73 = .ok (.invokevirtual 243, 3) := by decide +kernel
theorem dX7_betters_76 : decode cX7_betters 76 = .ok (.iload_n 2, 1) := by decide +kernel
theorem dX7_betters_77 : decode cX7_betters 77 = .ok (.if_icmp .ge 19, 3) := by decide +kernel
theorem dX7_betters_80 : decode cX7_betters 80 = .ok (.aload_n 0, 1) := by decide +kernel
theorem dX7_betters_81 : decode cX7_betters 81 = .ok (.iload 5, 2) := by decide +kernel
theorem dX7_betters_83 : decode cX7_betters 83 = .ok (.iload 6, 2) := by decide +kernel
theorem dX7_betters_85 : decode cX7_betters 85 = .ok (.invokevirtual 243, 3) := by decide +kernel
theorem dX7_betters_88 : decode cX7_betters 88 = .ok (.istore_n 2, 1) := by decide +kernel
theorem dX7_betters_89 : decode cX7_betters 89 = .ok (.iload 5, 2) := by decide +kernel
theorem dX7_betters_91 : decode cX7_betters 91 = .ok (.istore_n 3, 1) := by decide +kernel
theorem dX7_betters_92 : decode cX7_betters 92 = .ok (.iload 6, 2) := by decide +kernel
theorem dX7_betters_94 : decode cX7_betters 94 = .ok (.istore 4, 2) := by decide +kernel
theorem dX7_betters_96 : decode cX7_betters 96 = .ok (.iinc 6 1, 3) := by decide +kernel
theorem dX7_betters_99 : decode cX7_betters 99 = .ok (.goto (-62), 3) := by decide +kernel
theorem dX7_betters_102 : decode cX7_betters 102 = .ok (.iinc 5 1, 3) := by decide +kernel
theorem dX7_betters_105 : decode cX7_betters 105 = .ok (.goto (-92), 3) := by decide +kernel
theorem dX7_betters_108 : decode cX7_betters 108 = .ok (.iload_n 3, 1) := by decide +kernel
theorem dX7_betters_109 : decode cX7_betters 109 = .ok (.ifCond .lt 13, 3) := by decide +kernel
theorem dX7_betters_112 : decode cX7_betters 112 = .ok (.aload_n 0, 1) := by decide +kernel
theorem dX7_betters_113 : decode cX7_betters 113 = .ok (.getfield 15, 3) := by decide +kernel
theorem dX7_betters_116 : decode cX7_betters 116 = .ok (.iload_n 3, 1) := by decide +kernel
theorem dX7_betters_117 : decode cX7_betters 117 = .ok (.iload 4, 2) := by decide +kernel
theorem dX7_betters_119 : decode cX7_betters 119 = .ok (.invokestatic 225, 3) := by decide +kernel
theorem dX7_betters_122 : decode cX7_betters 122 = .ok (.iload_n 3, 1) := by decide +kernel
theorem dX7_betters_123 : decode cX7_betters 123 = .ok (.ifCond .lt 7, 3) := by decide +kernel
theorem dX7_betters_126 : decode cX7_betters 126 = .ok (.iconst 1, 1) := by decide +kernel
theorem dX7_betters_127 : decode cX7_betters 127 = .ok (.goto 4, 3) := by decide +kernel
theorem dX7_betters_130 : decode cX7_betters 130 = .ok (.iconst 0, 1) := by decide +kernel
theorem dX7_betters_131 : decode cX7_betters 131 = .ok (.ireturn, 1) := by decide +kernel
theorem dX7_step_0 : decode cX7_step 0 = .ok (.iload_n 1, 1) := by decide +kernel
theorem dX7_step_1 : decode cX7_step 1 = .ok (.i2l, 1) := by decide +kernel
theorem dX7_step_2 : decode cX7_step 2 = .ok (.lconst 0, 1) := by decide +kernel
theorem dX7_step_3 : decode cX7_step 3 = .ok (.ldc2_w 138, 3) := by decide +kernel
theorem dX7_step_6 : decode cX7_step 6 = .ok (.invokestatic 76, 3) := by decide +kernel
theorem dX7_step_9 : decode cX7_step 9 = .ok (.ifCond .eq 15, 3) := by decide +kernel
theorem dX7_step_12 : decode cX7_step 12 = .ok (.iload_n 2, 1) := by decide +kernel
theorem dX7_step_13 : decode cX7_step 13 = .ok (.i2l, 1) := by decide +kernel
theorem dX7_step_14 : decode cX7_step 14 = .ok (.lconst 0, 1) := by decide +kernel
theorem dX7_step_15 : decode cX7_step 15 = .ok (.ldc2_w 246, 3) := by decide +kernel
theorem dX7_step_18 : decode cX7_step 18 = .ok (.invokestatic 76, 3) := by decide +kernel
theorem dX7_step_21 : decode cX7_step 21 = .ok (.ifCond .ne 6, 3) := by decide +kernel
theorem dX7_step_24 : decode cX7_step 24 = .ok (.bipush (-2), 2) := by decide +kernel
theorem dX7_step_26 : decode cX7_step 26 = .ok (.ireturn, 1) := by decide +kernel
theorem dX7_step_27 : decode cX7_step 27 = .ok (.aload_n 0, 1) := by decide +kernel
theorem dX7_step_28 : decode cX7_step 28 = .ok (.getfield 72, 3) := by decide +kernel
theorem dX7_step_31 : decode cX7_step 31 = .ok (.ifCond .ne 6, 3) := by decide +kernel
theorem dX7_step_34 : decode cX7_step 34 = .ok (.bipush (-3), 2) := by decide +kernel
theorem dX7_step_36 : decode cX7_step 36 = .ok (.ireturn, 1) := by decide +kernel
theorem dX7_step_37 : decode cX7_step 37 = .ok (.iconst 0, 1) := by decide +kernel
theorem dX7_step_38 : decode cX7_step 38 = .ok (.istore_n 3, 1) := by decide +kernel
theorem dX7_step_39 : decode cX7_step 39 = .ok (.iload_n 3, 1) := by decide +kernel
theorem dX7_step_40 : decode cX7_step 40 = .ok (.iload_n 2, 1) := by decide +kernel
theorem dX7_step_41 : decode cX7_step 41 = .ok (.if_icmp .ge 17, 3) := by decide +kernel
theorem dX7_step_44 : decode cX7_step 44 = .ok (.aload_n 0, 1) := by decide +kernel
theorem dX7_step_45 : decode cX7_step 45 = .ok (.iload_n 1, 1) := by decide +kernel
theorem dX7_step_46 : decode cX7_step 46 = .ok (.invokevirtual 248, 3) := by decide +kernel
theorem dX7_step_49 : decode cX7_step 49 = .ok (.ifCond .eq 9, 3) := by decide +kernel
theorem dX7_step_52 : decode cX7_step 52 = .ok (.iinc 3 1, 3) := by decide +kernel
theorem dX7_step_55 : decode cX7_step 55 = .ok (.goto (-16), 3) := by decide +kernel
theorem dX7_step_58 : decode cX7_step 58 = .ok (.iload_n 3, 1) := by decide +kernel
theorem dX7_step_59 : decode cX7_step 59 = .ok (.ireturn, 1) := by decide +kernel
theorem dX7_at_0 : decode cX7_at 0 = .ok (.aload_n 0, 1) := by decide +kernel
theorem dX7_at_1 : decode cX7_at 1 = .ok (.iload_n 1, 1) := by decide +kernel
theorem dX7_at_2 : decode cX7_at 2 = .ok (.invokevirtual 119, 3) := by decide +kernel
theorem dX7_at_5 : decode cX7_at 5 = .ok (.ifCond .eq 12, 3) := by decide +kernel
theorem dX7_at_8 : decode cX7_at 8 = .ok (.aload_n 0, 1) := by decide +kernel
theorem dX7_at_9 : decode cX7_at 9 = .ok (.getfield 15, 3) := by decide +kernel
theorem dX7_at_12 : decode cX7_at 12 = .ok (.iload_n 1, 1) := by decide +kernel
theorem dX7_at_13 : decode cX7_at 13 = .ok (.iaload, 1) := by decide +kernel
theorem dX7_at_14 : decode cX7_at 14 = .ok (.goto 4, 3) := by decide +kernel
theorem dX7_at_17 : decode cX7_at 17 = .ok (.iconst (-1), 1) := by decide +kernel
theorem dX7_at_18 : decode cX7_at 18 = .ok (.ireturn, 1) := by decide +kernel
theorem dX7_time_0 : decode cX7_time 0 = .ok (.aload_n 0, 1) := by decide +kernel
theorem dX7_time_1 : decode cX7_time 1 = .ok (.iload_n 1, 1) := by decide +kernel
theorem dX7_time_2 : decode cX7_time 2 = .ok (.invokevirtual 119, 3) := by decide +kernel
theorem dX7_time_5 : decode cX7_time 5 = .ok (.ifCond .eq 15, 3) := by decide +kernel
theorem dX7_time_8 : decode cX7_time 8 = .ok (.iload_n 2, 1) := by decide +kernel
theorem dX7_time_9 : decode cX7_time 9 = .ok (.i2l, 1) := by decide +kernel
theorem dX7_time_10 : decode cX7_time 10 = .ok (.lconst 0, 1) := by decide +kernel
theorem dX7_time_11 : decode cX7_time 11 = .ok (.ldc2_w 132, 3) := by decide +kernel
theorem dX7_time_14 : decode cX7_time 14 = .ok (.invokestatic 76, 3) := by decide +kernel
theorem dX7_time_17 : decode cX7_time 17 = .ok (.ifCond .ne 7, 3) := by decide +kernel
theorem dX7_time_20 : decode cX7_time 20 = .ok (.ldc2_w 251, 3) := by decide +kernel
theorem dX7_time_23 : decode cX7_time 23 = .ok (.lreturn, 1) := by decide +kernel
theorem dX7_time_24 : decode cX7_time 24 = .ok (.aload_n 0, 1) := by decide +kernel
theorem dX7_time_25 : decode cX7_time 25 = .ok (.aload_n 0, 1) := by decide +kernel
theorem dX7_time_26 : decode cX7_time 26 = .ok (.getfield 15, 3) := by decide +kernel
theorem dX7_time_29 : decode cX7_time 29 = .ok (.aload_n 0, 1) := by decide +kernel
theorem dX7_time_30 : decode cX7_time 30 = .ok (.getfield 91, 3) := by decide +kernel
theorem dX7_time_33 : decode cX7_time 33 = .ok (.invokevirtual 203, 3) := by decide +kernel
theorem dX7_time_36 : decode cX7_time 36 = .ok (.iload_n 2, 1) := by decide +kernel
theorem dX7_time_37 : decode cX7_time 37 = .ok (.bipush 6, 2) := by decide +kernel
theorem dX7_time_39 : decode cX7_time 39 = .ok (.if_icmp .ne 19, 3) := by decide +kernel
theorem dX7_time_42 : decode cX7_time 42 = .ok (.aload_n 0, 1) := by decide +kernel
theorem dX7_time_43 : decode cX7_time 43 = .ok (.iload_n 1, 1) := by decide +kernel
theorem dX7_time_44 : decode cX7_time 44 = .ok (.invokevirtual 210, 3) := by decide +kernel
theorem dX7_time_47 : decode cX7_time 47 = .ok (.aload_n 0, 1) := by decide +kernel
theorem dX7_time_48 : decode cX7_time 48 = .ok (.iload_n 1, 1) := by decide +kernel
theorem dX7_time_49 : decode cX7_time 49 = .ok (.iconst 5, 1) := by decide +kernel
theorem dX7_time_50 : decode cX7_time 50 = .ok (.invokevirtual 128, 3) := by decide +kernel
theorem dX7_time_53 : decode cX7_time 53 = .ok (.isub, 1) := by decide +kernel
theorem dX7_time_54 : decode cX7_time 54 = .ok (.i2l, 1) := by decide +kernel
theorem dX7_time_55 : decode cX7_time 55 = .ok (.goto 15, 3) := by decide +kernel
theorem dX7_time_58 : decode cX7_time 58 = .ok (.aload_n 0, 1) := by decide +kernel
theorem dX7_time_59 : decode cX7_time 59 = .ok (.getfield 42, 3) := by decide +kernel
theorem dX7_time_62 : decode cX7_time 62 = .ok (.bipush 6, 2) := by decide +kernel
theorem dX7_time_64 : decode cX7_time 64 = .ok (.iload_n 1, 1) := by decide +kernel
theorem dX7_time_65 : decode cX7_time 65 = .ok (.imul, 1) := by decide +kernel
theorem dX7_time_66 : decode cX7_time 66 = .ok (.iload_n 2, 1) := by decide +kernel
theorem dX7_time_67 : decode cX7_time 67 = .ok (.iadd, 1) := by decide +kernel
theorem dX7_time_68 : decode cX7_time 68 = .ok (.iaload, 1) := by decide +kernel
theorem dX7_time_69 : decode cX7_time 69 = .ok (.i2l, 1) := by decide +kernel
theorem dX7_time_70 : decode cX7_time 70 = .ok (.lreturn, 1) := by decide +kernel
theorem dX7_lowestOf_0 : decode cX7_lowestOf 0 = .ok (.sipush 1000, 3) := by decide +kernel
theorem dX7_lowestOf_3 : decode cX7_lowestOf 3 = .ok (.istore_n 3, 1) := by decide +kernel
theorem dX7_lowestOf_4 : decode cX7_lowestOf 4 = .ok (.iconst 0, 1) := by decide +kernel
theorem dX7_lowestOf_5 : decode cX7_lowestOf 5 = .ok (.istore 4, 2) := by decide +kernel
theorem dX7_lowestOf_7 : decode cX7_lowestOf 7 = .ok (.iload 4, 2) := by decide +kernel
theorem dX7_lowestOf_9 : decode cX7_lowestOf 9 = .ok (.aload_n 0, 1) := by decide +kernel
theorem dX7_lowestOf_10 : decode cX7_lowestOf 10 = .ok (.getfield 72, 3) := by decide +kernel
theorem dX7_lowestOf_13 : decode cX7_lowestOf 13 = .ok (.if_icmp .ge 37, 3) := by decide +kernel
theorem dX7_lowestOf_16 : decode cX7_lowestOf 16 = .ok (.iload_n 3, 1) := by decide +kernel
theorem dX7_lowestOf_17 : decode cX7_lowestOf 17 = .ok (.aload_n 0, 1) := by decide +kernel
theorem dX7_lowestOf_18 : decode cX7_lowestOf 18 = .ok (.iload 4, 2) := by decide +kernel
theorem dX7_lowestOf_20 : decode cX7_lowestOf 20 = .ok (.iload_n 1, 1) := by decide +kernel
theorem dX7_lowestOf_21 : decode cX7_lowestOf 21 = .ok (.invokevirtual 128, 3) := by decide +kernel
theorem dX7_lowestOf_24 : decode cX7_lowestOf 24 = .ok (.iload_n 2, 1) := by decide +kernel
theorem dX7_lowestOf_25 : decode cX7_lowestOf 25 = .ok (.ifCond .ge 7, 3) := by decide +kernel
theorem dX7_lowestOf_28 : decode cX7_lowestOf 28 = .ok (.iconst 0, 1) := by decide +kernel
theorem dX7_lowestOf_29 : decode cX7_lowestOf 29 = .ok (.goto 10, 3) := by decide +kernel
theorem dX7_lowestOf_32 : decode cX7_lowestOf 32 = .ok (.aload_n 0, 1) := by decide +kernel
theorem dX7_lowestOf_33 : decode cX7_lowestOf 33 = .ok (.iload 4, 2) := by decide +kernel
theorem dX7_lowestOf_35 : decode cX7_lowestOf 35 = .ok (.iload_n 2, 1) := by decide +kernel
theorem dX7_lowestOf_36 : decode cX7_lowestOf 36 = .ok (.invokevirtual 128, 3) := by decide +kernel
theorem dX7_lowestOf_39 : decode cX7_lowestOf 39 = .ok (.iadd, 1) := by decide +kernel
theorem dX7_lowestOf_40 : decode cX7_lowestOf 40 = .ok (.invokestatic 176, 3) := by decide +kernel
theorem dX7_lowestOf_43 : decode cX7_lowestOf 43 = .ok (.istore_n 3, 1) := by decide +kernel
theorem dX7_lowestOf_44 : decode cX7_lowestOf 44 = .ok (.iinc 4 1, 3) := by decide +kernel
theorem dX7_lowestOf_47 : decode cX7_lowestOf 47 = .ok (.goto (-40), 3) := by decide +kernel
theorem dX7_lowestOf_50 : decode cX7_lowestOf 50 = .ok (.iload_n 3, 1) := by decide +kernel
theorem dX7_lowestOf_51 : decode cX7_lowestOf 51 = .ok (.ireturn, 1) := by decide +kernel
theorem dX7_together_0 : decode cX7_together 0 = .ok (.iconst 0, 1) := by decide +kernel
theorem dX7_together_1 : decode cX7_together 1 = .ok (.istore_n 2, 1) := by decide +kernel
theorem dX7_together_2 : decode cX7_together 2 = .ok (.iconst 0, 1) := by decide +kernel
theorem dX7_together_3 : decode cX7_together 3 = .ok (.istore_n 3, 1) := by decide +kernel
theorem dX7_together_4 : decode cX7_together 4 = .ok (.iload_n 3, 1) := by decide +kernel
theorem dX7_together_5 : decode cX7_together 5 = .ok (.aload_n 0, 1) := by decide +kernel
theorem dX7_together_6 : decode cX7_together 6 = .ok (.getfield 72, 3) := by decide +kernel
theorem dX7_together_9 : decode cX7_together 9 = .ok (.if_icmp .ge 18, 3) := by decide +kernel
theorem dX7_together_12 : decode cX7_together 12 = .ok (.iload_n 2, 1) := by decide +kernel
theorem dX7_together_13 : decode cX7_together 13 = .ok (.aload_n 0, 1) := by decide +kernel
theorem dX7_together_14 : decode cX7_together 14 = .ok (.iload_n 3, 1) := by decide +kernel
theorem dX7_together_15 : decode cX7_together 15 = .ok (.iload_n 1, 1) := by decide +kernel
theorem dX7_together_16 : decode cX7_together 16 = .ok (.invokevirtual 128, 3) := by decide +kernel
theorem dX7_together_19 : decode cX7_together 19 = .ok (.iadd, 1) := by decide +kernel
theorem dX7_together_20 : decode cX7_together 20 = .ok (.istore_n 2, 1) := by decide +kernel
theorem dX7_together_21 : decode cX7_together 21 = .ok (.iinc 3 1, 3) := by decide +kernel
theorem dX7_together_24 : decode cX7_together 24 = .ok (.goto (-20), 3) := by decide +kernel
theorem dX7_together_27 : decode cX7_together 27 = .ok (.iload_n 2, 1) := by decide +kernel
theorem dX7_together_28 : decode cX7_together 28 = .ok (.ireturn, 1) := by decide +kernel
theorem dX7_waited_0 : decode cX7_waited 0 = .ok (.aload_n 0, 1) := by decide +kernel
theorem dX7_waited_1 : decode cX7_waited 1 = .ok (.getfield 15, 3) := by decide +kernel
theorem dX7_waited_4 : decode cX7_waited 4 = .ok (.aload_n 0, 1) := by decide +kernel
theorem dX7_waited_5 : decode cX7_waited 5 = .ok (.getfield 72, 3) := by decide +kernel
theorem dX7_waited_8 : decode cX7_waited 8 = .ok (.iconst 1, 1) := by decide +kernel
theorem dX7_waited_9 : decode cX7_waited 9 = .ok (.isub, 1) := by decide +kernel
theorem dX7_waited_10 : decode cX7_waited 10 = .ok (.iaload, 1) := by decide +kernel
theorem dX7_waited_11 : decode cX7_waited 11 = .ok (.istore_n 1, 1) := by decide +kernel
theorem dX7_waited_12 : decode cX7_waited 12 = .ok (.aload_n 0, 1) := by decide +kernel
theorem dX7_waited_13 : decode cX7_waited 13 = .ok (.aload_n 0, 1) := by decide +kernel
theorem dX7_waited_14 : decode cX7_waited 14 = .ok (.getfield 15, 3) := by decide +kernel
theorem dX7_waited_17 : decode cX7_waited 17 = .ok (.aload_n 0, 1) := by decide +kernel
theorem dX7_waited_18 : decode cX7_waited 18 = .ok (.getfield 91, 3) := by decide +kernel
theorem dX7_waited_21 : decode cX7_waited 21 = .ok (.iconst 0, 1) := by decide +kernel
theorem dX7_waited_22 : decode cX7_waited 22 = .ok (.invokevirtual 236, 3) := by decide +kernel
theorem dX7_waited_25 : decode cX7_waited 25 = .ok (.aload_n 0, 1) := by decide +kernel
theorem dX7_waited_26 : decode cX7_waited 26 = .ok (.iconst 2, 1) := by decide +kernel
theorem dX7_waited_27 : decode cX7_waited 27 = .ok (.invokevirtual 253, 3) := by decide +kernel
theorem dX7_waited_30 : decode cX7_waited 30 = .ok (.isub, 1) := by decide +kernel
theorem dX7_waited_31 : decode cX7_waited 31 = .ok (.aload_n 0, 1) := by decide +kernel
theorem dX7_waited_32 : decode cX7_waited 32 = .ok (.iconst 4, 1) := by decide +kernel
theorem dX7_waited_33 : decode cX7_waited 33 = .ok (.invokevirtual 253, 3) := by decide +kernel
theorem dX7_waited_36 : decode cX7_waited 36 = .ok (.isub, 1) := by decide +kernel
theorem dX7_waited_37 : decode cX7_waited 37 = .ok (.aload_n 0, 1) := by decide +kernel
theorem dX7_waited_38 : decode cX7_waited 38 = .ok (.iload_n 1, 1) := by decide +kernel
theorem dX7_waited_39 : decode cX7_waited 39 = .ok (.iconst 4, 1) := by decide +kernel
theorem dX7_waited_40 : decode cX7_waited 40 = .ok (.invokevirtual 128, 3) := by decide +kernel
theorem dX7_waited_43 : decode cX7_waited 43 = .ok (.iadd, 1) := by decide +kernel
theorem dX7_waited_44 : decode cX7_waited 44 = .ok (.ireturn, 1) := by decide +kernel
theorem dX7_turn_0 : decode cX7_turn 0 = .ok (.aload_n 0, 1) := by decide +kernel
theorem dX7_turn_1 : decode cX7_turn 1 = .ok (.aload_n 0, 1) := by decide +kernel
theorem dX7_turn_2 : decode cX7_turn 2 = .ok (.getfield 15, 3) := by decide +kernel
theorem dX7_turn_5 : decode cX7_turn 5 = .ok (.aload_n 0, 1) := by decide +kernel
theorem dX7_turn_6 : decode cX7_turn 6 = .ok (.getfield 91, 3) := by decide +kernel
theorem dX7_turn_9 : decode cX7_turn 9 = .ok (.invokevirtual 203, 3) := by decide +kernel
theorem dX7_turn_12 : decode cX7_turn 12 = .ok (.aload_n 0, 1) := by decide +kernel
theorem dX7_turn_13 : decode cX7_turn 13 = .ok (.getfield 72, 3) := by decide +kernel
theorem dX7_turn_16 : decode cX7_turn 16 = .ok (.iconst 1, 1) := by decide +kernel
theorem dX7_turn_17 : decode cX7_turn 17 = .ok (.isub, 1) := by decide +kernel
theorem dX7_turn_18 : decode cX7_turn 18 = .ok (.istore_n 1, 1) := by decide +kernel
theorem dX7_turn_19 : decode cX7_turn 19 = .ok (.aload_n 0, 1) := by decide +kernel
theorem dX7_turn_20 : decode cX7_turn 20 = .ok (.getfield 42, 3) := by decide +kernel
theorem dX7_turn_23 : decode cX7_turn 23 = .ok (.bipush 6, 2) := by decide +kernel
theorem dX7_turn_25 : decode cX7_turn 25 = .ok (.aload_n 0, 1) := by decide +kernel
theorem dX7_turn_26 : decode cX7_turn 26 = .ok (.getfield 15, 3) := by decide +kernel
theorem dX7_turn_29 : decode cX7_turn 29 = .ok (.iload_n 1, 1) := by decide +kernel
theorem dX7_turn_30 : decode cX7_turn 30 = .ok (.iaload, 1) := by decide +kernel
theorem dX7_turn_31 : decode cX7_turn 31 = .ok (.imul, 1) := by decide +kernel
theorem dX7_turn_32 : decode cX7_turn 32 = .ok (.iconst 3, 1) := by decide +kernel
theorem dX7_turn_33 : decode cX7_turn 33 = .ok (.iadd, 1) := by decide +kernel
theorem dX7_turn_34 : decode cX7_turn 34 = .ok (.iaload, 1) := by decide +kernel
theorem dX7_turn_35 : decode cX7_turn 35 = .ok (.aload_n 0, 1) := by decide +kernel
theorem dX7_turn_36 : decode cX7_turn 36 = .ok (.getfield 42, 3) := by decide +kernel
theorem dX7_turn_39 : decode cX7_turn 39 = .ok (.bipush 6, 2) := by decide +kernel
theorem dX7_turn_41 : decode cX7_turn 41 = .ok (.aload_n 0, 1) := by decide +kernel
theorem dX7_turn_42 : decode cX7_turn 42 = .ok (.getfield 15, 3) := by decide +kernel
theorem dX7_turn_45 : decode cX7_turn 45 = .ok (.iload_n 1, 1) := by decide +kernel
theorem dX7_turn_46 : decode cX7_turn 46 = .ok (.iaload, 1) := by decide +kernel
theorem dX7_turn_47 : decode cX7_turn 47 = .ok (.imul, 1) := by decide +kernel
theorem dX7_turn_48 : decode cX7_turn 48 = .ok (.iconst 4, 1) := by decide +kernel
theorem dX7_turn_49 : decode cX7_turn 49 = .ok (.iadd, 1) := by decide +kernel
theorem dX7_turn_50 : decode cX7_turn 50 = .ok (.iaload, 1) := by decide +kernel
theorem dX7_turn_51 : decode cX7_turn 51 = .ok (.if_icmp .eq 9, 3) := by decide +kernel
theorem dX7_turn_54 : decode cX7_turn 54 = .ok (.iinc 1 (-1), 3) := by decide +kernel
theorem dX7_turn_57 : decode cX7_turn 57 = .ok (.goto (-38), 3) := by decide +kernel
theorem dX7_turn_60 : decode cX7_turn 60 = .ok (.aload_n 0, 1) := by decide +kernel
theorem dX7_turn_61 : decode cX7_turn 61 = .ok (.getfield 15, 3) := by decide +kernel
theorem dX7_turn_64 : decode cX7_turn 64 = .ok (.iload_n 1, 1) := by decide +kernel
theorem dX7_turn_65 : decode cX7_turn 65 = .ok (.iaload, 1) := by decide +kernel
theorem dX7_turn_66 : decode cX7_turn 66 = .ok (.ireturn, 1) := by decide +kernel
theorem dX7_exchanges_0 : decode cX7_exchanges 0 = .ok (.aload_n 0, 1) := by decide +kernel
theorem dX7_exchanges_1 : decode cX7_exchanges 1 = .ok (.invokevirtual 240, 3) := by decide +kernel
theorem dX7_exchanges_4 : decode cX7_exchanges 4 = .ok (.istore_n 2, 1) := by decide +kernel
theorem dX7_exchanges_5 : decode cX7_exchanges 5 = .ok (.iconst 0, 1) := by decide +kernel
theorem dX7_exchanges_6 : decode cX7_exchanges 6 = .ok (.istore_n 3, 1) := by decide +kernel
theorem dX7_exchanges_7 : decode cX7_exchanges 7 = .ok (.iconst 0, 1) := by decide +kernel
theorem dX7_exchanges_8 : decode cX7_exchanges 8 = .ok (.istore 4, 2) := by decide +kernel
theorem dX7_exchanges_10 : decode cX7_exchanges 10 = .ok (.iload 4, 2) := by decide +kernel
theorem dX7_exchanges_12 : decode cX7_exchanges 12 = .ok (.aload_n 0, 1) := by decide +kernel
theorem dX7_exchanges_13 : decode cX7_exchanges 13 = .ok (.getfield 72, 3) := by decide +kernel
theorem dX7_exchanges_16 : decode cX7_exchanges 16 = .ok (.iconst 1, 1) := by decide +kernel
theorem dX7_exchanges_17 : decode cX7_exchanges 17 = .ok (.isub, 1) := by decide +kernel
theorem dX7_exchanges_18 : decode cX7_exchanges 18 = .ok (.if_icmp .ge 36, 3) := by decide +kernel
theorem dX7_exchanges_21 : decode cX7_exchanges 21 = .ok (.iload_n 3, 1) := by decide +kernel
theorem dX7_exchanges_22 : decode cX7_exchanges 22 = .ok (.aload_n 0, 1) := by decide +kernel
theorem dX7_exchanges_23 : decode cX7_exchanges 23 = .ok (.iload 4, 2) := by decide +kernel
theorem dX7_exchanges_25 : decode cX7_exchanges 25 = .ok (.iload 4, 2) := by decide +kernel
theorem dX7_exchanges_27 : decode cX7_exchanges 27 = .ok (.iconst 1, 1) := by decide +kernel
theorem dX7_exchanges_28 : decode cX7_exchanges 28 = .ok (.iadd, 1) := by decide +kernel
theorem dX7_exchanges_29 : decode cX7_exchanges 29 = .ok (.invokevirtual 243, 3) := by decide +kernel
theorem dX7_exchanges_32 : decode cX7_exchanges 32 = .ok (.iload_n 2, 1) := by decide +kernel
theorem dX7_exchanges_33 : decode cX7_exchanges 33 = .ok (.isub, 1) := by decide +kernel
theorem dX7_exchanges_34 : decode cX7_exchanges 34 = .ok (.invokestatic 256, 3) := by decide +kernel
theorem dX7_exchanges_37 : decode cX7_exchanges 37 = .ok (.iload_n 1, 1) := by decide +kernel
theorem dX7_exchanges_38 : decode cX7_exchanges 38 = .ok (.if_icmp .ne 7, 3) := by decide +kernel
theorem dX7_exchanges_41 : decode cX7_exchanges 41 = .ok (.iconst 1, 1) := by decide +kernel
theorem dX7_exchanges_42 : decode cX7_exchanges 42 = .ok (.goto 4, 3) := by decide +kernel
theorem dX7_exchanges_45 : decode cX7_exchanges 45 = .ok (.iconst 0, 1) := by decide +kernel
theorem dX7_exchanges_46 : decode cX7_exchanges 46 = .ok (.iadd, 1) := by decide +kernel
theorem dX7_exchanges_47 : decode cX7_exchanges 47 = .ok (.istore_n 3, 1) := by decide +kernel
theorem dX7_exchanges_48 : decode cX7_exchanges 48 = .ok (.iinc 4 1, 3) := by decide +kernel
theorem dX7_exchanges_51 : decode cX7_exchanges 51 = .ok (.goto (-41), 3) := by decide +kernel
theorem dX7_exchanges_54 : decode cX7_exchanges 54 = .ok (.iload_n 3, 1) := by decide +kernel
theorem dX7_exchanges_55 : decode cX7_exchanges 55 = .ok (.ireturn, 1) := by decide +kernel
theorem dX7_easy_0 : decode cX7_easy 0 = .ok (.iconst 0, 1) := by decide +kernel
theorem dX7_easy_1 : decode cX7_easy 1 = .ok (.istore_n 1, 1) := by decide +kernel
theorem dX7_easy_2 : decode cX7_easy 2 = .ok (.iconst 0, 1) := by decide +kernel
theorem dX7_easy_3 : decode cX7_easy 3 = .ok (.istore_n 2, 1) := by decide +kernel
theorem dX7_easy_4 : decode cX7_easy 4 = .ok (.iload_n 2, 1) := by decide +kernel
theorem dX7_easy_5 : decode cX7_easy 5 = .ok (.aload_n 0, 1) := by decide +kernel
theorem dX7_easy_6 : decode cX7_easy 6 = .ok (.getfield 72, 3) := by decide +kernel
theorem dX7_easy_9 : decode cX7_easy 9 = .ok (.if_icmp .ge 20, 3) := by decide +kernel
theorem dX7_easy_12 : decode cX7_easy 12 = .ok (.iload_n 1, 1) := by decide +kernel
theorem dX7_easy_13 : decode cX7_easy 13 = .ok (.aload_n 0, 1) := by decide +kernel
theorem dX7_easy_14 : decode cX7_easy 14 = .ok (.iload_n 2, 1) := by decide +kernel
theorem dX7_easy_15 : decode cX7_easy 15 = .ok (.iconst 1, 1) := by decide +kernel
theorem dX7_easy_16 : decode cX7_easy 16 = .ok (.invokevirtual 128, 3) := by decide +kernel
theorem dX7_easy_19 : decode cX7_easy 19 = .ok (.invokestatic 200, 3) := by decide +kernel
theorem dX7_easy_22 : decode cX7_easy 22 = .ok (.istore_n 1, 1) := by decide +kernel
theorem dX7_easy_23 : decode cX7_easy 23 = .ok (.iinc 2 1, 3) := by decide +kernel
theorem dX7_easy_26 : decode cX7_easy 26 = .ok (.goto (-22), 3) := by decide +kernel
theorem dX7_easy_29 : decode cX7_easy 29 = .ok (.iload_n 1, 1) := by decide +kernel
theorem dX7_easy_30 : decode cX7_easy 30 = .ok (.aload_n 0, 1) := by decide +kernel
theorem dX7_easy_31 : decode cX7_easy 31 = .ok (.iconst 0, 1) := by decide +kernel
theorem dX7_easy_32 : decode cX7_easy 32 = .ok (.iconst (-1), 1) := by decide +kernel
theorem dX7_easy_33 : decode cX7_easy 33 = .ok (.invokevirtual 259, 3) := by decide +kernel
theorem dX7_easy_36 : decode cX7_easy 36 = .ok (.if_icmp .le 13, 3) := by decide +kernel
theorem dX7_easy_39 : decode cX7_easy 39 = .ok (.iload_n 1, 1) := by decide +kernel
theorem dX7_easy_40 : decode cX7_easy 40 = .ok (.aload_n 0, 1) := by decide +kernel
theorem dX7_easy_41 : decode cX7_easy 41 = .ok (.iconst 2, 1) := by decide +kernel
theorem dX7_easy_42 : decode cX7_easy 42 = .ok (.iconst (-1), 1) := by decide +kernel
theorem dX7_easy_43 : decode cX7_easy 43 = .ok (.invokevirtual 259, 3) := by decide +kernel
theorem dX7_easy_46 : decode cX7_easy 46 = .ok (.if_icmp .gt 7, 3) := by decide +kernel
theorem dX7_easy_49 : decode cX7_easy 49 = .ok (.iconst 1, 1) := by decide +kernel
theorem dX7_easy_50 : decode cX7_easy 50 = .ok (.goto 4, 3) := by decide +kernel
theorem dX7_easy_53 : decode cX7_easy 53 = .ok (.iconst 0, 1) := by decide +kernel
theorem dX7_easy_54 : decode cX7_easy 54 = .ok (.ireturn, 1) := by decide +kernel
theorem dX7_firsts_0 : decode cX7_firsts 0 = .ok (.iconst 0, 1) := by decide +kernel
theorem dX7_firsts_1 : decode cX7_firsts 1 = .ok (.istore_n 1, 1) := by decide +kernel
theorem dX7_firsts_2 : decode cX7_firsts 2 = .ok (.iconst 0, 1) := by decide +kernel
theorem dX7_firsts_3 : decode cX7_firsts 3 = .ok (.istore_n 2, 1) := by decide +kernel
theorem dX7_firsts_4 : decode cX7_firsts 4 = .ok (.iload_n 2, 1) := by decide +kernel
theorem dX7_firsts_5 : decode cX7_firsts 5 = .ok (.aload_n 0, 1) := by decide +kernel
theorem dX7_firsts_6 : decode cX7_firsts 6 = .ok (.getfield 72, 3) := by decide +kernel
theorem dX7_firsts_9 : decode cX7_firsts 9 = .ok (.if_icmp .ge 25, 3) := by decide +kernel
theorem dX7_firsts_12 : decode cX7_firsts 12 = .ok (.iload_n 1, 1) := by decide +kernel
theorem dX7_firsts_13 : decode cX7_firsts 13 = .ok (.aload_n 0, 1) := by decide +kernel
theorem dX7_firsts_14 : decode cX7_firsts 14 = .ok (.iload_n 2, 1) := by decide +kernel
theorem dX7_firsts_15 : decode cX7_firsts 15 = .ok (.invokevirtual 213, 3) := by decide +kernel
theorem dX7_firsts_18 : decode cX7_firsts 18 = .ok (.ifCond .eq 7, 3) := by decide +kernel
theorem dX7_firsts_21 : decode cX7_firsts 21 = .ok (.iconst 1, 1) := by decide +kernel
theorem dX7_firsts_22 : decode cX7_firsts 22 = .ok (.goto 4, 3) := by decide +kernel
theorem dX7_firsts_25 : decode cX7_firsts 25 = .ok (.iconst 0, 1) := by decide +kernel
theorem dX7_firsts_26 : decode cX7_firsts 26 = .ok (.iadd, 1) := by decide +kernel
theorem dX7_firsts_27 : decode cX7_firsts 27 = .ok (.istore_n 1, 1) := by decide +kernel
theorem dX7_firsts_28 : decode cX7_firsts 28 = .ok (.iinc 2 1, 3) := by decide +kernel
theorem dX7_firsts_31 : decode cX7_firsts 31 = .ok (.goto (-27), 3) := by decide +kernel
theorem dX7_firsts_34 : decode cX7_firsts 34 = .ok (.iload_n 1, 1) := by decide +kernel
theorem dX7_firsts_35 : decode cX7_firsts 35 = .ok (.ireturn, 1) := by decide +kernel
theorem dX7_told_0 : decode cX7_told 0 = .ok (.iload_n 1, 1) := by decide +kernel
theorem dX7_told_1 : decode cX7_told 1 = .ok (.i2l, 1) := by decide +kernel
theorem dX7_told_2 : decode cX7_told 2 = .ok (.lconst 0, 1) := by decide +kernel
theorem dX7_told_3 : decode cX7_told 3 = .ok (.ldc2_w 262, 3) := by decide +kernel
theorem dX7_told_6 : decode cX7_told 6 = .ok (.invokestatic 76, 3) := by decide +kernel
theorem dX7_told_9 : decode cX7_told 9 = .ok (.ifCond .eq 15, 3) := by decide +kernel
theorem dX7_told_12 : decode cX7_told 12 = .ok (.iload_n 1, 1) := by decide +kernel
theorem dX7_told_13 : decode cX7_told 13 = .ok (.iconst 2, 1) := by decide +kernel
theorem dX7_told_14 : decode cX7_told 14 = .ok (.if_icmp .le 14, 3) := by decide +kernel
theorem dX7_told_17 : decode cX7_told 17 = .ok (.aload_n 0, 1) := by decide +kernel
theorem dX7_told_18 : decode cX7_told 18 = .ok (.getfield 72, 3) := by decide +kernel
theorem dX7_told_21 : decode cX7_told 21 = .ok (.ifCond .ne 7, 3) := by decide +kernel
theorem dX7_told_24 : decode cX7_told 24 = .ok (.ldc2_w 251, 3) := by decide +kernel
theorem dX7_told_27 : decode cX7_told 27 = .ok (.lreturn, 1) := by decide +kernel
theorem dX7_told_28 : decode cX7_told 28 = .ok (.iload_n 1, 1) := by decide +kernel
theorem dX7_told_29 : decode cX7_told 29 = .ok (.tableswitch 177 0 11 #[63, 69, 75, 81, 87, 102, 131, 137, 143, 150, 157, 171], 63) := by decide +kernel
theorem dX7_told_92 : decode cX7_told 92 = .ok (.aload_n 0, 1) := by decide +kernel
theorem dX7_told_93 : decode cX7_told 93 = .ok (.getfield 72, 3) := by decide +kernel
theorem dX7_told_96 : decode cX7_told 96 = .ok (.i2l, 1) := by decide +kernel
theorem dX7_told_97 : decode cX7_told 97 = .ok (.lreturn, 1) := by decide +kernel
theorem dX7_told_98 : decode cX7_told 98 = .ok (.aload_n 0, 1) := by decide +kernel
theorem dX7_told_99 : decode cX7_told 99 = .ok (.getfield 91, 3) := by decide +kernel
theorem dX7_told_102 : decode cX7_told 102 = .ok (.i2l, 1) := by decide +kernel
theorem dX7_told_103 : decode cX7_told 103 = .ok (.lreturn, 1) := by decide +kernel
theorem dX7_told_104 : decode cX7_told 104 = .ok (.aload_n 0, 1) := by decide +kernel
theorem dX7_told_105 : decode cX7_told 105 = .ok (.getfield 94, 3) := by decide +kernel
theorem dX7_told_108 : decode cX7_told 108 = .ok (.i2l, 1) := by decide +kernel
theorem dX7_told_109 : decode cX7_told 109 = .ok (.lreturn, 1) := by decide +kernel
theorem dX7_told_110 : decode cX7_told 110 = .ok (.aload_n 0, 1) := by decide +kernel
theorem dX7_told_111 : decode cX7_told 111 = .ok (.invokevirtual 240, 3) := by decide +kernel
theorem dX7_told_114 : decode cX7_told 114 = .ok (.i2l, 1) := by decide +kernel
theorem dX7_told_115 : decode cX7_told 115 = .ok (.lreturn, 1) := by decide +kernel
theorem dX7_told_116 : decode cX7_told 116 = .ok (.aload_n 0, 1) := by decide +kernel
theorem dX7_told_117 : decode cX7_told 117 = .ok (.aload_n 0, 1) := by decide +kernel
theorem dX7_told_118 : decode cX7_told 118 = .ok (.getfield 15, 3) := by decide +kernel
theorem dX7_told_121 : decode cX7_told 121 = .ok (.aload_n 0, 1) := by decide +kernel
theorem dX7_told_122 : decode cX7_told 122 = .ok (.getfield 91, 3) := by decide +kernel
theorem dX7_told_125 : decode cX7_told 125 = .ok (.iconst 0, 1) := by decide +kernel
theorem dX7_told_126 : decode cX7_told 126 = .ok (.invokevirtual 236, 3) := by decide +kernel
theorem dX7_told_129 : decode cX7_told 129 = .ok (.i2l, 1) := by decide +kernel
theorem dX7_told_130 : decode cX7_told 130 = .ok (.lreturn, 1) := by decide +kernel
theorem dX7_told_131 : decode cX7_told 131 = .ok (.aload_n 0, 1) := by decide +kernel
theorem dX7_told_132 : decode cX7_told 132 = .ok (.iconst 0, 1) := by decide +kernel
theorem dX7_told_133 : decode cX7_told 133 = .ok (.invokevirtual 253, 3) := by decide +kernel
theorem dX7_told_136 : decode cX7_told 136 = .ok (.aload_n 0, 1) := by decide +kernel
theorem dX7_told_137 : decode cX7_told 137 = .ok (.iconst 1, 1) := by decide +kernel
theorem dX7_told_138 : decode cX7_told 138 = .ok (.iconst 2, 1) := by decide +kernel
theorem dX7_told_139 : decode cX7_told 139 = .ok (.invokevirtual 259, 3) := by decide +kernel
theorem dX7_told_142 : decode cX7_told 142 = .ok (.iadd, 1) := by decide +kernel
theorem dX7_told_143 : decode cX7_told 143 = .ok (.aload_n 0, 1) := by decide +kernel
theorem dX7_told_144 : decode cX7_told 144 = .ok (.iconst 2, 1) := by decide +kernel
theorem dX7_told_145 : decode cX7_told 145 = .ok (.invokevirtual 253, 3) := by decide +kernel
theorem dX7_told_148 : decode cX7_told 148 = .ok (.aload_n 0, 1) := by decide +kernel
theorem dX7_told_149 : decode cX7_told 149 = .ok (.iconst 0, 1) := by decide +kernel
theorem dX7_told_150 : decode cX7_told 150 = .ok (.iconst 1, 1) := by decide +kernel
theorem dX7_told_151 : decode cX7_told 151 = .ok (.invokevirtual 259, 3) := by decide +kernel
theorem dX7_told_154 : decode cX7_told 154 = .ok (.iadd, 1) := by decide +kernel
theorem dX7_told_155 : decode cX7_told 155 = .ok (.invokestatic 200, 3) := by decide +kernel
theorem dX7_told_158 : decode cX7_told 158 = .ok (.i2l, 1) := by decide +kernel
theorem dX7_told_159 : decode cX7_told 159 = .ok (.lreturn, 1) := by decide +kernel
theorem dX7_told_160 : decode cX7_told 160 = .ok (.aload_n 0, 1) := by decide +kernel
theorem dX7_told_161 : decode cX7_told 161 = .ok (.invokevirtual 264, 3) := by decide +kernel
theorem dX7_told_164 : decode cX7_told 164 = .ok (.i2l, 1) := by decide +kernel
theorem dX7_told_165 : decode cX7_told 165 = .ok (.lreturn, 1) := by decide +kernel
theorem dX7_told_166 : decode cX7_told 166 = .ok (.aload_n 0, 1) := by decide +kernel
theorem dX7_told_167 : decode cX7_told 167 = .ok (.invokevirtual 267, 3) := by decide +kernel
theorem dX7_told_170 : decode cX7_told 170 = .ok (.i2l, 1) := by decide +kernel
theorem dX7_told_171 : decode cX7_told 171 = .ok (.lreturn, 1) := by decide +kernel
theorem dX7_told_172 : decode cX7_told 172 = .ok (.aload_n 0, 1) := by decide +kernel
theorem dX7_told_173 : decode cX7_told 173 = .ok (.iconst (-1), 1) := by decide +kernel
theorem dX7_told_174 : decode cX7_told 174 = .ok (.invokevirtual 270, 3) := by decide +kernel
theorem dX7_told_177 : decode cX7_told 177 = .ok (.i2l, 1) := by decide +kernel
theorem dX7_told_178 : decode cX7_told 178 = .ok (.lreturn, 1) := by decide +kernel
theorem dX7_told_179 : decode cX7_told 179 = .ok (.aload_n 0, 1) := by decide +kernel
theorem dX7_told_180 : decode cX7_told 180 = .ok (.iconst 0, 1) := by decide +kernel
theorem dX7_told_181 : decode cX7_told 181 = .ok (.invokevirtual 270, 3) := by decide +kernel
theorem dX7_told_184 : decode cX7_told 184 = .ok (.i2l, 1) := by decide +kernel
theorem dX7_told_185 : decode cX7_told 185 = .ok (.lreturn, 1) := by decide +kernel
theorem dX7_told_186 : decode cX7_told 186 = .ok (.aload_n 0, 1) := by decide +kernel
theorem dX7_told_187 : decode cX7_told 187 = .ok (.iconst (-1), 1) := by decide +kernel
theorem dX7_told_188 : decode cX7_told 188 = .ok (.invokevirtual 270, 3) := by decide +kernel
theorem dX7_told_191 : decode cX7_told 191 = .ok (.ifCond .ne 7, 3) := by decide +kernel
theorem dX7_told_194 : decode cX7_told 194 = .ok (.lconst 1, 1) := by decide +kernel
theorem dX7_told_195 : decode cX7_told 195 = .ok (.goto 4, 3) := by decide +kernel
theorem dX7_told_198 : decode cX7_told 198 = .ok (.lconst 0, 1) := by decide +kernel
theorem dX7_told_199 : decode cX7_told 199 = .ok (.lreturn, 1) := by decide +kernel
theorem dX7_told_200 : decode cX7_told 200 = .ok (.aload_n 0, 1) := by decide +kernel
theorem dX7_told_201 : decode cX7_told 201 = .ok (.invokevirtual 273, 3) := by decide +kernel
theorem dX7_told_204 : decode cX7_told 204 = .ok (.i2l, 1) := by decide +kernel
theorem dX7_told_205 : decode cX7_told 205 = .ok (.lreturn, 1) := by decide +kernel
theorem dX7_told_206 : decode cX7_told 206 = .ok (.aload_n 0, 1) := by decide +kernel
theorem dX7_told_207 : decode cX7_told 207 = .ok (.invokevirtual 276, 3) := by decide +kernel
theorem dX7_told_210 : decode cX7_told 210 = .ok (.i2l, 1) := by decide +kernel
theorem dX7_told_211 : decode cX7_told 211 = .ok (.lreturn, 1) := by decide +kernel
theorem dX7_would_0 : decode cX7_would 0 = .ok (.aload_n 0, 1) := by decide +kernel
theorem dX7_would_1 : decode cX7_would 1 = .ok (.iload_n 1, 1) := by decide +kernel
theorem dX7_would_2 : decode cX7_would 2 = .ok (.invokevirtual 229, 3) := by decide +kernel
theorem dX7_would_5 : decode cX7_would 5 = .ok (.ifCond .eq 15, 3) := by decide +kernel
theorem dX7_would_8 : decode cX7_would 8 = .ok (.aload_n 0, 1) := by decide +kernel
theorem dX7_would_9 : decode cX7_would 9 = .ok (.iload_n 1, 1) := by decide +kernel
theorem dX7_would_10 : decode cX7_would 10 = .ok (.iload_n 1, 1) := by decide +kernel
theorem dX7_would_11 : decode cX7_would 11 = .ok (.iconst 1, 1) := by decide +kernel
theorem dX7_would_12 : decode cX7_would 12 = .ok (.iadd, 1) := by decide +kernel
theorem dX7_would_13 : decode cX7_would 13 = .ok (.invokevirtual 243, 3) := by decide +kernel
theorem dX7_would_16 : decode cX7_would 16 = .ok (.i2l, 1) := by decide +kernel
theorem dX7_would_17 : decode cX7_would 17 = .ok (.goto 6, 3) := by decide +kernel
theorem dX7_would_20 : decode cX7_would 20 = .ok (.ldc2_w 251, 3) := by decide +kernel
theorem dX7_would_23 : decode cX7_would 23 = .ok (.lreturn, 1) := by decide +kernel
theorem dX7_ruled_0 : decode cX7_ruled 0 = .ok (.iload_n 1, 1) := by decide +kernel
theorem dX7_ruled_1 : decode cX7_ruled 1 = .ok (.i2l, 1) := by decide +kernel
theorem dX7_ruled_2 : decode cX7_ruled 2 = .ok (.lconst 0, 1) := by decide +kernel
theorem dX7_ruled_3 : decode cX7_ruled 3 = .ok (.ldc2_w 219, 3) := by decide +kernel
theorem dX7_ruled_6 : decode cX7_ruled 6 = .ok (.invokestatic 76, 3) := by decide +kernel
theorem dX7_ruled_9 : decode cX7_ruled 9 = .ok (.ifCond .eq 11, 3) := by decide +kernel
theorem dX7_ruled_12 : decode cX7_ruled 12 = .ok (.aload_n 0, 1) := by decide +kernel
theorem dX7_ruled_13 : decode cX7_ruled 13 = .ok (.iload_n 2, 1) := by decide +kernel
theorem dX7_ruled_14 : decode cX7_ruled 14 = .ok (.invokevirtual 119, 3) := by decide +kernel
theorem dX7_ruled_17 : decode cX7_ruled 17 = .ok (.ifCond .ne 5, 3) := by decide +kernel
theorem dX7_ruled_20 : decode cX7_ruled 20 = .ok (.iconst (-1), 1) := by decide +kernel
theorem dX7_ruled_21 : decode cX7_ruled 21 = .ok (.ireturn, 1) := by decide +kernel
theorem dX7_ruled_22 : decode cX7_ruled 22 = .ok (.aload_n 0, 1) := by decide +kernel
theorem dX7_ruled_23 : decode cX7_ruled 23 = .ok (.iload_n 1, 1) := by decide +kernel
theorem dX7_ruled_24 : decode cX7_ruled 24 = .ok (.aload_n 0, 1) := by decide +kernel
theorem dX7_ruled_25 : decode cX7_ruled 25 = .ok (.getfield 45, 3) := by decide +kernel
theorem dX7_ruled_28 : decode cX7_ruled 28 = .ok (.invokevirtual 221, 3) := by decide +kernel
theorem dX7_ruled_31 : decode cX7_ruled 31 = .ok (.aload_n 0, 1) := by decide +kernel
theorem dX7_ruled_32 : decode cX7_ruled 32 = .ok (.getfield 45, 3) := by decide +kernel
theorem dX7_ruled_35 : decode cX7_ruled 35 = .ok (.iload_n 2, 1) := by decide +kernel
theorem dX7_ruled_36 : decode cX7_ruled 36 = .ok (.iaload, 1) := by decide +kernel
theorem dX7_ruled_37 : decode cX7_ruled 37 = .ok (.ireturn, 1) := by decide +kernel
theorem dX7_cost_0 : decode cX7_cost 0 = .ok (.iload_n 1, 1) := by decide +kernel
theorem dX7_cost_1 : decode cX7_cost 1 = .ok (.i2l, 1) := by decide +kernel
theorem dX7_cost_2 : decode cX7_cost 2 = .ok (.lconst 0, 1) := by decide +kernel
theorem dX7_cost_3 : decode cX7_cost 3 = .ok (.ldc2_w 219, 3) := by decide +kernel
theorem dX7_cost_6 : decode cX7_cost 6 = .ok (.invokestatic 76, 3) := by decide +kernel
theorem dX7_cost_9 : decode cX7_cost 9 = .ok (.ifCond .eq 34, 3) := by decide +kernel
theorem dX7_cost_12 : decode cX7_cost 12 = .ok (.iload_n 2, 1) := by decide +kernel
theorem dX7_cost_13 : decode cX7_cost 13 = .ok (.i2l, 1) := by decide +kernel
theorem dX7_cost_14 : decode cX7_cost 14 = .ok (.lconst 0, 1) := by decide +kernel
theorem dX7_cost_15 : decode cX7_cost 15 = .ok (.ldc2_w 138, 3) := by decide +kernel
theorem dX7_cost_18 : decode cX7_cost 18 = .ok (.invokestatic 76, 3) := by decide +kernel
theorem dX7_cost_21 : decode cX7_cost 21 = .ok (.ifCond .eq 22, 3) := by decide +kernel
theorem dX7_cost_24 : decode cX7_cost 24 = .ok (.iload_n 3, 1) := by decide +kernel
theorem dX7_cost_25 : decode cX7_cost 25 = .ok (.i2l, 1) := by decide +kernel
theorem dX7_cost_26 : decode cX7_cost 26 = .ok (.lconst 0, 1) := by decide +kernel
theorem dX7_cost_27 : decode cX7_cost 27 = .ok (.ldc2_w 138, 3) := by decide +kernel
theorem dX7_cost_30 : decode cX7_cost 30 = .ok (.invokestatic 76, 3) := by decide +kernel
theorem dX7_cost_33 : decode cX7_cost 33 = .ok (.ifCond .eq 10, 3) := by decide +kernel
theorem dX7_cost_36 : decode cX7_cost 36 = .ok (.aload_n 0, 1) := by decide +kernel
theorem dX7_cost_37 : decode cX7_cost 37 = .ok (.getfield 72, 3) := by decide +kernel
theorem dX7_cost_40 : decode cX7_cost 40 = .ok (.ifCond .ne 7, 3) := by decide +kernel
theorem dX7_cost_43 : decode cX7_cost 43 = .ok (.ldc2_w 251, 3) := by decide +kernel
theorem dX7_cost_46 : decode cX7_cost 46 = .ok (.lreturn, 1) := by decide +kernel
theorem dX7_cost_47 : decode cX7_cost 47 = .ok (.aload_n 0, 1) := by decide +kernel
theorem dX7_cost_48 : decode cX7_cost 48 = .ok (.iload_n 1, 1) := by decide +kernel
theorem dX7_cost_49 : decode cX7_cost 49 = .ok (.aload_n 0, 1) := by decide +kernel
theorem dX7_cost_50 : decode cX7_cost 50 = .ok (.getfield 45, 3) := by decide +kernel
theorem dX7_cost_53 : decode cX7_cost 53 = .ok (.invokevirtual 221, 3) := by decide +kernel
theorem dX7_cost_56 : decode cX7_cost 56 = .ok (.aload_n 0, 1) := by decide +kernel
theorem dX7_cost_57 : decode cX7_cost 57 = .ok (.aload_n 0, 1) := by decide +kernel
theorem dX7_cost_58 : decode cX7_cost 58 = .ok (.getfield 45, 3) := by decide +kernel
theorem dX7_cost_61 : decode cX7_cost 61 = .ok (.iload_n 2, 1) := by decide +kernel
theorem dX7_cost_62 : decode cX7_cost 62 = .ok (.iload_n 3, 1) := by decide +kernel
theorem dX7_cost_63 : decode cX7_cost 63 = .ok (.invokevirtual 236, 3) := by decide +kernel
theorem dX7_cost_66 : decode cX7_cost 66 = .ok (.i2l, 1) := by decide +kernel
theorem dX7_cost_67 : decode cX7_cost 67 = .ok (.lreturn, 1) := by decide +kernel
theorem dX7_turns_0 : decode cX7_turns 0 = .ok (.aload_n 0, 1) := by decide +kernel
theorem dX7_turns_1 : decode cX7_turns 1 = .ok (.getfield 72, 3) := by decide +kernel
theorem dX7_turns_4 : decode cX7_turns 4 = .ok (.iconst 2, 1) := by decide +kernel
theorem dX7_turns_5 : decode cX7_turns 5 = .ok (.isub, 1) := by decide +kernel
theorem dX7_turns_6 : decode cX7_turns 6 = .ok (.istore_n 2, 1) := by decide +kernel
theorem dX7_turns_7 : decode cX7_turns 7 = .ok (.iload_n 2, 1) := by decide +kernel
theorem dX7_turns_8 : decode cX7_turns 8 = .ok (.ifCond .lt 20, 3) := by decide +kernel
theorem dX7_turns_11 : decode cX7_turns 11 = .ok (.aload_n 1, 1) := by decide +kernel
theorem dX7_turns_12 : decode cX7_turns 12 = .ok (.iload_n 2, 1) := by decide +kernel
theorem dX7_turns_13 : decode cX7_turns 13 = .ok (.iaload, 1) := by decide +kernel
theorem dX7_turns_14 : decode cX7_turns 14 = .ok (.aload_n 1, 1) := by decide +kernel
theorem dX7_turns_15 : decode cX7_turns 15 = .ok (.iload_n 2, 1) := by decide +kernel
theorem dX7_turns_16 : decode cX7_turns 16 = .ok (.iconst 1, 1) := by decide +kernel
theorem dX7_turns_17 : decode cX7_turns 17 = .ok (.iadd, 1) := by decide +kernel
theorem dX7_turns_18 : decode cX7_turns 18 = .ok (.iaload, 1) := by decide +kernel
theorem dX7_turns_19 : decode cX7_turns 19 = .ok (.if_icmp .le 9, 3) := by decide +kernel
theorem dX7_turns_22 : decode cX7_turns 22 = .ok (.iinc 2 (-1), 3) := by decide +kernel
theorem dX7_turns_25 : decode cX7_turns 25 = .ok (.goto (-18), 3) := by decide +kernel
theorem dX7_turns_28 : decode cX7_turns 28 = .ok (.iload_n 2, 1) := by decide +kernel
theorem dX7_turns_29 : decode cX7_turns 29 = .ok (.ifCond .ge 5, 3) := by decide +kernel
theorem dX7_turns_32 : decode cX7_turns 32 = .ok (.iconst 0, 1) := by decide +kernel
theorem dX7_turns_33 : decode cX7_turns 33 = .ok (.ireturn, 1) := by decide +kernel
theorem dX7_turns_34 : decode cX7_turns 34 = .ok (.aload_n 0, 1) := by decide +kernel
theorem dX7_turns_35 : decode cX7_turns 35 = .ok (.getfield 72, 3) := by decide +kernel
theorem dX7_turns_38 : decode cX7_turns 38 = .ok (.iconst 1, 1) := by decide +kernel
theorem dX7_turns_39 : decode cX7_turns 39 = .ok (.isub, 1) := by decide +kernel
theorem dX7_turns_40 : decode cX7_turns 40 = .ok (.istore_n 3, 1) := by decide +kernel
theorem dX7_turns_41 : decode cX7_turns 41 = .ok (.aload_n 1, 1) := by decide +kernel
theorem dX7_turns_42 : decode cX7_turns 42 = .ok (.iload_n 3, 1) := by decide +kernel
theorem dX7_turns_43 : decode cX7_turns 43 = .ok (.iaload, 1) := by decide +kernel
theorem dX7_turns_44 : decode cX7_turns 44 = .ok (.aload_n 1, 1) := by decide +kernel
theorem dX7_turns_45 : decode cX7_turns 45 = .ok (.iload_n 2, 1) := by decide +kernel
theorem dX7_turns_46 : decode cX7_turns 46 = .ok (.iaload, 1) := by decide +kernel
theorem dX7_turns_47 : decode cX7_turns 47 = .ok (.if_icmp .ge 9, 3) := by decide +kernel
theorem dX7_turns_50 : decode cX7_turns 50 = .ok (.iinc 3 (-1), 3) := by decide +kernel
theorem dX7_turns_53 : decode cX7_turns 53 = .ok (.goto (-12), 3) := by decide +kernel
theorem dX7_turns_56 : decode cX7_turns 56 = .ok (.aload_n 1, 1) := by decide +kernel
theorem dX7_turns_57 : decode cX7_turns 57 = .ok (.iload_n 2, 1) := by decide +kernel
theorem dX7_turns_58 : decode cX7_turns 58 = .ok (.iload_n 3, 1) := by decide +kernel
theorem dX7_turns_59 : decode cX7_turns 59 = .ok (.invokestatic 279, 3) := by decide +kernel
theorem dX7_turns_62 : decode cX7_turns 62 = .ok (.aload_n 0, 1) := by decide +kernel
theorem dX7_turns_63 : decode cX7_turns 63 = .ok (.getfield 72, 3) := by decide +kernel
theorem dX7_turns_66 : decode cX7_turns 66 = .ok (.iconst 1, 1) := by decide +kernel
theorem dX7_turns_67 : decode cX7_turns 67 = .ok (.isub, 1) := by decide +kernel
theorem dX7_turns_68 : decode cX7_turns 68 = .ok (.istore 4, 2) := by decide +kernel
theorem dX7_turns_70 : decode cX7_turns 70 = .ok (.iload_n 2, 1) := by decide +kernel
theorem dX7_turns_71 : decode cX7_turns 71 = .ok (.iconst 1, 1) := by decide +kernel
theorem dX7_turns_72 : decode cX7_turns 72 = .ok (.iadd, 1) := by decide +kernel
theorem dX7_turns_73 : decode cX7_turns 73 = .ok (.istore 5, 2) := by decide +kernel
theorem dX7_turns_75 : decode cX7_turns 75 = .ok (.iload 5, 2) := by decide +kernel

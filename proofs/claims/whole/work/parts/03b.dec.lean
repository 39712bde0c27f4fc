theorem dX5_takeClause_23 : decode cX5_takeClause 23 = .ok (.baload, 1) := by decide +kernel
theorem dX5_takeClause_24 : decode cX5_takeClause 24 = .ok (.iastore, 1) := by decide +kernel
theorem dX5_takeClause_25 : decode cX5_takeClause 25 = .ok (.aload_n 1, 1) := by decide +kernel
theorem dX5_takeClause_26 : decode cX5_takeClause 26 = .ok (.iconst 0, 1) := by decide +kernel
theorem dX5_takeClause_27 : decode cX5_takeClause 27 = .ok (.iaload, 1) := by decide +kernel
theorem dX5_takeClause_28 : decode cX5_takeClause 28 = .ok (.tableswitch 232 97 109 #[214, 232, 132, 178, 232, 232, 232, 232, 232, 68, 232, 232, 214], 68) := by decide +kernel
theorem dX5_takeClause_96 : decode cX5_takeClause 96 = .ok (.aload_n 0, 1) := by decide +kernel
theorem dX5_takeClause_97 : decode cX5_takeClause 97 = .ok (.dup, 1) := by decide +kernel
theorem dX5_takeClause_98 : decode cX5_takeClause 98 = .ok (.getfield 22, 3) := by decide +kernel
theorem dX5_takeClause_101 : decode cX5_takeClause 101 = .ok (.iconst 1, 1) := by decide +kernel
theorem dX5_takeClause_102 : decode cX5_takeClause 102 = .ok (.iadd, 1) := by decide +kernel
theorem dX5_takeClause_103 : decode cX5_takeClause 103 = .ok (.putfield 22, 3) := by decide +kernel
theorem dX5_takeClause_106 : decode cX5_takeClause 106 = .ok (.aload_n 0, 1) := by decide +kernel
theorem dX5_takeClause_107 : decode cX5_takeClause 107 = .ok (.aload_n 1, 1) := by decide +kernel
theorem dX5_takeClause_108 : decode cX5_takeClause 108 = .ok (.iconst 1, 1) := by decide +kernel
theorem dX5_takeClause_109 : decode cX5_takeClause 109 = .ok (.iconst 2, 1) := by decide +kernel
theorem dX5_takeClause_110 : decode cX5_takeClause 110 = .ok (.invokevirtual 36, 3) := by decide +kernel
theorem dX5_takeClause_113 : decode cX5_takeClause 113 = .ok (.ifCond .eq 45, 3) := by decide +kernel
theorem dX5_takeClause_116 : decode cX5_takeClause 116 = .ok (.aload_n 0, 1) := by decide +kernel
theorem dX5_takeClause_117 : decode cX5_takeClause 117 = .ok (.bipush 44, 2) := by decide +kernel
theorem dX5_takeClause_119 : decode cX5_takeClause 119 = .ok (.invokevirtual 32, 3) := by decide +kernel
theorem dX5_takeClause_122 : decode cX5_takeClause 122 = .ok (.ifCond .eq 36, 3) := by decide +kernel
theorem dX5_takeClause_125 : decode cX5_takeClause 125 = .ok (.aload_n 0, 1) := by decide +kernel
theorem dX5_takeClause_126 : decode cX5_takeClause 126 = .ok (.aload_n 1, 1) := by decide +kernel
theorem dX5_takeClause_127 : decode cX5_takeClause 127 = .ok (.iconst 2, 1) := by decide +kernel
theorem dX5_takeClause_128 : decode cX5_takeClause 128 = .ok (.iconst 2, 1) := by decide +kernel
theorem dX5_takeClause_129 : decode cX5_takeClause 129 = .ok (.invokevirtual 36, 3) := by decide +kernel
theorem dX5_takeClause_132 : decode cX5_takeClause 132 = .ok (.ifCond .eq 26, 3) := by decide +kernel
theorem dX5_takeClause_135 : decode cX5_takeClause 135 = .ok (.aload_n 0, 1) := by decide +kernel
theorem dX5_takeClause_136 : decode cX5_takeClause 136 = .ok (.bipush 44, 2) := by decide +kernel
theorem dX5_takeClause_138 : decode cX5_takeClause 138 = .ok (.invokevirtual 32, 3) := by decide +kernel
theorem dX5_takeClause_141 : decode cX5_takeClause 141 = .ok (.ifCond .eq 17, 3) := by decide +kernel
theorem dX5_takeClause_144 : decode cX5_takeClause 144 = .ok (.aload_n 0, 1) := by decide +kernel
theorem dX5_takeClause_145 : decode cX5_takeClause 145 = .ok (.aload_n 1, 1) := by decide +kernel
theorem dX5_takeClause_146 : decode cX5_takeClause 146 = .ok (.iconst 3, 1) := by decide +kernel
theorem dX5_takeClause_147 : decode cX5_takeClause 147 = .ok (.iconst 2, 1) := by decide +kernel
theorem dX5_takeClause_148 : decode cX5_takeClause 148 = .ok (.invokevirtual 36, 3) := by decide +kernel
theorem dX5_takeClause_151 : decode cX5_takeClause 151 = .ok (.ifCond .eq 7, 3) := by decide +kernel
theorem dX5_takeClause_154 : decode cX5_takeClause 154 = .ok (.iconst 1, 1) := by decide +kernel
theorem dX5_takeClause_155 : decode cX5_takeClause 155 = .ok (.goto 4, 3) := by decide +kernel
theorem dX5_takeClause_158 : decode cX5_takeClause 158 = .ok (.iconst 0, 1) := by decide +kernel
theorem dX5_takeClause_159 : decode cX5_takeClause 159 = .ok (.ireturn, 1) := by decide +kernel
theorem dX5_takeClause_160 : decode cX5_takeClause 160 = .ok (.aload_n 0, 1) := by decide +kernel
theorem dX5_takeClause_161 : decode cX5_takeClause 161 = .ok (.dup, 1) := by decide +kernel
theorem dX5_takeClause_162 : decode cX5_takeClause 162 = .ok (.getfield 22, 3) := by decide +kernel
theorem dX5_takeClause_165 : decode cX5_takeClause 165 = .ok (.iconst 1, 1) := by decide +kernel
theorem dX5_takeClause_166 : decode cX5_takeClause 166 = .ok (.iadd, 1) := by decide +kernel
theorem dX5_takeClause_167 : decode cX5_takeClause 167 = .ok (.putfield 22, 3) := by decide +kernel
theorem dX5_takeClause_170 : decode cX5_takeClause 170 = .ok (.aload_n 0, 1) := by decide +kernel
theorem dX5_takeClause_171 : decode cX5_takeClause 171 = .ok (.aload_n 1, 1) := by decide +kernel
theorem dX5_takeClause_172 : decode cX5_takeClause 172 = .ok (.iconst 1, 1) := by decide +kernel
theorem dX5_takeClause_173 : decode cX5_takeClause 173 = .ok (.iconst 1, 1) := by decide +kernel
theorem dX5_takeClause_174 : decode cX5_takeClause 174 = .ok (.invokevirtual 36, 3) := by decide +kernel
theorem dX5_takeClause_177 : decode cX5_takeClause 177 = .ok (.ifCond .eq 27, 3) := by decide +kernel
theorem dX5_takeClause_180 : decode cX5_takeClause 180 = .ok (.aload_n 0, 1) := by decide +kernel
theorem dX5_takeClause_181 : decode cX5_takeClause 181 = .ok (.aload_n 1, 1) := by decide +kernel
theorem dX5_takeClause_182 : decode cX5_takeClause 182 = .ok (.iconst 2, 1) := by decide +kernel
theorem dX5_takeClause_183 : decode cX5_takeClause 183 = .ok (.iconst 1, 1) := by decide +kernel
theorem dX5_takeClause_184 : decode cX5_takeClause 184 = .ok (.invokevirtual 36, 3) := by decide +kernel
theorem dX5_takeClause_187 : decode cX5_takeClause 187 = .ok (.ifCond .eq 17, 3) := by decide +kernel
theorem dX5_takeClause_190 : decode cX5_takeClause 190 = .ok (.aload_n 0, 1) := by decide +kernel
theorem dX5_takeClause_191 : decode cX5_takeClause 191 = .ok (.aload_n 1, 1) := by decide +kernel
theorem dX5_takeClause_192 : decode cX5_takeClause 192 = .ok (.iconst 3, 1) := by decide +kernel
theorem dX5_takeClause_193 : decode cX5_takeClause 193 = .ok (.iconst 1, 1) := by decide +kernel
theorem dX5_takeClause_194 : decode cX5_takeClause 194 = .ok (.invokevirtual 36, 3) := by decide +kernel
theorem dX5_takeClause_197 : decode cX5_takeClause 197 = .ok (.ifCond .eq 7, 3) := by decide +kernel
theorem dX5_takeClause_200 : decode cX5_takeClause 200 = .ok (.iconst 1, 1) := by decide +kernel
theorem dX5_takeClause_201 : decode cX5_takeClause 201 = .ok (.goto 4, 3) := by decide +kernel
theorem dX5_takeClause_204 : decode cX5_takeClause 204 = .ok (.iconst 0, 1) := by decide +kernel
theorem dX5_takeClause_205 : decode cX5_takeClause 205 = .ok (.ireturn, 1) := by decide +kernel
theorem dX5_takeClause_206 : decode cX5_takeClause 206 = .ok (.aload_n 0, 1) := by decide +kernel
theorem dX5_takeClause_207 : decode cX5_takeClause 207 = .ok (.dup, 1) := by decide +kernel
theorem dX5_takeClause_208 : decode cX5_takeClause 208 = .ok (.getfield 22, 3) := by decide +kernel
theorem dX5_takeClause_211 : decode cX5_takeClause 211 = .ok (.iconst 1, 1) := by decide +kernel
theorem dX5_takeClause_212 : decode cX5_takeClause 212 = .ok (.iadd, 1) := by decide +kernel
theorem dX5_takeClause_213 : decode cX5_takeClause 213 = .ok (.putfield 22, 3) := by decide +kernel
theorem dX5_takeClause_216 : decode cX5_takeClause 216 = .ok (.aload_n 0, 1) := by decide +kernel
theorem dX5_takeClause_217 : decode cX5_takeClause 217 = .ok (.aload_n 1, 1) := by decide +kernel
theorem dX5_takeClause_218 : decode cX5_takeClause 218 = .ok (.iconst 1, 1) := by decide +kernel
theorem dX5_takeClause_219 : decode cX5_takeClause 219 = .ok (.iconst 1, 1) := by decide +kernel
theorem dX5_takeClause_220 : decode cX5_takeClause 220 = .ok (.invokevirtual 36, 3) := by decide +kernel
theorem dX5_takeClause_223 : decode cX5_takeClause 223 = .ok (.ifCond .eq 17, 3) := by decide +kernel
theorem dX5_takeClause_226 : decode cX5_takeClause 226 = .ok (.aload_n 0, 1) := by decide +kernel
theorem dX5_takeClause_227 : decode cX5_takeClause 227 = .ok (.aload_n 1, 1) := by decide +kernel
theorem dX5_takeClause_228 : decode cX5_takeClause 228 = .ok (.iconst 2, 1) := by decide +kernel
theorem dX5_takeClause_229 : decode cX5_takeClause 229 = .ok (.iconst 2, 1) := by decide +kernel
theorem dX5_takeClause_230 : decode cX5_takeClause 230 = .ok (.invokevirtual 36, 3) := by decide +kernel
theorem dX5_takeClause_233 : decode cX5_takeClause 233 = .ok (.ifCond .eq 7, 3) := by decide +kernel
theorem dX5_takeClause_236 : decode cX5_takeClause 236 = .ok (.iconst 1, 1) := by decide +kernel
theorem dX5_takeClause_237 : decode cX5_takeClause 237 = .ok (.goto 4, 3) := by decide +kernel
theorem dX5_takeClause_240 : decode cX5_takeClause 240 = .ok (.iconst 0, 1) := by decide +kernel
theorem dX5_takeClause_241 : decode cX5_takeClause 241 = .ok (.ireturn, 1) := by decide +kernel
theorem dX5_takeClause_242 : decode cX5_takeClause 242 = .ok (.aload_n 0, 1) := by decide +kernel
theorem dX5_takeClause_243 : decode cX5_takeClause 243 = .ok (.dup, 1) := by decide +kernel
theorem dX5_takeClause_244 : decode cX5_takeClause 244 = .ok (.getfield 22, 3) := by decide +kernel
theorem dX5_takeClause_247 : decode cX5_takeClause 247 = .ok (.iconst 1, 1) := by decide +kernel
theorem dX5_takeClause_248 : decode cX5_takeClause 248 = .ok (.iadd, 1) := by decide +kernel
theorem dX5_takeClause_249 : decode cX5_takeClause 249 = .ok (.putfield 22, 3) := by decide +kernel
theorem dX5_takeClause_252 : decode cX5_takeClause 252 = .ok (.aload_n 0, 1) := by decide +kernel
theorem dX5_takeClause_253 : decode cX5_takeClause 253 = .ok (.aload_n 1, 1) := by decide +kernel
theorem dX5_takeClause_254 : decode cX5_takeClause 254 = .ok (.iconst 1, 1) := by decide +kernel
theorem dX5_takeClause_255 : decode cX5_takeClause 255 = .ok (.iconst 1, 1) := by decide +kernel
theorem dX5_takeClause_256 : decode cX5_takeClause 256 = .ok (.invokevirtual 36, 3) := by decide +kernel
theorem dX5_takeClause_259 : decode cX5_takeClause 259 = .ok (.ireturn, 1) := by decide +kernel
theorem dX5_takeClause_260 : decode cX5_takeClause 260 = .ok (.iconst 0, 1) := by decide +kernel
theorem dX5_takeClause_261 : decode cX5_takeClause 261 = .ok (.ireturn, 1) := by decide +kernel
theorem dX5_takeSign_0 : decode cX5_takeSign 0 = .ok (.aload_n 0, 1) := by decide +kernel
theorem dX5_takeSign_1 : decode cX5_takeSign 1 = .ok (.getfield 22, 3) := by decide +kernel
theorem dX5_takeSign_4 : decode cX5_takeSign 4 = .ok (.aload_n 0, 1) := by decide +kernel
theorem dX5_takeSign_5 : decode cX5_takeSign 5 = .ok (.getfield 18, 3) := by decide +kernel
theorem dX5_takeSign_8 : decode cX5_takeSign 8 = .ok (.if_icmp .ge 16, 3) := by decide +kernel
theorem dX5_takeSign_11 : decode cX5_takeSign 11 = .ok (.aload_n 0, 1) := by decide +kernel
theorem dX5_takeSign_12 : decode cX5_takeSign 12 = .ok (.getfield 9, 3) := by decide +kernel
theorem dX5_takeSign_15 : decode cX5_takeSign 15 = .ok (.aload_n 0, 1) := by decide +kernel
theorem dX5_takeSign_16 : decode cX5_takeSign 16 = .ok (.getfield 22, 3) := by decide +kernel
theorem dX5_takeSign_19 : decode cX5_takeSign 19 = .ok (.baload, 1) := by decide +kernel
theorem dX5_takeSign_20 : decode cX5_takeSign 20 = .ok (.iload_n 1, 1) := by decide +kernel
theorem dX5_takeSign_21 : decode cX5_takeSign 21 = .ok (.if_icmp .eq 5, 3) := by decide +kernel
theorem dX5_takeSign_24 : decode cX5_takeSign 24 = .ok (.iconst 0, 1) := by decide +kernel
theorem dX5_takeSign_25 : decode cX5_takeSign 25 = .ok (.ireturn, 1) := by decide +kernel
theorem dX5_takeSign_26 : decode cX5_takeSign 26 = .ok (.aload_n 0, 1) := by decide +kernel
theorem dX5_takeSign_27 : decode cX5_takeSign 27 = .ok (.dup, 1) := by decide +kernel
theorem dX5_takeSign_28 : decode cX5_takeSign 28 = .ok (.getfield 22, 3) := by decide +kernel
theorem dX5_takeSign_31 : decode cX5_takeSign 31 = .ok (.iconst 1, 1) := by decide +kernel
theorem dX5_takeSign_32 : decode cX5_takeSign 32 = .ok (.iadd, 1) := by decide +kernel
theorem dX5_takeSign_33 : decode cX5_takeSign 33 = .ok (.putfield 22, 3) := by decide +kernel
theorem dX5_takeSign_36 : decode cX5_takeSign 36 = .ok (.iconst 1, 1) := by decide +kernel
theorem dX5_takeSign_37 : decode cX5_takeSign 37 = .ok (.ireturn, 1) := by decide +kernel
theorem dX5_takeNumber_0 : decode cX5_takeNumber 0 = .ok (.iconst 0, 1) := by decide +kernel
theorem dX5_takeNumber_1 : decode cX5_takeNumber 1 = .ok (.istore 4, 2) := by decide +kernel
theorem dX5_takeNumber_3 : decode cX5_takeNumber 3 = .ok (.iconst 0, 1) := by decide +kernel
theorem dX5_takeNumber_4 : decode cX5_takeNumber 4 = .ok (.istore 5, 2) := by decide +kernel
theorem dX5_takeNumber_6 : decode cX5_takeNumber 6 = .ok (.iload 4, 2) := by decide +kernel
theorem dX5_takeNumber_8 : decode cX5_takeNumber 8 = .ok (.iload_n 3, 1) := by decide +kernel
theorem dX5_takeNumber_9 : decode cX5_takeNumber 9 = .ok (.if_icmp .ge 78, 3) := by decide +kernel
theorem dX5_takeNumber_12 : decode cX5_takeNumber 12 = .ok (.aload_n 0, 1) := by decide +kernel
theorem dX5_takeNumber_13 : decode cX5_takeNumber 13 = .ok (.getfield 22, 3) := by decide +kernel
theorem dX5_takeNumber_16 : decode cX5_takeNumber 16 = .ok (.aload_n 0, 1) := by decide +kernel
theorem dX5_takeNumber_17 : decode cX5_takeNumber 17 = .ok (.getfield 18, 3) := by decide +kernel
theorem dX5_takeNumber_20 : decode cX5_takeNumber 20 = .ok (.if_icmp .ge 67, 3) := by decide +kernel
theorem dX5_takeNumber_23 : decode cX5_takeNumber 23 = .ok (.aload_n 0, 1) := by decide +kernel
theorem dX5_takeNumber_24 : decode cX5_takeNumber 24 = .ok (.getfield 9, 3) := by decide +kernel
theorem dX5_takeNumber_27 : decode cX5_takeNumber 27 = .ok (.aload_n 0, 1) := by decide +kernel
theorem dX5_takeNumber_28 : decode cX5_takeNumber 28 = .ok (.getfield 22, 3) := by decide +kernel
theorem dX5_takeNumber_31 : decode cX5_takeNumber 31 = .ok (.baload, 1) := by decide +kernel
theorem dX5_takeNumber_32 : decode cX5_takeNumber 32 = .ok (.bipush 48, 2) := by decide +kernel
theorem dX5_takeNumber_34 : decode cX5_takeNumber 34 = .ok (.if_icmp .lt 53, 3) := by decide +kernel
theorem dX5_takeNumber_37 : decode cX5_takeNumber 37 = .ok (.aload_n 0, 1) := by decide +kernel
theorem dX5_takeNumber_38 : decode cX5_takeNumber 38 = .ok (.getfield 9, 3) := by decide +kernel
theorem dX5_takeNumber_41 : decode cX5_takeNumber 41 = .ok (.aload_n 0, 1) := by decide +kernel
theorem dX5_takeNumber_42 : decode cX5_takeNumber 42 = .ok (.getfield 22, 3) := by decide +kernel
theorem dX5_takeNumber_45 : decode cX5_takeNumber 45 = .ok (.baload, 1) := by decide +kernel
theorem dX5_takeNumber_46 : decode cX5_takeNumber 46 = .ok (.bipush 57, 2) := by decide +kernel
theorem dX5_takeNumber_48 : decode cX5_takeNumber 48 = .ok (.if_icmp .gt 39, 3) := by decide +kernel
theorem dX5_takeNumber_51 : decode cX5_takeNumber 51 = .ok (.iload 5, 2) := by decide +kernel
theorem dX5_takeNumber_53 : decode cX5_takeNumber 53 = .ok (.bipush 10, 2) := by decide +kernel
theorem dX5_takeNumber_55 : decode cX5_takeNumber 55 = .ok (.imul, 1) := by decide +kernel
theorem dX5_takeNumber_56 : decode cX5_takeNumber 56 = .ok (.aload_n 0, 1) := by decide +kernel
theorem dX5_takeNumber_57 : decode cX5_takeNumber 57 = .ok (.getfield 9, 3) := by decide +kernel
theorem dX5_takeNumber_60 : decode cX5_takeNumber 60 = .ok (.aload_n 0, 1) := by decide +kernel
theorem dX5_takeNumber_61 : decode cX5_takeNumber 61 = .ok (.getfield 22, 3) := by decide +kernel
theorem dX5_takeNumber_64 : decode cX5_takeNumber 64 = .ok (.baload, 1) := by decide +kernel
theorem dX5_takeNumber_65 : decode cX5_takeNumber 65 = .ok (.iadd, 1) := by decide +kernel
theorem dX5_takeNumber_66 : decode cX5_takeNumber 66 = .ok (.bipush 48, 2) := by decide +kernel
theorem dX5_takeNumber_68 : decode cX5_takeNumber 68 = .ok (.isub, 1) := by decide +kernel
theorem dX5_takeNumber_69 : decode cX5_takeNumber 69 = .ok (.istore 5, 2) := by decide +kernel
theorem dX5_takeNumber_71 : decode cX5_takeNumber 71 = .ok (.aload_n 0, 1) := by decide +kernel
theorem dX5_takeNumber_72 : decode cX5_takeNumber 72 = .ok (.dup, 1) := by decide +kernel
theorem dX5_takeNumber_73 : decode cX5_takeNumber 73 = .ok (.getfield 22, 3) := by decide +kernel
theorem dX5_takeNumber_76 : decode cX5_takeNumber 76 = .ok (.iconst 1, 1) := by decide +kernel
theorem dX5_takeNumber_77 : decode cX5_takeNumber 77 = .ok (.iadd, 1) := by decide +kernel
theorem dX5_takeNumber_78 : decode cX5_takeNumber 78 = .ok (.putfield 22, 3) := by decide +kernel
theorem dX5_takeNumber_81 : decode cX5_takeNumber 81 = .ok (.iinc 4 1, 3) := by decide +kernel
theorem dX5_takeNumber_84 : decode cX5_takeNumber 84 = .ok (.goto (-78), 3) := by decide +kernel
theorem dX5_takeNumber_87 : decode cX5_takeNumber 87 = .ok (.aload_n 1, 1) := by decide +kernel
theorem dX5_takeNumber_88 : decode cX5_takeNumber 88 = .ok (.iload_n 2, 1) := by decide +kernel
theorem dX5_takeNumber_89 : decode cX5_takeNumber 89 = .ok (.iload 5, 2) := by decide +kernel
theorem dX5_takeNumber_91 : decode cX5_takeNumber 91 = .ok (.iastore, 1) := by decide +kernel
theorem dX5_takeNumber_92 : decode cX5_takeNumber 92 = .ok (.iload 4, 2) := by decide +kernel
theorem dX5_takeNumber_94 : decode cX5_takeNumber 94 = .ok (.ifCond .le 7, 3) := by decide +kernel
theorem dX5_takeNumber_97 : decode cX5_takeNumber 97 = .ok (.iconst 1, 1) := by decide +kernel
theorem dX5_takeNumber_98 : decode cX5_takeNumber 98 = .ok (.goto 4, 3) := by decide +kernel
theorem dX5_takeNumber_101 : decode cX5_takeNumber 101 = .ok (.iconst 0, 1) := by decide +kernel
theorem dX5_takeNumber_102 : decode cX5_takeNumber 102 = .ok (.ireturn, 1) := by decide +kernel
theorem dX6_init_0 : decode cX6_init 0 = .ok (.aload_n 0, 1) := by decide +kernel
theorem dX6_init_1 : decode cX6_init 1 = .ok (.invokespecial 3, 3) := by decide +kernel
theorem dX6_init_4 : decode cX6_init 4 = .ok (.aload_n 0, 1) := by decide +kernel
theorem dX6_init_5 : decode cX6_init 5 = .ok (.new 9, 3) := by decide +kernel
theorem dX6_init_8 : decode cX6_init 8 = .ok (.dup, 1) := by decide +kernel
theorem dX6_init_9 : decode cX6_init 9 = .ok (.invokespecial 11, 3) := by decide +kernel
theorem dX6_init_12 : decode cX6_init 12 = .ok (.putfield 12, 3) := by decide +kernel
theorem dX6_init_15 : decode cX6_init 15 = .ok (.aload_n 0, 1) := by decide +kernel
theorem dX6_init_16 : decode cX6_init 16 = .ok (.new 18, 3) := by decide +kernel
theorem dX6_init_19 : decode cX6_init 19 = .ok (.dup, 1) := by decide +kernel
theorem dX6_init_20 : decode cX6_init 20 = .ok (.iconst 5, 1) := by decide +kernel
theorem dX6_init_21 : decode cX6_init 21 = .ok (.invokespecial 20, 3) := by decide +kernel
theorem dX6_init_24 : decode cX6_init 24 = .ok (.putfield 23, 3) := by decide +kernel
theorem dX6_init_27 : decode cX6_init 27 = .ok (.aload_n 0, 1) := by decide +kernel
theorem dX6_init_28 : decode cX6_init 28 = .ok (.new 18, 3) := by decide +kernel
theorem dX6_init_31 : decode cX6_init 31 = .ok (.dup, 1) := by decide +kernel
theorem dX6_init_32 : decode cX6_init 32 = .ok (.bipush 8, 2) := by decide +kernel
theorem dX6_init_34 : decode cX6_init 34 = .ok (.invokespecial 20, 3) := by decide +kernel
theorem dX6_init_37 : decode cX6_init 37 = .ok (.putfield 27, 3) := by decide +kernel
theorem dX6_init_40 : decode cX6_init 40 = .ok (.aload_n 0, 1) := by decide +kernel
theorem dX6_init_41 : decode cX6_init 41 = .ok (.new 18, 3) := by decide +kernel
theorem dX6_init_44 : decode cX6_init 44 = .ok (.dup, 1) := by decide +kernel
theorem dX6_init_45 : decode cX6_init 45 = .ok (.bipush 8, 2) := by decide +kernel
theorem dX6_init_47 : decode cX6_init 47 = .ok (.invokespecial 20, 3) := by decide +kernel
theorem dX6_init_50 : decode cX6_init 50 = .ok (.putfield 30, 3) := by decide +kernel
theorem dX6_init_53 : decode cX6_init 53 = .ok (.aload_n 0, 1) := by decide +kernel
theorem dX6_init_54 : decode cX6_init 54 = .ok (.new 9, 3) := by decide +kernel
theorem dX6_init_57 : decode cX6_init 57 = .ok (.dup, 1) := by decide +kernel
theorem dX6_init_58 : decode cX6_init 58 = .ok (.invokespecial 11, 3) := by decide +kernel
theorem dX6_init_61 : decode cX6_init 61 = .ok (.putfield 33, 3) := by decide +kernel
theorem dX6_init_64 : decode cX6_init 64 = .ok (.aload_n 0, 1) := by decide +kernel
theorem dX6_init_65 : decode cX6_init 65 = .ok (.new 18, 3) := by decide +kernel
theorem dX6_init_68 : decode cX6_init 68 = .ok (.dup, 1) := by decide +kernel
theorem dX6_init_69 : decode cX6_init 69 = .ok (.iconst 5, 1) := by decide +kernel
theorem dX6_init_70 : decode cX6_init 70 = .ok (.invokespecial 20, 3) := by decide +kernel
theorem dX6_init_73 : decode cX6_init 73 = .ok (.putfield 36, 3) := by decide +kernel
theorem dX6_init_76 : decode cX6_init 76 = .ok (.aload_n 0, 1) := by decide +kernel
theorem dX6_init_77 : decode cX6_init 77 = .ok (.new 18, 3) := by decide +kernel
theorem dX6_init_80 : decode cX6_init 80 = .ok (.dup, 1) := by decide +kernel
theorem dX6_init_81 : decode cX6_init 81 = .ok (.bipush 8, 2) := by decide +kernel
theorem dX6_init_83 : decode cX6_init 83 = .ok (.invokespecial 20, 3) := by decide +kernel
theorem dX6_init_86 : decode cX6_init 86 = .ok (.putfield 39, 3) := by decide +kernel
theorem dX6_init_89 : decode cX6_init 89 = .ok (.aload_n 0, 1) := by decide +kernel
theorem dX6_init_90 : decode cX6_init 90 = .ok (.new 18, 3) := by decide +kernel
theorem dX6_init_93 : decode cX6_init 93 = .ok (.dup, 1) := by decide +kernel
theorem dX6_init_94 : decode cX6_init 94 = .ok (.bipush 8, 2) := by decide +kernel
theorem dX6_init_96 : decode cX6_init 96 = .ok (.invokespecial 20, 3) := by decide +kernel
theorem dX6_init_99 : decode cX6_init 99 = .ok (.putfield 42, 3) := by decide +kernel
theorem dX6_init_102 : decode cX6_init 102 = .ok (.aload_n 0, 1) := by decide +kernel
theorem dX6_init_103 : decode cX6_init 103 = .ok (.new 9, 3) := by decide +kernel
theorem dX6_init_106 : decode cX6_init 106 = .ok (.dup, 1) := by decide +kernel
theorem dX6_init_107 : decode cX6_init 107 = .ok (.invokespecial 11, 3) := by decide +kernel
theorem dX6_init_110 : decode cX6_init 110 = .ok (.putfield 45, 3) := by decide +kernel
theorem dX6_init_113 : decode cX6_init 113 = .ok (.aload_n 0, 1) := by decide +kernel
theorem dX6_init_114 : decode cX6_init 114 = .ok (.bipush 6, 2) := by decide +kernel
theorem dX6_init_116 : decode cX6_init 116 = .ok (.newarray .int, 2) := by decide +kernel
theorem dX6_init_118 : decode cX6_init 118 = .ok (.putfield 48, 3) := by decide +kernel
theorem dX6_init_121 : decode cX6_init 121 = .ok (.aload_n 0, 1) := by decide +kernel
theorem dX6_init_122 : decode cX6_init 122 = .ok (.new 52, 3) := by decide +kernel
theorem dX6_init_125 : decode cX6_init 125 = .ok (.dup, 1) := by decide +kernel
theorem dX6_init_126 : decode cX6_init 126 = .ok (.invokespecial 54, 3) := by decide +kernel
theorem dX6_init_129 : decode cX6_init 129 = .ok (.putfield 55, 3) := by decide +kernel
theorem dX6_init_132 : decode cX6_init 132 = .ok (.aload_n 0, 1) := by decide +kernel
theorem dX6_init_133 : decode cX6_init 133 = .ok (.new 59, 3) := by decide +kernel
theorem dX6_init_136 : decode cX6_init 136 = .ok (.dup, 1) := by decide +kernel
theorem dX6_init_137 : decode cX6_init 137 = .ok (.invokespecial 61, 3) := by decide +kernel
theorem dX6_init_140 : decode cX6_init 140 = .ok (.putfield 62, 3) := by decide +kernel
theorem dX6_init_143 : decode cX6_init 143 = .ok (.aload_n 0, 1) := by decide +kernel
theorem dX6_init_144 : decode cX6_init 144 = .ok (.new 66, 3) := by decide +kernel
theorem dX6_init_147 : decode cX6_init 147 = .ok (.dup, 1) := by decide +kernel
theorem dX6_init_148 : decode cX6_init 148 = .ok (.invokespecial 68, 3) := by decide +kernel
theorem dX6_init_151 : decode cX6_init 151 = .ok (.putfield 69, 3) := by decide +kernel
theorem dX6_init_154 : decode cX6_init 154 = .ok (.aload_n 0, 1) := by decide +kernel
theorem dX6_init_155 : decode cX6_init 155 = .ok (.bipush 6, 2) := by decide +kernel
theorem dX6_init_157 : decode cX6_init 157 = .ok (.anewarray 73, 3) := by decide +kernel
theorem dX6_init_160 : decode cX6_init 160 = .ok (.putfield 75, 3) := by decide +kernel
theorem dX6_init_163 : decode cX6_init 163 = .ok (.iconst 0, 1) := by decide +kernel
theorem dX6_init_164 : decode cX6_init 164 = .ok (.istore_n 1, 1) := by decide +kernel
theorem dX6_init_165 : decode cX6_init 165 = .ok (.iload_n 1, 1) := by decide +kernel
theorem dX6_init_166 : decode cX6_init 166 = .ok (.bipush 6, 2) := by decide +kernel
theorem dX6_init_168 : decode cX6_init 168 = .ok (.if_icmp .ge 22, 3) := by decide +kernel
theorem dX6_init_171 : decode cX6_init 171 = .ok (.aload_n 0, 1) := by decide +kernel
theorem dX6_init_172 : decode cX6_init 172 = .ok (.getfield 75, 3) := by decide +kernel
theorem dX6_init_175 : decode cX6_init 175 = .ok (.iload_n 1, 1) := by decide +kernel
theorem dX6_init_176 : decode cX6_init 176 = .ok (.new 73, 3) := by decide +kernel
theorem dX6_init_179 : decode cX6_init 179 = .ok (.dup, 1) := by decide +kernel
theorem dX6_init_180 : decode cX6_init 180 = .ok (.invokespecial 79, 3) := by decide +kernel
theorem dX6_init_183 : decode cX6_init 183 = .ok (.aastore, 1) := by decide +kernel
theorem dX6_init_184 : decode cX6_init 184 = .ok (.iinc 1 1, 3) := by decide +kernel
theorem dX6_init_187 : decode cX6_init 187 = .ok (.goto (-22), 3) := by decide +kernel
theorem dX6_init_190 : decode cX6_init 190 = .ok (.return_, 1) := by decide +kernel
theorem dX6_job_0 : decode cX6_job 0 = .ok (.iload_n 1, 1) := by decide +kernel
theorem dX6_job_1 : decode cX6_job 1 = .ok (.iconst 0, 1) := by decide +kernel
theorem dX6_job_2 : decode cX6_job 2 = .ok (.invokestatic 80, 3) := by decide +kernel
theorem dX6_job_5 : decode cX6_job 5 = .ok (.ifCond .eq 19, 3) := by decide +kernel
theorem dX6_job_8 : decode cX6_job 8 = .ok (.iload_n 2, 1) := by decide +kernel
theorem dX6_job_9 : decode cX6_job 9 = .ok (.iconst 1, 1) := by decide +kernel
theorem dX6_job_10 : decode cX6_job 10 = .ok (.invokestatic 80, 3) := by decide +kernel
theorem dX6_job_13 : decode cX6_job 13 = .ok (.ifCond .eq 11, 3) := by decide +kernel
theorem dX6_job_16 : decode cX6_job 16 = .ok (.iload_n 3, 1) := by decide +kernel
theorem dX6_job_17 : decode cX6_job 17 = .ok (.iconst 2, 1) := by decide +kernel
theorem dX6_job_18 : decode cX6_job 18 = .ok (.invokestatic 80, 3) := by decide +kernel
theorem dX6_job_21 : decode cX6_job 21 = .ok (.ifCond .ne 6, 3) := by decide +kernel
theorem dX6_job_24 : decode cX6_job 24 = .ok (.bipush (-2), 2) := by decide +kernel
theorem dX6_job_26 : decode cX6_job 26 = .ok (.ireturn, 1) := by decide +kernel
theorem dX6_job_27 : decode cX6_job 27 = .ok (.aload_n 0, 1) := by decide +kernel
theorem dX6_job_28 : decode cX6_job 28 = .ok (.getfield 12, 3) := by decide +kernel
theorem dX6_job_31 : decode cX6_job 31 = .ok (.getfield 84, 3) := by decide +kernel
theorem dX6_job_34 : decode cX6_job 34 = .ok (.bipush 6, 2) := by decide +kernel
theorem dX6_job_36 : decode cX6_job 36 = .ok (.if_icmp .lt 8, 3) := by decide +kernel
theorem dX6_job_39 : decode cX6_job 39 = .ok (.bipush (-4), 2) := by decide +kernel
theorem dX6_job_41 : decode cX6_job 41 = .ok (.goto 13, 3) := by decide +kernel
theorem dX6_job_44 : decode cX6_job 44 = .ok (.aload_n 0, 1) := by decide +kernel
theorem dX6_job_45 : decode cX6_job 45 = .ok (.getfield 12, 3) := by decide +kernel
theorem dX6_job_48 : decode cX6_job 48 = .ok (.iload_n 1, 1) := by decide +kernel
theorem dX6_job_49 : decode cX6_job 49 = .ok (.iload_n 2, 1) := by decide +kernel
theorem dX6_job_50 : decode cX6_job 50 = .ok (.iload_n 3, 1) := by decide +kernel
theorem dX6_job_51 : decode cX6_job 51 = .ok (.invokevirtual 88, 3) := by decide +kernel
theorem dX6_job_54 : decode cX6_job 54 = .ok (.ireturn, 1) := by decide +kernel
theorem dX6_renew_0 : decode cX6_renew 0 = .ok (.aload_n 0, 1) := by decide +kernel
theorem dX6_renew_1 : decode cX6_renew 1 = .ok (.getfield 12, 3) := by decide +kernel
theorem dX6_renew_4 : decode cX6_renew 4 = .ok (.iload_n 1, 1) := by decide +kernel
theorem dX6_renew_5 : decode cX6_renew 5 = .ok (.invokevirtual 92, 3) := by decide +kernel
theorem dX6_renew_8 : decode cX6_renew 8 = .ok (.ifCond .eq 12, 3) := by decide +kernel
theorem dX6_renew_11 : decode cX6_renew 11 = .ok (.iload_n 2, 1) := by decide +kernel
theorem dX6_renew_12 : decode cX6_renew 12 = .ok (.bipush 6, 2) := by decide +kernel
theorem dX6_renew_14 : decode cX6_renew 14 = .ok (.invokestatic 96, 3) := by decide +kernel
theorem dX6_renew_17 : decode cX6_renew 17 = .ok (.ifCond .ne 5, 3) := by decide +kernel
theorem dX6_renew_20 : decode cX6_renew 20 = .ok (.iconst (-1), 1) := by decide +kernel
theorem dX6_renew_21 : decode cX6_renew 21 = .ok (.ireturn, 1) := by decide +kernel
theorem dX6_renew_22 : decode cX6_renew 22 = .ok (.iload_n 3, 1) := by decide +kernel
theorem dX6_renew_23 : decode cX6_renew 23 = .ok (.iload_n 2, 1) := by decide +kernel
theorem dX6_renew_24 : decode cX6_renew 24 = .ok (.invokestatic 80, 3) := by decide +kernel
theorem dX6_renew_27 : decode cX6_renew 27 = .ok (.ifCond .ne 6, 3) := by decide +kernel
theorem dX6_renew_30 : decode cX6_renew 30 = .ok (.bipush (-2), 2) := by decide +kernel
theorem dX6_renew_32 : decode cX6_renew 32 = .ok (.ireturn, 1) := by decide +kernel
theorem dX6_renew_33 : decode cX6_renew 33 = .ok (.aload_n 0, 1) := by decide +kernel
theorem dX6_renew_34 : decode cX6_renew 34 = .ok (.getfield 12, 3) := by decide +kernel
theorem dX6_renew_37 : decode cX6_renew 37 = .ok (.getfield 99, 3) := by decide +kernel
theorem dX6_renew_40 : decode cX6_renew 40 = .ok (.iload_n 1, 1) := by decide +kernel
theorem dX6_renew_41 : decode cX6_renew 41 = .ok (.aaload, 1) := by decide +kernel
theorem dX6_renew_42 : decode cX6_renew 42 = .ok (.iload_n 2, 1) := by decide +kernel
theorem dX6_renew_43 : decode cX6_renew 43 = .ok (.iaload, 1) := by decide +kernel
theorem dX6_renew_44 : decode cX6_renew 44 = .ok (.istore 4, 2) := by decide +kernel
theorem dX6_renew_46 : decode cX6_renew 46 = .ok (.aload_n 0, 1) := by decide +kernel
theorem dX6_renew_47 : decode cX6_renew 47 = .ok (.getfield 12, 3) := by decide +kernel
theorem dX6_renew_50 : decode cX6_renew 50 = .ok (.getfield 99, 3) := by decide +kernel
theorem dX6_renew_53 : decode cX6_renew 53 = .ok (.iload_n 1, 1) := by decide +kernel
theorem dX6_renew_54 : decode cX6_renew 54 = .ok (.aaload, 1) := by decide +kernel
theorem dX6_renew_55 : decode cX6_renew 55 = .ok (.iload_n 2, 1) := by decide +kernel
theorem dX6_renew_56 : decode cX6_renew 56 = .ok (.iload_n 3, 1) := by decide +kernel
theorem dX6_renew_57 : decode cX6_renew 57 = .ok (.iastore, 1) := by decide +kernel
theorem dX6_renew_58 : decode cX6_renew 58 = .ok (.iload 4, 2) := by decide +kernel
theorem dX6_renew_60 : decode cX6_renew 60 = .ok (.ireturn, 1) := by decide +kernel
theorem dX6_of_0 : decode cX6_of 0 = .ok (.aload_n 0, 1) := by decide +kernel
theorem dX6_of_1 : decode cX6_of 1 = .ok (.getfield 12, 3) := by decide +kernel
theorem dX6_of_4 : decode cX6_of 4 = .ok (.iload_n 1, 1) := by decide +kernel
theorem dX6_of_5 : decode cX6_of 5 = .ok (.invokevirtual 92, 3) := by decide +kernel
theorem dX6_of_8 : decode cX6_of 8 = .ok (.ifCond .ne 5, 3) := by decide +kernel
theorem dX6_of_11 : decode cX6_of 11 = .ok (.iconst (-1), 1) := by decide +kernel
theorem dX6_of_12 : decode cX6_of 12 = .ok (.ireturn, 1) := by decide +kernel
theorem dX6_of_13 : decode cX6_of 13 = .ok (.iload_n 2, 1) := by decide +kernel
theorem dX6_of_14 : decode cX6_of 14 = .ok (.bipush 6, 2) := by decide +kernel
theorem dX6_of_16 : decode cX6_of 16 = .ok (.if_icmp .ne 12, 3) := by decide +kernel
theorem dX6_of_19 : decode cX6_of 19 = .ok (.aload_n 0, 1) := by decide +kernel
theorem dX6_of_20 : decode cX6_of 20 = .ok (.getfield 12, 3) := by decide +kernel
theorem dX6_of_23 : decode cX6_of 23 = .ok (.iload_n 1, 1) := by decide +kernel
theorem dX6_of_24 : decode cX6_of 24 = .ok (.invokevirtual 103, 3) := by decide +kernel
theorem dX6_of_27 : decode cX6_of 27 = .ok (.ireturn, 1) := by decide +kernel
theorem dX6_of_28 : decode cX6_of 28 = .ok (.iload_n 2, 1) := by decide +kernel
theorem dX6_of_29 : decode cX6_of 29 = .ok (.bipush 6, 2) := by decide +kernel
theorem dX6_of_31 : decode cX6_of 31 = .ok (.invokestatic 96, 3) := by decide +kernel
theorem dX6_of_34 : decode cX6_of 34 = .ok (.ifCond .eq 17, 3) := by decide +kernel
theorem dX6_of_37 : decode cX6_of 37 = .ok (.aload_n 0, 1) := by decide +kernel
theorem dX6_of_38 : decode cX6_of 38 = .ok (.getfield 12, 3) := by decide +kernel
theorem dX6_of_41 : decode cX6_of 41 = .ok (.getfield 99, 3) := by decide +kernel
theorem dX6_of_44 : decode cX6_of 44 = .ok (.iload_n 1, 1) := by decide +kernel
theorem dX6_of_45 : decode cX6_of 45 = .ok (.aaload, 1) := by decide +kernel
theorem dX6_of_46 : decode cX6_of 46 = .ok (.iload_n 2, 1) := by decide +kernel
theorem dX6_of_47 : decode cX6_of 47 = .ok (.iaload, 1) := by decide +kernel
theorem dX6_of_48 : decode cX6_of 48 = .ok (.goto 4, 3) := by decide +kernel
theorem dX6_of_51 : decode cX6_of 51 = .ok (.iconst (-1), 1) := by decide +kernel
theorem dX6_of_52 : decode cX6_of 52 = .ok (.ireturn, 1) := by decide +kernel
theorem dX6_set_0 : decode cX6_set 0 = .ok (.iload_n 1, 1) := by decide +kernel
theorem dX6_set_1 : decode cX6_set 1 = .ok (.iconst 2, 1) := by decide +kernel
theorem dX6_set_2 : decode cX6_set 2 = .ok (.invokestatic 96, 3) := by decide +kernel
theorem dX6_set_5 : decode cX6_set 5 = .ok (.ifCond .ne 5, 3) := by decide +kernel
theorem dX6_set_8 : decode cX6_set 8 = .ok (.iconst (-1), 1) := by decide +kernel
theorem dX6_set_9 : decode cX6_set 9 = .ok (.ireturn, 1) := by decide +kernel
theorem dX6_set_10 : decode cX6_set 10 = .ok (.iload_n 2, 1) := by decide +kernel
theorem dX6_set_11 : decode cX6_set 11 = .ok (.iload_n 1, 1) := by decide +kernel
theorem dX6_set_12 : decode cX6_set 12 = .ok (.ifCond .ne 7, 3) := by decide +kernel
theorem dX6_set_15 : decode cX6_set 15 = .ok (.iconst 3, 1) := by decide +kernel
theorem dX6_set_16 : decode cX6_set 16 = .ok (.goto 4, 3) := by decide +kernel
theorem dX6_set_19 : decode cX6_set 19 = .ok (.iconst 3, 1) := by decide +kernel
theorem dX6_set_20 : decode cX6_set 20 = .ok (.invokestatic 96, 3) := by decide +kernel
theorem dX6_set_23 : decode cX6_set 23 = .ok (.ifCond .ne 6, 3) := by decide +kernel
theorem dX6_set_26 : decode cX6_set 26 = .ok (.bipush (-2), 2) := by decide +kernel
theorem dX6_set_28 : decode cX6_set 28 = .ok (.ireturn, 1) := by decide +kernel
theorem dX6_set_29 : decode cX6_set 29 = .ok (.iload_n 1, 1) := by decide +kernel
theorem dX6_set_30 : decode cX6_set 30 = .ok (.ifCond .ne 13, 3) := by decide +kernel
theorem dX6_set_33 : decode cX6_set 33 = .ok (.aload_n 0, 1) := by decide +kernel
theorem dX6_set_34 : decode cX6_set 34 = .ok (.getfield 12, 3) := by decide +kernel
theorem dX6_set_37 : decode cX6_set 37 = .ok (.getfield 107, 3) := by decide +kernel
theorem dX6_set_40 : decode cX6_set 40 = .ok (.goto 10, 3) := by decide +kernel
theorem dX6_set_43 : decode cX6_set 43 = .ok (.aload_n 0, 1) := by decide +kernel
theorem dX6_set_44 : decode cX6_set 44 = .ok (.getfield 12, 3) := by decide +kernel
theorem dX6_set_47 : decode cX6_set 47 = .ok (.getfield 110, 3) := by decide +kernel
theorem dX6_set_50 : decode cX6_set 50 = .ok (.istore_n 3, 1) := by decide +kernel
theorem dX6_set_51 : decode cX6_set 51 = .ok (.iload_n 1, 1) := by decide +kernel
theorem dX6_set_52 : decode cX6_set 52 = .ok (.ifCond .ne 14, 3) := by decide +kernel
theorem dX6_set_55 : decode cX6_set 55 = .ok (.aload_n 0, 1) := by decide +kernel
theorem dX6_set_56 : decode cX6_set 56 = .ok (.getfield 12, 3) := by decide +kernel
theorem dX6_set_59 : decode cX6_set 59 = .ok (.iload_n 2, 1) := by decide +kernel
theorem dX6_set_60 : decode cX6_set 60 = .ok (.putfield 107, 3) := by decide +kernel
theorem dX6_set_63 : decode cX6_set 63 = .ok (.goto 11, 3) := by decide +kernel
theorem dX6_set_66 : decode cX6_set 66 = .ok (.aload_n 0, 1) := by decide +kernel
theorem dX6_set_67 : decode cX6_set 67 = .ok (.getfield 12, 3) := by decide +kernel
theorem dX6_set_70 : decode cX6_set 70 = .ok (.iload_n 2, 1) := by decide +kernel
theorem dX6_set_71 : decode cX6_set 71 = .ok (.putfield 110, 3) := by decide +kernel
theorem dX6_set_74 : decode cX6_set 74 = .ok (.iload_n 3, 1) := by decide +kernel
theorem dX6_set_75 : decode cX6_set 75 = .ok (.ireturn, 1) := by decide +kernel
theorem dX6_feed_0 : decode cX6_feed 0 = .ok (.iload_n 1, 1) := by decide +kernel
theorem dX6_feed_1 : decode cX6_feed 1 = .ok (.sipush 128, 3) := by decide +kernel
theorem dX6_feed_4 : decode cX6_feed 4 = .ok (.invokestatic 96, 3) := by decide +kernel
theorem dX6_feed_7 : decode cX6_feed 7 = .ok (.ifCond .ne 6, 3) := by decide +kernel
theorem dX6_feed_10 : decode cX6_feed 10 = .ok (.bipush (-2), 2) := by decide +kernel
theorem dX6_feed_12 : decode cX6_feed 12 = .ok (.ireturn, 1) := by decide +kernel
theorem dX6_feed_13 : decode cX6_feed 13 = .ok (.aload_n 0, 1) := by decide +kernel
theorem dX6_feed_14 : decode cX6_feed 14 = .ok (.getfield 69, 3) := by decide +kernel
theorem dX6_feed_17 : decode cX6_feed 17 = .ok (.iload_n 1, 1) := by decide +kernel
theorem dX6_feed_18 : decode cX6_feed 18 = .ok (.invokevirtual 113, 3) := by decide +kernel
theorem dX6_feed_21 : decode cX6_feed 21 = .ok (.ifCond .eq 13, 3) := by decide +kernel
theorem dX6_feed_24 : decode cX6_feed 24 = .ok (.aload_n 0, 1) := by decide +kernel
theorem dX6_feed_25 : decode cX6_feed 25 = .ok (.getfield 69, 3) := by decide +kernel
theorem dX6_feed_28 : decode cX6_feed 28 = .ok (.getfield 116, 3) := by decide +kernel
theorem dX6_feed_31 : decode cX6_feed 31 = .ok (.goto 5, 3) := by decide +kernel
theorem dX6_feed_34 : decode cX6_feed 34 = .ok (.bipush (-4), 2) := by decide +kernel
theorem dX6_feed_36 : decode cX6_feed 36 = .ok (.ireturn, 1) := by decide +kernel
theorem dX6_read_0 : decode cX6_read 0 = .ok (.aload_n 0, 1) := by decide +kernel
theorem dX6_read_1 : decode cX6_read 1 = .ok (.getfield 69, 3) := by decide +kernel
theorem dX6_read_4 : decode cX6_read 4 = .ok (.invokevirtual 119, 3) := by decide +kernel
theorem dX6_read_7 : decode cX6_read 7 = .ok (.istore_n 1, 1) := by decide +kernel
theorem dX6_read_8 : decode cX6_read 8 = .ok (.aload_n 0, 1) := by decide +kernel
theorem dX6_read_9 : decode cX6_read 9 = .ok (.getfield 69, 3) := by decide +kernel
theorem dX6_read_12 : decode cX6_read 12 = .ok (.getfield 123, 3) := by decide +kernel
theorem dX6_read_15 : decode cX6_read 15 = .ok (.istore_n 2, 1) := by decide +kernel
theorem dX6_read_16 : decode cX6_read 16 = .ok (.aload_n 0, 1) := by decide +kernel
theorem dX6_read_17 : decode cX6_read 17 = .ok (.getfield 69, 3) := by decide +kernel
theorem dX6_read_20 : decode cX6_read 20 = .ok (.iconst 0, 1) := by decide +kernel
theorem dX6_read_21 : decode cX6_read 21 = .ok (.putfield 116, 3) := by decide +kernel
theorem dX6_read_24 : decode cX6_read 24 = .ok (.iload_n 1, 1) := by decide +kernel
theorem dX6_read_25 : decode cX6_read 25 = .ok (.ifCond .ne 8, 3) := by decide +kernel
theorem dX6_read_28 : decode cX6_read 28 = .ok (.bipush (-10), 2) := by decide +kernel
theorem dX6_read_30 : decode cX6_read 30 = .ok (.iload_n 2, 1) := by decide +kernel
theorem dX6_read_31 : decode cX6_read 31 = .ok (.isub, 1) := by decide +kernel
theorem dX6_read_32 : decode cX6_read 32 = .ok (.ireturn, 1) := by decide +kernel
theorem dX6_read_33 : decode cX6_read 33 = .ok (.iconst 0, 1) := by decide +kernel
theorem dX6_read_34 : decode cX6_read 34 = .ok (.istore_n 3, 1) := by decide +kernel
theorem dX6_read_35 : decode cX6_read 35 = .ok (.iconst 0, 1) := by decide +kernel
theorem dX6_read_36 : decode cX6_read 36 = .ok (.istore 4, 2) := by decide +kernel
theorem dX6_read_38 : decode cX6_read 38 = .ok (.iload 4, 2) := by decide +kernel
theorem dX6_read_40 : decode cX6_read 40 = .ok (.aload_n 0, 1) := by decide +kernel
theorem dX6_read_41 : decode cX6_read 41 = .ok (.getfield 69, 3) := by decide +kernel
theorem dX6_read_44 : decode cX6_read 44 = .ok (.getfield 126, 3) := by decide +kernel
theorem dX6_read_47 : decode cX6_read 47 = .ok (.if_icmp .ge 29, 3) := by decide +kernel
theorem dX6_read_50 : decode cX6_read 50 = .ok (.aload_n 0, 1) := by decide +kernel
theorem dX6_read_51 : decode cX6_read 51 = .ok (.aload_n 0, 1) := by decide +kernel
theorem dX6_read_52 : decode cX6_read 52 = .ok (.getfield 69, 3) := by decide +kernel
theorem dX6_read_55 : decode cX6_read 55 = .ok (.getfield 129, 3) := by decide +kernel
theorem dX6_read_58 : decode cX6_read 58 = .ok (.iload 4, 2) := by decide +kernel
theorem dX6_read_60 : decode cX6_read 60 = .ok (.aaload, 1) := by decide +kernel
theorem dX6_read_61 : decode cX6_read 61 = .ok (.invokevirtual 132, 3) := by decide +kernel
theorem dX6_read_64 : decode cX6_read 64 = .ok (.ifCond .eq 6, 3) := by decide +kernel
theorem dX6_read_67 : decode cX6_read 67 = .ok (.iinc 3 1, 3) := by decide +kernel
theorem dX6_read_70 : decode cX6_read 70 = .ok (.iinc 4 1, 3) := by decide +kernel
theorem dX6_read_73 : decode cX6_read 73 = .ok (.goto (-35), 3) := by decide +kernel
theorem dX6_read_76 : decode cX6_read 76 = .ok (.iload_n 3, 1) := by decide +kernel
theorem dX6_read_77 : decode cX6_read 77 = .ok (.ireturn, 1) := by decide +kernel
theorem dX6_carryOut_0 : decode cX6_carryOut 0 = .ok (.aload_n 1, 1) := by decide +kernel
theorem dX6_carryOut_1 : decode cX6_carryOut 1 = .ok (.iconst 0, 1) := by decide +kernel
theorem dX6_carryOut_2 : decode cX6_carryOut 2 = .ok (.iaload, 1) := by decide +kernel
theorem dX6_carryOut_3 : decode cX6_carryOut 3 = .ok (.lookupswitch 134 #[(99, 63), (100, 97), (106, 41), (109, 117)], 41) := by decide +kernel
theorem dX6_carryOut_44 : decode cX6_carryOut 44 = .ok (.aload_n 0, 1) := by decide +kernel
theorem dX6_carryOut_45 : decode cX6_carryOut 45 = .ok (.aload_n 1, 1) := by decide +kernel
theorem dX6_carryOut_46 : decode cX6_carryOut 46 = .ok (.iconst 1, 1) := by decide +kernel
theorem dX6_carryOut_47 : decode cX6_carryOut 47 = .ok (.iaload, 1) := by decide +kernel
theorem dX6_carryOut_48 : decode cX6_carryOut 48 = .ok (.aload_n 1, 1) := by decide +kernel
theorem dX6_carryOut_49 : decode cX6_carryOut 49 = .ok (.iconst 2, 1) := by decide +kernel
theorem dX6_carryOut_50 : decode cX6_carryOut 50 = .ok (.iaload, 1) := by decide +kernel
theorem dX6_carryOut_51 : decode cX6_carryOut 51 = .ok (.aload_n 1, 1) := by decide +kernel
theorem dX6_carryOut_52 : decode cX6_carryOut 52 = .ok (.iconst 3, 1) := by decide +kernel
theorem dX6_carryOut_53 : decode cX6_carryOut 53 = .ok (.iaload, 1) := by decide +kernel
theorem dX6_carryOut_54 : decode cX6_carryOut 54 = .ok (.invokevirtual 136, 3) := by decide +kernel
theorem dX6_carryOut_57 : decode cX6_carryOut 57 = .ok (.ifCond .lt 7, 3) := by decide +kernel
theorem dX6_carryOut_60 : decode cX6_carryOut 60 = .ok (.iconst 1, 1) := by decide +kernel
theorem dX6_carryOut_61 : decode cX6_carryOut 61 = .ok (.goto 4, 3) := by decide +kernel
theorem dX6_carryOut_64 : decode cX6_carryOut 64 = .ok (.iconst 0, 1) := by decide +kernel
theorem dX6_carryOut_65 : decode cX6_carryOut 65 = .ok (.ireturn, 1) := by decide +kernel
theorem dX6_carryOut_66 : decode cX6_carryOut 66 = .ok (.aload_n 0, 1) := by decide +kernel
theorem dX6_carryOut_67 : decode cX6_carryOut 67 = .ok (.aload_n 1, 1) := by decide +kernel
theorem dX6_carryOut_68 : decode cX6_carryOut 68 = .ok (.iconst 1, 1) := by decide +kernel
theorem dX6_carryOut_69 : decode cX6_carryOut 69 = .ok (.iaload, 1) := by decide +kernel
theorem dX6_carryOut_70 : decode cX6_carryOut 70 = .ok (.iconst 3, 1) := by decide +kernel
theorem dX6_carryOut_71 : decode cX6_carryOut 71 = .ok (.aload_n 1, 1) := by decide +kernel
theorem dX6_carryOut_72 : decode cX6_carryOut 72 = .ok (.iconst 2, 1) := by decide +kernel
theorem dX6_carryOut_73 : decode cX6_carryOut 73 = .ok (.iaload, 1) := by decide +kernel
theorem dX6_carryOut_74 : decode cX6_carryOut 74 = .ok (.invokevirtual 139, 3) := by decide +kernel
theorem dX6_carryOut_77 : decode cX6_carryOut 77 = .ok (.ifCond .lt 21, 3) := by decide +kernel
theorem dX6_carryOut_80 : decode cX6_carryOut 80 = .ok (.aload_n 0, 1) := by decide +kernel
theorem dX6_carryOut_81 : decode cX6_carryOut 81 = .ok (.aload_n 1, 1) := by decide +kernel
theorem dX6_carryOut_82 : decode cX6_carryOut 82 = .ok (.iconst 1, 1) := by decide +kernel
theorem dX6_carryOut_83 : decode cX6_carryOut 83 = .ok (.iaload, 1) := by decide +kernel
theorem dX6_carryOut_84 : decode cX6_carryOut 84 = .ok (.iconst 4, 1) := by decide +kernel
theorem dX6_carryOut_85 : decode cX6_carryOut 85 = .ok (.aload_n 1, 1) := by decide +kernel
theorem dX6_carryOut_86 : decode cX6_carryOut 86 = .ok (.iconst 3, 1) := by decide +kernel
theorem dX6_carryOut_87 : decode cX6_carryOut 87 = .ok (.iaload, 1) := by decide +kernel
theorem dX6_carryOut_88 : decode cX6_carryOut 88 = .ok (.invokevirtual 139, 3) := by decide +kernel
theorem dX6_carryOut_91 : decode cX6_carryOut 91 = .ok (.ifCond .lt 7, 3) := by decide +kernel
theorem dX6_carryOut_94 : decode cX6_carryOut 94 = .ok (.iconst 1, 1) := by decide +kernel
theorem dX6_carryOut_95 : decode cX6_carryOut 95 = .ok (.goto 4, 3) := by decide +kernel
theorem dX6_carryOut_98 : decode cX6_carryOut 98 = .ok (.iconst 0, 1) := by decide +kernel
theorem dX6_carryOut_99 : decode cX6_carryOut 99 = .ok (.ireturn, 1) := by decide +kernel
theorem dX6_carryOut_100 : decode cX6_carryOut 100 = .ok (.aload_n 0, 1) := by decide +kernel
theorem dX6_carryOut_101 : decode cX6_carryOut 101 = .ok (.aload_n 1, 1) := by decide +kernel
theorem dX6_carryOut_102 : decode cX6_carryOut 102 = .ok (.iconst 1, 1) := by decide +kernel
theorem dX6_carryOut_103 : decode cX6_carryOut 103 = .ok (.iaload, 1) := by decide +kernel
theorem dX6_carryOut_104 : decode cX6_carryOut 104 = .ok (.iconst 5, 1) := by decide +kernel
theorem dX6_carryOut_105 : decode cX6_carryOut 105 = .ok (.aload_n 1, 1) := by decide +kernel
theorem dX6_carryOut_106 : decode cX6_carryOut 106 = .ok (.iconst 2, 1) := by decide +kernel
theorem dX6_carryOut_107 : decode cX6_carryOut 107 = .ok (.iaload, 1) := by decide +kernel
theorem dX6_carryOut_108 : decode cX6_carryOut 108 = .ok (.invokevirtual 139, 3) := by decide +kernel
theorem dX6_carryOut_111 : decode cX6_carryOut 111 = .ok (.ifCond .lt 7, 3) := by decide +kernel
theorem dX6_carryOut_114 : decode cX6_carryOut 114 = .ok (.iconst 1, 1) := by decide +kernel
theorem dX6_carryOut_115 : decode cX6_carryOut 115 = .ok (.goto 4, 3) := by decide +kernel
theorem dX6_carryOut_118 : decode cX6_carryOut 118 = .ok (.iconst 0, 1) := by decide +kernel
theorem dX6_carryOut_119 : decode cX6_carryOut 119 = .ok (.ireturn, 1) := by decide +kernel
theorem dX6_carryOut_120 : decode cX6_carryOut 120 = .ok (.aload_n 0, 1) := by decide +kernel
theorem dX6_carryOut_121 : decode cX6_carryOut 121 = .ok (.iconst 0, 1) := by decide +kernel
theorem dX6_carryOut_122 : decode cX6_carryOut 122 = .ok (.aload_n 1, 1) := by decide +kernel
theorem dX6_carryOut_123 : decode cX6_carryOut 123 = .ok (.iconst 1, 1) := by decide +kernel
theorem dX6_carryOut_124 : decode cX6_carryOut 124 = .ok (.iaload, 1) := by decide +kernel
theorem dX6_carryOut_125 : decode cX6_carryOut 125 = .ok (.invokevirtual 142, 3) := by decide +kernel
theorem dX6_carryOut_128 : decode cX6_carryOut 128 = .ok (.ifCond .lt 7, 3) := by decide +kernel
theorem dX6_carryOut_131 : decode cX6_carryOut 131 = .ok (.iconst 1, 1) := by decide +kernel
theorem dX6_carryOut_132 : decode cX6_carryOut 132 = .ok (.goto 4, 3) := by decide +kernel
theorem dX6_carryOut_135 : decode cX6_carryOut 135 = .ok (.iconst 0, 1) := by decide +kernel
theorem dX6_carryOut_136 : decode cX6_carryOut 136 = .ok (.ireturn, 1) := by decide +kernel
theorem dX6_carryOut_137 : decode cX6_carryOut 137 = .ok (.aload_n 0, 1) := by decide +kernel
theorem dX6_carryOut_138 : decode cX6_carryOut 138 = .ok (.iconst 1, 1) := by decide +kernel
theorem dX6_carryOut_139 : decode cX6_carryOut 139 = .ok (.aload_n 1, 1) := by decide +kernel
theorem dX6_carryOut_140 : decode cX6_carryOut 140 = .ok (.iconst 1, 1) := by decide +kernel
theorem dX6_carryOut_141 : decode cX6_carryOut 141 = .ok (.iaload, 1) := by decide +kernel
theorem dX6_carryOut_142 : decode cX6_carryOut 142 = .ok (.invokevirtual 142, 3) := by decide +kernel
theorem dX6_carryOut_145 : decode cX6_carryOut 145 = .ok (.ifCond .lt 7, 3) := by decide +kernel
theorem dX6_carryOut_148 : decode cX6_carryOut 148 = .ok (.iconst 1, 1) := by decide +kernel
theorem dX6_carryOut_149 : decode cX6_carryOut 149 = .ok (.goto 4, 3) := by decide +kernel
theorem dX6_carryOut_152 : decode cX6_carryOut 152 = .ok (.iconst 0, 1) := by decide +kernel
theorem dX6_carryOut_153 : decode cX6_carryOut 153 = .ok (.ireturn, 1) := by decide +kernel
theorem dX6_plan_0 : decode cX6_plan 0 = .ok (.iload_n 1, 1) := by decide +kernel
theorem dX6_plan_1 : decode cX6_plan 1 = .ok (.iconst 4, 1) := by decide +kernel
theorem dX6_plan_2 : decode cX6_plan 2 = .ok (.invokestatic 96, 3) := by decide +kernel
theorem dX6_plan_5 : decode cX6_plan 5 = .ok (.ifCond .ne 6, 3) := by decide +kernel
theorem dX6_plan_8 : decode cX6_plan 8 = .ok (.bipush (-2), 2) := by decide +kernel
theorem dX6_plan_10 : decode cX6_plan 10 = .ok (.ireturn, 1) := by decide +kernel
theorem dX6_plan_11 : decode cX6_plan 11 = .ok (.aload_n 0, 1) := by decide +kernel
theorem dX6_plan_12 : decode cX6_plan 12 = .ok (.getfield 12, 3) := by decide +kernel
theorem dX6_plan_15 : decode cX6_plan 15 = .ok (.getfield 84, 3) := by decide +kernel
theorem dX6_plan_18 : decode cX6_plan 18 = .ok (.ifCond .ne 6, 3) := by decide +kernel
theorem dX6_plan_21 : decode cX6_plan 21 = .ok (.bipush (-3), 2) := by decide +kernel
theorem dX6_plan_23 : decode cX6_plan 23 = .ok (.ireturn, 1) := by decide +kernel
theorem dX6_plan_24 : decode cX6_plan 24 = .ok (.aload_n 0, 1) := by decide +kernel
theorem dX6_plan_25 : decode cX6_plan 25 = .ok (.getfield 12, 3) := by decide +kernel
theorem dX6_plan_28 : decode cX6_plan 28 = .ok (.iload_n 1, 1) := by decide +kernel
theorem dX6_plan_29 : decode cX6_plan 29 = .ok (.aload_n 0, 1) := by decide +kernel
theorem dX6_plan_30 : decode cX6_plan 30 = .ok (.getfield 48, 3) := by decide +kernel
theorem dX6_plan_33 : decode cX6_plan 33 = .ok (.invokevirtual 146, 3) := by decide +kernel
theorem dX6_plan_36 : decode cX6_plan 36 = .ok (.iconst 0, 1) := by decide +kernel
theorem dX6_plan_37 : decode cX6_plan 37 = .ok (.istore_n 2, 1) := by decide +kernel
theorem dX6_plan_38 : decode cX6_plan 38 = .ok (.iconst 0, 1) := by decide +kernel
theorem dX6_plan_39 : decode cX6_plan 39 = .ok (.istore_n 3, 1) := by decide +kernel
theorem dX6_plan_40 : decode cX6_plan 40 = .ok (.iload_n 3, 1) := by decide +kernel
theorem dX6_plan_41 : decode cX6_plan 41 = .ok (.aload_n 0, 1) := by decide +kernel
theorem dX6_plan_42 : decode cX6_plan 42 = .ok (.getfield 12, 3) := by decide +kernel
theorem dX6_plan_45 : decode cX6_plan 45 = .ok (.getfield 84, 3) := by decide +kernel
theorem dX6_plan_48 : decode cX6_plan 48 = .ok (.if_icmp .ge 45, 3) := by decide +kernel
theorem dX6_plan_51 : decode cX6_plan 51 = .ok (.aload_n 0, 1) := by decide +kernel
theorem dX6_plan_52 : decode cX6_plan 52 = .ok (.getfield 48, 3) := by decide +kernel
theorem dX6_plan_55 : decode cX6_plan 55 = .ok (.iload_n 3, 1) := by decide +kernel
theorem dX6_plan_56 : decode cX6_plan 56 = .ok (.iaload, 1) := by decide +kernel
theorem dX6_plan_57 : decode cX6_plan 57 = .ok (.aload_n 0, 1) := by decide +kernel
theorem dX6_plan_58 : decode cX6_plan 58 = .ok (.getfield 12, 3) := by decide +kernel
theorem dX6_plan_61 : decode cX6_plan 61 = .ok (.getfield 150, 3) := by decide +kernel
theorem dX6_plan_64 : decode cX6_plan 64 = .ok (.iload_n 3, 1) := by decide +kernel
theorem dX6_plan_65 : decode cX6_plan 65 = .ok (.iaload, 1) := by decide +kernel
theorem dX6_plan_66 : decode cX6_plan 66 = .ok (.if_icmp .eq 6, 3) := by decide +kernel
theorem dX6_plan_69 : decode cX6_plan 69 = .ok (.iinc 2 1, 3) := by decide +kernel
theorem dX6_plan_72 : decode cX6_plan 72 = .ok (.aload_n 0, 1) := by decide +kernel
theorem dX6_plan_73 : decode cX6_plan 73 = .ok (.getfield 12, 3) := by decide +kernel
theorem dX6_plan_76 : decode cX6_plan 76 = .ok (.getfield 150, 3) := by decide +kernel
theorem dX6_plan_79 : decode cX6_plan 79 = .ok (.iload_n 3, 1) := by decide +kernel
theorem dX6_plan_80 : decode cX6_plan 80 = .ok (.aload_n 0, 1) := by decide +kernel
theorem dX6_plan_81 : decode cX6_plan 81 = .ok (.getfield 48, 3) := by decide +kernel
theorem dX6_plan_84 : decode cX6_plan 84 = .ok (.iload_n 3, 1) := by decide +kernel
theorem dX6_plan_85 : decode cX6_plan 85 = .ok (.iaload, 1) := by decide +kernel
theorem dX6_plan_86 : decode cX6_plan 86 = .ok (.iastore, 1) := by decide +kernel
theorem dX6_plan_87 : decode cX6_plan 87 = .ok (.iinc 3 1, 3) := by decide +kernel
theorem dX6_plan_90 : decode cX6_plan 90 = .ok (.goto (-50), 3) := by decide +kernel
theorem dX6_plan_93 : decode cX6_plan 93 = .ok (.iload_n 2, 1) := by decide +kernel
theorem dX6_plan_94 : decode cX6_plan 94 = .ok (.ireturn, 1) := by decide +kernel
theorem dX6_move_0 : decode cX6_move 0 = .ok (.aload_n 0, 1) := by decide +kernel
theorem dX6_move_1 : decode cX6_move 1 = .ok (.getfield 12, 3) := by decide +kernel
theorem dX6_move_4 : decode cX6_move 4 = .ok (.iload_n 1, 1) := by decide +kernel
theorem dX6_move_5 : decode cX6_move 5 = .ok (.invokevirtual 92, 3) := by decide +kernel
theorem dX6_move_8 : decode cX6_move 8 = .ok (.ifCond .ne 5, 3) := by decide +kernel
theorem dX6_move_11 : decode cX6_move 11 = .ok (.iconst (-1), 1) := by decide +kernel
theorem dX6_move_12 : decode cX6_move 12 = .ok (.ireturn, 1) := by decide +kernel
theorem dX6_move_13 : decode cX6_move 13 = .ok (.iload_n 2, 1) := by decide +kernel
theorem dX6_move_14 : decode cX6_move 14 = .ok (.aload_n 0, 1) := by decide +kernel
theorem dX6_move_15 : decode cX6_move 15 = .ok (.getfield 12, 3) := by decide +kernel
theorem dX6_move_18 : decode cX6_move 18 = .ok (.getfield 84, 3) := by decide +kernel
theorem dX6_move_21 : decode cX6_move 21 = .ok (.invokestatic 96, 3) := by decide +kernel
theorem dX6_move_24 : decode cX6_move 24 = .ok (.ifCond .ne 6, 3) := by decide +kernel
theorem dX6_move_27 : decode cX6_move 27 = .ok (.bipush (-2), 2) := by decide +kernel
theorem dX6_move_29 : decode cX6_move 29 = .ok (.ireturn, 1) := by decide +kernel
theorem dX6_move_30 : decode cX6_move 30 = .ok (.aload_n 0, 1) := by decide +kernel
theorem dX6_move_31 : decode cX6_move 31 = .ok (.getfield 12, 3) := by decide +kernel
theorem dX6_move_34 : decode cX6_move 34 = .ok (.iload_n 1, 1) := by decide +kernel
theorem dX6_move_35 : decode cX6_move 35 = .ok (.invokevirtual 103, 3) := by decide +kernel
theorem dX6_move_38 : decode cX6_move 38 = .ok (.istore_n 3, 1) := by decide +kernel
theorem dX6_move_39 : decode cX6_move 39 = .ok (.aload_n 0, 1) := by decide +kernel
theorem dX6_move_40 : decode cX6_move 40 = .ok (.getfield 12, 3) := by decide +kernel
theorem dX6_move_43 : decode cX6_move 43 = .ok (.aload_n 0, 1) := by decide +kernel
theorem dX6_move_44 : decode cX6_move 44 = .ok (.getfield 12, 3) := by decide +kernel
theorem dX6_move_47 : decode cX6_move 47 = .ok (.getfield 150, 3) := by decide +kernel
theorem dX6_move_50 : decode cX6_move 50 = .ok (.iload_n 3, 1) := by decide +kernel
theorem dX6_move_51 : decode cX6_move 51 = .ok (.iload_n 2, 1) := by decide +kernel
theorem dX6_move_52 : decode cX6_move 52 = .ok (.invokevirtual 153, 3) := by decide +kernel
theorem dX6_move_55 : decode cX6_move 55 = .ok (.iload_n 3, 1) := by decide +kernel
theorem dX6_move_56 : decode cX6_move 56 = .ok (.ireturn, 1) := by decide +kernel
theorem dX6_swap_0 : decode cX6_swap 0 = .ok (.aload_n 0, 1) := by decide +kernel
theorem dX6_swap_1 : decode cX6_swap 1 = .ok (.iload_n 1, 1) := by decide +kernel
theorem dX6_swap_2 : decode cX6_swap 2 = .ok (.invokevirtual 157, 3) := by decide +kernel
theorem dX6_swap_5 : decode cX6_swap 5 = .ok (.ifCond .ne 5, 3) := by decide +kernel
theorem dX6_swap_8 : decode cX6_swap 8 = .ok (.iconst (-1), 1) := by decide +kernel
theorem dX6_swap_9 : decode cX6_swap 9 = .ok (.ireturn, 1) := by decide +kernel
theorem dX6_swap_10 : decode cX6_swap 10 = .ok (.aload_n 0, 1) := by decide +kernel
theorem dX6_swap_11 : decode cX6_swap 11 = .ok (.getfield 12, 3) := by decide +kernel
theorem dX6_swap_14 : decode cX6_swap 14 = .ok (.aload_n 0, 1) := by decide +kernel
theorem dX6_swap_15 : decode cX6_swap 15 = .ok (.getfield 12, 3) := by decide +kernel
theorem dX6_swap_18 : decode cX6_swap 18 = .ok (.getfield 150, 3) := by decide +kernel
theorem dX6_swap_21 : decode cX6_swap 21 = .ok (.iload_n 1, 1) := by decide +kernel
theorem dX6_swap_22 : decode cX6_swap 22 = .ok (.iload_n 1, 1) := by decide +kernel
theorem dX6_swap_23 : decode cX6_swap 23 = .ok (.iconst 1, 1) := by decide +kernel
theorem dX6_swap_24 : decode cX6_swap 24 = .ok (.iadd, 1) := by decide +kernel
theorem dX6_swap_25 : decode cX6_swap 25 = .ok (.invokevirtual 153, 3) := by decide +kernel
theorem dX6_swap_28 : decode cX6_swap 28 = .ok (.aload_n 0, 1) := by decide +kernel
theorem dX6_swap_29 : decode cX6_swap 29 = .ok (.getfield 12, 3) := by decide +kernel
theorem dX6_swap_32 : decode cX6_swap 32 = .ok (.getfield 150, 3) := by decide +kernel
theorem dX6_swap_35 : decode cX6_swap 35 = .ok (.iload_n 1, 1) := by decide +kernel
theorem dX6_swap_36 : decode cX6_swap 36 = .ok (.iaload, 1) := by decide +kernel
theorem dX6_swap_37 : decode cX6_swap 37 = .ok (.ireturn, 1) := by decide +kernel
theorem dX6_step_0 : decode cX6_step 0 = .ok (.iload_n 1, 1) := by decide +kernel
theorem dX6_step_1 : decode cX6_step 1 = .ok (.iconst 3, 1) := by decide +kernel
theorem dX6_step_2 : decode cX6_step 2 = .ok (.invokestatic 96, 3) := by decide +kernel
theorem dX6_step_5 : decode cX6_step 5 = .ok (.ifCond .eq 13, 3) := by decide +kernel
theorem dX6_step_8 : decode cX6_step 8 = .ok (.iload_n 2, 1) := by decide +kernel
theorem dX6_step_9 : decode cX6_step 9 = .ok (.ifCond .lt 9, 3) := by decide +kernel
theorem dX6_step_12 : decode cX6_step 12 = .ok (.iload_n 2, 1) := by decide +kernel
theorem dX6_step_13 : decode cX6_step 13 = .ok (.bipush 100, 2) := by decide +kernel
theorem dX6_step_15 : decode cX6_step 15 = .ok (.if_icmp .le 6, 3) := by decide +kernel
theorem dX6_step_18 : decode cX6_step 18 = .ok (.bipush (-2), 2) := by decide +kernel
theorem dX6_step_20 : decode cX6_step 20 = .ok (.ireturn, 1) := by decide +kernel
theorem dX6_step_21 : decode cX6_step 21 = .ok (.aload_n 0, 1) := by decide +kernel
theorem dX6_step_22 : decode cX6_step 22 = .ok (.getfield 12, 3) := by decide +kernel
theorem dX6_step_25 : decode cX6_step 25 = .ok (.getfield 84, 3) := by decide +kernel
theorem dX6_step_28 : decode cX6_step 28 = .ok (.ifCond .ne 6, 3) := by decide +kernel
theorem dX6_step_31 : decode cX6_step 31 = .ok (.bipush (-3), 2) := by decide +kernel
theorem dX6_step_33 : decode cX6_step 33 = .ok (.ireturn, 1) := by decide +kernel
theorem dX6_step_34 : decode cX6_step 34 = .ok (.iconst 0, 1) := by decide +kernel
theorem dX6_step_35 : decode cX6_step 35 = .ok (.istore_n 3, 1) := by decide +kernel
theorem dX6_step_36 : decode cX6_step 36 = .ok (.iload_n 3, 1) := by decide +kernel
theorem dX6_step_37 : decode cX6_step 37 = .ok (.iload_n 2, 1) := by decide +kernel
theorem dX6_step_38 : decode cX6_step 38 = .ok (.if_icmp .ge 17, 3) := by decide +kernel
theorem dX6_step_41 : decode cX6_step 41 = .ok (.aload_n 0, 1) := by decide +kernel
theorem dX6_step_42 : decode cX6_step 42 = .ok (.iload_n 1, 1) := by decide +kernel
theorem dX6_step_43 : decode cX6_step 43 = .ok (.invokevirtual 160, 3) := by decide +kernel
theorem dX6_step_46 : decode cX6_step 46 = .ok (.ifCond .eq 9, 3) := by decide +kernel
theorem dX6_step_49 : decode cX6_step 49 = .ok (.iinc 3 1, 3) := by decide +kernel
theorem dX6_step_52 : decode cX6_step 52 = .ok (.goto (-16), 3) := by decide +kernel
theorem dX6_step_55 : decode cX6_step 55 = .ok (.iload_n 3, 1) := by decide +kernel
theorem dX6_step_56 : decode cX6_step 56 = .ok (.ireturn, 1) := by decide +kernel
theorem dX6_takeStep_0 : decode cX6_takeStep 0 = .ok (.aload_n 0, 1) := by decide +kernel
theorem dX6_takeStep_1 : decode cX6_takeStep 1 = .ok (.invokevirtual 163, 3) := by decide +kernel
theorem dX6_takeStep_4 : decode cX6_takeStep 4 = .ok (.istore_n 2, 1) := by decide +kernel
theorem dX6_takeStep_5 : decode cX6_takeStep 5 = .ok (.iconst 0, 1) := by decide +kernel
theorem dX6_takeStep_6 : decode cX6_takeStep 6 = .ok (.istore_n 3, 1) := by decide +kernel
theorem dX6_takeStep_7 : decode cX6_takeStep 7 = .ok (.iconst 0, 1) := by decide +kernel
theorem dX6_takeStep_8 : decode cX6_takeStep 8 = .ok (.istore 4, 2) := by decide +kernel
theorem dX6_takeStep_10 : decode cX6_takeStep 10 = .ok (.iconst 0, 1) := by decide +kernel
theorem dX6_takeStep_11 : decode cX6_takeStep 11 = .ok (.istore 5, 2) := by decide +kernel
theorem dX6_takeStep_13 : decode cX6_takeStep 13 = .ok (.iconst 0, 1) := by decide +kernel
theorem dX6_takeStep_14 : decode cX6_takeStep 14 = .ok (.istore 6, 2) := by decide +kernel
theorem dX6_takeStep_16 : decode cX6_takeStep 16 = .ok (.iload 6, 2) := by decide +kernel
theorem dX6_takeStep_18 : decode cX6_takeStep 18 = .ok (.aload_n 0, 1) := by decide +kernel
theorem dX6_takeStep_19 : decode cX6_takeStep 19 = .ok (.getfield 12, 3) := by decide +kernel
theorem dX6_takeStep_22 : decode cX6_takeStep 22 = .ok (.getfield 84, 3) := by decide +kernel
theorem dX6_takeStep_25 : decode cX6_takeStep 25 = .ok (.if_icmp .ge 98, 3) := by decide +kernel
theorem dX6_takeStep_28 : decode cX6_takeStep 28 = .ok (.iload 5, 2) := by decide +kernel
theorem dX6_takeStep_30 : decode cX6_takeStep 30 = .ok (.ifCond .eq 7, 3) := by decide +kernel
theorem dX6_takeStep_33 : decode cX6_takeStep 33 = .ok (.iload_n 1, 1) := by decide +kernel
theorem dX6_takeStep_34 : decode cX6_takeStep 34 = .ok (.ifCond .eq 89, 3) := by decide +kernel
theorem dX6_takeStep_37 : decode cX6_takeStep 37 = .ok (.iconst 0, 1) := by decide +kernel
theorem dX6_takeStep_38 : decode cX6_takeStep 38 = .ok (.istore 7, 2) := by decide +kernel
theorem dX6_takeStep_40 : decode cX6_takeStep 40 = .ok (.iload 7, 2) := by decide +kernel
theorem dX6_takeStep_42 : decode cX6_takeStep 42 = .ok (.aload_n 0, 1) := by decide +kernel
theorem dX6_takeStep_43 : decode cX6_takeStep 43 = .ok (.getfield 12, 3) := by decide +kernel
theorem dX6_takeStep_46 : decode cX6_takeStep 46 = .ok (.getfield 84, 3) := by decide +kernel
theorem dX6_takeStep_49 : decode cX6_takeStep 49 = .ok (.if_icmp .ge 68, 3) := by decide +kernel
theorem dX6_takeStep_52 : decode cX6_takeStep 52 = .ok (.iload_n 1, 1) := by decide +kernel
theorem dX6_takeStep_53 : decode cX6_takeStep 53 = .ok (.iconst 2, 1) := by decide +kernel
theorem dX6_takeStep_54 : decode cX6_takeStep 54 = .ok (.if_icmp .eq 12, 3) := by decide +kernel
theorem dX6_takeStep_57 : decode cX6_takeStep 57 = .ok (.iload 7, 2) := by decide +kernel
theorem dX6_takeStep_59 : decode cX6_takeStep 59 = .ok (.iload 6, 2) := by decide +kernel
theorem dX6_takeStep_61 : decode cX6_takeStep 61 = .ok (.iconst 1, 1) := by decide +kernel
theorem dX6_takeStep_62 : decode cX6_takeStep 62 = .ok (.iadd, 1) := by decide +kernel
theorem dX6_takeStep_63 : decode cX6_takeStep 63 = .ok (.if_icmp .ne 7, 3) := by decide +kernel
theorem dX6_takeStep_66 : decode cX6_takeStep 66 = .ok (.iconst 1, 1) := by decide +kernel
theorem dX6_takeStep_67 : decode cX6_takeStep 67 = .ok (.goto 4, 3) := by decide +kernel
theorem dX6_takeStep_70 : decode cX6_takeStep 70 = .ok (.iconst 0, 1) := by decide +kernel
theorem dX6_takeStep_71 : decode cX6_takeStep 71 = .ok (.istore 8, 2) := by decide +kernel
theorem dX6_takeStep_73 : decode cX6_takeStep 73 = .ok (.iload 8, 2) := by decide +kernel
theorem dX6_takeStep_75 : decode cX6_takeStep 75 = .ok (.ifCond .eq 14, 3) := by decide +kernel
theorem dX6_takeStep_78 : decode cX6_takeStep 78 = .ok (.aload_n 0, 1) := by decide +kernel
theorem dX6_takeStep_79 : decode cX6_takeStep 79 = .ok (.iload 6, 2) := by decide +kernel
theorem dX6_takeStep_81 : decode cX6_takeStep 81 = .ok (.iload 7, 2) := by decide +kernel
theorem dX6_takeStep_83 : decode cX6_takeStep 83 = .ok (.invokevirtual 167, 3) := by decide +kernel
theorem dX6_takeStep_86 : decode cX6_takeStep 86 = .ok (.goto 4, 3) := by decide +kernel
theorem dX6_takeStep_89 : decode cX6_takeStep 89 = .ok (.iload_n 2, 1) := by decide +kernel
theorem dX6_takeStep_90 : decode cX6_takeStep 90 = .ok (.istore 9, 2) := by decide +kernel
theorem dX6_takeStep_92 : decode cX6_takeStep 92 = .ok (.iload 9, 2) := by decide +kernel
theorem dX6_takeStep_94 : decode cX6_takeStep 94 = .ok (.iload_n 2, 1) := by decide +kernel
theorem dX6_takeStep_95 : decode cX6_takeStep 95 = .ok (.if_icmp .ge 16, 3) := by decide +kernel
theorem dX6_takeStep_98 : decode cX6_takeStep 98 = .ok (.iload 9, 2) := by decide +kernel
theorem dX6_takeStep_100 : decode cX6_takeStep 100 = .ok (.istore_n 2, 1) := by decide +kernel
theorem dX6_takeStep_101 : decode cX6_takeStep 101 = .ok (.iload 6, 2) := by decide +kernel
theorem dX6_takeStep_103 : decode cX6_takeStep 103 = .ok (.istore_n 3, 1) := by decide +kernel
theorem dX6_takeStep_104 : decode cX6_takeStep 104 = .ok (.iload 7, 2) := by decide +kernel
theorem dX6_takeStep_106 : decode cX6_takeStep 106 = .ok (.istore 4, 2) := by decide +kernel
theorem dX6_takeStep_108 : decode cX6_takeStep 108 = .ok (.iconst 1, 1) := by decide +kernel
theorem dX6_takeStep_109 : decode cX6_takeStep 109 = .ok (.istore 5, 2) := by decide +kernel
theorem dX6_takeStep_111 : decode cX6_takeStep 111 = .ok (.iinc 7 1, 3) := by decide +kernel
theorem dX6_takeStep_114 : decode cX6_takeStep 114 = .ok (.goto (-74), 3) := by decide +kernel
theorem dX6_takeStep_117 : decode cX6_takeStep 117 = .ok (.iinc 6 1, 3) := by decide +kernel
theorem dX6_takeStep_120 : decode cX6_takeStep 120 = .ok (.goto (-104), 3) := by decide +kernel
theorem dX6_takeStep_123 : decode cX6_takeStep 123 = .ok (.iload 5, 2) := by decide +kernel
theorem dX6_takeStep_125 : decode cX6_takeStep 125 = .ok (.ifCond .eq 20, 3) := by decide +kernel
theorem dX6_takeStep_128 : decode cX6_takeStep 128 = .ok (.aload_n 0, 1) := by decide +kernel
theorem dX6_takeStep_129 : decode cX6_takeStep 129 = .ok (.getfield 12, 3) := by decide +kernel
theorem dX6_takeStep_132 : decode cX6_takeStep 132 = .ok (.aload_n 0, 1) := by decide +kernel
theorem dX6_takeStep_133 : decode cX6_takeStep 133 = .ok (.getfield 12, 3) := by decide +kernel
theorem dX6_takeStep_136 : decode cX6_takeStep 136 = .ok (.getfield 150, 3) := by decide +kernel
theorem dX6_takeStep_139 : decode cX6_takeStep 139 = .ok (.iload_n 3, 1) := by decide +kernel
theorem dX6_takeStep_140 : decode cX6_takeStep 140 = .ok (.iload 4, 2) := by decide +kernel
theorem dX6_takeStep_142 : decode cX6_takeStep 142 = .ok (.invokevirtual 153, 3) := by decide +kernel
theorem dX6_takeStep_145 : decode cX6_takeStep 145 = .ok (.iload 5, 2) := by decide +kernel
theorem dX6_takeStep_147 : decode cX6_takeStep 147 = .ok (.ireturn, 1) := by decide +kernel
theorem dX6_at_0 : decode cX6_at 0 = .ok (.iload_n 1, 1) := by decide +kernel
theorem dX6_at_1 : decode cX6_at 1 = .ok (.aload_n 0, 1) := by decide +kernel
theorem dX6_at_2 : decode cX6_at 2 = .ok (.getfield 12, 3) := by decide +kernel
theorem dX6_at_5 : decode cX6_at 5 = .ok (.getfield 84, 3) := by decide +kernel
theorem dX6_at_8 : decode cX6_at 8 = .ok (.invokestatic 96, 3) := by decide +kernel
theorem dX6_at_11 : decode cX6_at 11 = .ok (.ifCond .eq 15, 3) := by decide +kernel
theorem dX6_at_14 : decode cX6_at 14 = .ok (.aload_n 0, 1) := by decide +kernel
theorem dX6_at_15 : decode cX6_at 15 = .ok (.getfield 12, 3) := by decide +kernel
theorem dX6_at_18 : decode cX6_at 18 = .ok (.getfield 150, 3) := by decide +kernel
theorem dX6_at_21 : decode cX6_at 21 = .ok (.iload_n 1, 1) := by decide +kernel
theorem dX6_at_22 : decode cX6_at 22 = .ok (.iaload, 1) := by decide +kernel
theorem dX6_at_23 : decode cX6_at 23 = .ok (.goto 4, 3) := by decide +kernel
theorem dX6_at_26 : decode cX6_at 26 = .ok (.iconst (-1), 1) := by decide +kernel
theorem dX6_at_27 : decode cX6_at 27 = .ok (.ireturn, 1) := by decide +kernel
theorem dX6_time_0 : decode cX6_time 0 = .ok (.aload_n 0, 1) := by decide +kernel
theorem dX6_time_1 : decode cX6_time 1 = .ok (.getfield 12, 3) := by decide +kernel
theorem dX6_time_4 : decode cX6_time 4 = .ok (.iload_n 1, 1) := by decide +kernel
theorem dX6_time_5 : decode cX6_time 5 = .ok (.invokevirtual 92, 3) := by decide +kernel
theorem dX6_time_8 : decode cX6_time 8 = .ok (.ifCond .eq 12, 3) := by decide +kernel
theorem dX6_time_11 : decode cX6_time 11 = .ok (.iload_n 2, 1) := by decide +kernel
theorem dX6_time_12 : decode cX6_time 12 = .ok (.bipush 7, 2) := by decide +kernel
theorem dX6_time_14 : decode cX6_time 14 = .ok (.invokestatic 96, 3) := by decide +kernel
theorem dX6_time_17 : decode cX6_time 17 = .ok (.ifCond .ne 7, 3) := by decide +kernel
theorem dX6_time_20 : decode cX6_time 20 = .ok (.ldc2_w 170, 3) := by decide +kernel
theorem dX6_time_23 : decode cX6_time 23 = .ok (.lreturn, 1) := by decide +kernel
theorem dX6_time_24 : decode cX6_time 24 = .ok (.aload_n 0, 1) := by decide +kernel
theorem dX6_time_25 : decode cX6_time 25 = .ok (.aload_n 0, 1) := by decide +kernel
theorem dX6_time_26 : decode cX6_time 26 = .ok (.getfield 12, 3) := by decide +kernel
theorem dX6_time_29 : decode cX6_time 29 = .ok (.iload_n 1, 1) := by decide +kernel
theorem dX6_time_30 : decode cX6_time 30 = .ok (.invokevirtual 103, 3) := by decide +kernel
theorem dX6_time_33 : decode cX6_time 33 = .ok (.invokevirtual 172, 3) := by decide +kernel
theorem dX6_time_36 : decode cX6_time 36 = .ok (.iload_n 2, 1) := by decide +kernel
theorem dX6_time_37 : decode cX6_time 37 = .ok (.bipush 6, 2) := by decide +kernel
theorem dX6_time_39 : decode cX6_time 39 = .ok (.if_icmp .ne 26, 3) := by decide +kernel
theorem dX6_time_42 : decode cX6_time 42 = .ok (.aload_n 0, 1) := by decide +kernel
theorem dX6_time_43 : decode cX6_time 43 = .ok (.getfield 55, 3) := by decide +kernel
theorem dX6_time_46 : decode cX6_time 46 = .ok (.getfield 175, 3) := by decide +kernel
theorem dX6_time_49 : decode cX6_time 49 = .ok (.aload_n 0, 1) := by decide +kernel
theorem dX6_time_50 : decode cX6_time 50 = .ok (.getfield 12, 3) := by decide +kernel
theorem dX6_time_53 : decode cX6_time 53 = .ok (.getfield 99, 3) := by decide +kernel
theorem dX6_time_56 : decode cX6_time 56 = .ok (.iload_n 1, 1) := by decide +kernel
theorem dX6_time_57 : decode cX6_time 57 = .ok (.aaload, 1) := by decide +kernel
theorem dX6_time_58 : decode cX6_time 58 = .ok (.iconst 5, 1) := by decide +kernel
theorem dX6_time_59 : decode cX6_time 59 = .ok (.iaload, 1) := by decide +kernel
theorem dX6_time_60 : decode cX6_time 60 = .ok (.isub, 1) := by decide +kernel
theorem dX6_time_61 : decode cX6_time 61 = .ok (.i2l, 1) := by decide +kernel
theorem dX6_time_62 : decode cX6_time 62 = .ok (.goto 12, 3) := by decide +kernel
theorem dX6_time_65 : decode cX6_time 65 = .ok (.aload_n 0, 1) := by decide +kernel
theorem dX6_time_66 : decode cX6_time 66 = .ok (.getfield 55, 3) := by decide +kernel
theorem dX6_time_69 : decode cX6_time 69 = .ok (.iload_n 2, 1) := by decide +kernel
theorem dX6_time_70 : decode cX6_time 70 = .ok (.invokevirtual 178, 3) := by decide +kernel
theorem dX6_time_73 : decode cX6_time 73 = .ok (.i2l, 1) := by decide +kernel
theorem dX6_time_74 : decode cX6_time 74 = .ok (.lreturn, 1) := by decide +kernel
theorem dX6_told_0 : decode cX6_told 0 = .ok (.iload_n 1, 1) := by decide +kernel
theorem dX6_told_1 : decode cX6_told 1 = .ok (.tableswitch 54 0 2 #[27, 36, 45], 27) := by decide +kernel
theorem dX6_told_28 : decode cX6_told 28 = .ok (.aload_n 0, 1) := by decide +kernel
theorem dX6_told_29 : decode cX6_told 29 = .ok (.getfield 12, 3) := by decide +kernel
theorem dX6_told_32 : decode cX6_told 32 = .ok (.getfield 84, 3) := by decide +kernel
theorem dX6_told_35 : decode cX6_told 35 = .ok (.i2l, 1) := by decide +kernel
theorem dX6_told_36 : decode cX6_told 36 = .ok (.lreturn, 1) := by decide +kernel
theorem dX6_told_37 : decode cX6_told 37 = .ok (.aload_n 0, 1) := by decide +kernel
theorem dX6_told_38 : decode cX6_told 38 = .ok (.getfield 12, 3) := by decide +kernel
theorem dX6_told_41 : decode cX6_told 41 = .ok (.getfield 107, 3) := by decide +kernel
theorem dX6_told_44 : decode cX6_told 44 = .ok (.i2l, 1) := by decide +kernel
theorem dX6_told_45 : decode cX6_told 45 = .ok (.lreturn, 1) := by decide +kernel
theorem dX6_told_46 : decode cX6_told 46 = .ok (.aload_n 0, 1) := by decide +kernel
theorem dX6_told_47 : decode cX6_told 47 = .ok (.getfield 12, 3) := by decide +kernel
theorem dX6_told_50 : decode cX6_told 50 = .ok (.getfield 110, 3) := by decide +kernel
theorem dX6_told_53 : decode cX6_told 53 = .ok (.i2l, 1) := by decide +kernel
theorem dX6_told_54 : decode cX6_told 54 = .ok (.lreturn, 1) := by decide +kernel
theorem dX6_told_55 : decode cX6_told 55 = .ok (.aload_n 0, 1) := by decide +kernel
theorem dX6_told_56 : decode cX6_told 56 = .ok (.getfield 12, 3) := by decide +kernel
theorem dX6_told_59 : decode cX6_told 59 = .ok (.getfield 84, 3) := by decide +kernel
theorem dX6_told_62 : decode cX6_told 62 = .ok (.ifCond .ne 9, 3) := by decide +kernel
theorem dX6_told_65 : decode cX6_told 65 = .ok (.ldc2_w 170, 3) := by decide +kernel
theorem dX6_told_68 : decode cX6_told 68 = .ok (.goto 8, 3) := by decide +kernel
theorem dX6_told_71 : decode cX6_told 71 = .ok (.aload_n 0, 1) := by decide +kernel
theorem dX6_told_72 : decode cX6_told 72 = .ok (.iload_n 1, 1) := by decide +kernel
theorem dX6_told_73 : decode cX6_told 73 = .ok (.invokevirtual 181, 3) := by decide +kernel
theorem dX6_told_76 : decode cX6_told 76 = .ok (.lreturn, 1) := by decide +kernel
theorem dX6_toldOfJobs_0 : decode cX6_toldOfJobs 0 = .ok (.iload_n 1, 1) := by decide +kernel
theorem dX6_toldOfJobs_1 : decode cX6_toldOfJobs 1 = .ok (.tableswitch 160 3 12 #[55, 61, 86, 95, 101, 107, 114, 121, 135, 151], 55) := by decide +kernel
theorem dX6_toldOfJobs_56 : decode cX6_toldOfJobs 56 = .ok (.aload_n 0, 1) := by decide +kernel
theorem dX6_toldOfJobs_57 : decode cX6_toldOfJobs 57 = .ok (.invokevirtual 163, 3) := by decide +kernel
theorem dX6_toldOfJobs_60 : decode cX6_toldOfJobs 60 = .ok (.i2l, 1) := by decide +kernel
theorem dX6_toldOfJobs_61 : decode cX6_toldOfJobs 61 = .ok (.lreturn, 1) := by decide +kernel
theorem dX6_toldOfJobs_62 : decode cX6_toldOfJobs 62 = .ok (.aload_n 0, 1) := by decide +kernel
theorem dX6_toldOfJobs_63 : decode cX6_toldOfJobs 63 = .ok (.aload_n 0, 1) := by decide +kernel
theorem dX6_toldOfJobs_64 : decode cX6_toldOfJobs 64 = .ok (.getfield 12, 3) := by decide +kernel
theorem dX6_toldOfJobs_67 : decode cX6_toldOfJobs 67 = .ok (.aload_n 0, 1) := by decide +kernel
theorem dX6_toldOfJobs_68 : decode cX6_toldOfJobs 68 = .ok (.getfield 12, 3) := by decide +kernel
theorem dX6_toldOfJobs_71 : decode cX6_toldOfJobs 71 = .ok (.getfield 150, 3) := by decide +kernel
theorem dX6_toldOfJobs_74 : decode cX6_toldOfJobs 74 = .ok (.aload_n 0, 1) := by decide +kernel
theorem dX6_toldOfJobs_75 : decode cX6_toldOfJobs 75 = .ok (.getfield 12, 3) := by decide +kernel
theorem dX6_toldOfJobs_78 : decode cX6_toldOfJobs 78 = .ok (.getfield 107, 3) := by decide +kernel
theorem dX6_toldOfJobs_81 : decode cX6_toldOfJobs 81 = .ok (.iconst 0, 1) := by decide +kernel
theorem dX6_toldOfJobs_82 : decode cX6_toldOfJobs 82 = .ok (.invokevirtual 185, 3) := by decide +kernel
theorem dX6_toldOfJobs_85 : decode cX6_toldOfJobs 85 = .ok (.i2l, 1) := by decide +kernel
theorem dX6_toldOfJobs_86 : decode cX6_toldOfJobs 86 = .ok (.lreturn, 1) := by decide +kernel
theorem dX6_toldOfJobs_87 : decode cX6_toldOfJobs 87 = .ok (.aload_n 0, 1) := by decide +kernel
theorem dX6_toldOfJobs_88 : decode cX6_toldOfJobs 88 = .ok (.getfield 12, 3) := by decide +kernel
theorem dX6_toldOfJobs_91 : decode cX6_toldOfJobs 91 = .ok (.invokevirtual 189, 3) := by decide +kernel
theorem dX6_toldOfJobs_94 : decode cX6_toldOfJobs 94 = .ok (.i2l, 1) := by decide +kernel
theorem dX6_toldOfJobs_95 : decode cX6_toldOfJobs 95 = .ok (.lreturn, 1) := by decide +kernel
theorem dX6_toldOfJobs_96 : decode cX6_toldOfJobs 96 = .ok (.aload_n 0, 1) := by decide +kernel
theorem dX6_toldOfJobs_97 : decode cX6_toldOfJobs 97 = .ok (.invokevirtual 192, 3) := by decide +kernel
theorem dX6_toldOfJobs_100 : decode cX6_toldOfJobs 100 = .ok (.i2l, 1) := by decide +kernel
theorem dX6_toldOfJobs_101 : decode cX6_toldOfJobs 101 = .ok (.lreturn, 1) := by decide +kernel
theorem dX6_toldOfJobs_102 : decode cX6_toldOfJobs 102 = .ok (.aload_n 0, 1) := by decide +kernel
theorem dX6_toldOfJobs_103 : decode cX6_toldOfJobs 103 = .ok (.invokevirtual 195, 3) := by decide +kernel
theorem dX6_toldOfJobs_106 : decode cX6_toldOfJobs 106 = .ok (.i2l, 1) := by decide +kernel
theorem dX6_toldOfJobs_107 : decode cX6_toldOfJobs 107 = .ok (.lreturn, 1) := by decide +kernel
theorem dX6_toldOfJobs_108 : decode cX6_toldOfJobs 108 = .ok (.aload_n 0, 1) := by decide +kernel
theorem dX6_toldOfJobs_109 : decode cX6_toldOfJobs 109 = .ok (.iconst 1, 1) := by decide +kernel
theorem dX6_toldOfJobs_110 : decode cX6_toldOfJobs 110 = .ok (.invokevirtual 198, 3) := by decide +kernel
theorem dX6_toldOfJobs_113 : decode cX6_toldOfJobs 113 = .ok (.i2l, 1) := by decide +kernel
theorem dX6_toldOfJobs_114 : decode cX6_toldOfJobs 114 = .ok (.lreturn, 1) := by decide +kernel
theorem dX6_toldOfJobs_115 : decode cX6_toldOfJobs 115 = .ok (.aload_n 0, 1) := by decide +kernel
theorem dX6_toldOfJobs_116 : decode cX6_toldOfJobs 116 = .ok (.iconst 0, 1) := by decide +kernel
theorem dX6_toldOfJobs_117 : decode cX6_toldOfJobs 117 = .ok (.invokevirtual 198, 3) := by decide +kernel
theorem dX6_toldOfJobs_120 : decode cX6_toldOfJobs 120 = .ok (.i2l, 1) := by decide +kernel
theorem dX6_toldOfJobs_121 : decode cX6_toldOfJobs 121 = .ok (.lreturn, 1) := by decide +kernel
theorem dX6_toldOfJobs_122 : decode cX6_toldOfJobs 122 = .ok (.aload_n 0, 1) := by decide +kernel
theorem dX6_toldOfJobs_123 : decode cX6_toldOfJobs 123 = .ok (.iconst 1, 1) := by decide +kernel
theorem dX6_toldOfJobs_124 : decode cX6_toldOfJobs 124 = .ok (.invokevirtual 198, 3) := by decide +kernel
theorem dX6_toldOfJobs_127 : decode cX6_toldOfJobs 127 = .ok (.ifCond .ne 7, 3) := by decide +kernel
theorem dX6_toldOfJobs_130 : decode cX6_toldOfJobs 130 = .ok (.lconst 1, 1) := by decide +kernel
theorem dX6_toldOfJobs_131 : decode cX6_toldOfJobs 131 = .ok (.goto 4, 3) := by decide +kernel
theorem dX6_toldOfJobs_134 : decode cX6_toldOfJobs 134 = .ok (.lconst 0, 1) := by decide +kernel
theorem dX6_toldOfJobs_135 : decode cX6_toldOfJobs 135 = .ok (.lreturn, 1) := by decide +kernel
theorem dX6_toldOfJobs_136 : decode cX6_toldOfJobs 136 = .ok (.aload_n 0, 1) := by decide +kernel
theorem dX6_toldOfJobs_137 : decode cX6_toldOfJobs 137 = .ok (.getfield 12, 3) := by decide +kernel
theorem dX6_toldOfJobs_140 : decode cX6_toldOfJobs 140 = .ok (.invokevirtual 202, 3) := by decide +kernel
theorem dX6_toldOfJobs_143 : decode cX6_toldOfJobs 143 = .ok (.ifCond .eq 7, 3) := by decide +kernel
theorem dX6_toldOfJobs_146 : decode cX6_toldOfJobs 146 = .ok (.lconst 1, 1) := by decide +kernel
theorem dX6_toldOfJobs_147 : decode cX6_toldOfJobs 147 = .ok (.goto 4, 3) := by decide +kernel
theorem dX6_toldOfJobs_150 : decode cX6_toldOfJobs 150 = .ok (.lconst 0, 1) := by decide +kernel
theorem dX6_toldOfJobs_151 : decode cX6_toldOfJobs 151 = .ok (.lreturn, 1) := by decide +kernel
theorem dX6_toldOfJobs_152 : decode cX6_toldOfJobs 152 = .ok (.aload_n 0, 1) := by decide +kernel
theorem dX6_toldOfJobs_153 : decode cX6_toldOfJobs 153 = .ok (.getfield 12, 3) := by decide +kernel
theorem dX6_toldOfJobs_156 : decode cX6_toldOfJobs 156 = .ok (.invokevirtual 205, 3) := by decide +kernel
theorem dX6_toldOfJobs_159 : decode cX6_toldOfJobs 159 = .ok (.i2l, 1) := by decide +kernel
theorem dX6_toldOfJobs_160 : decode cX6_toldOfJobs 160 = .ok (.lreturn, 1) := by decide +kernel
theorem dX6_toldOfJobs_161 : decode cX6_toldOfJobs 161 = .ok (.ldc2_w 170, 3) := by decide +kernel
theorem dX6_toldOfJobs_164 : decode cX6_toldOfJobs 164 = .ok (.lreturn, 1) := by decide +kernel
theorem dX6_waited_0 : decode cX6_waited 0 = .ok (.aload_n 0, 1) := by decide +kernel
theorem dX6_waited_1 : decode cX6_waited 1 = .ok (.aload_n 0, 1) := by decide +kernel
theorem dX6_waited_2 : decode cX6_waited 2 = .ok (.getfield 12, 3) := by decide +kernel
theorem dX6_waited_5 : decode cX6_waited 5 = .ok (.aload_n 0, 1) := by decide +kernel
theorem dX6_waited_6 : decode cX6_waited 6 = .ok (.getfield 12, 3) := by decide +kernel
theorem dX6_waited_9 : decode cX6_waited 9 = .ok (.getfield 150, 3) := by decide +kernel
theorem dX6_waited_12 : decode cX6_waited 12 = .ok (.aload_n 0, 1) := by decide +kernel
theorem dX6_waited_13 : decode cX6_waited 13 = .ok (.getfield 12, 3) := by decide +kernel
theorem dX6_waited_16 : decode cX6_waited 16 = .ok (.getfield 107, 3) := by decide +kernel
theorem dX6_waited_19 : decode cX6_waited 19 = .ok (.iconst 0, 1) := by decide +kernel
theorem dX6_waited_20 : decode cX6_waited 20 = .ok (.invokevirtual 185, 3) := by decide +kernel
theorem dX6_waited_23 : decode cX6_waited 23 = .ok (.istore_n 1, 1) := by decide +kernel
theorem dX6_waited_24 : decode cX6_waited 24 = .ok (.iconst 0, 1) := by decide +kernel
theorem dX6_waited_25 : decode cX6_waited 25 = .ok (.istore_n 2, 1) := by decide +kernel
theorem dX6_waited_26 : decode cX6_waited 26 = .ok (.iload_n 2, 1) := by decide +kernel
theorem dX6_waited_27 : decode cX6_waited 27 = .ok (.aload_n 0, 1) := by decide +kernel
theorem dX6_waited_28 : decode cX6_waited 28 = .ok (.getfield 12, 3) := by decide +kernel
theorem dX6_waited_31 : decode cX6_waited 31 = .ok (.getfield 84, 3) := by decide +kernel
theorem dX6_waited_34 : decode cX6_waited 34 = .ok (.if_icmp .ge 52, 3) := by decide +kernel
theorem dX6_waited_37 : decode cX6_waited 37 = .ok (.aload_n 0, 1) := by decide +kernel
theorem dX6_waited_38 : decode cX6_waited 38 = .ok (.getfield 12, 3) := by decide +kernel
theorem dX6_waited_41 : decode cX6_waited 41 = .ok (.getfield 99, 3) := by decide +kernel
theorem dX6_waited_44 : decode cX6_waited 44 = .ok (.aload_n 0, 1) := by decide +kernel
theorem dX6_waited_45 : decode cX6_waited 45 = .ok (.getfield 12, 3) := by decide +kernel
theorem dX6_waited_48 : decode cX6_waited 48 = .ok (.getfield 150, 3) := by decide +kernel
theorem dX6_waited_51 : decode cX6_waited 51 = .ok (.iload_n 2, 1) := by decide +kernel
theorem dX6_waited_52 : decode cX6_waited 52 = .ok (.iaload, 1) := by decide +kernel
theorem dX6_waited_53 : decode cX6_waited 53 = .ok (.aaload, 1) := by decide +kernel
theorem dX6_waited_54 : decode cX6_waited 54 = .ok (.astore_n 3, 1) := by decide +kernel
theorem dX6_waited_55 : decode cX6_waited 55 = .ok (.iload_n 1, 1) := by decide +kernel
theorem dX6_waited_56 : decode cX6_waited 56 = .ok (.aload_n 3, 1) := by decide +kernel
theorem dX6_waited_57 : decode cX6_waited 57 = .ok (.iconst 2, 1) := by decide +kernel
theorem dX6_waited_58 : decode cX6_waited 58 = .ok (.iaload, 1) := by decide +kernel
theorem dX6_waited_59 : decode cX6_waited 59 = .ok (.isub, 1) := by decide +kernel
theorem dX6_waited_60 : decode cX6_waited 60 = .ok (.istore_n 1, 1) := by decide +kernel
theorem dX6_waited_61 : decode cX6_waited 61 = .ok (.iload_n 2, 1) := by decide +kernel
theorem dX6_waited_62 : decode cX6_waited 62 = .ok (.aload_n 0, 1) := by decide +kernel
theorem dX6_waited_63 : decode cX6_waited 63 = .ok (.getfield 12, 3) := by decide +kernel
theorem dX6_waited_66 : decode cX6_waited 66 = .ok (.getfield 84, 3) := by decide +kernel
theorem dX6_waited_69 : decode cX6_waited 69 = .ok (.iconst 1, 1) := by decide +kernel
theorem dX6_waited_70 : decode cX6_waited 70 = .ok (.isub, 1) := by decide +kernel
theorem dX6_waited_71 : decode cX6_waited 71 = .ok (.if_icmp .ge 9, 3) := by decide +kernel
theorem dX6_waited_74 : decode cX6_waited 74 = .ok (.iload_n 1, 1) := by decide +kernel
theorem dX6_waited_75 : decode cX6_waited 75 = .ok (.aload_n 3, 1) := by decide +kernel
theorem dX6_waited_76 : decode cX6_waited 76 = .ok (.iconst 4, 1) := by decide +kernel
theorem dX6_waited_77 : decode cX6_waited 77 = .ok (.iaload, 1) := by decide +kernel
theorem dX6_waited_78 : decode cX6_waited 78 = .ok (.isub, 1) := by decide +kernel
theorem dX6_waited_79 : decode cX6_waited 79 = .ok (.istore_n 1, 1) := by decide +kernel
theorem dX6_waited_80 : decode cX6_waited 80 = .ok (.iinc 2 1, 3) := by decide +kernel
theorem dX6_waited_83 : decode cX6_waited 83 = .ok (.goto (-57), 3) := by decide +kernel
theorem dX6_waited_86 : decode cX6_waited 86 = .ok (.iload_n 1, 1) := by decide +kernel
theorem dX6_waited_87 : decode cX6_waited 87 = .ok (.ireturn, 1) := by decide +kernel
theorem dX6_turn_0 : decode cX6_turn 0 = .ok (.iconst (-1), 1) := by decide +kernel
theorem dX6_turn_1 : decode cX6_turn 1 = .ok (.istore_n 1, 1) := by decide +kernel
theorem dX6_turn_2 : decode cX6_turn 2 = .ok (.aload_n 0, 1) := by decide +kernel
theorem dX6_turn_3 : decode cX6_turn 3 = .ok (.getfield 55, 3) := by decide +kernel
theorem dX6_turn_6 : decode cX6_turn 6 = .ok (.invokevirtual 208, 3) := by decide +kernel
theorem dX6_turn_9 : decode cX6_turn 9 = .ok (.iconst 0, 1) := by decide +kernel
theorem dX6_turn_10 : decode cX6_turn 10 = .ok (.istore_n 2, 1) := by decide +kernel
theorem dX6_turn_11 : decode cX6_turn 11 = .ok (.iload_n 2, 1) := by decide +kernel
theorem dX6_turn_12 : decode cX6_turn 12 = .ok (.aload_n 0, 1) := by decide +kernel
theorem dX6_turn_13 : decode cX6_turn 13 = .ok (.getfield 12, 3) := by decide +kernel
theorem dX6_turn_16 : decode cX6_turn 16 = .ok (.getfield 84, 3) := by decide +kernel
theorem dX6_turn_19 : decode cX6_turn 19 = .ok (.if_icmp .ge 61, 3) := by decide +kernel
theorem dX6_turn_22 : decode cX6_turn 22 = .ok (.aload_n 0, 1) := by decide +kernel
theorem dX6_turn_23 : decode cX6_turn 23 = .ok (.getfield 12, 3) := by decide +kernel
theorem dX6_turn_26 : decode cX6_turn 26 = .ok (.getfield 150, 3) := by decide +kernel
theorem dX6_turn_29 : decode cX6_turn 29 = .ok (.iload_n 2, 1) := by decide +kernel
theorem dX6_turn_30 : decode cX6_turn 30 = .ok (.iaload, 1) := by decide +kernel
theorem dX6_turn_31 : decode cX6_turn 31 = .ok (.istore_n 3, 1) := by decide +kernel
theorem dX6_turn_32 : decode cX6_turn 32 = .ok (.aload_n 0, 1) := by decide +kernel
theorem dX6_turn_33 : decode cX6_turn 33 = .ok (.getfield 55, 3) := by decide +kernel
theorem dX6_turn_36 : decode cX6_turn 36 = .ok (.aload_n 0, 1) := by decide +kernel
theorem dX6_turn_37 : decode cX6_turn 37 = .ok (.getfield 12, 3) := by decide +kernel
theorem dX6_turn_40 : decode cX6_turn 40 = .ok (.getfield 99, 3) := by decide +kernel
theorem dX6_turn_43 : decode cX6_turn 43 = .ok (.iload_n 3, 1) := by decide +kernel
theorem dX6_turn_44 : decode cX6_turn 44 = .ok (.aaload, 1) := by decide +kernel
theorem dX6_turn_45 : decode cX6_turn 45 = .ok (.aload_n 0, 1) := by decide +kernel
theorem dX6_turn_46 : decode cX6_turn 46 = .ok (.getfield 12, 3) := by decide +kernel
theorem dX6_turn_49 : decode cX6_turn 49 = .ok (.getfield 107, 3) := by decide +kernel
theorem dX6_turn_52 : decode cX6_turn 52 = .ok (.invokevirtual 211, 3) := by decide +kernel
theorem dX6_turn_55 : decode cX6_turn 55 = .ok (.aload_n 0, 1) := by decide +kernel
theorem dX6_turn_56 : decode cX6_turn 56 = .ok (.getfield 55, 3) := by decide +kernel
theorem dX6_turn_59 : decode cX6_turn 59 = .ok (.getfield 215, 3) := by decide +kernel
theorem dX6_turn_62 : decode cX6_turn 62 = .ok (.aload_n 0, 1) := by decide +kernel
theorem dX6_turn_63 : decode cX6_turn 63 = .ok (.getfield 55, 3) := by decide +kernel
theorem dX6_turn_66 : decode cX6_turn 66 = .ok (.getfield 218, 3) := by decide +kernel
theorem dX6_turn_69 : decode cX6_turn 69 = .ok (.if_icmp .ne 5, 3) := by decide +kernel
theorem dX6_turn_72 : decode cX6_turn 72 = .ok (.iload_n 3, 1) := by decide +kernel
theorem dX6_turn_73 : decode cX6_turn 73 = .ok (.istore_n 1, 1) := by decide +kernel
theorem dX6_turn_74 : decode cX6_turn 74 = .ok (.iinc 2 1, 3) := by decide +kernel
theorem dX6_turn_77 : decode cX6_turn 77 = .ok (.goto (-66), 3) := by decide +kernel
theorem dX6_turn_80 : decode cX6_turn 80 = .ok (.iload_n 1, 1) := by decide +kernel
theorem dX6_turn_81 : decode cX6_turn 81 = .ok (.ireturn, 1) := by decide +kernel
theorem dX6_exchanges_0 : decode cX6_exchanges 0 = .ok (.aload_n 0, 1) := by decide +kernel
theorem dX6_exchanges_1 : decode cX6_exchanges 1 = .ok (.invokevirtual 163, 3) := by decide +kernel
theorem dX6_exchanges_4 : decode cX6_exchanges 4 = .ok (.istore_n 2, 1) := by decide +kernel
theorem dX6_exchanges_5 : decode cX6_exchanges 5 = .ok (.iconst 0, 1) := by decide +kernel
theorem dX6_exchanges_6 : decode cX6_exchanges 6 = .ok (.istore_n 3, 1) := by decide +kernel
theorem dX6_exchanges_7 : decode cX6_exchanges 7 = .ok (.iconst 0, 1) := by decide +kernel
theorem dX6_exchanges_8 : decode cX6_exchanges 8 = .ok (.istore 4, 2) := by decide +kernel
theorem dX6_exchanges_10 : decode cX6_exchanges 10 = .ok (.iload 4, 2) := by decide +kernel
theorem dX6_exchanges_12 : decode cX6_exchanges 12 = .ok (.iconst 1, 1) := by decide +kernel
theorem dX6_exchanges_13 : decode cX6_exchanges 13 = .ok (.iadd, 1) := by decide +kernel

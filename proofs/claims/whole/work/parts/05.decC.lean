theorem dX6_init_0 : decode cX6_init 0 = .ok (.aload_n 0, 1) := by decide +kernel
theorem dX6_init_1 : decode cX6_init 1 = .ok (.invokespecial 1, 3) := by decide +kernel
theorem dX6_init_4 : decode cX6_init 4 = .ok (.aload_n 0, 1) := by decide +kernel
theorem dX6_init_5 : decode cX6_init 5 = .ok (.sipush 138, 3) := by decide +kernel
theorem dX6_init_8 : decode cX6_init 8 = .ok (.newarray .int, 2) := by decide +kernel
theorem dX6_init_10 : decode cX6_init 10 = .ok (.putfield 7, 3) := by decide +kernel
theorem dX6_init_13 : decode cX6_init 13 = .ok (.aload_n 0, 1) := by decide +kernel
theorem dX6_init_14 : decode cX6_init 14 = .ok (.bipush 23, 2) := by decide +kernel
theorem dX6_init_16 : decode cX6_init 16 = .ok (.newarray .int, 2) := by decide +kernel
theorem dX6_init_18 : decode cX6_init 18 = .ok (.putfield 13, 3) := by decide +kernel
theorem dX6_init_21 : decode cX6_init 21 = .ok (.aload_n 0, 1) := by decide +kernel
theorem dX6_init_22 : decode cX6_init 22 = .ok (.sipush 160, 3) := by decide +kernel
theorem dX6_init_25 : decode cX6_init 25 = .ok (.newarray .int, 2) := by decide +kernel
theorem dX6_init_27 : decode cX6_init 27 = .ok (.putfield 16, 3) := by decide +kernel
theorem dX6_init_30 : decode cX6_init 30 = .ok (.aload_n 0, 1) := by decide +kernel
theorem dX6_init_31 : decode cX6_init 31 = .ok (.bipush 6, 2) := by decide +kernel
theorem dX6_init_33 : decode cX6_init 33 = .ok (.newarray .int, 2) := by decide +kernel
theorem dX6_init_35 : decode cX6_init 35 = .ok (.dup, 1) := by decide +kernel
theorem dX6_init_36 : decode cX6_init 36 = .ok (.iconst 0, 1) := by decide +kernel
theorem dX6_init_37 : decode cX6_init 37 = .ok (.iconst 0, 1) := by decide +kernel
theorem dX6_init_38 : decode cX6_init 38 = .ok (.iastore, 1) := by decide +kernel
theorem dX6_init_39 : decode cX6_init 39 = .ok (.dup, 1) := by decide +kernel
theorem dX6_init_40 : decode cX6_init 40 = .ok (.iconst 1, 1) := by decide +kernel
theorem dX6_init_41 : decode cX6_init 41 = .ok (.iconst 5, 1) := by decide +kernel
theorem dX6_init_42 : decode cX6_init 42 = .ok (.iastore, 1) := by decide +kernel
theorem dX6_init_43 : decode cX6_init 43 = .ok (.dup, 1) := by decide +kernel
theorem dX6_init_44 : decode cX6_init 44 = .ok (.iconst 2, 1) := by decide +kernel
theorem dX6_init_45 : decode cX6_init 45 = .ok (.bipush 9, 2) := by decide +kernel
theorem dX6_init_47 : decode cX6_init 47 = .ok (.iastore, 1) := by decide +kernel
theorem dX6_init_48 : decode cX6_init 48 = .ok (.dup, 1) := by decide +kernel
theorem dX6_init_49 : decode cX6_init 49 = .ok (.iconst 3, 1) := by decide +kernel
theorem dX6_init_50 : decode cX6_init 50 = .ok (.bipush 14, 2) := by decide +kernel
theorem dX6_init_52 : decode cX6_init 52 = .ok (.iastore, 1) := by decide +kernel
theorem dX6_init_53 : decode cX6_init 53 = .ok (.dup, 1) := by decide +kernel
theorem dX6_init_54 : decode cX6_init 54 = .ok (.iconst 4, 1) := by decide +kernel
theorem dX6_init_55 : decode cX6_init 55 = .ok (.bipush 17, 2) := by decide +kernel
theorem dX6_init_57 : decode cX6_init 57 = .ok (.iastore, 1) := by decide +kernel
theorem dX6_init_58 : decode cX6_init 58 = .ok (.dup, 1) := by decide +kernel
theorem dX6_init_59 : decode cX6_init 59 = .ok (.iconst 5, 1) := by decide +kernel
theorem dX6_init_60 : decode cX6_init 60 = .ok (.bipush 21, 2) := by decide +kernel
theorem dX6_init_62 : decode cX6_init 62 = .ok (.iastore, 1) := by decide +kernel
theorem dX6_init_63 : decode cX6_init 63 = .ok (.putfield 19, 3) := by decide +kernel
theorem dX6_init_66 : decode cX6_init 66 = .ok (.aload_n 0, 1) := by decide +kernel
theorem dX6_init_67 : decode cX6_init 67 = .ok (.bipush 21, 2) := by decide +kernel
theorem dX6_init_69 : decode cX6_init 69 = .ok (.newarray .int, 2) := by decide +kernel
theorem dX6_init_71 : decode cX6_init 71 = .ok (.dup, 1) := by decide +kernel
theorem dX6_init_72 : decode cX6_init 72 = .ok (.iconst 0, 1) := by decide +kernel
theorem dX6_init_73 : decode cX6_init 73 = .ok (.bipush 112, 2) := by decide +kernel
theorem dX6_init_75 : decode cX6_init 75 = .ok (.iastore, 1) := by decide +kernel
theorem dX6_init_76 : decode cX6_init 76 = .ok (.dup, 1) := by decide +kernel
theorem dX6_init_77 : decode cX6_init 77 = .ok (.iconst 1, 1) := by decide +kernel
theorem dX6_init_78 : decode cX6_init 78 = .ok (.bipush 108, 2) := by decide +kernel
theorem dX6_init_80 : decode cX6_init 80 = .ok (.iastore, 1) := by decide +kernel
theorem dX6_init_81 : decode cX6_init 81 = .ok (.dup, 1) := by decide +kernel
theorem dX6_init_82 : decode cX6_init 82 = .ok (.iconst 2, 1) := by decide +kernel
theorem dX6_init_83 : decode cX6_init 83 = .ok (.bipush 97, 2) := by decide +kernel
theorem dX6_init_85 : decode cX6_init 85 = .ok (.iastore, 1) := by decide +kernel
theorem dX6_init_86 : decode cX6_init 86 = .ok (.dup, 1) := by decide +kernel
theorem dX6_init_87 : decode cX6_init 87 = .ok (.iconst 3, 1) := by decide +kernel
theorem dX6_init_88 : decode cX6_init 88 = .ok (.bipush 105, 2) := by decide +kernel
theorem dX6_init_90 : decode cX6_init 90 = .ok (.iastore, 1) := by decide +kernel
theorem dX6_init_91 : decode cX6_init 91 = .ok (.dup, 1) := by decide +kernel
theorem dX6_init_92 : decode cX6_init 92 = .ok (.iconst 4, 1) := by decide +kernel
theorem dX6_init_93 : decode cX6_init 93 = .ok (.bipush 110, 2) := by decide +kernel
theorem dX6_init_95 : decode cX6_init 95 = .ok (.iastore, 1) := by decide +kernel
theorem dX6_init_96 : decode cX6_init 96 = .ok (.dup, 1) := by decide +kernel
theorem dX6_init_97 : decode cX6_init 97 = .ok (.iconst 5, 1) := by decide +kernel
theorem dX6_init_98 : decode cX6_init 98 = .ok (.bipush 115, 2) := by decide +kernel
theorem dX6_init_100 : decode cX6_init 100 = .ok (.iastore, 1) := by decide +kernel
theorem dX6_init_101 : decode cX6_init 101 = .ok (.dup, 1) := by decide +kernel
theorem dX6_init_102 : decode cX6_init 102 = .ok (.bipush 6, 2) := by decide +kernel
theorem dX6_init_104 : decode cX6_init 104 = .ok (.bipush 111, 2) := by decide +kernel
theorem dX6_init_106 : decode cX6_init 106 = .ok (.iastore, 1) := by decide +kernel
theorem dX6_init_107 : decode cX6_init 107 = .ok (.dup, 1) := by decide +kernel
theorem dX6_init_108 : decode cX6_init 108 = .ok (.bipush 7, 2) := by decide +kernel
theorem dX6_init_110 : decode cX6_init 110 = .ok (.bipush 102, 2) := by decide +kernel
theorem dX6_init_112 : decode cX6_init 112 = .ok (.iastore, 1) := by decide +kernel
theorem dX6_init_113 : decode cX6_init 113 = .ok (.dup, 1) := by decide +kernel
theorem dX6_init_114 : decode cX6_init 114 = .ok (.bipush 8, 2) := by decide +kernel
theorem dX6_init_116 : decode cX6_init 116 = .ok (.bipush 116, 2) := by decide +kernel
theorem dX6_init_118 : decode cX6_init 118 = .ok (.iastore, 1) := by decide +kernel
theorem dX6_init_119 : decode cX6_init 119 = .ok (.dup, 1) := by decide +kernel
theorem dX6_init_120 : decode cX6_init 120 = .ok (.bipush 9, 2) := by decide +kernel
theorem dX6_init_122 : decode cX6_init 122 = .ok (.bipush 104, 2) := by decide +kernel
theorem dX6_init_124 : decode cX6_init 124 = .ok (.iastore, 1) := by decide +kernel
theorem dX6_init_125 : decode cX6_init 125 = .ok (.dup, 1) := by decide +kernel
theorem dX6_init_126 : decode cX6_init 126 = .ok (.bipush 10, 2) := by decide +kernel
theorem dX6_init_128 : decode cX6_init 128 = .ok (.bipush 101, 2) := by decide +kernel
theorem dX6_init_130 : decode cX6_init 130 = .ok (.iastore, 1) := by decide +kernel
theorem dX6_init_131 : decode cX6_init 131 = .ok (.dup, 1) := by decide +kernel
theorem dX6_init_132 : decode cX6_init 132 = .ok (.bipush 11, 2) := by decide +kernel
theorem dX6_init_134 : decode cX6_init 134 = .ok (.bipush 97, 2) := by decide +kernel
theorem dX6_init_136 : decode cX6_init 136 = .ok (.iastore, 1) := by decide +kernel
theorem dX6_init_137 : decode cX6_init 137 = .ok (.dup, 1) := by decide +kernel
theorem dX6_init_138 : decode cX6_init 138 = .ok (.bipush 12, 2) := by decide +kernel
theorem dX6_init_140 : decode cX6_init 140 = .ok (.bipush 118, 2) := by decide +kernel
theorem dX6_init_142 : decode cX6_init 142 = .ok (.iastore, 1) := by decide +kernel
theorem dX6_init_143 : decode cX6_init 143 = .ok (.dup, 1) := by decide +kernel
theorem dX6_init_144 : decode cX6_init 144 = .ok (.bipush 13, 2) := by decide +kernel
theorem dX6_init_146 : decode cX6_init 146 = .ok (.bipush 121, 2) := by decide +kernel
theorem dX6_init_148 : decode cX6_init 148 = .ok (.iastore, 1) := by decide +kernel
theorem dX6_init_149 : decode cX6_init 149 = .ok (.dup, 1) := by decide +kernel
theorem dX6_init_150 : decode cX6_init 150 = .ok (.bipush 14, 2) := by decide +kernel
theorem dX6_init_152 : decode cX6_init 152 = .ok (.bipush 115, 2) := by decide +kernel
theorem dX6_init_154 : decode cX6_init 154 = .ok (.iastore, 1) := by decide +kernel
theorem dX6_init_155 : decode cX6_init 155 = .ok (.dup, 1) := by decide +kernel
theorem dX6_init_156 : decode cX6_init 156 = .ok (.bipush 15, 2) := by decide +kernel
theorem dX6_init_158 : decode cX6_init 158 = .ok (.bipush 104, 2) := by decide +kernel
theorem dX6_init_160 : decode cX6_init 160 = .ok (.iastore, 1) := by decide +kernel
theorem dX6_init_161 : decode cX6_init 161 = .ok (.dup, 1) := by decide +kernel
theorem dX6_init_162 : decode cX6_init 162 = .ok (.bipush 16, 2) := by decide +kernel
theorem dX6_init_164 : decode cX6_init 164 = .ok (.bipush 121, 2) := by decide +kernel
theorem dX6_init_166 : decode cX6_init 166 = .ok (.iastore, 1) := by decide +kernel
theorem dX6_init_167 : decode cX6_init 167 = .ok (.dup, 1) := by decide +kernel
theorem dX6_init_168 : decode cX6_init 168 = .ok (.bipush 17, 2) := by decide +kernel
theorem dX6_init_170 : decode cX6_init 170 = .ok (.bipush 112, 2) := by decide +kernel
theorem dX6_init_172 : decode cX6_init 172 = .ok (.iastore, 1) := by decide +kernel
theorem dX6_init_173 : decode cX6_init 173 = .ok (.dup, 1) := by decide +kernel
theorem dX6_init_174 : decode cX6_init 174 = .ok (.bipush 18, 2) := by decide +kernel
theorem dX6_init_176 : decode cX6_init 176 = .ok (.bipush 117, 2) := by decide +kernel
theorem dX6_init_178 : decode cX6_init 178 = .ok (.iastore, 1) := by decide +kernel
theorem dX6_init_179 : decode cX6_init 179 = .ok (.dup, 1) := by decide +kernel
theorem dX6_init_180 : decode cX6_init 180 = .ok (.bipush 19, 2) := by decide +kernel
theorem dX6_init_182 : decode cX6_init 182 = .ok (.bipush 115, 2) := by decide +kernel
theorem dX6_init_184 : decode cX6_init 184 = .ok (.iastore, 1) := by decide +kernel
theorem dX6_init_185 : decode cX6_init 185 = .ok (.dup, 1) := by decide +kernel
theorem dX6_init_186 : decode cX6_init 186 = .ok (.bipush 20, 2) := by decide +kernel
theorem dX6_init_188 : decode cX6_init 188 = .ok (.bipush 104, 2) := by decide +kernel
theorem dX6_init_190 : decode cX6_init 190 = .ok (.iastore, 1) := by decide +kernel
theorem dX6_init_191 : decode cX6_init 191 = .ok (.putfield 22, 3) := by decide +kernel
theorem dX6_init_194 : decode cX6_init 194 = .ok (.aload_n 0, 1) := by decide +kernel
theorem dX6_init_195 : decode cX6_init 195 = .ok (.bipush (-4), 2) := by decide +kernel
theorem dX6_init_197 : decode cX6_init 197 = .ok (.putfield 25, 3) := by decide +kernel
theorem dX6_init_200 : decode cX6_init 200 = .ok (.aload_n 0, 1) := by decide +kernel
theorem dX6_init_201 : decode cX6_init 201 = .ok (.bipush 18, 2) := by decide +kernel
theorem dX6_init_203 : decode cX6_init 203 = .ok (.newarray .int, 2) := by decide +kernel
theorem dX6_init_205 : decode cX6_init 205 = .ok (.putfield 29, 3) := by decide +kernel
theorem dX6_init_208 : decode cX6_init 208 = .ok (.aload_n 0, 1) := by decide +kernel
theorem dX6_init_209 : decode cX6_init 209 = .ok (.sipush 1830, 3) := by decide +kernel
theorem dX6_init_212 : decode cX6_init 212 = .ok (.newarray .int, 2) := by decide +kernel
theorem dX6_init_214 : decode cX6_init 214 = .ok (.putfield 32, 3) := by decide +kernel
theorem dX6_init_217 : decode cX6_init 217 = .ok (.aload_n 0, 1) := by decide +kernel
theorem dX6_init_218 : decode cX6_init 218 = .ok (.iconst 2, 1) := by decide +kernel
theorem dX6_init_219 : decode cX6_init 219 = .ok (.newarray .boolean, 2) := by decide +kernel
theorem dX6_init_221 : decode cX6_init 221 = .ok (.putfield 35, 3) := by decide +kernel
theorem dX6_init_224 : decode cX6_init 224 = .ok (.aload_n 0, 1) := by decide +kernel
theorem dX6_init_225 : decode cX6_init 225 = .ok (.iconst 4, 1) := by decide +kernel
theorem dX6_init_226 : decode cX6_init 226 = .ok (.newarray .int, 2) := by decide +kernel
theorem dX6_init_228 : decode cX6_init 228 = .ok (.dup, 1) := by decide +kernel
theorem dX6_init_229 : decode cX6_init 229 = .ok (.iconst 0, 1) := by decide +kernel
theorem dX6_init_230 : decode cX6_init 230 = .ok (.bipush (-4), 2) := by decide +kernel
theorem dX6_init_232 : decode cX6_init 232 = .ok (.iastore, 1) := by decide +kernel
theorem dX6_init_233 : decode cX6_init 233 = .ok (.dup, 1) := by decide +kernel
theorem dX6_init_234 : decode cX6_init 234 = .ok (.iconst 1, 1) := by decide +kernel
theorem dX6_init_235 : decode cX6_init 235 = .ok (.bipush (-4), 2) := by decide +kernel
theorem dX6_init_237 : decode cX6_init 237 = .ok (.iastore, 1) := by decide +kernel
theorem dX6_init_238 : decode cX6_init 238 = .ok (.dup, 1) := by decide +kernel
theorem dX6_init_239 : decode cX6_init 239 = .ok (.iconst 2, 1) := by decide +kernel
theorem dX6_init_240 : decode cX6_init 240 = .ok (.bipush (-4), 2) := by decide +kernel
theorem dX6_init_242 : decode cX6_init 242 = .ok (.iastore, 1) := by decide +kernel
theorem dX6_init_243 : decode cX6_init 243 = .ok (.dup, 1) := by decide +kernel
theorem dX6_init_244 : decode cX6_init 244 = .ok (.iconst 3, 1) := by decide +kernel
theorem dX6_init_245 : decode cX6_init 245 = .ok (.bipush (-4), 2) := by decide +kernel
theorem dX6_init_247 : decode cX6_init 247 = .ok (.iastore, 1) := by decide +kernel
theorem dX6_init_248 : decode cX6_init 248 = .ok (.putfield 39, 3) := by decide +kernel
theorem dX6_init_251 : decode cX6_init 251 = .ok (.aload_n 0, 1) := by decide +kernel
theorem dX6_init_252 : decode cX6_init 252 = .ok (.iconst 4, 1) := by decide +kernel
theorem dX6_init_253 : decode cX6_init 253 = .ok (.newarray .int, 2) := by decide +kernel
theorem dX6_init_255 : decode cX6_init 255 = .ok (.putfield 42, 3) := by decide +kernel
theorem dX6_init_258 : decode cX6_init 258 = .ok (.aload_n 0, 1) := by decide +kernel
theorem dX6_init_259 : decode cX6_init 259 = .ok (.sipush 160, 3) := by decide +kernel
theorem dX6_init_262 : decode cX6_init 262 = .ok (.newarray .int, 2) := by decide +kernel
theorem dX6_init_264 : decode cX6_init 264 = .ok (.putfield 45, 3) := by decide +kernel
theorem dX6_init_267 : decode cX6_init 267 = .ok (.return_, 1) := by decide +kernel
theorem dX6_in_0 : decode cX6_in 0 = .ok (.lload_n 0, 1) := by decide +kernel
theorem dX6_in_1 : decode cX6_in 1 = .ok (.lload_n 2, 1) := by decide +kernel
theorem dX6_in_2 : decode cX6_in 2 = .ok (.lcmp, 1) := by decide +kernel
theorem dX6_in_3 : decode cX6_in 3 = .ok (.ifCond .lt 14, 3) := by decide +kernel
theorem dX6_in_6 : decode cX6_in 6 = .ok (.lload_n 0, 1) := by decide +kernel
theorem dX6_in_7 : decode cX6_in 7 = .ok (.lload 4, 2) := by decide +kernel
theorem dX6_in_9 : decode cX6_in 9 = .ok (.lcmp, 1) := by decide +kernel
theorem dX6_in_10 : decode cX6_in 10 = .ok (.ifCond .gt 7, 3) := by decide +kernel
theorem dX6_in_13 : decode cX6_in 13 = .ok (.iconst 1, 1) := by decide +kernel
theorem dX6_in_14 : decode cX6_in 14 = .ok (.goto 4, 3) := by decide +kernel
theorem dX6_in_17 : decode cX6_in 17 = .ok (.iconst 0, 1) := by decide +kernel
theorem dX6_in_18 : decode cX6_in 18 = .ok (.ireturn, 1) := by decide +kernel
theorem dX6_feed_0 : decode cX6_feed 0 = .ok (.iload_n 1, 1) := by decide +kernel
theorem dX6_feed_1 : decode cX6_feed 1 = .ok (.i2l, 1) := by decide +kernel
theorem dX6_feed_2 : decode cX6_feed 2 = .ok (.lconst 0, 1) := by decide +kernel
theorem dX6_feed_3 : decode cX6_feed 3 = .ok (.ldc2_w 48, 3) := by decide +kernel
theorem dX6_feed_6 : decode cX6_feed 6 = .ok (.invokestatic 50, 3) := by decide +kernel
theorem dX6_feed_9 : decode cX6_feed 9 = .ok (.ifCond .ne 5, 3) := by decide +kernel
theorem dX6_feed_12 : decode cX6_feed 12 = .ok (.iconst (-1), 1) := by decide +kernel
theorem dX6_feed_13 : decode cX6_feed 13 = .ok (.ireturn, 1) := by decide +kernel
theorem dX6_feed_14 : decode cX6_feed 14 = .ok (.aload_n 0, 1) := by decide +kernel
theorem dX6_feed_15 : decode cX6_feed 15 = .ok (.getfield 54, 3) := by decide +kernel
theorem dX6_feed_18 : decode cX6_feed 18 = .ok (.sipush 160, 3) := by decide +kernel
theorem dX6_feed_21 : decode cX6_feed 21 = .ok (.if_icmp .ne 6, 3) := by decide +kernel
theorem dX6_feed_24 : decode cX6_feed 24 = .ok (.bipush (-3), 2) := by decide +kernel
theorem dX6_feed_26 : decode cX6_feed 26 = .ok (.ireturn, 1) := by decide +kernel
theorem dX6_feed_27 : decode cX6_feed 27 = .ok (.aload_n 0, 1) := by decide +kernel
theorem dX6_feed_28 : decode cX6_feed 28 = .ok (.getfield 16, 3) := by decide +kernel
theorem dX6_feed_31 : decode cX6_feed 31 = .ok (.aload_n 0, 1) := by decide +kernel
theorem dX6_feed_32 : decode cX6_feed 32 = .ok (.getfield 54, 3) := by decide +kernel
theorem dX6_feed_35 : decode cX6_feed 35 = .ok (.iload_n 1, 1) := by decide +kernel
theorem dX6_feed_36 : decode cX6_feed 36 = .ok (.iastore, 1) := by decide +kernel
theorem dX6_feed_37 : decode cX6_feed 37 = .ok (.aload_n 0, 1) := by decide +kernel
theorem dX6_feed_38 : decode cX6_feed 38 = .ok (.dup, 1) := by decide +kernel
theorem dX6_feed_39 : decode cX6_feed 39 = .ok (.getfield 54, 3) := by decide +kernel
theorem dX6_feed_42 : decode cX6_feed 42 = .ok (.iconst 1, 1) := by decide +kernel
theorem dX6_feed_43 : decode cX6_feed 43 = .ok (.iadd, 1) := by decide +kernel
theorem dX6_feed_44 : decode cX6_feed 44 = .ok (.putfield 54, 3) := by decide +kernel
theorem dX6_feed_47 : decode cX6_feed 47 = .ok (.aload_n 0, 1) := by decide +kernel
theorem dX6_feed_48 : decode cX6_feed 48 = .ok (.getfield 54, 3) := by decide +kernel
theorem dX6_feed_51 : decode cX6_feed 51 = .ok (.ireturn, 1) := by decide +kernel
theorem dX6_end_0 : decode cX6_end 0 = .ok (.iload_n 1, 1) := by decide +kernel
theorem dX6_end_1 : decode cX6_end 1 = .ok (.i2l, 1) := by decide +kernel
theorem dX6_end_2 : decode cX6_end 2 = .ok (.lconst 0, 1) := by decide +kernel
theorem dX6_end_3 : decode cX6_end 3 = .ok (.aload_n 0, 1) := by decide +kernel
theorem dX6_end_4 : decode cX6_end 4 = .ok (.getfield 54, 3) := by decide +kernel
theorem dX6_end_7 : decode cX6_end 7 = .ok (.i2l, 1) := by decide +kernel
theorem dX6_end_8 : decode cX6_end 8 = .ok (.invokestatic 50, 3) := by decide +kernel
theorem dX6_end_11 : decode cX6_end 11 = .ok (.ifCond .ne 5, 3) := by decide +kernel
theorem dX6_end_14 : decode cX6_end 14 = .ok (.iconst (-1), 1) := by decide +kernel
theorem dX6_end_15 : decode cX6_end 15 = .ok (.ireturn, 1) := by decide +kernel
theorem dX6_end_16 : decode cX6_end 16 = .ok (.aload_n 0, 1) := by decide +kernel
theorem dX6_end_17 : decode cX6_end 17 = .ok (.getfield 54, 3) := by decide +kernel
theorem dX6_end_20 : decode cX6_end 20 = .ok (.istore_n 2, 1) := by decide +kernel
theorem dX6_end_21 : decode cX6_end 21 = .ok (.aload_n 0, 1) := by decide +kernel
theorem dX6_end_22 : decode cX6_end 22 = .ok (.iload_n 1, 1) := by decide +kernel
theorem dX6_end_23 : decode cX6_end 23 = .ok (.putfield 54, 3) := by decide +kernel
theorem dX6_end_26 : decode cX6_end 26 = .ok (.iload_n 2, 1) := by decide +kernel
theorem dX6_end_27 : decode cX6_end 27 = .ok (.ireturn, 1) := by decide +kernel
theorem dX6_byteAt_0 : decode cX6_byteAt 0 = .ok (.iload_n 1, 1) := by decide +kernel
theorem dX6_byteAt_1 : decode cX6_byteAt 1 = .ok (.aload_n 0, 1) := by decide +kernel
theorem dX6_byteAt_2 : decode cX6_byteAt 2 = .ok (.getfield 54, 3) := by decide +kernel
theorem dX6_byteAt_5 : decode cX6_byteAt 5 = .ok (.if_icmp .ge 12, 3) := by decide +kernel
theorem dX6_byteAt_8 : decode cX6_byteAt 8 = .ok (.aload_n 0, 1) := by decide +kernel
theorem dX6_byteAt_9 : decode cX6_byteAt 9 = .ok (.getfield 16, 3) := by decide +kernel
theorem dX6_byteAt_12 : decode cX6_byteAt 12 = .ok (.iload_n 1, 1) := by decide +kernel
theorem dX6_byteAt_13 : decode cX6_byteAt 13 = .ok (.iaload, 1) := by decide +kernel
theorem dX6_byteAt_14 : decode cX6_byteAt 14 = .ok (.goto 5, 3) := by decide +kernel
theorem dX6_byteAt_17 : decode cX6_byteAt 17 = .ok (.bipush (-4), 2) := by decide +kernel
theorem dX6_byteAt_19 : decode cX6_byteAt 19 = .ok (.ireturn, 1) := by decide +kernel
theorem dX6_fails_0 : decode cX6_fails 0 = .ok (.aload_n 0, 1) := by decide +kernel
theorem dX6_fails_1 : decode cX6_fails 1 = .ok (.getfield 57, 3) := by decide +kernel
theorem dX6_fails_4 : decode cX6_fails 4 = .ok (.ifCond .ne 16, 3) := by decide +kernel
theorem dX6_fails_7 : decode cX6_fails 7 = .ok (.aload_n 0, 1) := by decide +kernel
theorem dX6_fails_8 : decode cX6_fails 8 = .ok (.iload_n 1, 1) := by decide +kernel
theorem dX6_fails_9 : decode cX6_fails 9 = .ok (.putfield 57, 3) := by decide +kernel
theorem dX6_fails_12 : decode cX6_fails 12 = .ok (.aload_n 0, 1) := by decide +kernel
theorem dX6_fails_13 : decode cX6_fails 13 = .ok (.aload_n 0, 1) := by decide +kernel
theorem dX6_fails_14 : decode cX6_fails 14 = .ok (.getfield 60, 3) := by decide +kernel
theorem dX6_fails_17 : decode cX6_fails 17 = .ok (.putfield 63, 3) := by decide +kernel
theorem dX6_fails_20 : decode cX6_fails 20 = .ok (.return_, 1) := by decide +kernel
theorem dX6_nameHere_0 : decode cX6_nameHere 0 = .ok (.iconst 0, 1) := by decide +kernel
theorem dX6_nameHere_1 : decode cX6_nameHere 1 = .ok (.istore_n 1, 1) := by decide +kernel
theorem dX6_nameHere_2 : decode cX6_nameHere 2 = .ok (.iload_n 1, 1) := by decide +kernel
theorem dX6_nameHere_3 : decode cX6_nameHere 3 = .ok (.iconst 5, 1) := by decide +kernel
theorem dX6_nameHere_4 : decode cX6_nameHere 4 = .ok (.if_icmp .ge 113, 3) := by decide +kernel
theorem dX6_nameHere_7 : decode cX6_nameHere 7 = .ok (.aload_n 0, 1) := by decide +kernel
theorem dX6_nameHere_8 : decode cX6_nameHere 8 = .ok (.getfield 66, 3) := by decide +kernel
theorem dX6_nameHere_11 : decode cX6_nameHere 11 = .ok (.iconst 1, 1) := by decide +kernel
theorem dX6_nameHere_12 : decode cX6_nameHere 12 = .ok (.if_icmp .ne 105, 3) := by decide +kernel
theorem dX6_nameHere_15 : decode cX6_nameHere 15 = .ok (.aload_n 0, 1) := by decide +kernel
theorem dX6_nameHere_16 : decode cX6_nameHere 16 = .ok (.getfield 69, 3) := by decide +kernel
theorem dX6_nameHere_19 : decode cX6_nameHere 19 = .ok (.aload_n 0, 1) := by decide +kernel
theorem dX6_nameHere_20 : decode cX6_nameHere 20 = .ok (.getfield 60, 3) := by decide +kernel
theorem dX6_nameHere_23 : decode cX6_nameHere 23 = .ok (.isub, 1) := by decide +kernel
theorem dX6_nameHere_24 : decode cX6_nameHere 24 = .ok (.aload_n 0, 1) := by decide +kernel
theorem dX6_nameHere_25 : decode cX6_nameHere 25 = .ok (.getfield 19, 3) := by decide +kernel
theorem dX6_nameHere_28 : decode cX6_nameHere 28 = .ok (.iload_n 1, 1) := by decide +kernel
theorem dX6_nameHere_29 : decode cX6_nameHere 29 = .ok (.iconst 1, 1) := by decide +kernel
theorem dX6_nameHere_30 : decode cX6_nameHere 30 = .ok (.iadd, 1) := by decide +kernel
theorem dX6_nameHere_31 : decode cX6_nameHere 31 = .ok (.iaload, 1) := by decide +kernel
theorem dX6_nameHere_32 : decode cX6_nameHere 32 = .ok (.aload_n 0, 1) := by decide +kernel
theorem dX6_nameHere_33 : decode cX6_nameHere 33 = .ok (.getfield 19, 3) := by decide +kernel
theorem dX6_nameHere_36 : decode cX6_nameHere 36 = .ok (.iload_n 1, 1) := by decide +kernel
theorem dX6_nameHere_37 : decode cX6_nameHere 37 = .ok (.iaload, 1) := by decide +kernel
theorem dX6_nameHere_38 : decode cX6_nameHere 38 = .ok (.isub, 1) := by decide +kernel
theorem dX6_nameHere_39 : decode cX6_nameHere 39 = .ok (.if_icmp .ne 7, 3) := by decide +kernel
theorem dX6_nameHere_42 : decode cX6_nameHere 42 = .ok (.iconst 1, 1) := by decide +kernel
theorem dX6_nameHere_43 : decode cX6_nameHere 43 = .ok (.goto 4, 3) := by decide +kernel
theorem dX6_nameHere_46 : decode cX6_nameHere 46 = .ok (.iconst 0, 1) := by decide +kernel
theorem dX6_nameHere_47 : decode cX6_nameHere 47 = .ok (.istore_n 2, 1) := by decide +kernel
theorem dX6_nameHere_48 : decode cX6_nameHere 48 = .ok (.iconst 0, 1) := by decide +kernel
theorem dX6_nameHere_49 : decode cX6_nameHere 49 = .ok (.istore_n 3, 1) := by decide +kernel
theorem dX6_nameHere_50 : decode cX6_nameHere 50 = .ok (.iload_n 2, 1) := by decide +kernel
theorem dX6_nameHere_51 : decode cX6_nameHere 51 = .ok (.ifCond .eq 54, 3) := by decide +kernel
theorem dX6_nameHere_54 : decode cX6_nameHere 54 = .ok (.iload_n 3, 1) := by decide +kernel
theorem dX6_nameHere_55 : decode cX6_nameHere 55 = .ok (.aload_n 0, 1) := by decide +kernel
theorem dX6_nameHere_56 : decode cX6_nameHere 56 = .ok (.getfield 69, 3) := by decide +kernel
theorem dX6_nameHere_59 : decode cX6_nameHere 59 = .ok (.aload_n 0, 1) := by decide +kernel
theorem dX6_nameHere_60 : decode cX6_nameHere 60 = .ok (.getfield 60, 3) := by decide +kernel
theorem dX6_nameHere_63 : decode cX6_nameHere 63 = .ok (.isub, 1) := by decide +kernel
theorem dX6_nameHere_64 : decode cX6_nameHere 64 = .ok (.if_icmp .ge 41, 3) := by decide +kernel
theorem dX6_nameHere_67 : decode cX6_nameHere 67 = .ok (.aload_n 0, 1) := by decide +kernel
theorem dX6_nameHere_68 : decode cX6_nameHere 68 = .ok (.aload_n 0, 1) := by decide +kernel
theorem dX6_nameHere_69 : decode cX6_nameHere 69 = .ok (.getfield 60, 3) := by decide +kernel
theorem dX6_nameHere_72 : decode cX6_nameHere 72 = .ok (.iload_n 3, 1) := by decide +kernel
theorem dX6_nameHere_73 : decode cX6_nameHere 73 = .ok (.iadd, 1) := by decide +kernel
theorem dX6_nameHere_74 : decode cX6_nameHere 74 = .ok (.invokevirtual 72, 3) := by decide +kernel
theorem dX6_nameHere_77 : decode cX6_nameHere 77 = .ok (.aload_n 0, 1) := by decide +kernel
theorem dX6_nameHere_78 : decode cX6_nameHere 78 = .ok (.getfield 22, 3) := by decide +kernel
theorem dX6_nameHere_81 : decode cX6_nameHere 81 = .ok (.aload_n 0, 1) := by decide +kernel
theorem dX6_nameHere_82 : decode cX6_nameHere 82 = .ok (.getfield 19, 3) := by decide +kernel
theorem dX6_nameHere_85 : decode cX6_nameHere 85 = .ok (.iload_n 1, 1) := by decide +kernel
theorem dX6_nameHere_86 : decode cX6_nameHere 86 = .ok (.iaload, 1) := by decide +kernel
theorem dX6_nameHere_87 : decode cX6_nameHere 87 = .ok (.iload_n 3, 1) := by decide +kernel
theorem dX6_nameHere_88 : decode cX6_nameHere 88 = .ok (.iadd, 1) := by decide +kernel
theorem dX6_nameHere_89 : decode cX6_nameHere 89 = .ok (.iaload, 1) := by decide +kernel
theorem dX6_nameHere_90 : decode cX6_nameHere 90 = .ok (.if_icmp .ne 7, 3) := by decide +kernel
theorem dX6_nameHere_93 : decode cX6_nameHere 93 = .ok (.iconst 1, 1) := by decide +kernel
theorem dX6_nameHere_94 : decode cX6_nameHere 94 = .ok (.goto 4, 3) := by decide +kernel
theorem dX6_nameHere_97 : decode cX6_nameHere 97 = .ok (.iconst 0, 1) := by decide +kernel
theorem dX6_nameHere_98 : decode cX6_nameHere 98 = .ok (.istore_n 2, 1) := by decide +kernel
theorem dX6_nameHere_99 : decode cX6_nameHere 99 = .ok (.iinc 3 1, 3) := by decide +kernel
theorem dX6_nameHere_102 : decode cX6_nameHere 102 = .ok (.goto (-52), 3) := by decide +kernel
theorem dX6_nameHere_105 : decode cX6_nameHere 105 = .ok (.iload_n 2, 1) := by decide +kernel
theorem dX6_nameHere_106 : decode cX6_nameHere 106 = .ok (.ifCond .eq 5, 3) := by decide +kernel
theorem dX6_nameHere_109 : decode cX6_nameHere 109 = .ok (.iload_n 1, 1) := by decide +kernel
theorem dX6_nameHere_110 : decode cX6_nameHere 110 = .ok (.ireturn, 1) := by decide +kernel
theorem dX6_nameHere_111 : decode cX6_nameHere 111 = .ok (.iinc 1 1, 3) := by decide +kernel
theorem dX6_nameHere_114 : decode cX6_nameHere 114 = .ok (.goto (-112), 3) := by decide +kernel
theorem dX6_nameHere_117 : decode cX6_nameHere 117 = .ok (.bipush (-4), 2) := by decide +kernel
theorem dX6_nameHere_119 : decode cX6_nameHere 119 = .ok (.ireturn, 1) := by decide +kernel
theorem dX6_step_0 : decode cX6_step 0 = .ok (.aload_n 0, 1) := by decide +kernel
theorem dX6_step_1 : decode cX6_step 1 = .ok (.getfield 57, 3) := by decide +kernel
theorem dX6_step_4 : decode cX6_step 4 = .ok (.ifCond .le 4, 3) := by decide +kernel
theorem dX6_step_7 : decode cX6_step 7 = .ok (.return_, 1) := by decide +kernel
theorem dX6_step_8 : decode cX6_step 8 = .ok (.aload_n 0, 1) := by decide +kernel
theorem dX6_step_9 : decode cX6_step 9 = .ok (.aload_n 0, 1) := by decide +kernel
theorem dX6_step_10 : decode cX6_step 10 = .ok (.getfield 69, 3) := by decide +kernel
theorem dX6_step_13 : decode cX6_step 13 = .ok (.invokevirtual 72, 3) := by decide +kernel
theorem dX6_step_16 : decode cX6_step 16 = .ok (.bipush 32, 2) := by decide +kernel
theorem dX6_step_18 : decode cX6_step 18 = .ok (.if_icmp .ne 16, 3) := by decide +kernel
theorem dX6_step_21 : decode cX6_step 21 = .ok (.aload_n 0, 1) := by decide +kernel
theorem dX6_step_22 : decode cX6_step 22 = .ok (.dup, 1) := by decide +kernel
theorem dX6_step_23 : decode cX6_step 23 = .ok (.getfield 69, 3) := by decide +kernel
theorem dX6_step_26 : decode cX6_step 26 = .ok (.iconst 1, 1) := by decide +kernel
theorem dX6_step_27 : decode cX6_step 27 = .ok (.iadd, 1) := by decide +kernel
theorem dX6_step_28 : decode cX6_step 28 = .ok (.putfield 69, 3) := by decide +kernel
theorem dX6_step_31 : decode cX6_step 31 = .ok (.goto (-23), 3) := by decide +kernel
theorem dX6_step_34 : decode cX6_step 34 = .ok (.aload_n 0, 1) := by decide +kernel
theorem dX6_step_35 : decode cX6_step 35 = .ok (.aload_n 0, 1) := by decide +kernel
theorem dX6_step_36 : decode cX6_step 36 = .ok (.getfield 69, 3) := by decide +kernel
theorem dX6_step_39 : decode cX6_step 39 = .ok (.putfield 60, 3) := by decide +kernel
theorem dX6_step_42 : decode cX6_step 42 = .ok (.aload_n 0, 1) := by decide +kernel
theorem dX6_step_43 : decode cX6_step 43 = .ok (.aload_n 0, 1) := by decide +kernel
theorem dX6_step_44 : decode cX6_step 44 = .ok (.getfield 69, 3) := by decide +kernel
theorem dX6_step_47 : decode cX6_step 47 = .ok (.invokevirtual 72, 3) := by decide +kernel
theorem dX6_step_50 : decode cX6_step 50 = .ok (.istore_n 1, 1) := by decide +kernel
theorem dX6_step_51 : decode cX6_step 51 = .ok (.aload_n 0, 1) := by decide +kernel
theorem dX6_step_52 : decode cX6_step 52 = .ok (.iconst 0, 1) := by decide +kernel
theorem dX6_step_53 : decode cX6_step 53 = .ok (.putfield 76, 3) := by decide +kernel
theorem dX6_step_56 : decode cX6_step 56 = .ok (.iload_n 1, 1) := by decide +kernel
theorem dX6_step_57 : decode cX6_step 57 = .ok (.bipush (-4), 2) := by decide +kernel
theorem dX6_step_59 : decode cX6_step 59 = .ok (.if_icmp .ne 11, 3) := by decide +kernel
theorem dX6_step_62 : decode cX6_step 62 = .ok (.aload_n 0, 1) := by decide +kernel
theorem dX6_step_63 : decode cX6_step 63 = .ok (.iconst 0, 1) := by decide +kernel
theorem dX6_step_64 : decode cX6_step 64 = .ok (.putfield 66, 3) := by decide +kernel
theorem dX6_step_67 : decode cX6_step 67 = .ok (.goto 202, 3) := by decide +kernel
theorem dX6_step_70 : decode cX6_step 70 = .ok (.iload_n 1, 1) := by decide +kernel
theorem dX6_step_71 : decode cX6_step 71 = .ok (.i2l, 1) := by decide +kernel
theorem dX6_step_72 : decode cX6_step 72 = .ok (.ldc2_w 79, 3) := by decide +kernel
theorem dX6_step_75 : decode cX6_step 75 = .ok (.ldc2_w 81, 3) := by decide +kernel
theorem dX6_step_78 : decode cX6_step 78 = .ok (.invokestatic 50, 3) := by decide +kernel
theorem dX6_step_81 : decode cX6_step 81 = .ok (.ifCond .eq 45, 3) := by decide +kernel
theorem dX6_step_84 : decode cX6_step 84 = .ok (.aload_n 0, 1) := by decide +kernel
theorem dX6_step_85 : decode cX6_step 85 = .ok (.aload_n 0, 1) := by decide +kernel
theorem dX6_step_86 : decode cX6_step 86 = .ok (.getfield 69, 3) := by decide +kernel
theorem dX6_step_89 : decode cX6_step 89 = .ok (.invokevirtual 72, 3) := by decide +kernel
theorem dX6_step_92 : decode cX6_step 92 = .ok (.i2l, 1) := by decide +kernel
theorem dX6_step_93 : decode cX6_step 93 = .ok (.ldc2_w 79, 3) := by decide +kernel
theorem dX6_step_96 : decode cX6_step 96 = .ok (.ldc2_w 81, 3) := by decide +kernel
theorem dX6_step_99 : decode cX6_step 99 = .ok (.invokestatic 50, 3) := by decide +kernel
theorem dX6_step_102 : decode cX6_step 102 = .ok (.ifCond .eq 16, 3) := by decide +kernel
theorem dX6_step_105 : decode cX6_step 105 = .ok (.aload_n 0, 1) := by decide +kernel
theorem dX6_step_106 : decode cX6_step 106 = .ok (.dup, 1) := by decide +kernel
theorem dX6_step_107 : decode cX6_step 107 = .ok (.getfield 69, 3) := by decide +kernel
theorem dX6_step_110 : decode cX6_step 110 = .ok (.iconst 1, 1) := by decide +kernel
theorem dX6_step_111 : decode cX6_step 111 = .ok (.iadd, 1) := by decide +kernel
theorem dX6_step_112 : decode cX6_step 112 = .ok (.putfield 69, 3) := by decide +kernel
theorem dX6_step_115 : decode cX6_step 115 = .ok (.goto (-31), 3) := by decide +kernel
theorem dX6_step_118 : decode cX6_step 118 = .ok (.aload_n 0, 1) := by decide +kernel
theorem dX6_step_119 : decode cX6_step 119 = .ok (.iconst 1, 1) := by decide +kernel
theorem dX6_step_120 : decode cX6_step 120 = .ok (.putfield 66, 3) := by decide +kernel
theorem dX6_step_123 : decode cX6_step 123 = .ok (.goto 146, 3) := by decide +kernel
theorem dX6_step_126 : decode cX6_step 126 = .ok (.iload_n 1, 1) := by decide +kernel
theorem dX6_step_127 : decode cX6_step 127 = .ok (.i2l, 1) := by decide +kernel
theorem dX6_step_128 : decode cX6_step 128 = .ok (.ldc2_w 83, 3) := by decide +kernel
theorem dX6_step_131 : decode cX6_step 131 = .ok (.ldc2_w 85, 3) := by decide +kernel
theorem dX6_step_134 : decode cX6_step 134 = .ok (.invokestatic 50, 3) := by decide +kernel
theorem dX6_step_137 : decode cX6_step 137 = .ok (.ifCond .eq 106, 3) := by decide +kernel
theorem dX6_step_140 : decode cX6_step 140 = .ok (.aload_n 0, 1) := by decide +kernel
theorem dX6_step_141 : decode cX6_step 141 = .ok (.aload_n 0, 1) := by decide +kernel
theorem dX6_step_142 : decode cX6_step 142 = .ok (.getfield 69, 3) := by decide +kernel
theorem dX6_step_145 : decode cX6_step 145 = .ok (.invokevirtual 72, 3) := by decide +kernel
theorem dX6_step_148 : decode cX6_step 148 = .ok (.i2l, 1) := by decide +kernel
theorem dX6_step_149 : decode cX6_step 149 = .ok (.ldc2_w 83, 3) := by decide +kernel
theorem dX6_step_152 : decode cX6_step 152 = .ok (.ldc2_w 85, 3) := by decide +kernel
theorem dX6_step_155 : decode cX6_step 155 = .ok (.invokestatic 50, 3) := by decide +kernel
theorem dX6_step_158 : decode cX6_step 158 = .ok (.ifCond .eq 59, 3) := by decide +kernel
theorem dX6_step_161 : decode cX6_step 161 = .ok (.aload_n 0, 1) := by decide +kernel
theorem dX6_step_162 : decode cX6_step 162 = .ok (.aload_n 0, 1) := by decide +kernel
theorem dX6_step_163 : decode cX6_step 163 = .ok (.getfield 69, 3) := by decide +kernel
theorem dX6_step_166 : decode cX6_step 166 = .ok (.aload_n 0, 1) := by decide +kernel
theorem dX6_step_167 : decode cX6_step 167 = .ok (.getfield 60, 3) := by decide +kernel
theorem dX6_step_170 : decode cX6_step 170 = .ok (.isub, 1) := by decide +kernel
theorem dX6_step_171 : decode cX6_step 171 = .ok (.iconst 2, 1) := by decide +kernel
theorem dX6_step_172 : decode cX6_step 172 = .ok (.if_icmp .ge 25, 3) := by decide +kernel
theorem dX6_step_175 : decode cX6_step 175 = .ok (.bipush 10, 2) := by decide +kernel
theorem dX6_step_177 : decode cX6_step 177 = .ok (.aload_n 0, 1) := by decide +kernel
theorem dX6_step_178 : decode cX6_step 178 = .ok (.getfield 76, 3) := by decide +kernel
theorem dX6_step_181 : decode cX6_step 181 = .ok (.imul, 1) := by decide +kernel
theorem dX6_step_182 : decode cX6_step 182 = .ok (.aload_n 0, 1) := by decide +kernel
theorem dX6_step_183 : decode cX6_step 183 = .ok (.aload_n 0, 1) := by decide +kernel
theorem dX6_step_184 : decode cX6_step 184 = .ok (.getfield 69, 3) := by decide +kernel
theorem dX6_step_187 : decode cX6_step 187 = .ok (.invokevirtual 72, 3) := by decide +kernel
theorem dX6_step_190 : decode cX6_step 190 = .ok (.iadd, 1) := by decide +kernel
theorem dX6_step_191 : decode cX6_step 191 = .ok (.bipush 48, 2) := by decide +kernel
theorem dX6_step_193 : decode cX6_step 193 = .ok (.isub, 1) := by decide +kernel
theorem dX6_step_194 : decode cX6_step 194 = .ok (.goto 7, 3) := by decide +kernel
theorem dX6_step_197 : decode cX6_step 197 = .ok (.aload_n 0, 1) := by decide +kernel
theorem dX6_step_198 : decode cX6_step 198 = .ok (.getfield 76, 3) := by decide +kernel
theorem dX6_step_201 : decode cX6_step 201 = .ok (.putfield 76, 3) := by decide +kernel
theorem dX6_step_204 : decode cX6_step 204 = .ok (.aload_n 0, 1) := by decide +kernel
theorem dX6_step_205 : decode cX6_step 205 = .ok (.dup, 1) := by decide +kernel
theorem dX6_step_206 : decode cX6_step 206 = .ok (.getfield 69, 3) := by decide +kernel
theorem dX6_step_209 : decode cX6_step 209 = .ok (.iconst 1, 1) := by decide +kernel
theorem dX6_step_210 : decode cX6_step 210 = .ok (.iadd, 1) := by decide +kernel
theorem dX6_step_211 : decode cX6_step 211 = .ok (.putfield 69, 3) := by decide +kernel
theorem dX6_step_214 : decode cX6_step 214 = .ok (.goto (-74), 3) := by decide +kernel
theorem dX6_step_217 : decode cX6_step 217 = .ok (.aload_n 0, 1) := by decide +kernel
theorem dX6_step_218 : decode cX6_step 218 = .ok (.iconst 2, 1) := by decide +kernel
theorem dX6_step_219 : decode cX6_step 219 = .ok (.putfield 66, 3) := by decide +kernel
theorem dX6_step_222 : decode cX6_step 222 = .ok (.aload_n 0, 1) := by decide +kernel
theorem dX6_step_223 : decode cX6_step 223 = .ok (.getfield 69, 3) := by decide +kernel
theorem dX6_step_226 : decode cX6_step 226 = .ok (.aload_n 0, 1) := by decide +kernel
theorem dX6_step_227 : decode cX6_step 227 = .ok (.getfield 60, 3) := by decide +kernel
theorem dX6_step_230 : decode cX6_step 230 = .ok (.isub, 1) := by decide +kernel
theorem dX6_step_231 : decode cX6_step 231 = .ok (.iconst 2, 1) := by decide +kernel
theorem dX6_step_232 : decode cX6_step 232 = .ok (.if_icmp .le 37, 3) := by decide +kernel
theorem dX6_step_235 : decode cX6_step 235 = .ok (.aload_n 0, 1) := by decide +kernel
theorem dX6_step_236 : decode cX6_step 236 = .ok (.iconst 1, 1) := by decide +kernel
theorem dX6_step_237 : decode cX6_step 237 = .ok (.invokevirtual 87, 3) := by decide +kernel
theorem dX6_step_240 : decode cX6_step 240 = .ok (.goto 29, 3) := by decide +kernel
theorem dX6_step_243 : decode cX6_step 243 = .ok (.aload_n 0, 1) := by decide +kernel
theorem dX6_step_244 : decode cX6_step 244 = .ok (.iconst 3, 1) := by decide +kernel
theorem dX6_step_245 : decode cX6_step 245 = .ok (.putfield 66, 3) := by decide +kernel
theorem dX6_step_248 : decode cX6_step 248 = .ok (.aload_n 0, 1) := by decide +kernel
theorem dX6_step_249 : decode cX6_step 249 = .ok (.dup, 1) := by decide +kernel
theorem dX6_step_250 : decode cX6_step 250 = .ok (.getfield 69, 3) := by decide +kernel
theorem dX6_step_253 : decode cX6_step 253 = .ok (.iconst 1, 1) := by decide +kernel
theorem dX6_step_254 : decode cX6_step 254 = .ok (.iadd, 1) := by decide +kernel
theorem dX6_step_255 : decode cX6_step 255 = .ok (.putfield 69, 3) := by decide +kernel
theorem dX6_step_258 : decode cX6_step 258 = .ok (.iload_n 1, 1) := by decide +kernel
theorem dX6_step_259 : decode cX6_step 259 = .ok (.bipush 59, 2) := by decide +kernel
theorem dX6_step_261 : decode cX6_step 261 = .ok (.if_icmp .eq 8, 3) := by decide +kernel
theorem dX6_step_264 : decode cX6_step 264 = .ok (.aload_n 0, 1) := by decide +kernel
theorem dX6_step_265 : decode cX6_step 265 = .ok (.iconst 1, 1) := by decide +kernel
theorem dX6_step_266 : decode cX6_step 266 = .ok (.invokevirtual 87, 3) := by decide +kernel
theorem dX6_step_269 : decode cX6_step 269 = .ok (.return_, 1) := by decide +kernel
theorem dX6_number_0 : decode cX6_number 0 = .ok (.aload_n 0, 1) := by decide +kernel
theorem dX6_number_1 : decode cX6_number 1 = .ok (.getfield 57, 3) := by decide +kernel
theorem dX6_number_4 : decode cX6_number 4 = .ok (.ifCond .ne 16, 3) := by decide +kernel
theorem dX6_number_7 : decode cX6_number 7 = .ok (.aload_n 0, 1) := by decide +kernel
theorem dX6_number_8 : decode cX6_number 8 = .ok (.getfield 66, 3) := by decide +kernel
theorem dX6_number_11 : decode cX6_number 11 = .ok (.iconst 2, 1) := by decide +kernel
theorem dX6_number_12 : decode cX6_number 12 = .ok (.if_icmp .eq 8, 3) := by decide +kernel
theorem dX6_number_15 : decode cX6_number 15 = .ok (.aload_n 0, 1) := by decide +kernel
theorem dX6_number_16 : decode cX6_number 16 = .ok (.iconst 2, 1) := by decide +kernel
theorem dX6_number_17 : decode cX6_number 17 = .ok (.invokevirtual 87, 3) := by decide +kernel
theorem dX6_number_20 : decode cX6_number 20 = .ok (.aload_n 0, 1) := by decide +kernel
theorem dX6_number_21 : decode cX6_number 21 = .ok (.getfield 57, 3) := by decide +kernel
theorem dX6_number_24 : decode cX6_number 24 = .ok (.ifCond .ne 23, 3) := by decide +kernel
theorem dX6_number_27 : decode cX6_number 27 = .ok (.aload_n 0, 1) := by decide +kernel
theorem dX6_number_28 : decode cX6_number 28 = .ok (.getfield 76, 3) := by decide +kernel
theorem dX6_number_31 : decode cX6_number 31 = .ok (.i2l, 1) := by decide +kernel
theorem dX6_number_32 : decode cX6_number 32 = .ok (.iload_n 1, 1) := by decide +kernel
theorem dX6_number_33 : decode cX6_number 33 = .ok (.i2l, 1) := by decide +kernel
theorem dX6_number_34 : decode cX6_number 34 = .ok (.iload_n 2, 1) := by decide +kernel
theorem dX6_number_35 : decode cX6_number 35 = .ok (.i2l, 1) := by decide +kernel
theorem dX6_number_36 : decode cX6_number 36 = .ok (.invokestatic 50, 3) := by decide +kernel
theorem dX6_number_39 : decode cX6_number 39 = .ok (.ifCond .ne 8, 3) := by decide +kernel
theorem dX6_number_42 : decode cX6_number 42 = .ok (.aload_n 0, 1) := by decide +kernel
theorem dX6_number_43 : decode cX6_number 43 = .ok (.iconst 3, 1) := by decide +kernel
theorem dX6_number_44 : decode cX6_number 44 = .ok (.invokevirtual 87, 3) := by decide +kernel
theorem dX6_number_47 : decode cX6_number 47 = .ok (.aload_n 0, 1) := by decide +kernel
theorem dX6_number_48 : decode cX6_number 48 = .ok (.getfield 57, 3) := by decide +kernel
theorem dX6_number_51 : decode cX6_number 51 = .ok (.ifCond .ne 10, 3) := by decide +kernel
theorem dX6_number_54 : decode cX6_number 54 = .ok (.aload_n 0, 1) := by decide +kernel
theorem dX6_number_55 : decode cX6_number 55 = .ok (.getfield 76, 3) := by decide +kernel
theorem dX6_number_58 : decode cX6_number 58 = .ok (.goto 4, 3) := by decide +kernel
theorem dX6_number_61 : decode cX6_number 61 = .ok (.iload_n 1, 1) := by decide +kernel
theorem dX6_number_62 : decode cX6_number 62 = .ok (.istore_n 3, 1) := by decide +kernel
theorem dX6_number_63 : decode cX6_number 63 = .ok (.aload_n 0, 1) := by decide +kernel
theorem dX6_number_64 : decode cX6_number 64 = .ok (.invokevirtual 91, 3) := by decide +kernel
theorem dX6_number_67 : decode cX6_number 67 = .ok (.iload_n 3, 1) := by decide +kernel
theorem dX6_number_68 : decode cX6_number 68 = .ok (.ireturn, 1) := by decide +kernel
theorem dX6_readMore_0 : decode cX6_readMore 0 = .ok (.iload_n 1, 1) := by decide +kernel
theorem dX6_readMore_1 : decode cX6_readMore 1 = .ok (.iconst 4, 1) := by decide +kernel
theorem dX6_readMore_2 : decode cX6_readMore 2 = .ok (.if_icmp .ne 19, 3) := by decide +kernel
theorem dX6_readMore_5 : decode cX6_readMore 5 = .ok (.aload_n 0, 1) := by decide +kernel
theorem dX6_readMore_6 : decode cX6_readMore 6 = .ok (.getfield 13, 3) := by decide +kernel
theorem dX6_readMore_9 : decode cX6_readMore 9 = .ok (.bipush 21, 2) := by decide +kernel
theorem dX6_readMore_11 : decode cX6_readMore 11 = .ok (.aload_n 0, 1) := by decide +kernel
theorem dX6_readMore_12 : decode cX6_readMore 12 = .ok (.iconst 0, 1) := by decide +kernel
theorem dX6_readMore_13 : decode cX6_readMore 13 = .ok (.iconst 5, 1) := by decide +kernel
theorem dX6_readMore_14 : decode cX6_readMore 14 = .ok (.invokevirtual 94, 3) := by decide +kernel
theorem dX6_readMore_17 : decode cX6_readMore 17 = .ok (.iconst 1, 1) := by decide +kernel
theorem dX6_readMore_18 : decode cX6_readMore 18 = .ok (.isub, 1) := by decide +kernel
theorem dX6_readMore_19 : decode cX6_readMore 19 = .ok (.iastore, 1) := by decide +kernel
theorem dX6_readMore_20 : decode cX6_readMore 20 = .ok (.return_, 1) := by decide +kernel
theorem dX6_readMore_21 : decode cX6_readMore 21 = .ok (.aload_n 0, 1) := by decide +kernel
theorem dX6_readMore_22 : decode cX6_readMore 22 = .ok (.getfield 13, 3) := by decide +kernel
theorem dX6_readMore_25 : decode cX6_readMore 25 = .ok (.bipush 20, 2) := by decide +kernel
theorem dX6_readMore_27 : decode cX6_readMore 27 = .ok (.iaload, 1) := by decide +kernel
theorem dX6_readMore_28 : decode cX6_readMore 28 = .ok (.istore_n 2, 1) := by decide +kernel
theorem dX6_readMore_29 : decode cX6_readMore 29 = .ok (.aload_n 0, 1) := by decide +kernel
theorem dX6_readMore_30 : decode cX6_readMore 30 = .ok (.getfield 13, 3) := by decide +kernel
theorem dX6_readMore_33 : decode cX6_readMore 33 = .ok (.iload_n 2, 1) := by decide +kernel
theorem dX6_readMore_34 : decode cX6_readMore 34 = .ok (.iload_n 1, 1) := by decide +kernel
theorem dX6_readMore_35 : decode cX6_readMore 35 = .ok (.iastore, 1) := by decide +kernel
theorem dX6_readMore_36 : decode cX6_readMore 36 = .ok (.aload_n 0, 1) := by decide +kernel
theorem dX6_readMore_37 : decode cX6_readMore 37 = .ok (.getfield 13, 3) := by decide +kernel
theorem dX6_readMore_40 : decode cX6_readMore 40 = .ok (.iconst 5, 1) := by decide +kernel
theorem dX6_readMore_41 : decode cX6_readMore 41 = .ok (.iload_n 2, 1) := by decide +kernel
theorem dX6_readMore_42 : decode cX6_readMore 42 = .ok (.iadd, 1) := by decide +kernel
theorem dX6_readMore_43 : decode cX6_readMore 43 = .ok (.aload_n 0, 1) := by decide +kernel
theorem dX6_readMore_44 : decode cX6_readMore 44 = .ok (.iconst 2, 1) := by decide +kernel
theorem dX6_readMore_45 : decode cX6_readMore 45 = .ok (.bipush 30, 2) := by decide +kernel
theorem dX6_readMore_47 : decode cX6_readMore 47 = .ok (.invokevirtual 94, 3) := by decide +kernel
theorem dX6_readMore_50 : decode cX6_readMore 50 = .ok (.iastore, 1) := by decide +kernel
theorem dX6_readMore_51 : decode cX6_readMore 51 = .ok (.aload_n 0, 1) := by decide +kernel
theorem dX6_readMore_52 : decode cX6_readMore 52 = .ok (.getfield 13, 3) := by decide +kernel
theorem dX6_readMore_55 : decode cX6_readMore 55 = .ok (.bipush 10, 2) := by decide +kernel
theorem dX6_readMore_57 : decode cX6_readMore 57 = .ok (.iload_n 2, 1) := by decide +kernel
theorem dX6_readMore_58 : decode cX6_readMore 58 = .ok (.iadd, 1) := by decide +kernel
theorem dX6_readMore_59 : decode cX6_readMore 59 = .ok (.aload_n 0, 1) := by decide +kernel
theorem dX6_readMore_60 : decode cX6_readMore 60 = .ok (.iconst 0, 1) := by decide +kernel
theorem dX6_readMore_61 : decode cX6_readMore 61 = .ok (.aload_n 0, 1) := by decide +kernel
theorem dX6_readMore_62 : decode cX6_readMore 62 = .ok (.getfield 13, 3) := by decide +kernel
theorem dX6_readMore_65 : decode cX6_readMore 65 = .ok (.iconst 5, 1) := by decide +kernel
theorem dX6_readMore_66 : decode cX6_readMore 66 = .ok (.iload_n 2, 1) := by decide +kernel
theorem dX6_readMore_67 : decode cX6_readMore 67 = .ok (.iadd, 1) := by decide +kernel
theorem dX6_readMore_68 : decode cX6_readMore 68 = .ok (.iaload, 1) := by decide +kernel
theorem dX6_readMore_69 : decode cX6_readMore 69 = .ok (.iconst 1, 1) := by decide +kernel
theorem dX6_readMore_70 : decode cX6_readMore 70 = .ok (.isub, 1) := by decide +kernel
theorem dX6_readMore_71 : decode cX6_readMore 71 = .ok (.invokevirtual 94, 3) := by decide +kernel
theorem dX6_readMore_74 : decode cX6_readMore 74 = .ok (.iastore, 1) := by decide +kernel
theorem dX6_readMore_75 : decode cX6_readMore 75 = .ok (.aload_n 0, 1) := by decide +kernel
theorem dX6_readMore_76 : decode cX6_readMore 76 = .ok (.getfield 13, 3) := by decide +kernel
theorem dX6_readMore_79 : decode cX6_readMore 79 = .ok (.bipush 20, 2) := by decide +kernel
theorem dX6_readMore_81 : decode cX6_readMore 81 = .ok (.dup2, 1) := by decide +kernel
theorem dX6_readMore_82 : decode cX6_readMore 82 = .ok (.iaload, 1) := by decide +kernel
theorem dX6_readMore_83 : decode cX6_readMore 83 = .ok (.iconst 1, 1) := by decide +kernel
theorem dX6_readMore_84 : decode cX6_readMore 84 = .ok (.iadd, 1) := by decide +kernel
theorem dX6_readMore_85 : decode cX6_readMore 85 = .ok (.iastore, 1) := by decide +kernel
theorem dX6_readMore_86 : decode cX6_readMore 86 = .ok (.return_, 1) := by decide +kernel
theorem dX6_readLine_0 : decode cX6_readLine 0 = .ok (.aload_n 0, 1) := by decide +kernel
theorem dX6_readLine_1 : decode cX6_readLine 1 = .ok (.invokevirtual 98, 3) := by decide +kernel
theorem dX6_readLine_4 : decode cX6_readLine 4 = .ok (.istore_n 1, 1) := by decide +kernel
theorem dX6_readLine_5 : decode cX6_readLine 5 = .ok (.iload_n 1, 1) := by decide +kernel
theorem dX6_readLine_6 : decode cX6_readLine 6 = .ok (.i2l, 1) := by decide +kernel
theorem dX6_readLine_7 : decode cX6_readLine 7 = .ok (.lconst 0, 1) := by decide +kernel
theorem dX6_readLine_8 : decode cX6_readLine 8 = .ok (.ldc2_w 102, 3) := by decide +kernel
theorem dX6_readLine_11 : decode cX6_readLine 11 = .ok (.invokestatic 50, 3) := by decide +kernel
theorem dX6_readLine_14 : decode cX6_readLine 14 = .ok (.ifCond .ne 9, 3) := by decide +kernel
theorem dX6_readLine_17 : decode cX6_readLine 17 = .ok (.aload_n 0, 1) := by decide +kernel
theorem dX6_readLine_18 : decode cX6_readLine 18 = .ok (.iconst 2, 1) := by decide +kernel
theorem dX6_readLine_19 : decode cX6_readLine 19 = .ok (.invokevirtual 87, 3) := by decide +kernel
theorem dX6_readLine_22 : decode cX6_readLine 22 = .ok (.return_, 1) := by decide +kernel
theorem dX6_readLine_23 : decode cX6_readLine 23 = .ok (.iload_n 1, 1) := by decide +kernel
theorem dX6_readLine_24 : decode cX6_readLine 24 = .ok (.iconst 3, 1) := by decide +kernel
theorem dX6_readLine_25 : decode cX6_readLine 25 = .ok (.if_icmp .gt 19, 3) := by decide +kernel
theorem dX6_readLine_28 : decode cX6_readLine 28 = .ok (.aload_n 0, 1) := by decide +kernel
theorem dX6_readLine_29 : decode cX6_readLine 29 = .ok (.getfield 13, 3) := by decide +kernel
theorem dX6_readLine_32 : decode cX6_readLine 32 = .ok (.bipush 20, 2) := by decide +kernel
theorem dX6_readLine_34 : decode cX6_readLine 34 = .ok (.iaload, 1) := by decide +kernel
theorem dX6_readLine_35 : decode cX6_readLine 35 = .ok (.iconst 5, 1) := by decide +kernel
theorem dX6_readLine_36 : decode cX6_readLine 36 = .ok (.if_icmp .ne 8, 3) := by decide +kernel
theorem dX6_readLine_39 : decode cX6_readLine 39 = .ok (.aload_n 0, 1) := by decide +kernel
theorem dX6_readLine_40 : decode cX6_readLine 40 = .ok (.iconst 5, 1) := by decide +kernel
theorem dX6_readLine_41 : decode cX6_readLine 41 = .ok (.invokevirtual 87, 3) := by decide +kernel
theorem dX6_readLine_44 : decode cX6_readLine 44 = .ok (.iload_n 1, 1) := by decide +kernel
theorem dX6_readLine_45 : decode cX6_readLine 45 = .ok (.iconst 4, 1) := by decide +kernel
theorem dX6_readLine_46 : decode cX6_readLine 46 = .ok (.if_icmp .ne 15, 3) := by decide +kernel
theorem dX6_readLine_49 : decode cX6_readLine 49 = .ok (.aload_n 0, 1) := by decide +kernel
theorem dX6_readLine_50 : decode cX6_readLine 50 = .ok (.getfield 104, 3) := by decide +kernel
theorem dX6_readLine_53 : decode cX6_readLine 53 = .ok (.ifCond .eq 8, 3) := by decide +kernel
theorem dX6_readLine_56 : decode cX6_readLine 56 = .ok (.aload_n 0, 1) := by decide +kernel
theorem dX6_readLine_57 : decode cX6_readLine 57 = .ok (.iconst 4, 1) := by decide +kernel
theorem dX6_readLine_58 : decode cX6_readLine 58 = .ok (.invokevirtual 87, 3) := by decide +kernel
theorem dX6_readLine_61 : decode cX6_readLine 61 = .ok (.aload_n 0, 1) := by decide +kernel
theorem dX6_readLine_62 : decode cX6_readLine 62 = .ok (.aload_n 0, 1) := by decide +kernel
theorem dX6_readLine_63 : decode cX6_readLine 63 = .ok (.getfield 104, 3) := by decide +kernel
theorem dX6_readLine_66 : decode cX6_readLine 66 = .ok (.ifCond .ne 8, 3) := by decide +kernel
theorem dX6_readLine_69 : decode cX6_readLine 69 = .ok (.iload_n 1, 1) := by decide +kernel
theorem dX6_readLine_70 : decode cX6_readLine 70 = .ok (.iconst 4, 1) := by decide +kernel
theorem dX6_readLine_71 : decode cX6_readLine 71 = .ok (.if_icmp .ne 7, 3) := by decide +kernel
theorem dX6_readLine_74 : decode cX6_readLine 74 = .ok (.iconst 1, 1) := by decide +kernel
theorem dX6_readLine_75 : decode cX6_readLine 75 = .ok (.goto 4, 3) := by decide +kernel
theorem dX6_readLine_78 : decode cX6_readLine 78 = .ok (.iconst 0, 1) := by decide +kernel
theorem dX6_readLine_79 : decode cX6_readLine 79 = .ok (.putfield 104, 3) := by decide +kernel
theorem dX6_readLine_82 : decode cX6_readLine 82 = .ok (.aload_n 0, 1) := by decide +kernel
theorem dX6_readLine_83 : decode cX6_readLine 83 = .ok (.invokevirtual 91, 3) := by decide +kernel
theorem dX6_readLine_86 : decode cX6_readLine 86 = .ok (.aload_n 0, 1) := by decide +kernel
theorem dX6_readLine_87 : decode cX6_readLine 87 = .ok (.getfield 57, 3) := by decide +kernel
theorem dX6_readLine_90 : decode cX6_readLine 90 = .ok (.ifCond .le 4, 3) := by decide +kernel
theorem dX6_readLine_93 : decode cX6_readLine 93 = .ok (.return_, 1) := by decide +kernel
theorem dX6_readLine_94 : decode cX6_readLine 94 = .ok (.aload_n 0, 1) := by decide +kernel
theorem dX6_readLine_95 : decode cX6_readLine 95 = .ok (.iload_n 1, 1) := by decide +kernel
theorem dX6_readLine_96 : decode cX6_readLine 96 = .ok (.invokevirtual 108, 3) := by decide +kernel
theorem dX6_readLine_99 : decode cX6_readLine 99 = .ok (.aload_n 0, 1) := by decide +kernel
theorem dX6_readLine_100 : decode cX6_readLine 100 = .ok (.getfield 57, 3) := by decide +kernel
theorem dX6_readLine_103 : decode cX6_readLine 103 = .ok (.ifCond .ne 16, 3) := by decide +kernel
theorem dX6_readLine_106 : decode cX6_readLine 106 = .ok (.aload_n 0, 1) := by decide +kernel
theorem dX6_readLine_107 : decode cX6_readLine 107 = .ok (.getfield 66, 3) := by decide +kernel
theorem dX6_readLine_110 : decode cX6_readLine 110 = .ok (.iconst 3, 1) := by decide +kernel
theorem dX6_readLine_111 : decode cX6_readLine 111 = .ok (.if_icmp .eq 8, 3) := by decide +kernel
theorem dX6_readLine_114 : decode cX6_readLine 114 = .ok (.aload_n 0, 1) := by decide +kernel
theorem dX6_readLine_115 : decode cX6_readLine 115 = .ok (.iconst 2, 1) := by decide +kernel
theorem dX6_readLine_116 : decode cX6_readLine 116 = .ok (.invokevirtual 87, 3) := by decide +kernel
theorem dX6_readLine_119 : decode cX6_readLine 119 = .ok (.aload_n 0, 1) := by decide +kernel
theorem dX6_readLine_120 : decode cX6_readLine 120 = .ok (.invokevirtual 91, 3) := by decide +kernel
theorem dX6_readLine_123 : decode cX6_readLine 123 = .ok (.return_, 1) := by decide +kernel
theorem dX6_text_0 : decode cX6_text 0 = .ok (.aload_n 0, 1) := by decide +kernel
theorem dX6_text_1 : decode cX6_text 1 = .ok (.iconst 0, 1) := by decide +kernel
theorem dX6_text_2 : decode cX6_text 2 = .ok (.putfield 57, 3) := by decide +kernel
theorem dX6_text_5 : decode cX6_text 5 = .ok (.aload_n 0, 1) := by decide +kernel
theorem dX6_text_6 : decode cX6_text 6 = .ok (.iconst 0, 1) := by decide +kernel
theorem dX6_text_7 : decode cX6_text 7 = .ok (.putfield 69, 3) := by decide +kernel
theorem dX6_text_10 : decode cX6_text 10 = .ok (.aload_n 0, 1) := by decide +kernel
theorem dX6_text_11 : decode cX6_text 11 = .ok (.iconst 0, 1) := by decide +kernel
theorem dX6_text_12 : decode cX6_text 12 = .ok (.putfield 104, 3) := by decide +kernel
theorem dX6_text_15 : decode cX6_text 15 = .ok (.iconst 0, 1) := by decide +kernel
theorem dX6_text_16 : decode cX6_text 16 = .ok (.istore_n 1, 1) := by decide +kernel
theorem dX6_text_17 : decode cX6_text 17 = .ok (.iconst 0, 1) := by decide +kernel
theorem dX6_text_18 : decode cX6_text 18 = .ok (.istore_n 2, 1) := by decide +kernel
theorem dX6_text_19 : decode cX6_text 19 = .ok (.iload_n 2, 1) := by decide +kernel
theorem dX6_text_20 : decode cX6_text 20 = .ok (.bipush 23, 2) := by decide +kernel
theorem dX6_text_22 : decode cX6_text 22 = .ok (.if_icmp .ge 16, 3) := by decide +kernel
theorem dX6_text_25 : decode cX6_text 25 = .ok (.aload_n 0, 1) := by decide +kernel
theorem dX6_text_26 : decode cX6_text 26 = .ok (.getfield 13, 3) := by decide +kernel
theorem dX6_text_29 : decode cX6_text 29 = .ok (.iload_n 2, 1) := by decide +kernel
theorem dX6_text_30 : decode cX6_text 30 = .ok (.iconst 0, 1) := by decide +kernel
theorem dX6_text_31 : decode cX6_text 31 = .ok (.iastore, 1) := by decide +kernel
theorem dX6_text_32 : decode cX6_text 32 = .ok (.iinc 2 1, 3) := by decide +kernel
theorem dX6_text_35 : decode cX6_text 35 = .ok (.goto (-16), 3) := by decide +kernel
theorem dX6_text_38 : decode cX6_text 38 = .ok (.aload_n 0, 1) := by decide +kernel
theorem dX6_text_39 : decode cX6_text 39 = .ok (.invokevirtual 91, 3) := by decide +kernel
theorem dX6_text_42 : decode cX6_text 42 = .ok (.aload_n 0, 1) := by decide +kernel
theorem dX6_text_43 : decode cX6_text 43 = .ok (.getfield 57, 3) := by decide +kernel
theorem dX6_text_46 : decode cX6_text 46 = .ok (.ifCond .ne 20, 3) := by decide +kernel
theorem dX6_text_49 : decode cX6_text 49 = .ok (.aload_n 0, 1) := by decide +kernel
theorem dX6_text_50 : decode cX6_text 50 = .ok (.getfield 66, 3) := by decide +kernel
theorem dX6_text_53 : decode cX6_text 53 = .ok (.ifCond .eq 13, 3) := by decide +kernel
theorem dX6_text_56 : decode cX6_text 56 = .ok (.aload_n 0, 1) := by decide +kernel
theorem dX6_text_57 : decode cX6_text 57 = .ok (.invokevirtual 111, 3) := by decide +kernel
theorem dX6_text_60 : decode cX6_text 60 = .ok (.iinc 1 1, 3) := by decide +kernel
theorem dX6_text_63 : decode cX6_text 63 = .ok (.goto (-21), 3) := by decide +kernel
theorem dX6_text_66 : decode cX6_text 66 = .ok (.aload_n 0, 1) := by decide +kernel
theorem dX6_text_67 : decode cX6_text 67 = .ok (.iconst 0, 1) := by decide +kernel
theorem dX6_text_68 : decode cX6_text 68 = .ok (.putfield 54, 3) := by decide +kernel
theorem dX6_text_71 : decode cX6_text 71 = .ok (.aload_n 0, 1) := by decide +kernel
theorem dX6_text_72 : decode cX6_text 72 = .ok (.aload_n 0, 1) := by decide +kernel
theorem dX6_text_73 : decode cX6_text 73 = .ok (.getfield 57, 3) := by decide +kernel
theorem dX6_text_76 : decode cX6_text 76 = .ok (.putfield 114, 3) := by decide +kernel
theorem dX6_text_79 : decode cX6_text 79 = .ok (.aload_n 0, 1) := by decide +kernel
theorem dX6_text_80 : decode cX6_text 80 = .ok (.getfield 57, 3) := by decide +kernel
theorem dX6_text_83 : decode cX6_text 83 = .ok (.ifCond .le 11, 3) := by decide +kernel
theorem dX6_text_86 : decode cX6_text 86 = .ok (.bipush (-10), 2) := by decide +kernel
theorem dX6_text_88 : decode cX6_text 88 = .ok (.aload_n 0, 1) := by decide +kernel
theorem dX6_text_89 : decode cX6_text 89 = .ok (.getfield 63, 3) := by decide +kernel
theorem dX6_text_92 : decode cX6_text 92 = .ok (.isub, 1) := by decide +kernel
theorem dX6_text_93 : decode cX6_text 93 = .ok (.ireturn, 1) := by decide +kernel
theorem dX6_text_94 : decode cX6_text 94 = .ok (.iconst 0, 1) := by decide +kernel
theorem dX6_text_95 : decode cX6_text 95 = .ok (.istore_n 2, 1) := by decide +kernel
theorem dX6_text_96 : decode cX6_text 96 = .ok (.iload_n 2, 1) := by decide +kernel
theorem dX6_text_97 : decode cX6_text 97 = .ok (.bipush 23, 2) := by decide +kernel
theorem dX6_text_99 : decode cX6_text 99 = .ok (.if_icmp .ge 21, 3) := by decide +kernel
theorem dX6_text_102 : decode cX6_text 102 = .ok (.aload_n 0, 1) := by decide +kernel
theorem dX6_text_103 : decode cX6_text 103 = .ok (.getfield 7, 3) := by decide +kernel
theorem dX6_text_106 : decode cX6_text 106 = .ok (.iload_n 2, 1) := by decide +kernel
theorem dX6_text_107 : decode cX6_text 107 = .ok (.aload_n 0, 1) := by decide +kernel
theorem dX6_text_108 : decode cX6_text 108 = .ok (.getfield 13, 3) := by decide +kernel
theorem dX6_text_111 : decode cX6_text 111 = .ok (.iload_n 2, 1) := by decide +kernel
theorem dX6_text_112 : decode cX6_text 112 = .ok (.iaload, 1) := by decide +kernel
theorem dX6_text_113 : decode cX6_text 113 = .ok (.iastore, 1) := by decide +kernel
theorem dX6_text_114 : decode cX6_text 114 = .ok (.iinc 2 1, 3) := by decide +kernel
theorem dX6_text_117 : decode cX6_text 117 = .ok (.goto (-21), 3) := by decide +kernel
theorem dX6_text_120 : decode cX6_text 120 = .ok (.aload_n 0, 1) := by decide +kernel
theorem dX6_text_121 : decode cX6_text 121 = .ok (.iconst 0, 1) := by decide +kernel
theorem dX6_text_122 : decode cX6_text 122 = .ok (.putfield 117, 3) := by decide +kernel
theorem dX6_text_125 : decode cX6_text 125 = .ok (.aload_n 0, 1) := by decide +kernel
theorem dX6_text_126 : decode cX6_text 126 = .ok (.getfield 35, 3) := by decide +kernel
theorem dX6_text_129 : decode cX6_text 129 = .ok (.iconst 0, 1) := by decide +kernel
theorem dX6_text_130 : decode cX6_text 130 = .ok (.iconst 0, 1) := by decide +kernel
theorem dX6_text_131 : decode cX6_text 131 = .ok (.bastore, 1) := by decide +kernel
theorem dX6_text_132 : decode cX6_text 132 = .ok (.aload_n 0, 1) := by decide +kernel
theorem dX6_text_133 : decode cX6_text 133 = .ok (.getfield 35, 3) := by decide +kernel
theorem dX6_text_136 : decode cX6_text 136 = .ok (.iconst 1, 1) := by decide +kernel
theorem dX6_text_137 : decode cX6_text 137 = .ok (.iconst 0, 1) := by decide +kernel
theorem dX6_text_138 : decode cX6_text 138 = .ok (.bastore, 1) := by decide +kernel
theorem dX6_text_139 : decode cX6_text 139 = .ok (.iload_n 1, 1) := by decide +kernel
theorem dX6_text_140 : decode cX6_text 140 = .ok (.ireturn, 1) := by decide +kernel
theorem dX6_fault_0 : decode cX6_fault 0 = .ok (.aload_n 0, 1) := by decide +kernel
theorem dX6_fault_1 : decode cX6_fault 1 = .ok (.getfield 114, 3) := by decide +kernel
theorem dX6_fault_4 : decode cX6_fault 4 = .ok (.ireturn, 1) := by decide +kernel
theorem dX6_isClock_0 : decode cX6_isClock 0 = .ok (.iload_n 1, 1) := by decide +kernel
theorem dX6_isClock_1 : decode cX6_isClock 1 = .ok (.i2l, 1) := by decide +kernel
theorem dX6_isClock_2 : decode cX6_isClock 2 = .ok (.lconst 0, 1) := by decide +kernel
theorem dX6_isClock_3 : decode cX6_isClock 3 = .ok (.aload_n 0, 1) := by decide +kernel
theorem dX6_isClock_4 : decode cX6_isClock 4 = .ok (.getfield 7, 3) := by decide +kernel
theorem dX6_isClock_7 : decode cX6_isClock 7 = .ok (.bipush 20, 2) := by decide +kernel
theorem dX6_isClock_9 : decode cX6_isClock 9 = .ok (.iaload, 1) := by decide +kernel
theorem dX6_isClock_10 : decode cX6_isClock 10 = .ok (.iconst 1, 1) := by decide +kernel
theorem dX6_isClock_11 : decode cX6_isClock 11 = .ok (.isub, 1) := by decide +kernel
theorem dX6_isClock_12 : decode cX6_isClock 12 = .ok (.i2l, 1) := by decide +kernel
theorem dX6_isClock_13 : decode cX6_isClock 13 = .ok (.invokestatic 50, 3) := by decide +kernel
theorem dX6_isClock_16 : decode cX6_isClock 16 = .ok (.ireturn, 1) := by decide +kernel
theorem dX6_isOnward_0 : decode cX6_isOnward 0 = .ok (.aload_n 0, 1) := by decide +kernel
theorem dX6_isOnward_1 : decode cX6_isOnward 1 = .ok (.getfield 7, 3) := by decide +kernel
theorem dX6_isOnward_4 : decode cX6_isOnward 4 = .ok (.iload_n 1, 1) := by decide +kernel
theorem dX6_isOnward_5 : decode cX6_isOnward 5 = .ok (.iload_n 2, 1) := by decide +kernel
theorem dX6_isOnward_6 : decode cX6_isOnward 6 = .ok (.iadd, 1) := by decide +kernel
theorem dX6_isOnward_7 : decode cX6_isOnward 7 = .ok (.iaload, 1) := by decide +kernel
theorem dX6_isOnward_8 : decode cX6_isOnward 8 = .ok (.iconst 3, 1) := by decide +kernel
theorem dX6_isOnward_9 : decode cX6_isOnward 9 = .ok (.if_icmp .ge 33, 3) := by decide +kernel
theorem dX6_isOnward_12 : decode cX6_isOnward 12 = .ok (.iconst 2, 1) := by decide +kernel
theorem dX6_isOnward_13 : decode cX6_isOnward 13 = .ok (.aload_n 0, 1) := by decide +kernel
theorem dX6_isOnward_14 : decode cX6_isOnward 14 = .ok (.getfield 7, 3) := by decide +kernel
theorem dX6_isOnward_17 : decode cX6_isOnward 17 = .ok (.iload_n 1, 1) := by decide +kernel
theorem dX6_isOnward_18 : decode cX6_isOnward 18 = .ok (.bipush 10, 2) := by decide +kernel
theorem dX6_isOnward_20 : decode cX6_isOnward 20 = .ok (.iadd, 1) := by decide +kernel
theorem dX6_isOnward_21 : decode cX6_isOnward 21 = .ok (.iload_n 2, 1) := by decide +kernel
theorem dX6_isOnward_22 : decode cX6_isOnward 22 = .ok (.iadd, 1) := by decide +kernel
theorem dX6_isOnward_23 : decode cX6_isOnward 23 = .ok (.iaload, 1) := by decide +kernel
theorem dX6_isOnward_24 : decode cX6_isOnward 24 = .ok (.imul, 1) := by decide +kernel
theorem dX6_isOnward_25 : decode cX6_isOnward 25 = .ok (.aload_n 0, 1) := by decide +kernel
theorem dX6_isOnward_26 : decode cX6_isOnward 26 = .ok (.getfield 7, 3) := by decide +kernel
theorem dX6_isOnward_29 : decode cX6_isOnward 29 = .ok (.iload_n 1, 1) := by decide +kernel
theorem dX6_isOnward_30 : decode cX6_isOnward 30 = .ok (.iconst 5, 1) := by decide +kernel
theorem dX6_isOnward_31 : decode cX6_isOnward 31 = .ok (.iadd, 1) := by decide +kernel
theorem dX6_isOnward_32 : decode cX6_isOnward 32 = .ok (.iload_n 2, 1) := by decide +kernel
theorem dX6_isOnward_33 : decode cX6_isOnward 33 = .ok (.iadd, 1) := by decide +kernel
theorem dX6_isOnward_34 : decode cX6_isOnward 34 = .ok (.iaload, 1) := by decide +kernel
theorem dX6_isOnward_35 : decode cX6_isOnward 35 = .ok (.if_icmp .lt 7, 3) := by decide +kernel
theorem dX6_isOnward_38 : decode cX6_isOnward 38 = .ok (.iconst 1, 1) := by decide +kernel
theorem dX6_isOnward_39 : decode cX6_isOnward 39 = .ok (.goto 4, 3) := by decide +kernel
theorem dX6_isOnward_42 : decode cX6_isOnward 42 = .ok (.iconst 0, 1) := by decide +kernel
theorem dX6_isOnward_43 : decode cX6_isOnward 43 = .ok (.ireturn, 1) := by decide +kernel
theorem dX6_pushedOn_0 : decode cX6_pushedOn 0 = .ok (.aload_n 0, 1) := by decide +kernel
theorem dX6_pushedOn_1 : decode cX6_pushedOn 1 = .ok (.getfield 7, 3) := by decide +kernel
theorem dX6_pushedOn_4 : decode cX6_pushedOn 4 = .ok (.iload_n 1, 1) := by decide +kernel
theorem dX6_pushedOn_5 : decode cX6_pushedOn 5 = .ok (.iload_n 2, 1) := by decide +kernel
theorem dX6_pushedOn_6 : decode cX6_pushedOn 6 = .ok (.iadd, 1) := by decide +kernel
theorem dX6_pushedOn_7 : decode cX6_pushedOn 7 = .ok (.iaload, 1) := by decide +kernel
theorem dX6_pushedOn_8 : decode cX6_pushedOn 8 = .ok (.istore 4, 2) := by decide +kernel
theorem dX6_pushedOn_10 : decode cX6_pushedOn 10 = .ok (.aload_n 0, 1) := by decide +kernel
theorem dX6_pushedOn_11 : decode cX6_pushedOn 11 = .ok (.getfield 7, 3) := by decide +kernel
theorem dX6_pushedOn_14 : decode cX6_pushedOn 14 = .ok (.iload_n 1, 1) := by decide +kernel
theorem dX6_pushedOn_15 : decode cX6_pushedOn 15 = .ok (.bipush 21, 2) := by decide +kernel
theorem dX6_pushedOn_17 : decode cX6_pushedOn 17 = .ok (.iadd, 1) := by decide +kernel
theorem dX6_pushedOn_18 : decode cX6_pushedOn 18 = .ok (.iaload, 1) := by decide +kernel
theorem dX6_pushedOn_19 : decode cX6_pushedOn 19 = .ok (.iconst 1, 1) := by decide +kernel
theorem dX6_pushedOn_20 : decode cX6_pushedOn 20 = .ok (.iadd, 1) := by decide +kernel
theorem dX6_pushedOn_21 : decode cX6_pushedOn 21 = .ok (.istore 5, 2) := by decide +kernel
theorem dX6_pushedOn_23 : decode cX6_pushedOn 23 = .ok (.iload 4, 2) := by decide +kernel
theorem dX6_pushedOn_25 : decode cX6_pushedOn 25 = .ok (.ifCond .ne 10, 3) := by decide +kernel
theorem dX6_pushedOn_28 : decode cX6_pushedOn 28 = .ok (.iload_n 3, 1) := by decide +kernel
theorem dX6_pushedOn_29 : decode cX6_pushedOn 29 = .ok (.iload 5, 2) := by decide +kernel
theorem dX6_pushedOn_31 : decode cX6_pushedOn 31 = .ok (.imul, 1) := by decide +kernel
theorem dX6_pushedOn_32 : decode cX6_pushedOn 32 = .ok (.goto 24, 3) := by decide +kernel
theorem dX6_pushedOn_35 : decode cX6_pushedOn 35 = .ok (.iload 4, 2) := by decide +kernel
theorem dX6_pushedOn_37 : decode cX6_pushedOn 37 = .ok (.iconst 2, 1) := by decide +kernel
theorem dX6_pushedOn_38 : decode cX6_pushedOn 38 = .ok (.if_icmp .ne 12, 3) := by decide +kernel
theorem dX6_pushedOn_41 : decode cX6_pushedOn 41 = .ok (.iload_n 3, 1) := by decide +kernel
theorem dX6_pushedOn_42 : decode cX6_pushedOn 42 = .ok (.iconst 1, 1) := by decide +kernel
theorem dX6_pushedOn_43 : decode cX6_pushedOn 43 = .ok (.isub, 1) := by decide +kernel
theorem dX6_pushedOn_44 : decode cX6_pushedOn 44 = .ok (.iload 5, 2) := by decide +kernel
theorem dX6_pushedOn_46 : decode cX6_pushedOn 46 = .ok (.imul, 1) := by decide +kernel
theorem dX6_pushedOn_47 : decode cX6_pushedOn 47 = .ok (.goto 9, 3) := by decide +kernel
theorem dX6_pushedOn_50 : decode cX6_pushedOn 50 = .ok (.iload_n 3, 1) := by decide +kernel
theorem dX6_pushedOn_51 : decode cX6_pushedOn 51 = .ok (.iload 5, 2) := by decide +kernel
theorem dX6_pushedOn_53 : decode cX6_pushedOn 53 = .ok (.imul, 1) := by decide +kernel
theorem dX6_pushedOn_54 : decode cX6_pushedOn 54 = .ok (.iconst 2, 1) := by decide +kernel
theorem dX6_pushedOn_55 : decode cX6_pushedOn 55 = .ok (.idiv, 1) := by decide +kernel
theorem dX6_pushedOn_56 : decode cX6_pushedOn 56 = .ok (.istore 6, 2) := by decide +kernel
theorem dX6_pushedOn_58 : decode cX6_pushedOn 58 = .ok (.aload_n 0, 1) := by decide +kernel
theorem dX6_pushedOn_59 : decode cX6_pushedOn 59 = .ok (.getfield 7, 3) := by decide +kernel
theorem dX6_pushedOn_62 : decode cX6_pushedOn 62 = .ok (.iload_n 1, 1) := by decide +kernel
theorem dX6_pushedOn_63 : decode cX6_pushedOn 63 = .ok (.iconst 5, 1) := by decide +kernel
theorem dX6_pushedOn_64 : decode cX6_pushedOn 64 = .ok (.iadd, 1) := by decide +kernel
theorem dX6_pushedOn_65 : decode cX6_pushedOn 65 = .ok (.iload_n 2, 1) := by decide +kernel
theorem dX6_pushedOn_66 : decode cX6_pushedOn 66 = .ok (.iadd, 1) := by decide +kernel
theorem dX6_pushedOn_67 : decode cX6_pushedOn 67 = .ok (.iaload, 1) := by decide +kernel
theorem dX6_pushedOn_68 : decode cX6_pushedOn 68 = .ok (.iconst 1, 1) := by decide +kernel
theorem dX6_pushedOn_69 : decode cX6_pushedOn 69 = .ok (.isub, 1) := by decide +kernel
theorem dX6_pushedOn_70 : decode cX6_pushedOn 70 = .ok (.istore 7, 2) := by decide +kernel
theorem dX6_pushedOn_72 : decode cX6_pushedOn 72 = .ok (.aload_n 0, 1) := by decide +kernel
theorem dX6_pushedOn_73 : decode cX6_pushedOn 73 = .ok (.getfield 7, 3) := by decide +kernel
theorem dX6_pushedOn_76 : decode cX6_pushedOn 76 = .ok (.iload_n 1, 1) := by decide +kernel
theorem dX6_pushedOn_77 : decode cX6_pushedOn 77 = .ok (.bipush 10, 2) := by decide +kernel
theorem dX6_pushedOn_79 : decode cX6_pushedOn 79 = .ok (.iadd, 1) := by decide +kernel
theorem dX6_pushedOn_80 : decode cX6_pushedOn 80 = .ok (.iload_n 2, 1) := by decide +kernel
theorem dX6_pushedOn_81 : decode cX6_pushedOn 81 = .ok (.iadd, 1) := by decide +kernel
theorem dX6_pushedOn_82 : decode cX6_pushedOn 82 = .ok (.iaload, 1) := by decide +kernel
theorem dX6_pushedOn_83 : decode cX6_pushedOn 83 = .ok (.istore 8, 2) := by decide +kernel
theorem dX6_pushedOn_85 : decode cX6_pushedOn 85 = .ok (.aload_n 0, 1) := by decide +kernel
theorem dX6_pushedOn_86 : decode cX6_pushedOn 86 = .ok (.iload_n 1, 1) := by decide +kernel
theorem dX6_pushedOn_87 : decode cX6_pushedOn 87 = .ok (.iload_n 2, 1) := by decide +kernel
theorem dX6_pushedOn_88 : decode cX6_pushedOn 88 = .ok (.invokevirtual 120, 3) := by decide +kernel
theorem dX6_pushedOn_91 : decode cX6_pushedOn 91 = .ok (.ifCond .eq 28, 3) := by decide +kernel
theorem dX6_pushedOn_94 : decode cX6_pushedOn 94 = .ok (.iload 8, 2) := by decide +kernel
theorem dX6_pushedOn_96 : decode cX6_pushedOn 96 = .ok (.iload 6, 2) := by decide +kernel
theorem dX6_pushedOn_98 : decode cX6_pushedOn 98 = .ok (.iadd, 1) := by decide +kernel
theorem dX6_pushedOn_99 : decode cX6_pushedOn 99 = .ok (.iload 7, 2) := by decide +kernel
theorem dX6_pushedOn_101 : decode cX6_pushedOn 101 = .ok (.if_icmp .le 8, 3) := by decide +kernel
theorem dX6_pushedOn_104 : decode cX6_pushedOn 104 = .ok (.iload 7, 2) := by decide +kernel
theorem dX6_pushedOn_106 : decode cX6_pushedOn 106 = .ok (.goto 8, 3) := by decide +kernel
theorem dX6_pushedOn_109 : decode cX6_pushedOn 109 = .ok (.iload 8, 2) := by decide +kernel
theorem dX6_pushedOn_111 : decode cX6_pushedOn 111 = .ok (.iload 6, 2) := by decide +kernel
theorem dX6_pushedOn_113 : decode cX6_pushedOn 113 = .ok (.iadd, 1) := by decide +kernel
theorem dX6_pushedOn_114 : decode cX6_pushedOn 114 = .ok (.istore 8, 2) := by decide +kernel
theorem dX6_pushedOn_116 : decode cX6_pushedOn 116 = .ok (.goto 21, 3) := by decide +kernel
theorem dX6_pushedOn_119 : decode cX6_pushedOn 119 = .ok (.iload 8, 2) := by decide +kernel
theorem dX6_pushedOn_121 : decode cX6_pushedOn 121 = .ok (.iload 6, 2) := by decide +kernel
theorem dX6_pushedOn_123 : decode cX6_pushedOn 123 = .ok (.if_icmp .le 11, 3) := by decide +kernel
theorem dX6_pushedOn_126 : decode cX6_pushedOn 126 = .ok (.iload 8, 2) := by decide +kernel
theorem dX6_pushedOn_128 : decode cX6_pushedOn 128 = .ok (.iload 6, 2) := by decide +kernel
theorem dX6_pushedOn_130 : decode cX6_pushedOn 130 = .ok (.isub, 1) := by decide +kernel
theorem dX6_pushedOn_131 : decode cX6_pushedOn 131 = .ok (.goto 4, 3) := by decide +kernel
theorem dX6_pushedOn_134 : decode cX6_pushedOn 134 = .ok (.iconst 0, 1) := by decide +kernel
theorem dX6_pushedOn_135 : decode cX6_pushedOn 135 = .ok (.istore 8, 2) := by decide +kernel
theorem dX6_pushedOn_137 : decode cX6_pushedOn 137 = .ok (.aload_n 0, 1) := by decide +kernel
theorem dX6_pushedOn_138 : decode cX6_pushedOn 138 = .ok (.getfield 7, 3) := by decide +kernel
theorem dX6_pushedOn_141 : decode cX6_pushedOn 141 = .ok (.iload_n 1, 1) := by decide +kernel
theorem dX6_pushedOn_142 : decode cX6_pushedOn 142 = .ok (.bipush 10, 2) := by decide +kernel
theorem dX6_pushedOn_144 : decode cX6_pushedOn 144 = .ok (.iadd, 1) := by decide +kernel
theorem dX6_pushedOn_145 : decode cX6_pushedOn 145 = .ok (.iload_n 2, 1) := by decide +kernel
theorem dX6_pushedOn_146 : decode cX6_pushedOn 146 = .ok (.iadd, 1) := by decide +kernel
theorem dX6_pushedOn_147 : decode cX6_pushedOn 147 = .ok (.iload 8, 2) := by decide +kernel
theorem dX6_pushedOn_149 : decode cX6_pushedOn 149 = .ok (.iastore, 1) := by decide +kernel
theorem dX6_pushedOn_150 : decode cX6_pushedOn 150 = .ok (.return_, 1) := by decide +kernel
theorem dX6_bitsOf_0 : decode cX6_bitsOf 0 = .ok (.iconst 0, 1) := by decide +kernel
theorem dX6_bitsOf_1 : decode cX6_bitsOf 1 = .ok (.istore_n 1, 1) := by decide +kernel
theorem dX6_bitsOf_2 : decode cX6_bitsOf 2 = .ok (.iload_n 0, 1) := by decide +kernel
theorem dX6_bitsOf_3 : decode cX6_bitsOf 3 = .ok (.istore_n 2, 1) := by decide +kernel
theorem dX6_bitsOf_4 : decode cX6_bitsOf 4 = .ok (.iload_n 2, 1) := by decide +kernel
theorem dX6_bitsOf_5 : decode cX6_bitsOf 5 = .ok (.ifCond .le 16, 3) := by decide +kernel
theorem dX6_bitsOf_8 : decode cX6_bitsOf 8 = .ok (.iload_n 1, 1) := by decide +kernel
theorem dX6_bitsOf_9 : decode cX6_bitsOf 9 = .ok (.iload_n 2, 1) := by decide +kernel
theorem dX6_bitsOf_10 : decode cX6_bitsOf 10 = .ok (.iconst 1, 1) := by decide +kernel
theorem dX6_bitsOf_11 : decode cX6_bitsOf 11 = .ok (.iand, 1) := by decide +kernel
theorem dX6_bitsOf_12 : decode cX6_bitsOf 12 = .ok (.iadd, 1) := by decide +kernel
theorem dX6_bitsOf_13 : decode cX6_bitsOf 13 = .ok (.istore_n 1, 1) := by decide +kernel
theorem dX6_bitsOf_14 : decode cX6_bitsOf 14 = .ok (.iload_n 2, 1) := by decide +kernel
theorem dX6_bitsOf_15 : decode cX6_bitsOf 15 = .ok (.iconst 1, 1) := by decide +kernel
theorem dX6_bitsOf_16 : decode cX6_bitsOf 16 = .ok (.ishr, 1) := by decide +kernel
theorem dX6_bitsOf_17 : decode cX6_bitsOf 17 = .ok (.istore_n 2, 1) := by decide +kernel
theorem dX6_bitsOf_18 : decode cX6_bitsOf 18 = .ok (.goto (-14), 3) := by decide +kernel
theorem dX6_bitsOf_21 : decode cX6_bitsOf 21 = .ok (.iload_n 1, 1) := by decide +kernel
theorem dX6_bitsOf_22 : decode cX6_bitsOf 22 = .ok (.ireturn, 1) := by decide +kernel
theorem dX6_beatsOn_0 : decode cX6_beatsOn 0 = .ok (.iconst 0, 1) := by decide +kernel
theorem dX6_beatsOn_1 : decode cX6_beatsOn 1 = .ok (.istore_n 2, 1) := by decide +kernel
theorem dX6_beatsOn_2 : decode cX6_beatsOn 2 = .ok (.iconst 0, 1) := by decide +kernel
theorem dX6_beatsOn_3 : decode cX6_beatsOn 3 = .ok (.istore_n 3, 1) := by decide +kernel
theorem dX6_beatsOn_4 : decode cX6_beatsOn 4 = .ok (.iload_n 3, 1) := by decide +kernel
theorem dX6_beatsOn_5 : decode cX6_beatsOn 5 = .ok (.aload_n 0, 1) := by decide +kernel
theorem dX6_beatsOn_6 : decode cX6_beatsOn 6 = .ok (.getfield 7, 3) := by decide +kernel
theorem dX6_beatsOn_9 : decode cX6_beatsOn 9 = .ok (.iload_n 1, 1) := by decide +kernel
theorem dX6_beatsOn_10 : decode cX6_beatsOn 10 = .ok (.bipush 20, 2) := by decide +kernel
theorem dX6_beatsOn_12 : decode cX6_beatsOn 12 = .ok (.iadd, 1) := by decide +kernel
theorem dX6_beatsOn_13 : decode cX6_beatsOn 13 = .ok (.iaload, 1) := by decide +kernel
theorem dX6_beatsOn_14 : decode cX6_beatsOn 14 = .ok (.if_icmp .ge 65, 3) := by decide +kernel
theorem dX6_beatsOn_17 : decode cX6_beatsOn 17 = .ok (.iload_n 3, 1) := by decide +kernel
theorem dX6_beatsOn_18 : decode cX6_beatsOn 18 = .ok (.aload_n 0, 1) := by decide +kernel
theorem dX6_beatsOn_19 : decode cX6_beatsOn 19 = .ok (.getfield 25, 3) := by decide +kernel
theorem dX6_beatsOn_22 : decode cX6_beatsOn 22 = .ok (.if_icmp .eq 33, 3) := by decide +kernel
theorem dX6_beatsOn_25 : decode cX6_beatsOn 25 = .ok (.aload_n 0, 1) := by decide +kernel
theorem dX6_beatsOn_26 : decode cX6_beatsOn 26 = .ok (.getfield 7, 3) := by decide +kernel
theorem dX6_beatsOn_29 : decode cX6_beatsOn 29 = .ok (.iload_n 1, 1) := by decide +kernel
theorem dX6_beatsOn_30 : decode cX6_beatsOn 30 = .ok (.bipush 10, 2) := by decide +kernel
theorem dX6_beatsOn_32 : decode cX6_beatsOn 32 = .ok (.iadd, 1) := by decide +kernel
theorem dX6_beatsOn_33 : decode cX6_beatsOn 33 = .ok (.iload_n 3, 1) := by decide +kernel
theorem dX6_beatsOn_34 : decode cX6_beatsOn 34 = .ok (.iadd, 1) := by decide +kernel
theorem dX6_beatsOn_35 : decode cX6_beatsOn 35 = .ok (.iaload, 1) := by decide +kernel
theorem dX6_beatsOn_36 : decode cX6_beatsOn 36 = .ok (.iconst 1, 1) := by decide +kernel
theorem dX6_beatsOn_37 : decode cX6_beatsOn 37 = .ok (.iadd, 1) := by decide +kernel
theorem dX6_beatsOn_38 : decode cX6_beatsOn 38 = .ok (.aload_n 0, 1) := by decide +kernel
theorem dX6_beatsOn_39 : decode cX6_beatsOn 39 = .ok (.getfield 7, 3) := by decide +kernel
theorem dX6_beatsOn_42 : decode cX6_beatsOn 42 = .ok (.iload_n 1, 1) := by decide +kernel
theorem dX6_beatsOn_43 : decode cX6_beatsOn 43 = .ok (.iconst 5, 1) := by decide +kernel
theorem dX6_beatsOn_44 : decode cX6_beatsOn 44 = .ok (.iadd, 1) := by decide +kernel
theorem dX6_beatsOn_45 : decode cX6_beatsOn 45 = .ok (.iload_n 3, 1) := by decide +kernel
theorem dX6_beatsOn_46 : decode cX6_beatsOn 46 = .ok (.iadd, 1) := by decide +kernel
theorem dX6_beatsOn_47 : decode cX6_beatsOn 47 = .ok (.iaload, 1) := by decide +kernel
theorem dX6_beatsOn_48 : decode cX6_beatsOn 48 = .ok (.if_icmp .ne 7, 3) := by decide +kernel
theorem dX6_beatsOn_51 : decode cX6_beatsOn 51 = .ok (.iconst 1, 1) := by decide +kernel
theorem dX6_beatsOn_52 : decode cX6_beatsOn 52 = .ok (.goto 4, 3) := by decide +kernel
theorem dX6_beatsOn_55 : decode cX6_beatsOn 55 = .ok (.iconst 0, 1) := by decide +kernel
theorem dX6_beatsOn_56 : decode cX6_beatsOn 56 = .ok (.istore 4, 2) := by decide +kernel
theorem dX6_beatsOn_58 : decode cX6_beatsOn 58 = .ok (.iload_n 2, 1) := by decide +kernel
theorem dX6_beatsOn_59 : decode cX6_beatsOn 59 = .ok (.iload 4, 2) := by decide +kernel
theorem dX6_beatsOn_61 : decode cX6_beatsOn 61 = .ok (.ifCond .eq 9, 3) := by decide +kernel
theorem dX6_beatsOn_64 : decode cX6_beatsOn 64 = .ok (.iconst 1, 1) := by decide +kernel
theorem dX6_beatsOn_65 : decode cX6_beatsOn 65 = .ok (.iload_n 3, 1) := by decide +kernel
theorem dX6_beatsOn_66 : decode cX6_beatsOn 66 = .ok (.ishl, 1) := by decide +kernel
theorem dX6_beatsOn_67 : decode cX6_beatsOn 67 = .ok (.goto 4, 3) := by decide +kernel
theorem dX6_beatsOn_70 : decode cX6_beatsOn 70 = .ok (.iconst 0, 1) := by decide +kernel
theorem dX6_beatsOn_71 : decode cX6_beatsOn 71 = .ok (.ior, 1) := by decide +kernel
theorem dX6_beatsOn_72 : decode cX6_beatsOn 72 = .ok (.istore_n 2, 1) := by decide +kernel
theorem dX6_beatsOn_73 : decode cX6_beatsOn 73 = .ok (.iinc 3 1, 3) := by decide +kernel
theorem dX6_beatsOn_76 : decode cX6_beatsOn 76 = .ok (.goto (-72), 3) := by decide +kernel
theorem dX6_beatsOn_79 : decode cX6_beatsOn 79 = .ok (.iload_n 2, 1) := by decide +kernel
theorem dX6_beatsOn_80 : decode cX6_beatsOn 80 = .ok (.ireturn, 1) := by decide +kernel
theorem dX6_tickOn_0 : decode cX6_tickOn 0 = .ok (.aload_n 0, 1) := by decide +kernel
theorem dX6_tickOn_1 : decode cX6_tickOn 1 = .ok (.iload_n 1, 1) := by decide +kernel
theorem dX6_tickOn_2 : decode cX6_tickOn 2 = .ok (.invokevirtual 124, 3) := by decide +kernel
theorem dX6_tickOn_5 : decode cX6_tickOn 5 = .ok (.istore_n 3, 1) := by decide +kernel
theorem dX6_tickOn_6 : decode cX6_tickOn 6 = .ok (.iconst 0, 1) := by decide +kernel
theorem dX6_tickOn_7 : decode cX6_tickOn 7 = .ok (.istore 4, 2) := by decide +kernel
theorem dX6_tickOn_9 : decode cX6_tickOn 9 = .ok (.iload 4, 2) := by decide +kernel
theorem dX6_tickOn_11 : decode cX6_tickOn 11 = .ok (.aload_n 0, 1) := by decide +kernel
theorem dX6_tickOn_12 : decode cX6_tickOn 12 = .ok (.getfield 7, 3) := by decide +kernel
theorem dX6_tickOn_15 : decode cX6_tickOn 15 = .ok (.iload_n 1, 1) := by decide +kernel
theorem dX6_tickOn_16 : decode cX6_tickOn 16 = .ok (.bipush 20, 2) := by decide +kernel
theorem dX6_tickOn_18 : decode cX6_tickOn 18 = .ok (.iadd, 1) := by decide +kernel
theorem dX6_tickOn_19 : decode cX6_tickOn 19 = .ok (.iaload, 1) := by decide +kernel
theorem dX6_tickOn_20 : decode cX6_tickOn 20 = .ok (.if_icmp .ge 86, 3) := by decide +kernel
theorem dX6_tickOn_23 : decode cX6_tickOn 23 = .ok (.iload_n 3, 1) := by decide +kernel
theorem dX6_tickOn_24 : decode cX6_tickOn 24 = .ok (.iload 4, 2) := by decide +kernel
theorem dX6_tickOn_26 : decode cX6_tickOn 26 = .ok (.ishr, 1) := by decide +kernel
theorem dX6_tickOn_27 : decode cX6_tickOn 27 = .ok (.iconst 1, 1) := by decide +kernel
theorem dX6_tickOn_28 : decode cX6_tickOn 28 = .ok (.iand, 1) := by decide +kernel
theorem dX6_tickOn_29 : decode cX6_tickOn 29 = .ok (.iconst 1, 1) := by decide +kernel
theorem dX6_tickOn_30 : decode cX6_tickOn 30 = .ok (.if_icmp .ne 7, 3) := by decide +kernel
theorem dX6_tickOn_33 : decode cX6_tickOn 33 = .ok (.iconst 1, 1) := by decide +kernel
theorem dX6_tickOn_34 : decode cX6_tickOn 34 = .ok (.goto 4, 3) := by decide +kernel
theorem dX6_tickOn_37 : decode cX6_tickOn 37 = .ok (.iconst 0, 1) := by decide +kernel
theorem dX6_tickOn_38 : decode cX6_tickOn 38 = .ok (.istore 5, 2) := by decide +kernel
theorem dX6_tickOn_40 : decode cX6_tickOn 40 = .ok (.aload_n 0, 1) := by decide +kernel
theorem dX6_tickOn_41 : decode cX6_tickOn 41 = .ok (.getfield 7, 3) := by decide +kernel
theorem dX6_tickOn_44 : decode cX6_tickOn 44 = .ok (.iload_n 1, 1) := by decide +kernel
theorem dX6_tickOn_45 : decode cX6_tickOn 45 = .ok (.bipush 15, 2) := by decide +kernel
theorem dX6_tickOn_47 : decode cX6_tickOn 47 = .ok (.iadd, 1) := by decide +kernel
theorem dX6_tickOn_48 : decode cX6_tickOn 48 = .ok (.iload 4, 2) := by decide +kernel
theorem dX6_tickOn_50 : decode cX6_tickOn 50 = .ok (.iadd, 1) := by decide +kernel
theorem dX6_tickOn_51 : decode cX6_tickOn 51 = .ok (.dup2, 1) := by decide +kernel
theorem dX6_tickOn_52 : decode cX6_tickOn 52 = .ok (.iaload, 1) := by decide +kernel
theorem dX6_tickOn_53 : decode cX6_tickOn 53 = .ok (.iload 5, 2) := by decide +kernel
theorem dX6_tickOn_55 : decode cX6_tickOn 55 = .ok (.ifCond .eq 7, 3) := by decide +kernel
theorem dX6_tickOn_58 : decode cX6_tickOn 58 = .ok (.iconst 1, 1) := by decide +kernel
theorem dX6_tickOn_59 : decode cX6_tickOn 59 = .ok (.goto 4, 3) := by decide +kernel
theorem dX6_tickOn_62 : decode cX6_tickOn 62 = .ok (.iconst 0, 1) := by decide +kernel
theorem dX6_tickOn_63 : decode cX6_tickOn 63 = .ok (.iadd, 1) := by decide +kernel
theorem dX6_tickOn_64 : decode cX6_tickOn 64 = .ok (.iastore, 1) := by decide +kernel
theorem dX6_tickOn_65 : decode cX6_tickOn 65 = .ok (.aload_n 0, 1) := by decide +kernel
theorem dX6_tickOn_66 : decode cX6_tickOn 66 = .ok (.getfield 7, 3) := by decide +kernel
theorem dX6_tickOn_69 : decode cX6_tickOn 69 = .ok (.iload_n 1, 1) := by decide +kernel
theorem dX6_tickOn_70 : decode cX6_tickOn 70 = .ok (.bipush 10, 2) := by decide +kernel
theorem dX6_tickOn_72 : decode cX6_tickOn 72 = .ok (.iadd, 1) := by decide +kernel
theorem dX6_tickOn_73 : decode cX6_tickOn 73 = .ok (.iload 4, 2) := by decide +kernel
theorem dX6_tickOn_75 : decode cX6_tickOn 75 = .ok (.iadd, 1) := by decide +kernel
theorem dX6_tickOn_76 : decode cX6_tickOn 76 = .ok (.iload 5, 2) := by decide +kernel
theorem dX6_tickOn_78 : decode cX6_tickOn 78 = .ok (.ifCond .eq 7, 3) := by decide +kernel
theorem dX6_tickOn_81 : decode cX6_tickOn 81 = .ok (.iconst 0, 1) := by decide +kernel
theorem dX6_tickOn_82 : decode cX6_tickOn 82 = .ok (.goto 17, 3) := by decide +kernel
theorem dX6_tickOn_85 : decode cX6_tickOn 85 = .ok (.aload_n 0, 1) := by decide +kernel
theorem dX6_tickOn_86 : decode cX6_tickOn 86 = .ok (.getfield 7, 3) := by decide +kernel
theorem dX6_tickOn_89 : decode cX6_tickOn 89 = .ok (.iload_n 1, 1) := by decide +kernel
theorem dX6_tickOn_90 : decode cX6_tickOn 90 = .ok (.bipush 10, 2) := by decide +kernel
theorem dX6_tickOn_92 : decode cX6_tickOn 92 = .ok (.iadd, 1) := by decide +kernel
theorem dX6_tickOn_93 : decode cX6_tickOn 93 = .ok (.iload 4, 2) := by decide +kernel
theorem dX6_tickOn_95 : decode cX6_tickOn 95 = .ok (.iadd, 1) := by decide +kernel
theorem dX6_tickOn_96 : decode cX6_tickOn 96 = .ok (.iaload, 1) := by decide +kernel
theorem dX6_tickOn_97 : decode cX6_tickOn 97 = .ok (.iconst 1, 1) := by decide +kernel
theorem dX6_tickOn_98 : decode cX6_tickOn 98 = .ok (.iadd, 1) := by decide +kernel
theorem dX6_tickOn_99 : decode cX6_tickOn 99 = .ok (.iastore, 1) := by decide +kernel
theorem dX6_tickOn_100 : decode cX6_tickOn 100 = .ok (.iinc 4 1, 3) := by decide +kernel
theorem dX6_tickOn_103 : decode cX6_tickOn 103 = .ok (.goto (-94), 3) := by decide +kernel
theorem dX6_tickOn_106 : decode cX6_tickOn 106 = .ok (.iconst 0, 1) := by decide +kernel
theorem dX6_tickOn_107 : decode cX6_tickOn 107 = .ok (.istore 4, 2) := by decide +kernel
theorem dX6_tickOn_109 : decode cX6_tickOn 109 = .ok (.iload 4, 2) := by decide +kernel
theorem dX6_tickOn_111 : decode cX6_tickOn 111 = .ok (.aload_n 0, 1) := by decide +kernel
theorem dX6_tickOn_112 : decode cX6_tickOn 112 = .ok (.getfield 7, 3) := by decide +kernel
theorem dX6_tickOn_115 : decode cX6_tickOn 115 = .ok (.iload_n 1, 1) := by decide +kernel
theorem dX6_tickOn_116 : decode cX6_tickOn 116 = .ok (.bipush 20, 2) := by decide +kernel
theorem dX6_tickOn_118 : decode cX6_tickOn 118 = .ok (.iadd, 1) := by decide +kernel
theorem dX6_tickOn_119 : decode cX6_tickOn 119 = .ok (.iaload, 1) := by decide +kernel
theorem dX6_tickOn_120 : decode cX6_tickOn 120 = .ok (.if_icmp .ge 37, 3) := by decide +kernel
theorem dX6_tickOn_123 : decode cX6_tickOn 123 = .ok (.iload_n 3, 1) := by decide +kernel
theorem dX6_tickOn_124 : decode cX6_tickOn 124 = .ok (.ifCond .le 33, 3) := by decide +kernel
theorem dX6_tickOn_127 : decode cX6_tickOn 127 = .ok (.iload_n 2, 1) := by decide +kernel
theorem dX6_tickOn_128 : decode cX6_tickOn 128 = .ok (.ifCond .ne 29, 3) := by decide +kernel
theorem dX6_tickOn_131 : decode cX6_tickOn 131 = .ok (.iload_n 3, 1) := by decide +kernel
theorem dX6_tickOn_132 : decode cX6_tickOn 132 = .ok (.iload 4, 2) := by decide +kernel
theorem dX6_tickOn_134 : decode cX6_tickOn 134 = .ok (.ishr, 1) := by decide +kernel
theorem dX6_tickOn_135 : decode cX6_tickOn 135 = .ok (.iconst 1, 1) := by decide +kernel
theorem dX6_tickOn_136 : decode cX6_tickOn 136 = .ok (.iand, 1) := by decide +kernel
theorem dX6_tickOn_137 : decode cX6_tickOn 137 = .ok (.ifCond .ne 14, 3) := by decide +kernel
theorem dX6_tickOn_140 : decode cX6_tickOn 140 = .ok (.aload_n 0, 1) := by decide +kernel
theorem dX6_tickOn_141 : decode cX6_tickOn 141 = .ok (.iload_n 1, 1) := by decide +kernel
theorem dX6_tickOn_142 : decode cX6_tickOn 142 = .ok (.iload 4, 2) := by decide +kernel
theorem dX6_tickOn_144 : decode cX6_tickOn 144 = .ok (.iload_n 3, 1) := by decide +kernel
theorem dX6_tickOn_145 : decode cX6_tickOn 145 = .ok (.invokestatic 127, 3) := by decide +kernel
theorem dX6_tickOn_148 : decode cX6_tickOn 148 = .ok (.invokevirtual 130, 3) := by decide +kernel
theorem dX6_tickOn_151 : decode cX6_tickOn 151 = .ok (.iinc 4 1, 3) := by decide +kernel
theorem dX6_tickOn_154 : decode cX6_tickOn 154 = .ok (.goto (-45), 3) := by decide +kernel
theorem dX6_tickOn_157 : decode cX6_tickOn 157 = .ok (.aload_n 0, 1) := by decide +kernel
theorem dX6_tickOn_158 : decode cX6_tickOn 158 = .ok (.getfield 7, 3) := by decide +kernel
theorem dX6_tickOn_161 : decode cX6_tickOn 161 = .ok (.iload_n 1, 1) := by decide +kernel
theorem dX6_tickOn_162 : decode cX6_tickOn 162 = .ok (.bipush 22, 2) := by decide +kernel
theorem dX6_tickOn_164 : decode cX6_tickOn 164 = .ok (.iadd, 1) := by decide +kernel
theorem dX6_tickOn_165 : decode cX6_tickOn 165 = .ok (.dup2, 1) := by decide +kernel
theorem dX6_tickOn_166 : decode cX6_tickOn 166 = .ok (.iaload, 1) := by decide +kernel
theorem dX6_tickOn_167 : decode cX6_tickOn 167 = .ok (.iconst 1, 1) := by decide +kernel
theorem dX6_tickOn_168 : decode cX6_tickOn 168 = .ok (.iadd, 1) := by decide +kernel
theorem dX6_tickOn_169 : decode cX6_tickOn 169 = .ok (.iastore, 1) := by decide +kernel
theorem dX6_tickOn_170 : decode cX6_tickOn 170 = .ok (.iload_n 3, 1) := by decide +kernel
theorem dX6_tickOn_171 : decode cX6_tickOn 171 = .ok (.ireturn, 1) := by decide +kernel
theorem dX6_allOn_0 : decode cX6_allOn 0 = .ok (.iconst 1, 1) := by decide +kernel
theorem dX6_allOn_1 : decode cX6_allOn 1 = .ok (.aload_n 0, 1) := by decide +kernel
theorem dX6_allOn_2 : decode cX6_allOn 2 = .ok (.getfield 7, 3) := by decide +kernel
theorem dX6_allOn_5 : decode cX6_allOn 5 = .ok (.iload_n 1, 1) := by decide +kernel
theorem dX6_allOn_6 : decode cX6_allOn 6 = .ok (.bipush 20, 2) := by decide +kernel
theorem dX6_allOn_8 : decode cX6_allOn 8 = .ok (.iadd, 1) := by decide +kernel
theorem dX6_allOn_9 : decode cX6_allOn 9 = .ok (.iaload, 1) := by decide +kernel
theorem dX6_allOn_10 : decode cX6_allOn 10 = .ok (.ishl, 1) := by decide +kernel
theorem dX6_allOn_11 : decode cX6_allOn 11 = .ok (.iconst 1, 1) := by decide +kernel
theorem dX6_allOn_12 : decode cX6_allOn 12 = .ok (.isub, 1) := by decide +kernel
theorem dX6_allOn_13 : decode cX6_allOn 13 = .ok (.istore_n 2, 1) := by decide +kernel
theorem dX6_allOn_14 : decode cX6_allOn 14 = .ok (.aload_n 0, 1) := by decide +kernel
theorem dX6_allOn_15 : decode cX6_allOn 15 = .ok (.getfield 25, 3) := by decide +kernel
theorem dX6_allOn_18 : decode cX6_allOn 18 = .ok (.bipush (-4), 2) := by decide +kernel
theorem dX6_allOn_20 : decode cX6_allOn 20 = .ok (.if_icmp .ne 7, 3) := by decide +kernel
theorem dX6_allOn_23 : decode cX6_allOn 23 = .ok (.iload_n 2, 1) := by decide +kernel
theorem dX6_allOn_24 : decode cX6_allOn 24 = .ok (.goto 13, 3) := by decide +kernel
theorem dX6_allOn_27 : decode cX6_allOn 27 = .ok (.iload_n 2, 1) := by decide +kernel
theorem dX6_allOn_28 : decode cX6_allOn 28 = .ok (.iconst 1, 1) := by decide +kernel
theorem dX6_allOn_29 : decode cX6_allOn 29 = .ok (.aload_n 0, 1) := by decide +kernel
theorem dX6_allOn_30 : decode cX6_allOn 30 = .ok (.getfield 25, 3) := by decide +kernel
theorem dX6_allOn_33 : decode cX6_allOn 33 = .ok (.ishl, 1) := by decide +kernel
theorem dX6_allOn_34 : decode cX6_allOn 34 = .ok (.iconst (-1), 1) := by decide +kernel
theorem dX6_allOn_35 : decode cX6_allOn 35 = .ok (.ixor, 1) := by decide +kernel
theorem dX6_allOn_36 : decode cX6_allOn 36 = .ok (.iand, 1) := by decide +kernel
theorem dX6_allOn_37 : decode cX6_allOn 37 = .ok (.ireturn, 1) := by decide +kernel
theorem dX6_sumOn_0 : decode cX6_sumOn 0 = .ok (.iconst 0, 1) := by decide +kernel
theorem dX6_sumOn_1 : decode cX6_sumOn 1 = .ok (.istore_n 3, 1) := by decide +kernel
theorem dX6_sumOn_2 : decode cX6_sumOn 2 = .ok (.iconst 0, 1) := by decide +kernel
theorem dX6_sumOn_3 : decode cX6_sumOn 3 = .ok (.istore 4, 2) := by decide +kernel
theorem dX6_sumOn_5 : decode cX6_sumOn 5 = .ok (.iload 4, 2) := by decide +kernel
theorem dX6_sumOn_7 : decode cX6_sumOn 7 = .ok (.aload_n 0, 1) := by decide +kernel
theorem dX6_sumOn_8 : decode cX6_sumOn 8 = .ok (.getfield 7, 3) := by decide +kernel
theorem dX6_sumOn_11 : decode cX6_sumOn 11 = .ok (.iload_n 1, 1) := by decide +kernel
theorem dX6_sumOn_12 : decode cX6_sumOn 12 = .ok (.bipush 20, 2) := by decide +kernel
theorem dX6_sumOn_14 : decode cX6_sumOn 14 = .ok (.iadd, 1) := by decide +kernel
theorem dX6_sumOn_15 : decode cX6_sumOn 15 = .ok (.iaload, 1) := by decide +kernel
theorem dX6_sumOn_16 : decode cX6_sumOn 16 = .ok (.if_icmp .ge 23, 3) := by decide +kernel
theorem dX6_sumOn_19 : decode cX6_sumOn 19 = .ok (.iload_n 3, 1) := by decide +kernel
theorem dX6_sumOn_20 : decode cX6_sumOn 20 = .ok (.aload_n 0, 1) := by decide +kernel
theorem dX6_sumOn_21 : decode cX6_sumOn 21 = .ok (.getfield 7, 3) := by decide +kernel
theorem dX6_sumOn_24 : decode cX6_sumOn 24 = .ok (.iload_n 1, 1) := by decide +kernel
theorem dX6_sumOn_25 : decode cX6_sumOn 25 = .ok (.iload_n 2, 1) := by decide +kernel
theorem dX6_sumOn_26 : decode cX6_sumOn 26 = .ok (.iadd, 1) := by decide +kernel
theorem dX6_sumOn_27 : decode cX6_sumOn 27 = .ok (.iload 4, 2) := by decide +kernel
theorem dX6_sumOn_29 : decode cX6_sumOn 29 = .ok (.iadd, 1) := by decide +kernel
theorem dX6_sumOn_30 : decode cX6_sumOn 30 = .ok (.iaload, 1) := by decide +kernel
theorem dX6_sumOn_31 : decode cX6_sumOn 31 = .ok (.iadd, 1) := by decide +kernel
theorem dX6_sumOn_32 : decode cX6_sumOn 32 = .ok (.istore_n 3, 1) := by decide +kernel
theorem dX6_sumOn_33 : decode cX6_sumOn 33 = .ok (.iinc 4 1, 3) := by decide +kernel
theorem dX6_sumOn_36 : decode cX6_sumOn 36 = .ok (.goto (-31), 3) := by decide +kernel
theorem dX6_sumOn_39 : decode cX6_sumOn 39 = .ok (.iload_n 3, 1) := by decide +kernel
theorem dX6_sumOn_40 : decode cX6_sumOn 40 = .ok (.ireturn, 1) := by decide +kernel
theorem dX6_rule_0 : decode cX6_rule 0 = .ok (.iload_n 1, 1) := by decide +kernel
theorem dX6_rule_1 : decode cX6_rule 1 = .ok (.tableswitch 87 0 5 #[39, 47, 57, 65, 73, 79], 39) := by decide +kernel
theorem dX6_rule_40 : decode cX6_rule 40 = .ok (.aload_n 0, 1) := by decide +kernel
theorem dX6_rule_41 : decode cX6_rule 41 = .ok (.getfield 7, 3) := by decide +kernel
theorem dX6_rule_44 : decode cX6_rule 44 = .ok (.bipush 20, 2) := by decide +kernel
theorem dX6_rule_46 : decode cX6_rule 46 = .ok (.iaload, 1) := by decide +kernel
theorem dX6_rule_47 : decode cX6_rule 47 = .ok (.ireturn, 1) := by decide +kernel
theorem dX6_rule_48 : decode cX6_rule 48 = .ok (.aload_n 0, 1) := by decide +kernel
theorem dX6_rule_49 : decode cX6_rule 49 = .ok (.getfield 7, 3) := by decide +kernel
theorem dX6_rule_52 : decode cX6_rule 52 = .ok (.bipush 21, 2) := by decide +kernel
theorem dX6_rule_54 : decode cX6_rule 54 = .ok (.iaload, 1) := by decide +kernel
theorem dX6_rule_55 : decode cX6_rule 55 = .ok (.iconst 1, 1) := by decide +kernel
theorem dX6_rule_56 : decode cX6_rule 56 = .ok (.iadd, 1) := by decide +kernel
theorem dX6_rule_57 : decode cX6_rule 57 = .ok (.ireturn, 1) := by decide +kernel
theorem dX6_rule_58 : decode cX6_rule 58 = .ok (.aload_n 0, 1) := by decide +kernel
theorem dX6_rule_59 : decode cX6_rule 59 = .ok (.getfield 7, 3) := by decide +kernel
theorem dX6_rule_62 : decode cX6_rule 62 = .ok (.bipush 22, 2) := by decide +kernel
theorem dX6_rule_64 : decode cX6_rule 64 = .ok (.iaload, 1) := by decide +kernel
theorem dX6_rule_65 : decode cX6_rule 65 = .ok (.ireturn, 1) := by decide +kernel
theorem dX6_rule_66 : decode cX6_rule 66 = .ok (.aload_n 0, 1) := by decide +kernel
theorem dX6_rule_67 : decode cX6_rule 67 = .ok (.iconst 0, 1) := by decide +kernel
theorem dX6_rule_68 : decode cX6_rule 68 = .ok (.bipush 15, 2) := by decide +kernel
theorem dX6_rule_70 : decode cX6_rule 70 = .ok (.invokevirtual 134, 3) := by decide +kernel
theorem dX6_rule_73 : decode cX6_rule 73 = .ok (.ireturn, 1) := by decide +kernel
theorem dX6_rule_74 : decode cX6_rule 74 = .ok (.aload_n 0, 1) := by decide +kernel
theorem dX6_rule_75 : decode cX6_rule 75 = .ok (.iconst 0, 1) := by decide +kernel
theorem dX6_rule_76 : decode cX6_rule 76 = .ok (.invokevirtual 124, 3) := by decide +kernel
theorem dX6_rule_79 : decode cX6_rule 79 = .ok (.ireturn, 1) := by decide +kernel
theorem dX6_rule_80 : decode cX6_rule 80 = .ok (.aload_n 0, 1) := by decide +kernel
theorem dX6_rule_81 : decode cX6_rule 81 = .ok (.iconst 0, 1) := by decide +kernel
theorem dX6_rule_82 : decode cX6_rule 82 = .ok (.bipush 10, 2) := by decide +kernel
theorem dX6_rule_84 : decode cX6_rule 84 = .ok (.invokevirtual 134, 3) := by decide +kernel
theorem dX6_rule_87 : decode cX6_rule 87 = .ok (.ireturn, 1) := by decide +kernel
theorem dX6_rule_88 : decode cX6_rule 88 = .ok (.iconst (-1), 1) := by decide +kernel
theorem dX6_rule_89 : decode cX6_rule 89 = .ok (.ireturn, 1) := by decide +kernel
theorem dX6_clock_0 : decode cX6_clock 0 = .ok (.aload_n 0, 1) := by decide +kernel
theorem dX6_clock_1 : decode cX6_clock 1 = .ok (.iload_n 1, 1) := by decide +kernel
theorem dX6_clock_2 : decode cX6_clock 2 = .ok (.invokevirtual 137, 3) := by decide +kernel
theorem dX6_clock_5 : decode cX6_clock 5 = .ok (.ifCond .eq 15, 3) := by decide +kernel
theorem dX6_clock_8 : decode cX6_clock 8 = .ok (.iload_n 2, 1) := by decide +kernel
theorem dX6_clock_9 : decode cX6_clock 9 = .ok (.i2l, 1) := by decide +kernel
theorem dX6_clock_10 : decode cX6_clock 10 = .ok (.lconst 0, 1) := by decide +kernel
theorem dX6_clock_11 : decode cX6_clock 11 = .ok (.ldc2_w 102, 3) := by decide +kernel
theorem dX6_clock_14 : decode cX6_clock 14 = .ok (.invokestatic 50, 3) := by decide +kernel
theorem dX6_clock_17 : decode cX6_clock 17 = .ok (.ifCond .ne 5, 3) := by decide +kernel
theorem dX6_clock_20 : decode cX6_clock 20 = .ok (.iconst (-1), 1) := by decide +kernel
theorem dX6_clock_21 : decode cX6_clock 21 = .ok (.ireturn, 1) := by decide +kernel
theorem dX6_clock_22 : decode cX6_clock 22 = .ok (.iload_n 2, 1) := by decide +kernel
theorem dX6_clock_23 : decode cX6_clock 23 = .ok (.iconst 4, 1) := by decide +kernel
theorem dX6_clock_24 : decode cX6_clock 24 = .ok (.if_icmp .ge 16, 3) := by decide +kernel
theorem dX6_clock_27 : decode cX6_clock 27 = .ok (.aload_n 0, 1) := by decide +kernel
theorem dX6_clock_28 : decode cX6_clock 28 = .ok (.getfield 7, 3) := by decide +kernel
theorem dX6_clock_31 : decode cX6_clock 31 = .ok (.iconst 5, 1) := by decide +kernel
theorem dX6_clock_32 : decode cX6_clock 32 = .ok (.iload_n 2, 1) := by decide +kernel
theorem dX6_clock_33 : decode cX6_clock 33 = .ok (.imul, 1) := by decide +kernel
theorem dX6_clock_34 : decode cX6_clock 34 = .ok (.iload_n 1, 1) := by decide +kernel
theorem dX6_clock_35 : decode cX6_clock 35 = .ok (.iadd, 1) := by decide +kernel
theorem dX6_clock_36 : decode cX6_clock 36 = .ok (.iaload, 1) := by decide +kernel
theorem dX6_clock_37 : decode cX6_clock 37 = .ok (.goto 17, 3) := by decide +kernel
theorem dX6_clock_40 : decode cX6_clock 40 = .ok (.aload_n 0, 1) := by decide +kernel
theorem dX6_clock_41 : decode cX6_clock 41 = .ok (.iconst 0, 1) := by decide +kernel
theorem dX6_clock_42 : decode cX6_clock 42 = .ok (.iload_n 1, 1) := by decide +kernel
theorem dX6_clock_43 : decode cX6_clock 43 = .ok (.invokevirtual 120, 3) := by decide +kernel
theorem dX6_clock_46 : decode cX6_clock 46 = .ok (.ifCond .eq 7, 3) := by decide +kernel
theorem dX6_clock_49 : decode cX6_clock 49 = .ok (.iconst 1, 1) := by decide +kernel
theorem dX6_clock_50 : decode cX6_clock 50 = .ok (.goto 4, 3) := by decide +kernel
theorem dX6_clock_53 : decode cX6_clock 53 = .ok (.iconst 0, 1) := by decide +kernel
theorem dX6_clock_54 : decode cX6_clock 54 = .ok (.ireturn, 1) := by decide +kernel
theorem dX6_alters_0 : decode cX6_alters 0 = .ok (.iload_n 2, 1) := by decide +kernel
theorem dX6_alters_1 : decode cX6_alters 1 = .ok (.ifCond .ne 15, 3) := by decide +kernel
theorem dX6_alters_4 : decode cX6_alters 4 = .ok (.iload_n 3, 1) := by decide +kernel
theorem dX6_alters_5 : decode cX6_alters 5 = .ok (.i2l, 1) := by decide +kernel
theorem dX6_alters_6 : decode cX6_alters 6 = .ok (.lconst 0, 1) := by decide +kernel
theorem dX6_alters_7 : decode cX6_alters 7 = .ok (.ldc2_w 141, 3) := by decide +kernel
theorem dX6_alters_10 : decode cX6_alters 10 = .ok (.invokestatic 50, 3) := by decide +kernel
theorem dX6_alters_13 : decode cX6_alters 13 = .ok (.goto 44, 3) := by decide +kernel
theorem dX6_alters_16 : decode cX6_alters 16 = .ok (.iload_n 2, 1) := by decide +kernel
theorem dX6_alters_17 : decode cX6_alters 17 = .ok (.iconst 1, 1) := by decide +kernel
theorem dX6_alters_18 : decode cX6_alters 18 = .ok (.if_icmp .ne 17, 3) := by decide +kernel
theorem dX6_alters_21 : decode cX6_alters 21 = .ok (.iload_n 3, 1) := by decide +kernel
theorem dX6_alters_22 : decode cX6_alters 22 = .ok (.i2l, 1) := by decide +kernel
theorem dX6_alters_23 : decode cX6_alters 23 = .ok (.ldc2_w 143, 3) := by decide +kernel
theorem dX6_alters_26 : decode cX6_alters 26 = .ok (.ldc2_w 145, 3) := by decide +kernel
theorem dX6_alters_29 : decode cX6_alters 29 = .ok (.invokestatic 50, 3) := by decide +kernel
theorem dX6_alters_32 : decode cX6_alters 32 = .ok (.goto 25, 3) := by decide +kernel
theorem dX6_alters_35 : decode cX6_alters 35 = .ok (.iload_n 2, 1) := by decide +kernel
theorem dX6_alters_36 : decode cX6_alters 36 = .ok (.iconst 2, 1) := by decide +kernel
theorem dX6_alters_37 : decode cX6_alters 37 = .ok (.if_icmp .ne 19, 3) := by decide +kernel
theorem dX6_alters_40 : decode cX6_alters 40 = .ok (.iload_n 3, 1) := by decide +kernel
theorem dX6_alters_41 : decode cX6_alters 41 = .ok (.i2l, 1) := by decide +kernel
theorem dX6_alters_42 : decode cX6_alters 42 = .ok (.lconst 0, 1) := by decide +kernel
theorem dX6_alters_43 : decode cX6_alters 43 = .ok (.ldc2_w 147, 3) := by decide +kernel
theorem dX6_alters_46 : decode cX6_alters 46 = .ok (.invokestatic 50, 3) := by decide +kernel
theorem dX6_alters_49 : decode cX6_alters 49 = .ok (.ifCond .eq 7, 3) := by decide +kernel
theorem dX6_alters_52 : decode cX6_alters 52 = .ok (.iconst 1, 1) := by decide +kernel
theorem dX6_alters_53 : decode cX6_alters 53 = .ok (.goto 4, 3) := by decide +kernel
theorem dX6_alters_56 : decode cX6_alters 56 = .ok (.iconst 0, 1) := by decide +kernel
theorem dX6_alters_57 : decode cX6_alters 57 = .ok (.istore 4, 2) := by decide +kernel
theorem dX6_alters_59 : decode cX6_alters 59 = .ok (.aload_n 0, 1) := by decide +kernel
theorem dX6_alters_60 : decode cX6_alters 60 = .ok (.iload_n 1, 1) := by decide +kernel
theorem dX6_alters_61 : decode cX6_alters 61 = .ok (.invokevirtual 137, 3) := by decide +kernel
theorem dX6_alters_64 : decode cX6_alters 64 = .ok (.ifCond .eq 8, 3) := by decide +kernel
theorem dX6_alters_67 : decode cX6_alters 67 = .ok (.iload 4, 2) := by decide +kernel
theorem dX6_alters_69 : decode cX6_alters 69 = .ok (.ifCond .ne 5, 3) := by decide +kernel
theorem dX6_alters_72 : decode cX6_alters 72 = .ok (.iconst (-1), 1) := by decide +kernel
theorem dX6_alters_73 : decode cX6_alters 73 = .ok (.ireturn, 1) := by decide +kernel
theorem dX6_alters_74 : decode cX6_alters 74 = .ok (.iload_n 2, 1) := by decide +kernel
theorem dX6_alters_75 : decode cX6_alters 75 = .ok (.iconst 1, 1) := by decide +kernel
theorem dX6_alters_76 : decode cX6_alters 76 = .ok (.if_icmp .ne 16, 3) := by decide +kernel
theorem dX6_alters_79 : decode cX6_alters 79 = .ok (.aload_n 0, 1) := by decide +kernel
theorem dX6_alters_80 : decode cX6_alters 80 = .ok (.getfield 7, 3) := by decide +kernel
theorem dX6_alters_83 : decode cX6_alters 83 = .ok (.bipush 10, 2) := by decide +kernel
theorem dX6_alters_85 : decode cX6_alters 85 = .ok (.iload_n 1, 1) := by decide +kernel
theorem dX6_alters_86 : decode cX6_alters 86 = .ok (.iadd, 1) := by decide +kernel
theorem dX6_alters_87 : decode cX6_alters 87 = .ok (.iaload, 1) := by decide +kernel
theorem dX6_alters_88 : decode cX6_alters 88 = .ok (.iload_n 3, 1) := by decide +kernel
theorem dX6_alters_89 : decode cX6_alters 89 = .ok (.if_icmp .ge 20, 3) := by decide +kernel
theorem dX6_alters_92 : decode cX6_alters 92 = .ok (.iload_n 2, 1) := by decide +kernel
theorem dX6_alters_93 : decode cX6_alters 93 = .ok (.iconst 2, 1) := by decide +kernel
theorem dX6_alters_94 : decode cX6_alters 94 = .ok (.if_icmp .ne 18, 3) := by decide +kernel
theorem dX6_alters_97 : decode cX6_alters 97 = .ok (.iload_n 3, 1) := by decide +kernel
theorem dX6_alters_98 : decode cX6_alters 98 = .ok (.aload_n 0, 1) := by decide +kernel
theorem dX6_alters_99 : decode cX6_alters 99 = .ok (.getfield 7, 3) := by decide +kernel
theorem dX6_alters_102 : decode cX6_alters 102 = .ok (.iconst 5, 1) := by decide +kernel
theorem dX6_alters_103 : decode cX6_alters 103 = .ok (.iload_n 1, 1) := by decide +kernel
theorem dX6_alters_104 : decode cX6_alters 104 = .ok (.iadd, 1) := by decide +kernel
theorem dX6_alters_105 : decode cX6_alters 105 = .ok (.iaload, 1) := by decide +kernel
theorem dX6_alters_106 : decode cX6_alters 106 = .ok (.if_icmp .lt 6, 3) := by decide +kernel
theorem dX6_alters_109 : decode cX6_alters 109 = .ok (.bipush (-2), 2) := by decide +kernel
theorem dX6_alters_111 : decode cX6_alters 111 = .ok (.ireturn, 1) := by decide +kernel
theorem dX6_alters_112 : decode cX6_alters 112 = .ok (.aload_n 0, 1) := by decide +kernel
theorem dX6_alters_113 : decode cX6_alters 113 = .ok (.getfield 7, 3) := by decide +kernel
theorem dX6_alters_116 : decode cX6_alters 116 = .ok (.iconst 5, 1) := by decide +kernel
theorem dX6_alters_117 : decode cX6_alters 117 = .ok (.iload_n 2, 1) := by decide +kernel
theorem dX6_alters_118 : decode cX6_alters 118 = .ok (.imul, 1) := by decide +kernel
theorem dX6_alters_119 : decode cX6_alters 119 = .ok (.iload_n 1, 1) := by decide +kernel
theorem dX6_alters_120 : decode cX6_alters 120 = .ok (.iadd, 1) := by decide +kernel
theorem dX6_alters_121 : decode cX6_alters 121 = .ok (.iaload, 1) := by decide +kernel
theorem dX6_alters_122 : decode cX6_alters 122 = .ok (.istore 5, 2) := by decide +kernel
theorem dX6_alters_124 : decode cX6_alters 124 = .ok (.aload_n 0, 1) := by decide +kernel
theorem dX6_alters_125 : decode cX6_alters 125 = .ok (.getfield 7, 3) := by decide +kernel
theorem dX6_alters_128 : decode cX6_alters 128 = .ok (.iconst 5, 1) := by decide +kernel
theorem dX6_alters_129 : decode cX6_alters 129 = .ok (.iload_n 2, 1) := by decide +kernel
theorem dX6_alters_130 : decode cX6_alters 130 = .ok (.imul, 1) := by decide +kernel
theorem dX6_alters_131 : decode cX6_alters 131 = .ok (.iload_n 1, 1) := by decide +kernel
theorem dX6_alters_132 : decode cX6_alters 132 = .ok (.iadd, 1) := by decide +kernel
theorem dX6_alters_133 : decode cX6_alters 133 = .ok (.iload_n 3, 1) := by decide +kernel
theorem dX6_alters_134 : decode cX6_alters 134 = .ok (.iastore, 1) := by decide +kernel
theorem dX6_alters_135 : decode cX6_alters 135 = .ok (.iload 5, 2) := by decide +kernel
theorem dX6_alters_137 : decode cX6_alters 137 = .ok (.ireturn, 1) := by decide +kernel
theorem dX6_alter_0 : decode cX6_alter 0 = .ok (.aload_n 0, 1) := by decide +kernel
theorem dX6_alter_1 : decode cX6_alter 1 = .ok (.iload_n 1, 1) := by decide +kernel
theorem dX6_alter_2 : decode cX6_alter 2 = .ok (.iload_n 2, 1) := by decide +kernel
theorem dX6_alter_3 : decode cX6_alter 3 = .ok (.iload_n 3, 1) := by decide +kernel
theorem dX6_alter_4 : decode cX6_alter 4 = .ok (.invokevirtual 149, 3) := by decide +kernel
theorem dX6_alter_7 : decode cX6_alter 7 = .ok (.ireturn, 1) := by decide +kernel
theorem dX6_push_0 : decode cX6_push 0 = .ok (.iload_n 1, 1) := by decide +kernel
theorem dX6_push_1 : decode cX6_push 1 = .ok (.i2l, 1) := by decide +kernel
theorem dX6_push_2 : decode cX6_push 2 = .ok (.lconst 0, 1) := by decide +kernel
theorem dX6_push_3 : decode cX6_push 3 = .ok (.ldc2_w 153, 3) := by decide +kernel
theorem dX6_push_6 : decode cX6_push 6 = .ok (.invokestatic 50, 3) := by decide +kernel
theorem dX6_push_9 : decode cX6_push 9 = .ok (.ifCond .ne 5, 3) := by decide +kernel
theorem dX6_push_12 : decode cX6_push 12 = .ok (.iconst (-1), 1) := by decide +kernel
theorem dX6_push_13 : decode cX6_push 13 = .ok (.ireturn, 1) := by decide +kernel
theorem dX6_push_14 : decode cX6_push 14 = .ok (.aload_n 0, 1) := by decide +kernel
theorem dX6_push_15 : decode cX6_push 15 = .ok (.getfield 7, 3) := by decide +kernel
theorem dX6_push_18 : decode cX6_push 18 = .ok (.bipush 21, 2) := by decide +kernel
theorem dX6_push_20 : decode cX6_push 20 = .ok (.iaload, 1) := by decide +kernel
theorem dX6_push_21 : decode cX6_push 21 = .ok (.iconst 1, 1) := by decide +kernel
theorem dX6_push_22 : decode cX6_push 22 = .ok (.iadd, 1) := by decide +kernel
theorem dX6_push_23 : decode cX6_push 23 = .ok (.istore_n 2, 1) := by decide +kernel
theorem dX6_push_24 : decode cX6_push 24 = .ok (.aload_n 0, 1) := by decide +kernel
theorem dX6_push_25 : decode cX6_push 25 = .ok (.getfield 7, 3) := by decide +kernel
theorem dX6_push_28 : decode cX6_push 28 = .ok (.bipush 21, 2) := by decide +kernel
theorem dX6_push_30 : decode cX6_push 30 = .ok (.iload_n 1, 1) := by decide +kernel
theorem dX6_push_31 : decode cX6_push 31 = .ok (.iconst 1, 1) := by decide +kernel
theorem dX6_push_32 : decode cX6_push 32 = .ok (.isub, 1) := by decide +kernel
theorem dX6_push_33 : decode cX6_push 33 = .ok (.iastore, 1) := by decide +kernel
theorem dX6_push_34 : decode cX6_push 34 = .ok (.iload_n 2, 1) := by decide +kernel
theorem dX6_push_35 : decode cX6_push 35 = .ok (.ireturn, 1) := by decide +kernel
theorem dX6_hang_0 : decode cX6_hang 0 = .ok (.iload_n 1, 1) := by decide +kernel
theorem dX6_hang_1 : decode cX6_hang 1 = .ok (.i2l, 1) := by decide +kernel
theorem dX6_hang_2 : decode cX6_hang 2 = .ok (.lconst 0, 1) := by decide +kernel
theorem dX6_hang_3 : decode cX6_hang 3 = .ok (.ldc2_w 141, 3) := by decide +kernel
theorem dX6_hang_6 : decode cX6_hang 6 = .ok (.invokestatic 50, 3) := by decide +kernel
theorem dX6_hang_9 : decode cX6_hang 9 = .ok (.ifCond .eq 17, 3) := by decide +kernel
theorem dX6_hang_12 : decode cX6_hang 12 = .ok (.iload_n 2, 1) := by decide +kernel
theorem dX6_hang_13 : decode cX6_hang 13 = .ok (.i2l, 1) := by decide +kernel
theorem dX6_hang_14 : decode cX6_hang 14 = .ok (.ldc2_w 143, 3) := by decide +kernel
theorem dX6_hang_17 : decode cX6_hang 17 = .ok (.ldc2_w 145, 3) := by decide +kernel
theorem dX6_hang_20 : decode cX6_hang 20 = .ok (.invokestatic 50, 3) := by decide +kernel
theorem dX6_hang_23 : decode cX6_hang 23 = .ok (.ifCond .ne 5, 3) := by decide +kernel
theorem dX6_hang_26 : decode cX6_hang 26 = .ok (.iconst (-1), 1) := by decide +kernel
theorem dX6_hang_27 : decode cX6_hang 27 = .ok (.ireturn, 1) := by decide +kernel
theorem dX6_hang_28 : decode cX6_hang 28 = .ok (.aload_n 0, 1) := by decide +kernel
theorem dX6_hang_29 : decode cX6_hang 29 = .ok (.getfield 7, 3) := by decide +kernel
theorem dX6_hang_32 : decode cX6_hang 32 = .ok (.bipush 20, 2) := by decide +kernel
theorem dX6_hang_34 : decode cX6_hang 34 = .ok (.iaload, 1) := by decide +kernel
theorem dX6_hang_35 : decode cX6_hang 35 = .ok (.istore_n 3, 1) := by decide +kernel
theorem dX6_hang_36 : decode cX6_hang 36 = .ok (.iload_n 3, 1) := by decide +kernel
theorem dX6_hang_37 : decode cX6_hang 37 = .ok (.iconst 5, 1) := by decide +kernel
theorem dX6_hang_38 : decode cX6_hang 38 = .ok (.if_icmp .ne 6, 3) := by decide +kernel
theorem dX6_hang_41 : decode cX6_hang 41 = .ok (.bipush (-3), 2) := by decide +kernel
theorem dX6_hang_43 : decode cX6_hang 43 = .ok (.ireturn, 1) := by decide +kernel
theorem dX6_hang_44 : decode cX6_hang 44 = .ok (.aload_n 0, 1) := by decide +kernel
theorem dX6_hang_45 : decode cX6_hang 45 = .ok (.getfield 7, 3) := by decide +kernel
theorem dX6_hang_48 : decode cX6_hang 48 = .ok (.iload_n 3, 1) := by decide +kernel
theorem dX6_hang_49 : decode cX6_hang 49 = .ok (.iload_n 1, 1) := by decide +kernel
theorem dX6_hang_50 : decode cX6_hang 50 = .ok (.iastore, 1) := by decide +kernel
theorem dX6_hang_51 : decode cX6_hang 51 = .ok (.aload_n 0, 1) := by decide +kernel
theorem dX6_hang_52 : decode cX6_hang 52 = .ok (.getfield 7, 3) := by decide +kernel
theorem dX6_hang_55 : decode cX6_hang 55 = .ok (.iconst 5, 1) := by decide +kernel
theorem dX6_hang_56 : decode cX6_hang 56 = .ok (.iload_n 3, 1) := by decide +kernel
theorem dX6_hang_57 : decode cX6_hang 57 = .ok (.iadd, 1) := by decide +kernel
theorem dX6_hang_58 : decode cX6_hang 58 = .ok (.iload_n 2, 1) := by decide +kernel
theorem dX6_hang_59 : decode cX6_hang 59 = .ok (.iastore, 1) := by decide +kernel
theorem dX6_hang_60 : decode cX6_hang 60 = .ok (.aload_n 0, 1) := by decide +kernel
theorem dX6_hang_61 : decode cX6_hang 61 = .ok (.getfield 7, 3) := by decide +kernel
theorem dX6_hang_64 : decode cX6_hang 64 = .ok (.bipush 10, 2) := by decide +kernel
theorem dX6_hang_66 : decode cX6_hang 66 = .ok (.iload_n 3, 1) := by decide +kernel
theorem dX6_hang_67 : decode cX6_hang 67 = .ok (.iadd, 1) := by decide +kernel
theorem dX6_hang_68 : decode cX6_hang 68 = .ok (.iconst 0, 1) := by decide +kernel
theorem dX6_hang_69 : decode cX6_hang 69 = .ok (.iastore, 1) := by decide +kernel
theorem dX6_hang_70 : decode cX6_hang 70 = .ok (.aload_n 0, 1) := by decide +kernel
theorem dX6_hang_71 : decode cX6_hang 71 = .ok (.getfield 7, 3) := by decide +kernel
theorem dX6_hang_74 : decode cX6_hang 74 = .ok (.bipush 15, 2) := by decide +kernel
theorem dX6_hang_76 : decode cX6_hang 76 = .ok (.iload_n 3, 1) := by decide +kernel
theorem dX6_hang_77 : decode cX6_hang 77 = .ok (.iadd, 1) := by decide +kernel
theorem dX6_hang_78 : decode cX6_hang 78 = .ok (.iconst 0, 1) := by decide +kernel
theorem dX6_hang_79 : decode cX6_hang 79 = .ok (.iastore, 1) := by decide +kernel
theorem dX6_hang_80 : decode cX6_hang 80 = .ok (.aload_n 0, 1) := by decide +kernel
theorem dX6_hang_81 : decode cX6_hang 81 = .ok (.getfield 7, 3) := by decide +kernel
theorem dX6_hang_84 : decode cX6_hang 84 = .ok (.bipush 20, 2) := by decide +kernel
theorem dX6_hang_86 : decode cX6_hang 86 = .ok (.dup2, 1) := by decide +kernel
theorem dX6_hang_87 : decode cX6_hang 87 = .ok (.iaload, 1) := by decide +kernel
theorem dX6_hang_88 : decode cX6_hang 88 = .ok (.iconst 1, 1) := by decide +kernel
theorem dX6_hang_89 : decode cX6_hang 89 = .ok (.iadd, 1) := by decide +kernel
theorem dX6_hang_90 : decode cX6_hang 90 = .ok (.iastore, 1) := by decide +kernel
theorem dX6_hang_91 : decode cX6_hang 91 = .ok (.aload_n 0, 1) := by decide +kernel
theorem dX6_hang_92 : decode cX6_hang 92 = .ok (.getfield 7, 3) := by decide +kernel
theorem dX6_hang_95 : decode cX6_hang 95 = .ok (.bipush 20, 2) := by decide +kernel
theorem dX6_hang_97 : decode cX6_hang 97 = .ok (.iaload, 1) := by decide +kernel
theorem dX6_hang_98 : decode cX6_hang 98 = .ok (.ireturn, 1) := by decide +kernel
theorem dX6_cut_0 : decode cX6_cut 0 = .ok (.iload_n 1, 1) := by decide +kernel
theorem dX6_cut_1 : decode cX6_cut 1 = .ok (.i2l, 1) := by decide +kernel
theorem dX6_cut_2 : decode cX6_cut 2 = .ok (.lconst 0, 1) := by decide +kernel
theorem dX6_cut_3 : decode cX6_cut 3 = .ok (.aload_n 0, 1) := by decide +kernel
theorem dX6_cut_4 : decode cX6_cut 4 = .ok (.getfield 7, 3) := by decide +kernel
theorem dX6_cut_7 : decode cX6_cut 7 = .ok (.bipush 20, 2) := by decide +kernel
theorem dX6_cut_9 : decode cX6_cut 9 = .ok (.iaload, 1) := by decide +kernel
theorem dX6_cut_10 : decode cX6_cut 10 = .ok (.i2l, 1) := by decide +kernel
theorem dX6_cut_11 : decode cX6_cut 11 = .ok (.invokestatic 50, 3) := by decide +kernel
theorem dX6_cut_14 : decode cX6_cut 14 = .ok (.ifCond .ne 5, 3) := by decide +kernel
theorem dX6_cut_17 : decode cX6_cut 17 = .ok (.iconst (-1), 1) := by decide +kernel
theorem dX6_cut_18 : decode cX6_cut 18 = .ok (.ireturn, 1) := by decide +kernel
theorem dX6_cut_19 : decode cX6_cut 19 = .ok (.aload_n 0, 1) := by decide +kernel
theorem dX6_cut_20 : decode cX6_cut 20 = .ok (.getfield 7, 3) := by decide +kernel
theorem dX6_cut_23 : decode cX6_cut 23 = .ok (.bipush 20, 2) := by decide +kernel
theorem dX6_cut_25 : decode cX6_cut 25 = .ok (.iaload, 1) := by decide +kernel
theorem dX6_cut_26 : decode cX6_cut 26 = .ok (.istore_n 2, 1) := by decide +kernel
theorem dX6_cut_27 : decode cX6_cut 27 = .ok (.aload_n 0, 1) := by decide +kernel
theorem dX6_cut_28 : decode cX6_cut 28 = .ok (.getfield 7, 3) := by decide +kernel
theorem dX6_cut_31 : decode cX6_cut 31 = .ok (.bipush 20, 2) := by decide +kernel
theorem dX6_cut_33 : decode cX6_cut 33 = .ok (.iload_n 1, 1) := by decide +kernel
theorem dX6_cut_34 : decode cX6_cut 34 = .ok (.iastore, 1) := by decide +kernel
theorem dX6_cut_35 : decode cX6_cut 35 = .ok (.iload_n 2, 1) := by decide +kernel
theorem dX6_cut_36 : decode cX6_cut 36 = .ok (.ireturn, 1) := by decide +kernel
theorem dX6_knock_0 : decode cX6_knock 0 = .ok (.aload_n 0, 1) := by decide +kernel
theorem dX6_knock_1 : decode cX6_knock 1 = .ok (.iload_n 1, 1) := by decide +kernel
theorem dX6_knock_2 : decode cX6_knock 2 = .ok (.invokevirtual 137, 3) := by decide +kernel
theorem dX6_knock_5 : decode cX6_knock 5 = .ok (.ifCond .eq 15, 3) := by decide +kernel
theorem dX6_knock_8 : decode cX6_knock 8 = .ok (.iload_n 2, 1) := by decide +kernel
theorem dX6_knock_9 : decode cX6_knock 9 = .ok (.i2l, 1) := by decide +kernel
theorem dX6_knock_10 : decode cX6_knock 10 = .ok (.lconst 1, 1) := by decide +kernel
theorem dX6_knock_11 : decode cX6_knock 11 = .ok (.ldc2_w 153, 3) := by decide +kernel
theorem dX6_knock_14 : decode cX6_knock 14 = .ok (.invokestatic 50, 3) := by decide +kernel
theorem dX6_knock_17 : decode cX6_knock 17 = .ok (.ifCond .ne 5, 3) := by decide +kernel
theorem dX6_knock_20 : decode cX6_knock 20 = .ok (.iconst (-1), 1) := by decide +kernel
theorem dX6_knock_21 : decode cX6_knock 21 = .ok (.ireturn, 1) := by decide +kernel
theorem dX6_knock_22 : decode cX6_knock 22 = .ok (.aload_n 0, 1) := by decide +kernel
theorem dX6_knock_23 : decode cX6_knock 23 = .ok (.iconst 0, 1) := by decide +kernel
theorem dX6_knock_24 : decode cX6_knock 24 = .ok (.iload_n 1, 1) := by decide +kernel
theorem dX6_knock_25 : decode cX6_knock 25 = .ok (.iload_n 2, 1) := by decide +kernel
theorem dX6_knock_26 : decode cX6_knock 26 = .ok (.invokevirtual 130, 3) := by decide +kernel
theorem dX6_knock_29 : decode cX6_knock 29 = .ok (.aload_n 0, 1) := by decide +kernel
theorem dX6_knock_30 : decode cX6_knock 30 = .ok (.getfield 7, 3) := by decide +kernel
theorem dX6_knock_33 : decode cX6_knock 33 = .ok (.bipush 10, 2) := by decide +kernel
theorem dX6_knock_35 : decode cX6_knock 35 = .ok (.iload_n 1, 1) := by decide +kernel
theorem dX6_knock_36 : decode cX6_knock 36 = .ok (.iadd, 1) := by decide +kernel
theorem dX6_knock_37 : decode cX6_knock 37 = .ok (.iaload, 1) := by decide +kernel
theorem dX6_knock_38 : decode cX6_knock 38 = .ok (.ireturn, 1) := by decide +kernel
theorem dX6_ticks_0 : decode cX6_ticks 0 = .ok (.iload_n 1, 1) := by decide +kernel
theorem dX6_ticks_1 : decode cX6_ticks 1 = .ok (.i2l, 1) := by decide +kernel
theorem dX6_ticks_2 : decode cX6_ticks 2 = .ok (.lconst 0, 1) := by decide +kernel
theorem dX6_ticks_3 : decode cX6_ticks 3 = .ok (.ldc2_w 155, 3) := by decide +kernel
theorem dX6_ticks_6 : decode cX6_ticks 6 = .ok (.invokestatic 50, 3) := by decide +kernel
theorem dX6_ticks_9 : decode cX6_ticks 9 = .ok (.ifCond .ne 5, 3) := by decide +kernel
theorem dX6_ticks_12 : decode cX6_ticks 12 = .ok (.iconst (-1), 1) := by decide +kernel
theorem dX6_ticks_13 : decode cX6_ticks 13 = .ok (.ireturn, 1) := by decide +kernel
theorem dX6_ticks_14 : decode cX6_ticks 14 = .ok (.aload_n 0, 1) := by decide +kernel
theorem dX6_ticks_15 : decode cX6_ticks 15 = .ok (.getfield 7, 3) := by decide +kernel
theorem dX6_ticks_18 : decode cX6_ticks 18 = .ok (.bipush 22, 2) := by decide +kernel
theorem dX6_ticks_20 : decode cX6_ticks 20 = .ok (.iaload, 1) := by decide +kernel
theorem dX6_ticks_21 : decode cX6_ticks 21 = .ok (.iload_n 1, 1) := by decide +kernel
theorem dX6_ticks_22 : decode cX6_ticks 22 = .ok (.iadd, 1) := by decide +kernel
theorem dX6_ticks_23 : decode cX6_ticks 23 = .ok (.sipush 9999, 3) := by decide +kernel
theorem dX6_ticks_26 : decode cX6_ticks 26 = .ok (.if_icmp .le 6, 3) := by decide +kernel
theorem dX6_ticks_29 : decode cX6_ticks 29 = .ok (.bipush (-3), 2) := by decide +kernel
theorem dX6_ticks_31 : decode cX6_ticks 31 = .ok (.ireturn, 1) := by decide +kernel
theorem dX6_ticks_32 : decode cX6_ticks 32 = .ok (.iconst 0, 1) := by decide +kernel
theorem dX6_ticks_33 : decode cX6_ticks 33 = .ok (.istore_n 2, 1) := by decide +kernel
theorem dX6_ticks_34 : decode cX6_ticks 34 = .ok (.iconst 0, 1) := by decide +kernel
theorem dX6_ticks_35 : decode cX6_ticks 35 = .ok (.istore_n 3, 1) := by decide +kernel
theorem dX6_ticks_36 : decode cX6_ticks 36 = .ok (.iload_n 3, 1) := by decide +kernel
theorem dX6_ticks_37 : decode cX6_ticks 37 = .ok (.iload_n 1, 1) := by decide +kernel
theorem dX6_ticks_38 : decode cX6_ticks 38 = .ok (.if_icmp .ge 21, 3) := by decide +kernel
theorem dX6_ticks_41 : decode cX6_ticks 41 = .ok (.iload_n 2, 1) := by decide +kernel
theorem dX6_ticks_42 : decode cX6_ticks 42 = .ok (.aload_n 0, 1) := by decide +kernel
theorem dX6_ticks_43 : decode cX6_ticks 43 = .ok (.iconst 0, 1) := by decide +kernel
theorem dX6_ticks_44 : decode cX6_ticks 44 = .ok (.iconst 0, 1) := by decide +kernel
theorem dX6_ticks_45 : decode cX6_ticks 45 = .ok (.invokevirtual 157, 3) := by decide +kernel
theorem dX6_ticks_48 : decode cX6_ticks 48 = .ok (.invokestatic 127, 3) := by decide +kernel
theorem dX6_ticks_51 : decode cX6_ticks 51 = .ok (.iadd, 1) := by decide +kernel
theorem dX6_ticks_52 : decode cX6_ticks 52 = .ok (.istore_n 2, 1) := by decide +kernel
theorem dX6_ticks_53 : decode cX6_ticks 53 = .ok (.iinc 3 1, 3) := by decide +kernel
theorem dX6_ticks_56 : decode cX6_ticks 56 = .ok (.goto (-20), 3) := by decide +kernel
theorem dX6_ticks_59 : decode cX6_ticks 59 = .ok (.iload_n 2, 1) := by decide +kernel
theorem dX6_ticks_60 : decode cX6_ticks 60 = .ok (.ireturn, 1) := by decide +kernel
theorem dX6_copies_0 : decode cX6_copies 0 = .ok (.iconst 0, 1) := by decide +kernel
theorem dX6_copies_1 : decode cX6_copies 1 = .ok (.istore_n 3, 1) := by decide +kernel
theorem dX6_copies_2 : decode cX6_copies 2 = .ok (.iload_n 3, 1) := by decide +kernel
theorem dX6_copies_3 : decode cX6_copies 3 = .ok (.bipush 23, 2) := by decide +kernel
theorem dX6_copies_5 : decode cX6_copies 5 = .ok (.if_icmp .ge 25, 3) := by decide +kernel
theorem dX6_copies_8 : decode cX6_copies 8 = .ok (.aload_n 0, 1) := by decide +kernel
theorem dX6_copies_9 : decode cX6_copies 9 = .ok (.getfield 7, 3) := by decide +kernel
theorem dX6_copies_12 : decode cX6_copies 12 = .ok (.iload_n 2, 1) := by decide +kernel
theorem dX6_copies_13 : decode cX6_copies 13 = .ok (.iload_n 3, 1) := by decide +kernel
theorem dX6_copies_14 : decode cX6_copies 14 = .ok (.iadd, 1) := by decide +kernel
theorem dX6_copies_15 : decode cX6_copies 15 = .ok (.aload_n 0, 1) := by decide +kernel
theorem dX6_copies_16 : decode cX6_copies 16 = .ok (.getfield 7, 3) := by decide +kernel
theorem dX6_copies_19 : decode cX6_copies 19 = .ok (.iload_n 1, 1) := by decide +kernel
theorem dX6_copies_20 : decode cX6_copies 20 = .ok (.iload_n 3, 1) := by decide +kernel
theorem dX6_copies_21 : decode cX6_copies 21 = .ok (.iadd, 1) := by decide +kernel
theorem dX6_copies_22 : decode cX6_copies 22 = .ok (.iaload, 1) := by decide +kernel
theorem dX6_copies_23 : decode cX6_copies 23 = .ok (.iastore, 1) := by decide +kernel
theorem dX6_copies_24 : decode cX6_copies 24 = .ok (.iinc 3 1, 3) := by decide +kernel
theorem dX6_copies_27 : decode cX6_copies 27 = .ok (.goto (-25), 3) := by decide +kernel
theorem dX6_copies_30 : decode cX6_copies 30 = .ok (.return_, 1) := by decide +kernel
theorem dX6_ticksGo_0 : decode cX6_ticksGo 0 = .ok (.aload_n 0, 1) := by decide +kernel
theorem dX6_ticksGo_1 : decode cX6_ticksGo 1 = .ok (.iload_n 1, 1) := by decide +kernel
theorem dX6_ticksGo_2 : decode cX6_ticksGo 2 = .ok (.bipush 92, 2) := by decide +kernel
theorem dX6_ticksGo_4 : decode cX6_ticksGo 4 = .ok (.invokevirtual 161, 3) := by decide +kernel
theorem dX6_ticksGo_7 : decode cX6_ticksGo 7 = .ok (.iconst 0, 1) := by decide +kernel
theorem dX6_ticksGo_8 : decode cX6_ticksGo 8 = .ok (.istore_n 3, 1) := by decide +kernel
theorem dX6_ticksGo_9 : decode cX6_ticksGo 9 = .ok (.aload_n 0, 1) := by decide +kernel
theorem dX6_ticksGo_10 : decode cX6_ticksGo 10 = .ok (.iconst 0, 1) := by decide +kernel
theorem dX6_ticksGo_11 : decode cX6_ticksGo 11 = .ok (.putfield 165, 3) := by decide +kernel
theorem dX6_ticksGo_14 : decode cX6_ticksGo 14 = .ok (.aload_n 0, 1) := by decide +kernel
theorem dX6_ticksGo_15 : decode cX6_ticksGo 15 = .ok (.iconst 0, 1) := by decide +kernel
theorem dX6_ticksGo_16 : decode cX6_ticksGo 16 = .ok (.putfield 168, 3) := by decide +kernel
theorem dX6_ticksGo_19 : decode cX6_ticksGo 19 = .ok (.aload_n 0, 1) := by decide +kernel
theorem dX6_ticksGo_20 : decode cX6_ticksGo 20 = .ok (.iconst 0, 1) := by decide +kernel
theorem dX6_ticksGo_21 : decode cX6_ticksGo 21 = .ok (.putfield 171, 3) := by decide +kernel
theorem dX6_ticksGo_24 : decode cX6_ticksGo 24 = .ok (.iconst 0, 1) := by decide +kernel
theorem dX6_ticksGo_25 : decode cX6_ticksGo 25 = .ok (.istore 4, 2) := by decide +kernel
theorem dX6_ticksGo_27 : decode cX6_ticksGo 27 = .ok (.iload 4, 2) := by decide +kernel
theorem dX6_ticksGo_29 : decode cX6_ticksGo 29 = .ok (.iload_n 2, 1) := by decide +kernel
theorem dX6_ticksGo_30 : decode cX6_ticksGo 30 = .ok (.if_icmp .ge 101, 3) := by decide +kernel
theorem dX6_ticksGo_33 : decode cX6_ticksGo 33 = .ok (.aload_n 0, 1) := by decide +kernel
theorem dX6_ticksGo_34 : decode cX6_ticksGo 34 = .ok (.bipush 92, 2) := by decide +kernel
theorem dX6_ticksGo_36 : decode cX6_ticksGo 36 = .ok (.iconst 0, 1) := by decide +kernel
theorem dX6_ticksGo_37 : decode cX6_ticksGo 37 = .ok (.invokevirtual 157, 3) := by decide +kernel
theorem dX6_ticksGo_40 : decode cX6_ticksGo 40 = .ok (.istore 5, 2) := by decide +kernel
theorem dX6_ticksGo_42 : decode cX6_ticksGo 42 = .ok (.iload 5, 2) := by decide +kernel
theorem dX6_ticksGo_44 : decode cX6_ticksGo 44 = .ok (.invokestatic 127, 3) := by decide +kernel
theorem dX6_ticksGo_47 : decode cX6_ticksGo 47 = .ok (.istore 6, 2) := by decide +kernel
theorem dX6_ticksGo_49 : decode cX6_ticksGo 49 = .ok (.iload_n 3, 1) := by decide +kernel
theorem dX6_ticksGo_50 : decode cX6_ticksGo 50 = .ok (.iload 6, 2) := by decide +kernel
theorem dX6_ticksGo_52 : decode cX6_ticksGo 52 = .ok (.iadd, 1) := by decide +kernel
theorem dX6_ticksGo_53 : decode cX6_ticksGo 53 = .ok (.istore_n 3, 1) := by decide +kernel
theorem dX6_ticksGo_54 : decode cX6_ticksGo 54 = .ok (.aload_n 0, 1) := by decide +kernel
theorem dX6_ticksGo_55 : decode cX6_ticksGo 55 = .ok (.dup, 1) := by decide +kernel
theorem dX6_ticksGo_56 : decode cX6_ticksGo 56 = .ok (.getfield 165, 3) := by decide +kernel
theorem dX6_ticksGo_59 : decode cX6_ticksGo 59 = .ok (.iload 6, 2) := by decide +kernel
theorem dX6_ticksGo_61 : decode cX6_ticksGo 61 = .ok (.ifCond .le 7, 3) := by decide +kernel
theorem dX6_ticksGo_64 : decode cX6_ticksGo 64 = .ok (.iconst 1, 1) := by decide +kernel
theorem dX6_ticksGo_65 : decode cX6_ticksGo 65 = .ok (.goto 4, 3) := by decide +kernel
theorem dX6_ticksGo_68 : decode cX6_ticksGo 68 = .ok (.iconst 0, 1) := by decide +kernel
theorem dX6_ticksGo_69 : decode cX6_ticksGo 69 = .ok (.iadd, 1) := by decide +kernel
theorem dX6_ticksGo_70 : decode cX6_ticksGo 70 = .ok (.putfield 165, 3) := by decide +kernel
theorem dX6_ticksGo_73 : decode cX6_ticksGo 73 = .ok (.aload_n 0, 1) := by decide +kernel
theorem dX6_ticksGo_74 : decode cX6_ticksGo 74 = .ok (.iload 6, 2) := by decide +kernel
theorem dX6_ticksGo_76 : decode cX6_ticksGo 76 = .ok (.aload_n 0, 1) := by decide +kernel
theorem dX6_ticksGo_77 : decode cX6_ticksGo 77 = .ok (.getfield 168, 3) := by decide +kernel
theorem dX6_ticksGo_80 : decode cX6_ticksGo 80 = .ok (.if_icmp .le 8, 3) := by decide +kernel
theorem dX6_ticksGo_83 : decode cX6_ticksGo 83 = .ok (.iload 6, 2) := by decide +kernel
theorem dX6_ticksGo_85 : decode cX6_ticksGo 85 = .ok (.goto 7, 3) := by decide +kernel
theorem dX6_ticksGo_88 : decode cX6_ticksGo 88 = .ok (.aload_n 0, 1) := by decide +kernel
theorem dX6_ticksGo_89 : decode cX6_ticksGo 89 = .ok (.getfield 168, 3) := by decide +kernel
theorem dX6_ticksGo_92 : decode cX6_ticksGo 92 = .ok (.putfield 168, 3) := by decide +kernel
theorem dX6_ticksGo_95 : decode cX6_ticksGo 95 = .ok (.aload_n 0, 1) := by decide +kernel
theorem dX6_ticksGo_96 : decode cX6_ticksGo 96 = .ok (.dup, 1) := by decide +kernel
theorem dX6_ticksGo_97 : decode cX6_ticksGo 97 = .ok (.getfield 171, 3) := by decide +kernel
theorem dX6_ticksGo_100 : decode cX6_ticksGo 100 = .ok (.iload 6, 2) := by decide +kernel
theorem dX6_ticksGo_102 : decode cX6_ticksGo 102 = .ok (.ifCond .le 18, 3) := by decide +kernel
theorem dX6_ticksGo_105 : decode cX6_ticksGo 105 = .ok (.iload 5, 2) := by decide +kernel
theorem dX6_ticksGo_107 : decode cX6_ticksGo 107 = .ok (.aload_n 0, 1) := by decide +kernel
theorem dX6_ticksGo_108 : decode cX6_ticksGo 108 = .ok (.bipush 92, 2) := by decide +kernel
theorem dX6_ticksGo_110 : decode cX6_ticksGo 110 = .ok (.invokevirtual 174, 3) := by decide +kernel
theorem dX6_ticksGo_113 : decode cX6_ticksGo 113 = .ok (.if_icmp .ne 7, 3) := by decide +kernel
theorem dX6_ticksGo_116 : decode cX6_ticksGo 116 = .ok (.iconst 1, 1) := by decide +kernel
theorem dX6_ticksGo_117 : decode cX6_ticksGo 117 = .ok (.goto 4, 3) := by decide +kernel
theorem dX6_ticksGo_120 : decode cX6_ticksGo 120 = .ok (.iconst 0, 1) := by decide +kernel
theorem dX6_ticksGo_121 : decode cX6_ticksGo 121 = .ok (.iadd, 1) := by decide +kernel
theorem dX6_ticksGo_122 : decode cX6_ticksGo 122 = .ok (.putfield 171, 3) := by decide +kernel
theorem dX6_ticksGo_125 : decode cX6_ticksGo 125 = .ok (.iinc 4 1, 3) := by decide +kernel
theorem dX6_ticksGo_128 : decode cX6_ticksGo 128 = .ok (.goto (-101), 3) := by decide +kernel
theorem dX6_ticksGo_131 : decode cX6_ticksGo 131 = .ok (.iload_n 3, 1) := by decide +kernel
theorem dX6_ticksGo_132 : decode cX6_ticksGo 132 = .ok (.ireturn, 1) := by decide +kernel
theorem dX6_runs_0 : decode cX6_runs 0 = .ok (.iload_n 1, 1) := by decide +kernel
theorem dX6_runs_1 : decode cX6_runs 1 = .ok (.i2l, 1) := by decide +kernel
theorem dX6_runs_2 : decode cX6_runs 2 = .ok (.lconst 0, 1) := by decide +kernel
theorem dX6_runs_3 : decode cX6_runs 3 = .ok (.ldc2_w 177, 3) := by decide +kernel
theorem dX6_runs_6 : decode cX6_runs 6 = .ok (.invokestatic 50, 3) := by decide +kernel

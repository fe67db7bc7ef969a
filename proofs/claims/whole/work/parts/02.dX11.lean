theorem dX11_init_0 : decode cX11_init 0 = .ok (.aload_n 0, 1) := by decide +kernel
theorem dX11_init_1 : decode cX11_init 1 = .ok (.invokespecial 1, 3) := by decide +kernel
theorem dX11_init_4 : decode cX11_init 4 = .ok (.aload_n 0, 1) := by decide +kernel
theorem dX11_init_5 : decode cX11_init 5 = .ok (.new 7, 3) := by decide +kernel
theorem dX11_init_8 : decode cX11_init 8 = .ok (.dup, 1) := by decide +kernel
theorem dX11_init_9 : decode cX11_init 9 = .ok (.invokespecial 9, 3) := by decide +kernel
theorem dX11_init_12 : decode cX11_init 12 = .ok (.putfield 10, 3) := by decide +kernel
theorem dX11_init_15 : decode cX11_init 15 = .ok (.aload_n 0, 1) := by decide +kernel
theorem dX11_init_16 : decode cX11_init 16 = .ok (.new 7, 3) := by decide +kernel
theorem dX11_init_19 : decode cX11_init 19 = .ok (.dup, 1) := by decide +kernel
theorem dX11_init_20 : decode cX11_init 20 = .ok (.invokespecial 9, 3) := by decide +kernel
theorem dX11_init_23 : decode cX11_init 23 = .ok (.putfield 16, 3) := by decide +kernel
theorem dX11_init_26 : decode cX11_init 26 = .ok (.aload_n 0, 1) := by decide +kernel
theorem dX11_init_27 : decode cX11_init 27 = .ok (.new 7, 3) := by decide +kernel
theorem dX11_init_30 : decode cX11_init 30 = .ok (.dup, 1) := by decide +kernel
theorem dX11_init_31 : decode cX11_init 31 = .ok (.invokespecial 9, 3) := by decide +kernel
theorem dX11_init_34 : decode cX11_init 34 = .ok (.putfield 19, 3) := by decide +kernel
theorem dX11_init_37 : decode cX11_init 37 = .ok (.aload_n 0, 1) := by decide +kernel
theorem dX11_init_38 : decode cX11_init 38 = .ok (.new 22, 3) := by decide +kernel
theorem dX11_init_41 : decode cX11_init 41 = .ok (.dup, 1) := by decide +kernel
theorem dX11_init_42 : decode cX11_init 42 = .ok (.aload_n 0, 1) := by decide +kernel
theorem dX11_init_43 : decode cX11_init 43 = .ok (.getfield 10, 3) := by decide +kernel
theorem dX11_init_46 : decode cX11_init 46 = .ok (.aload_n 0, 1) := by decide +kernel
theorem dX11_init_47 : decode cX11_init 47 = .ok (.getfield 16, 3) := by decide +kernel
theorem dX11_init_50 : decode cX11_init 50 = .ok (.invokespecial 24, 3) := by decide +kernel
theorem dX11_init_53 : decode cX11_init 53 = .ok (.putfield 27, 3) := by decide +kernel
theorem dX11_init_56 : decode cX11_init 56 = .ok (.aload_n 0, 1) := by decide +kernel
theorem dX11_init_57 : decode cX11_init 57 = .ok (.new 31, 3) := by decide +kernel
theorem dX11_init_60 : decode cX11_init 60 = .ok (.dup, 1) := by decide +kernel
theorem dX11_init_61 : decode cX11_init 61 = .ok (.invokespecial 33, 3) := by decide +kernel
theorem dX11_init_64 : decode cX11_init 64 = .ok (.putfield 34, 3) := by decide +kernel
theorem dX11_init_67 : decode cX11_init 67 = .ok (.aload_n 0, 1) := by decide +kernel
theorem dX11_init_68 : decode cX11_init 68 = .ok (.bipush 30, 2) := by decide +kernel
theorem dX11_init_70 : decode cX11_init 70 = .ok (.newarray .int, 2) := by decide +kernel
theorem dX11_init_72 : decode cX11_init 72 = .ok (.putfield 38, 3) := by decide +kernel
theorem dX11_init_75 : decode cX11_init 75 = .ok (.aload_n 0, 1) := by decide +kernel
theorem dX11_init_76 : decode cX11_init 76 = .ok (.bipush 30, 2) := by decide +kernel
theorem dX11_init_78 : decode cX11_init 78 = .ok (.newarray .int, 2) := by decide +kernel
theorem dX11_init_80 : decode cX11_init 80 = .ok (.putfield 42, 3) := by decide +kernel
theorem dX11_init_83 : decode cX11_init 83 = .ok (.aload_n 0, 1) := by decide +kernel
theorem dX11_init_84 : decode cX11_init 84 = .ok (.iconst 4, 1) := by decide +kernel
theorem dX11_init_85 : decode cX11_init 85 = .ok (.anewarray 45, 3) := by decide +kernel
theorem dX11_init_88 : decode cX11_init 88 = .ok (.dup, 1) := by decide +kernel
theorem dX11_init_89 : decode cX11_init 89 = .ok (.iconst 0, 1) := by decide +kernel
theorem dX11_init_90 : decode cX11_init 90 = .ok (.new 45, 3) := by decide +kernel
theorem dX11_init_93 : decode cX11_init 93 = .ok (.dup, 1) := by decide +kernel
theorem dX11_init_94 : decode cX11_init 94 = .ok (.invokespecial 47, 3) := by decide +kernel
theorem dX11_init_97 : decode cX11_init 97 = .ok (.aastore, 1) := by decide +kernel
theorem dX11_init_98 : decode cX11_init 98 = .ok (.dup, 1) := by decide +kernel
theorem dX11_init_99 : decode cX11_init 99 = .ok (.iconst 1, 1) := by decide +kernel
theorem dX11_init_100 : decode cX11_init 100 = .ok (.new 45, 3) := by decide +kernel
theorem dX11_init_103 : decode cX11_init 103 = .ok (.dup, 1) := by decide +kernel
theorem dX11_init_104 : decode cX11_init 104 = .ok (.invokespecial 47, 3) := by decide +kernel
theorem dX11_init_107 : decode cX11_init 107 = .ok (.aastore, 1) := by decide +kernel
theorem dX11_init_108 : decode cX11_init 108 = .ok (.dup, 1) := by decide +kernel
theorem dX11_init_109 : decode cX11_init 109 = .ok (.iconst 2, 1) := by decide +kernel
theorem dX11_init_110 : decode cX11_init 110 = .ok (.new 45, 3) := by decide +kernel
theorem dX11_init_113 : decode cX11_init 113 = .ok (.dup, 1) := by decide +kernel
theorem dX11_init_114 : decode cX11_init 114 = .ok (.invokespecial 47, 3) := by decide +kernel
theorem dX11_init_117 : decode cX11_init 117 = .ok (.aastore, 1) := by decide +kernel
theorem dX11_init_118 : decode cX11_init 118 = .ok (.dup, 1) := by decide +kernel
theorem dX11_init_119 : decode cX11_init 119 = .ok (.iconst 3, 1) := by decide +kernel
theorem dX11_init_120 : decode cX11_init 120 = .ok (.new 45, 3) := by decide +kernel
theorem dX11_init_123 : decode cX11_init 123 = .ok (.dup, 1) := by decide +kernel
theorem dX11_init_124 : decode cX11_init 124 = .ok (.invokespecial 47, 3) := by decide +kernel
theorem dX11_init_127 : decode cX11_init 127 = .ok (.aastore, 1) := by decide +kernel
theorem dX11_init_128 : decode cX11_init 128 = .ok (.putfield 48, 3) := by decide +kernel
theorem dX11_init_131 : decode cX11_init 131 = .ok (.aload_n 0, 1) := by decide +kernel
theorem dX11_init_132 : decode cX11_init 132 = .ok (.iconst 4, 1) := by decide +kernel
theorem dX11_init_133 : decode cX11_init 133 = .ok (.newarray .int, 2) := by decide +kernel
theorem dX11_init_135 : decode cX11_init 135 = .ok (.putfield 52, 3) := by decide +kernel
theorem dX11_init_138 : decode cX11_init 138 = .ok (.aload_n 0, 1) := by decide +kernel
theorem dX11_init_139 : decode cX11_init 139 = .ok (.iconst 4, 1) := by decide +kernel
theorem dX11_init_140 : decode cX11_init 140 = .ok (.newarray .int, 2) := by decide +kernel
theorem dX11_init_142 : decode cX11_init 142 = .ok (.putfield 55, 3) := by decide +kernel
theorem dX11_init_145 : decode cX11_init 145 = .ok (.aload_n 0, 1) := by decide +kernel
theorem dX11_init_146 : decode cX11_init 146 = .ok (.iconst 4, 1) := by decide +kernel
theorem dX11_init_147 : decode cX11_init 147 = .ok (.newarray .int, 2) := by decide +kernel
theorem dX11_init_149 : decode cX11_init 149 = .ok (.putfield 58, 3) := by decide +kernel
theorem dX11_init_152 : decode cX11_init 152 = .ok (.aload_n 0, 1) := by decide +kernel
theorem dX11_init_153 : decode cX11_init 153 = .ok (.new 61, 3) := by decide +kernel
theorem dX11_init_156 : decode cX11_init 156 = .ok (.dup, 1) := by decide +kernel
theorem dX11_init_157 : decode cX11_init 157 = .ok (.invokespecial 63, 3) := by decide +kernel
theorem dX11_init_160 : decode cX11_init 160 = .ok (.putfield 64, 3) := by decide +kernel
theorem dX11_init_163 : decode cX11_init 163 = .ok (.aload_n 0, 1) := by decide +kernel
theorem dX11_init_164 : decode cX11_init 164 = .ok (.bipush 6, 2) := by decide +kernel
theorem dX11_init_166 : decode cX11_init 166 = .ok (.anewarray 68, 3) := by decide +kernel
theorem dX11_init_169 : decode cX11_init 169 = .ok (.dup, 1) := by decide +kernel
theorem dX11_init_170 : decode cX11_init 170 = .ok (.iconst 0, 1) := by decide +kernel
theorem dX11_init_171 : decode cX11_init 171 = .ok (.new 68, 3) := by decide +kernel
theorem dX11_init_174 : decode cX11_init 174 = .ok (.dup, 1) := by decide +kernel
theorem dX11_init_175 : decode cX11_init 175 = .ok (.aload_n 0, 1) := by decide +kernel
theorem dX11_init_176 : decode cX11_init 176 = .ok (.getfield 64, 3) := by decide +kernel
theorem dX11_init_179 : decode cX11_init 179 = .ok (.invokespecial 70, 3) := by decide +kernel
theorem dX11_init_182 : decode cX11_init 182 = .ok (.aastore, 1) := by decide +kernel
theorem dX11_init_183 : decode cX11_init 183 = .ok (.dup, 1) := by decide +kernel
theorem dX11_init_184 : decode cX11_init 184 = .ok (.iconst 1, 1) := by decide +kernel
theorem dX11_init_185 : decode cX11_init 185 = .ok (.new 73, 3) := by decide +kernel
theorem dX11_init_188 : decode cX11_init 188 = .ok (.dup, 1) := by decide +kernel
theorem dX11_init_189 : decode cX11_init 189 = .ok (.aload_n 0, 1) := by decide +kernel
theorem dX11_init_190 : decode cX11_init 190 = .ok (.getfield 64, 3) := by decide +kernel
theorem dX11_init_193 : decode cX11_init 193 = .ok (.invokespecial 75, 3) := by decide +kernel
theorem dX11_init_196 : decode cX11_init 196 = .ok (.aastore, 1) := by decide +kernel
theorem dX11_init_197 : decode cX11_init 197 = .ok (.dup, 1) := by decide +kernel
theorem dX11_init_198 : decode cX11_init 198 = .ok (.iconst 2, 1) := by decide +kernel
theorem dX11_init_199 : decode cX11_init 199 = .ok (.new 76, 3) := by decide +kernel
theorem dX11_init_202 : decode cX11_init 202 = .ok (.dup, 1) := by decide +kernel
theorem dX11_init_203 : decode cX11_init 203 = .ok (.aload_n 0, 1) := by decide +kernel
theorem dX11_init_204 : decode cX11_init 204 = .ok (.getfield 64, 3) := by decide +kernel
theorem dX11_init_207 : decode cX11_init 207 = .ok (.invokespecial 78, 3) := by decide +kernel
theorem dX11_init_210 : decode cX11_init 210 = .ok (.aastore, 1) := by decide +kernel
theorem dX11_init_211 : decode cX11_init 211 = .ok (.dup, 1) := by decide +kernel
theorem dX11_init_212 : decode cX11_init 212 = .ok (.iconst 3, 1) := by decide +kernel
theorem dX11_init_213 : decode cX11_init 213 = .ok (.new 79, 3) := by decide +kernel
theorem dX11_init_216 : decode cX11_init 216 = .ok (.dup, 1) := by decide +kernel
theorem dX11_init_217 : decode cX11_init 217 = .ok (.aload_n 0, 1) := by decide +kernel
theorem dX11_init_218 : decode cX11_init 218 = .ok (.getfield 64, 3) := by decide +kernel
theorem dX11_init_221 : decode cX11_init 221 = .ok (.invokespecial 81, 3) := by decide +kernel
theorem dX11_init_224 : decode cX11_init 224 = .ok (.aastore, 1) := by decide +kernel
theorem dX11_init_225 : decode cX11_init 225 = .ok (.dup, 1) := by decide +kernel
theorem dX11_init_226 : decode cX11_init 226 = .ok (.iconst 4, 1) := by decide +kernel
theorem dX11_init_227 : decode cX11_init 227 = .ok (.new 82, 3) := by decide +kernel
theorem dX11_init_230 : decode cX11_init 230 = .ok (.dup, 1) := by decide +kernel
theorem dX11_init_231 : decode cX11_init 231 = .ok (.aload_n 0, 1) := by decide +kernel
theorem dX11_init_232 : decode cX11_init 232 = .ok (.getfield 64, 3) := by decide +kernel
theorem dX11_init_235 : decode cX11_init 235 = .ok (.invokespecial 84, 3) := by decide +kernel
theorem dX11_init_238 : decode cX11_init 238 = .ok (.aastore, 1) := by decide +kernel
theorem dX11_init_239 : decode cX11_init 239 = .ok (.dup, 1) := by decide +kernel
theorem dX11_init_240 : decode cX11_init 240 = .ok (.iconst 5, 1) := by decide +kernel
theorem dX11_init_241 : decode cX11_init 241 = .ok (.new 85, 3) := by decide +kernel
theorem dX11_init_244 : decode cX11_init 244 = .ok (.dup, 1) := by decide +kernel
theorem dX11_init_245 : decode cX11_init 245 = .ok (.aload_n 0, 1) := by decide +kernel
theorem dX11_init_246 : decode cX11_init 246 = .ok (.getfield 64, 3) := by decide +kernel
theorem dX11_init_249 : decode cX11_init 249 = .ok (.invokespecial 87, 3) := by decide +kernel
theorem dX11_init_252 : decode cX11_init 252 = .ok (.aastore, 1) := by decide +kernel
theorem dX11_init_253 : decode cX11_init 253 = .ok (.putfield 88, 3) := by decide +kernel
theorem dX11_init_256 : decode cX11_init 256 = .ok (.return_, 1) := by decide +kernel
theorem dX11_feed_0 : decode cX11_feed 0 = .ok (.iload_n 3, 1) := by decide +kernel
theorem dX11_feed_1 : decode cX11_feed 1 = .ok (.iconst 1, 1) := by decide +kernel
theorem dX11_feed_2 : decode cX11_feed 2 = .ok (.if_icmp .lt 9, 3) := by decide +kernel
theorem dX11_feed_5 : decode cX11_feed 5 = .ok (.iload_n 3, 1) := by decide +kernel
theorem dX11_feed_6 : decode cX11_feed 6 = .ok (.bipush 8, 2) := by decide +kernel
theorem dX11_feed_8 : decode cX11_feed 8 = .ok (.if_icmp .le 5, 3) := by decide +kernel
theorem dX11_feed_11 : decode cX11_feed 11 = .ok (.iconst (-1), 1) := by decide +kernel
theorem dX11_feed_12 : decode cX11_feed 12 = .ok (.ireturn, 1) := by decide +kernel
theorem dX11_feed_13 : decode cX11_feed 13 = .ok (.aload_n 0, 1) := by decide +kernel
theorem dX11_feed_14 : decode cX11_feed 14 = .ok (.getfield 34, 3) := by decide +kernel
theorem dX11_feed_17 : decode cX11_feed 17 = .ok (.lload_n 1, 1) := by decide +kernel
theorem dX11_feed_18 : decode cX11_feed 18 = .ok (.iload_n 3, 1) := by decide +kernel
theorem dX11_feed_19 : decode cX11_feed 19 = .ok (.invokevirtual 92, 3) := by decide +kernel
theorem dX11_feed_22 : decode cX11_feed 22 = .ok (.ifCond .eq 13, 3) := by decide +kernel
theorem dX11_feed_25 : decode cX11_feed 25 = .ok (.aload_n 0, 1) := by decide +kernel
theorem dX11_feed_26 : decode cX11_feed 26 = .ok (.getfield 34, 3) := by decide +kernel
theorem dX11_feed_29 : decode cX11_feed 29 = .ok (.getfield 96, 3) := by decide +kernel
theorem dX11_feed_32 : decode cX11_feed 32 = .ok (.goto 5, 3) := by decide +kernel
theorem dX11_feed_35 : decode cX11_feed 35 = .ok (.bipush (-2), 2) := by decide +kernel
theorem dX11_feed_37 : decode cX11_feed 37 = .ok (.ireturn, 1) := by decide +kernel
theorem dX11_company_0 : decode cX11_company 0 = .ok (.aload_n 0, 1) := by decide +kernel
theorem dX11_company_1 : decode cX11_company 1 = .ok (.getfield 34, 3) := by decide +kernel
theorem dX11_company_4 : decode cX11_company 4 = .ok (.aload_n 0, 1) := by decide +kernel
theorem dX11_company_5 : decode cX11_company 5 = .ok (.getfield 16, 3) := by decide +kernel
theorem dX11_company_8 : decode cX11_company 8 = .ok (.invokevirtual 100, 3) := by decide +kernel
theorem dX11_company_11 : decode cX11_company 11 = .ok (.istore_n 1, 1) := by decide +kernel
theorem dX11_company_12 : decode cX11_company 12 = .ok (.aload_n 0, 1) := by decide +kernel
theorem dX11_company_13 : decode cX11_company 13 = .ok (.getfield 34, 3) := by decide +kernel
theorem dX11_company_16 : decode cX11_company 16 = .ok (.iconst 0, 1) := by decide +kernel
theorem dX11_company_17 : decode cX11_company 17 = .ok (.putfield 96, 3) := by decide +kernel
theorem dX11_company_20 : decode cX11_company 20 = .ok (.iload_n 1, 1) := by decide +kernel
theorem dX11_company_21 : decode cX11_company 21 = .ok (.iconst (-1), 1) := by decide +kernel
theorem dX11_company_22 : decode cX11_company 22 = .ok (.if_icmp .eq 8, 3) := by decide +kernel
theorem dX11_company_25 : decode cX11_company 25 = .ok (.bipush (-100), 2) := by decide +kernel
theorem dX11_company_27 : decode cX11_company 27 = .ok (.iload_n 1, 1) := by decide +kernel
theorem dX11_company_28 : decode cX11_company 28 = .ok (.isub, 1) := by decide +kernel
theorem dX11_company_29 : decode cX11_company 29 = .ok (.ireturn, 1) := by decide +kernel
theorem dX11_company_30 : decode cX11_company 30 = .ok (.aload_n 0, 1) := by decide +kernel
theorem dX11_company_31 : decode cX11_company 31 = .ok (.getfield 16, 3) := by decide +kernel
theorem dX11_company_34 : decode cX11_company 34 = .ok (.aload_n 0, 1) := by decide +kernel
theorem dX11_company_35 : decode cX11_company 35 = .ok (.getfield 10, 3) := by decide +kernel
theorem dX11_company_38 : decode cX11_company 38 = .ok (.getfield 104, 3) := by decide +kernel
theorem dX11_company_41 : decode cX11_company 41 = .ok (.putfield 104, 3) := by decide +kernel
theorem dX11_company_44 : decode cX11_company 44 = .ok (.aload_n 0, 1) := by decide +kernel
theorem dX11_company_45 : decode cX11_company 45 = .ok (.getfield 10, 3) := by decide +kernel
theorem dX11_company_48 : decode cX11_company 48 = .ok (.aload_n 0, 1) := by decide +kernel
theorem dX11_company_49 : decode cX11_company 49 = .ok (.getfield 16, 3) := by decide +kernel
theorem dX11_company_52 : decode cX11_company 52 = .ok (.invokevirtual 107, 3) := by decide +kernel
theorem dX11_company_55 : decode cX11_company 55 = .ok (.aload_n 0, 1) := by decide +kernel
theorem dX11_company_56 : decode cX11_company 56 = .ok (.iconst 0, 1) := by decide +kernel
theorem dX11_company_57 : decode cX11_company 57 = .ok (.putfield 111, 3) := by decide +kernel
theorem dX11_company_60 : decode cX11_company 60 = .ok (.aload_n 0, 1) := by decide +kernel
theorem dX11_company_61 : decode cX11_company 61 = .ok (.getfield 10, 3) := by decide +kernel
theorem dX11_company_64 : decode cX11_company 64 = .ok (.getfield 114, 3) := by decide +kernel
theorem dX11_company_67 : decode cX11_company 67 = .ok (.ireturn, 1) := by decide +kernel
theorem dX11_set_0 : decode cX11_set 0 = .ok (.iload_n 1, 1) := by decide +kernel
theorem dX11_set_1 : decode cX11_set 1 = .ok (.invokestatic 117, 3) := by decide +kernel
theorem dX11_set_4 : decode cX11_set 4 = .ok (.ifCond .eq 16, 3) := by decide +kernel
theorem dX11_set_7 : decode cX11_set 7 = .ok (.iload_n 2, 1) := by decide +kernel
theorem dX11_set_8 : decode cX11_set 8 = .ok (.ifCond .lt 12, 3) := by decide +kernel
theorem dX11_set_11 : decode cX11_set 11 = .ok (.iload_n 2, 1) := by decide +kernel
theorem dX11_set_12 : decode cX11_set 12 = .ok (.getstatic 121, 3) := by decide +kernel
theorem dX11_set_15 : decode cX11_set 15 = .ok (.iload_n 1, 1) := by decide +kernel
theorem dX11_set_16 : decode cX11_set 16 = .ok (.iaload, 1) := by decide +kernel
theorem dX11_set_17 : decode cX11_set 17 = .ok (.if_icmp .le 5, 3) := by decide +kernel
theorem dX11_set_20 : decode cX11_set 20 = .ok (.iconst (-1), 1) := by decide +kernel
theorem dX11_set_21 : decode cX11_set 21 = .ok (.ireturn, 1) := by decide +kernel
theorem dX11_set_22 : decode cX11_set 22 = .ok (.aload_n 0, 1) := by decide +kernel
theorem dX11_set_23 : decode cX11_set 23 = .ok (.getfield 10, 3) := by decide +kernel
theorem dX11_set_26 : decode cX11_set 26 = .ok (.getfield 124, 3) := by decide +kernel
theorem dX11_set_29 : decode cX11_set 29 = .ok (.iload_n 1, 1) := by decide +kernel
theorem dX11_set_30 : decode cX11_set 30 = .ok (.iaload, 1) := by decide +kernel
theorem dX11_set_31 : decode cX11_set 31 = .ok (.istore_n 3, 1) := by decide +kernel
theorem dX11_set_32 : decode cX11_set 32 = .ok (.aload_n 0, 1) := by decide +kernel
theorem dX11_set_33 : decode cX11_set 33 = .ok (.getfield 10, 3) := by decide +kernel
theorem dX11_set_36 : decode cX11_set 36 = .ok (.getfield 124, 3) := by decide +kernel
theorem dX11_set_39 : decode cX11_set 39 = .ok (.iload_n 1, 1) := by decide +kernel
theorem dX11_set_40 : decode cX11_set 40 = .ok (.iload_n 2, 1) := by decide +kernel
theorem dX11_set_41 : decode cX11_set 41 = .ok (.iastore, 1) := by decide +kernel
theorem dX11_set_42 : decode cX11_set 42 = .ok (.iload_n 3, 1) := by decide +kernel
theorem dX11_set_43 : decode cX11_set 43 = .ok (.ireturn, 1) := by decide +kernel
theorem dX11_lawOf_0 : decode cX11_lawOf 0 = .ok (.iload_n 1, 1) := by decide +kernel
theorem dX11_lawOf_1 : decode cX11_lawOf 1 = .ok (.invokestatic 117, 3) := by decide +kernel
theorem dX11_lawOf_4 : decode cX11_lawOf 4 = .ok (.ifCond .eq 15, 3) := by decide +kernel
theorem dX11_lawOf_7 : decode cX11_lawOf 7 = .ok (.aload_n 0, 1) := by decide +kernel
theorem dX11_lawOf_8 : decode cX11_lawOf 8 = .ok (.getfield 10, 3) := by decide +kernel
theorem dX11_lawOf_11 : decode cX11_lawOf 11 = .ok (.getfield 124, 3) := by decide +kernel
theorem dX11_lawOf_14 : decode cX11_lawOf 14 = .ok (.iload_n 1, 1) := by decide +kernel
theorem dX11_lawOf_15 : decode cX11_lawOf 15 = .ok (.iaload, 1) := by decide +kernel
theorem dX11_lawOf_16 : decode cX11_lawOf 16 = .ok (.goto 4, 3) := by decide +kernel
theorem dX11_lawOf_19 : decode cX11_lawOf 19 = .ok (.iconst (-1), 1) := by decide +kernel
theorem dX11_lawOf_20 : decode cX11_lawOf 20 = .ok (.ireturn, 1) := by decide +kernel
theorem dX11_weigh_0 : decode cX11_weigh 0 = .ok (.iload_n 1, 1) := by decide +kernel
theorem dX11_weigh_1 : decode cX11_weigh 1 = .ok (.invokestatic 127, 3) := by decide +kernel
theorem dX11_weigh_4 : decode cX11_weigh 4 = .ok (.ifCond .eq 13, 3) := by decide +kernel
theorem dX11_weigh_7 : decode cX11_weigh 7 = .ok (.iload_n 2, 1) := by decide +kernel
theorem dX11_weigh_8 : decode cX11_weigh 8 = .ok (.ifCond .lt 9, 3) := by decide +kernel
theorem dX11_weigh_11 : decode cX11_weigh 11 = .ok (.iload_n 2, 1) := by decide +kernel
theorem dX11_weigh_12 : decode cX11_weigh 12 = .ok (.bipush 9, 2) := by decide +kernel
theorem dX11_weigh_14 : decode cX11_weigh 14 = .ok (.if_icmp .le 5, 3) := by decide +kernel
theorem dX11_weigh_17 : decode cX11_weigh 17 = .ok (.iconst (-1), 1) := by decide +kernel
theorem dX11_weigh_18 : decode cX11_weigh 18 = .ok (.ireturn, 1) := by decide +kernel
theorem dX11_weigh_19 : decode cX11_weigh 19 = .ok (.aload_n 0, 1) := by decide +kernel
theorem dX11_weigh_20 : decode cX11_weigh 20 = .ok (.getfield 10, 3) := by decide +kernel
theorem dX11_weigh_23 : decode cX11_weigh 23 = .ok (.getfield 130, 3) := by decide +kernel
theorem dX11_weigh_26 : decode cX11_weigh 26 = .ok (.iload_n 1, 1) := by decide +kernel
theorem dX11_weigh_27 : decode cX11_weigh 27 = .ok (.iaload, 1) := by decide +kernel
theorem dX11_weigh_28 : decode cX11_weigh 28 = .ok (.istore_n 3, 1) := by decide +kernel
theorem dX11_weigh_29 : decode cX11_weigh 29 = .ok (.aload_n 0, 1) := by decide +kernel
theorem dX11_weigh_30 : decode cX11_weigh 30 = .ok (.getfield 10, 3) := by decide +kernel
theorem dX11_weigh_33 : decode cX11_weigh 33 = .ok (.getfield 130, 3) := by decide +kernel
theorem dX11_weigh_36 : decode cX11_weigh 36 = .ok (.iload_n 1, 1) := by decide +kernel
theorem dX11_weigh_37 : decode cX11_weigh 37 = .ok (.iload_n 2, 1) := by decide +kernel
theorem dX11_weigh_38 : decode cX11_weigh 38 = .ok (.iastore, 1) := by decide +kernel
theorem dX11_weigh_39 : decode cX11_weigh 39 = .ok (.iload_n 3, 1) := by decide +kernel
theorem dX11_weigh_40 : decode cX11_weigh 40 = .ok (.ireturn, 1) := by decide +kernel
theorem dX11_partOf_0 : decode cX11_partOf 0 = .ok (.iload_n 1, 1) := by decide +kernel
theorem dX11_partOf_1 : decode cX11_partOf 1 = .ok (.invokestatic 127, 3) := by decide +kernel
theorem dX11_partOf_4 : decode cX11_partOf 4 = .ok (.ifCond .ne 5, 3) := by decide +kernel
theorem dX11_partOf_7 : decode cX11_partOf 7 = .ok (.iconst (-1), 1) := by decide +kernel
theorem dX11_partOf_8 : decode cX11_partOf 8 = .ok (.ireturn, 1) := by decide +kernel
theorem dX11_partOf_9 : decode cX11_partOf 9 = .ok (.iload_n 2, 1) := by decide +kernel
theorem dX11_partOf_10 : decode cX11_partOf 10 = .ok (.tableswitch 81 0 2 #[26, 36, 72], 26) := by decide +kernel
theorem dX11_partOf_36 : decode cX11_partOf 36 = .ok (.aload_n 0, 1) := by decide +kernel
theorem dX11_partOf_37 : decode cX11_partOf 37 = .ok (.getfield 10, 3) := by decide +kernel
theorem dX11_partOf_40 : decode cX11_partOf 40 = .ok (.getfield 130, 3) := by decide +kernel
theorem dX11_partOf_43 : decode cX11_partOf 43 = .ok (.iload_n 1, 1) := by decide +kernel
theorem dX11_partOf_44 : decode cX11_partOf 44 = .ok (.iaload, 1) := by decide +kernel
theorem dX11_partOf_45 : decode cX11_partOf 45 = .ok (.ireturn, 1) := by decide +kernel
theorem dX11_partOf_46 : decode cX11_partOf 46 = .ok (.aload_n 0, 1) := by decide +kernel
theorem dX11_partOf_47 : decode cX11_partOf 47 = .ok (.getfield 10, 3) := by decide +kernel
theorem dX11_partOf_50 : decode cX11_partOf 50 = .ok (.invokevirtual 133, 3) := by decide +kernel
theorem dX11_partOf_53 : decode cX11_partOf 53 = .ok (.aload_n 0, 1) := by decide +kernel
theorem dX11_partOf_54 : decode cX11_partOf 54 = .ok (.getfield 10, 3) := by decide +kernel
theorem dX11_partOf_57 : decode cX11_partOf 57 = .ok (.getfield 136, 3) := by decide +kernel
theorem dX11_partOf_60 : decode cX11_partOf 60 = .ok (.iload_n 1, 1) := by decide +kernel
theorem dX11_partOf_61 : decode cX11_partOf 61 = .ok (.iaload, 1) := by decide +kernel
theorem dX11_partOf_62 : decode cX11_partOf 62 = .ok (.iconst (-1), 1) := by decide +kernel
theorem dX11_partOf_63 : decode cX11_partOf 63 = .ok (.if_icmp .ne 7, 3) := by decide +kernel
theorem dX11_partOf_66 : decode cX11_partOf 66 = .ok (.iconst 0, 1) := by decide +kernel
theorem dX11_partOf_67 : decode cX11_partOf 67 = .ok (.goto 14, 3) := by decide +kernel
theorem dX11_partOf_70 : decode cX11_partOf 70 = .ok (.iconst 1, 1) := by decide +kernel
theorem dX11_partOf_71 : decode cX11_partOf 71 = .ok (.aload_n 0, 1) := by decide +kernel
theorem dX11_partOf_72 : decode cX11_partOf 72 = .ok (.getfield 10, 3) := by decide +kernel
theorem dX11_partOf_75 : decode cX11_partOf 75 = .ok (.getfield 136, 3) := by decide +kernel
theorem dX11_partOf_78 : decode cX11_partOf 78 = .ok (.iload_n 1, 1) := by decide +kernel
theorem dX11_partOf_79 : decode cX11_partOf 79 = .ok (.iaload, 1) := by decide +kernel
theorem dX11_partOf_80 : decode cX11_partOf 80 = .ok (.iadd, 1) := by decide +kernel
theorem dX11_partOf_81 : decode cX11_partOf 81 = .ok (.ireturn, 1) := by decide +kernel
theorem dX11_partOf_82 : decode cX11_partOf 82 = .ok (.aload_n 0, 1) := by decide +kernel
theorem dX11_partOf_83 : decode cX11_partOf 83 = .ok (.getfield 10, 3) := by decide +kernel
theorem dX11_partOf_86 : decode cX11_partOf 86 = .ok (.iload_n 1, 1) := by decide +kernel
theorem dX11_partOf_87 : decode cX11_partOf 87 = .ok (.invokevirtual 139, 3) := by decide +kernel
theorem dX11_partOf_90 : decode cX11_partOf 90 = .ok (.ireturn, 1) := by decide +kernel
theorem dX11_partOf_91 : decode cX11_partOf 91 = .ok (.iconst (-1), 1) := by decide +kernel
theorem dX11_partOf_92 : decode cX11_partOf 92 = .ok (.ireturn, 1) := by decide +kernel
theorem dX11_player_0 : decode cX11_player 0 = .ok (.iload_n 1, 1) := by decide +kernel
theorem dX11_player_1 : decode cX11_player 1 = .ok (.invokestatic 143, 3) := by decide +kernel
theorem dX11_player_4 : decode cX11_player 4 = .ok (.ifCond .eq 10, 3) := by decide +kernel
theorem dX11_player_7 : decode cX11_player 7 = .ok (.iload_n 2, 1) := by decide +kernel
theorem dX11_player_8 : decode cX11_player 8 = .ok (.invokestatic 127, 3) := by decide +kernel
theorem dX11_player_11 : decode cX11_player 11 = .ok (.ifCond .ne 5, 3) := by decide +kernel
theorem dX11_player_14 : decode cX11_player 14 = .ok (.iconst (-1), 1) := by decide +kernel
theorem dX11_player_15 : decode cX11_player 15 = .ok (.ireturn, 1) := by decide +kernel
theorem dX11_player_16 : decode cX11_player 16 = .ok (.aload_n 0, 1) := by decide +kernel
theorem dX11_player_17 : decode cX11_player 17 = .ok (.getfield 10, 3) := by decide +kernel
theorem dX11_player_20 : decode cX11_player 20 = .ok (.getfield 114, 3) := by decide +kernel
theorem dX11_player_23 : decode cX11_player 23 = .ok (.bipush 8, 2) := by decide +kernel
theorem dX11_player_25 : decode cX11_player 25 = .ok (.if_icmp .ge 15, 3) := by decide +kernel
theorem dX11_player_28 : decode cX11_player 28 = .ok (.aload_n 0, 1) := by decide +kernel
theorem dX11_player_29 : decode cX11_player 29 = .ok (.getfield 10, 3) := by decide +kernel
theorem dX11_player_32 : decode cX11_player 32 = .ok (.iload_n 1, 1) := by decide +kernel
theorem dX11_player_33 : decode cX11_player 33 = .ok (.iload_n 2, 1) := by decide +kernel
theorem dX11_player_34 : decode cX11_player 34 = .ok (.invokevirtual 146, 3) := by decide +kernel
theorem dX11_player_37 : decode cX11_player 37 = .ok (.goto 5, 3) := by decide +kernel
theorem dX11_player_40 : decode cX11_player 40 = .ok (.bipush (-2), 2) := by decide +kernel
theorem dX11_player_42 : decode cX11_player 42 = .ok (.ireturn, 1) := by decide +kernel
theorem dX11_of_0 : decode cX11_of 0 = .ok (.aload_n 0, 1) := by decide +kernel
theorem dX11_of_1 : decode cX11_of 1 = .ok (.iload_n 1, 1) := by decide +kernel
theorem dX11_of_2 : decode cX11_of 2 = .ok (.invokevirtual 150, 3) := by decide +kernel
theorem dX11_of_5 : decode cX11_of 5 = .ok (.ifCond .ne 5, 3) := by decide +kernel
theorem dX11_of_8 : decode cX11_of 8 = .ok (.iconst (-1), 1) := by decide +kernel
theorem dX11_of_9 : decode cX11_of 9 = .ok (.ireturn, 1) := by decide +kernel
theorem dX11_of_10 : decode cX11_of 10 = .ok (.iload_n 2, 1) := by decide +kernel
theorem dX11_of_11 : decode cX11_of 11 = .ok (.tableswitch 76 0 3 #[29, 39, 49, 59], 29) := by decide +kernel
theorem dX11_of_40 : decode cX11_of 40 = .ok (.aload_n 0, 1) := by decide +kernel
theorem dX11_of_41 : decode cX11_of 41 = .ok (.getfield 10, 3) := by decide +kernel
theorem dX11_of_44 : decode cX11_of 44 = .ok (.getfield 153, 3) := by decide +kernel
theorem dX11_of_47 : decode cX11_of 47 = .ok (.iload_n 1, 1) := by decide +kernel
theorem dX11_of_48 : decode cX11_of 48 = .ok (.iaload, 1) := by decide +kernel
theorem dX11_of_49 : decode cX11_of 49 = .ok (.ireturn, 1) := by decide +kernel
theorem dX11_of_50 : decode cX11_of 50 = .ok (.aload_n 0, 1) := by decide +kernel
theorem dX11_of_51 : decode cX11_of 51 = .ok (.getfield 10, 3) := by decide +kernel
theorem dX11_of_54 : decode cX11_of 54 = .ok (.getfield 156, 3) := by decide +kernel
theorem dX11_of_57 : decode cX11_of 57 = .ok (.iload_n 1, 1) := by decide +kernel
theorem dX11_of_58 : decode cX11_of 58 = .ok (.iaload, 1) := by decide +kernel
theorem dX11_of_59 : decode cX11_of 59 = .ok (.ireturn, 1) := by decide +kernel
theorem dX11_of_60 : decode cX11_of 60 = .ok (.aload_n 0, 1) := by decide +kernel
theorem dX11_of_61 : decode cX11_of 61 = .ok (.getfield 10, 3) := by decide +kernel
theorem dX11_of_64 : decode cX11_of 64 = .ok (.getfield 159, 3) := by decide +kernel
theorem dX11_of_67 : decode cX11_of 67 = .ok (.iload_n 1, 1) := by decide +kernel
theorem dX11_of_68 : decode cX11_of 68 = .ok (.iaload, 1) := by decide +kernel
theorem dX11_of_69 : decode cX11_of 69 = .ok (.ireturn, 1) := by decide +kernel
theorem dX11_of_70 : decode cX11_of 70 = .ok (.aload_n 0, 1) := by decide +kernel
theorem dX11_of_71 : decode cX11_of 71 = .ok (.getfield 10, 3) := by decide +kernel
theorem dX11_of_74 : decode cX11_of 74 = .ok (.invokevirtual 133, 3) := by decide +kernel
theorem dX11_of_77 : decode cX11_of 77 = .ok (.aload_n 0, 1) := by decide +kernel
theorem dX11_of_78 : decode cX11_of 78 = .ok (.getfield 10, 3) := by decide +kernel
theorem dX11_of_81 : decode cX11_of 81 = .ok (.getfield 162, 3) := by decide +kernel
theorem dX11_of_84 : decode cX11_of 84 = .ok (.iload_n 1, 1) := by decide +kernel
theorem dX11_of_85 : decode cX11_of 85 = .ok (.iaload, 1) := by decide +kernel
theorem dX11_of_86 : decode cX11_of 86 = .ok (.ireturn, 1) := by decide +kernel
theorem dX11_of_87 : decode cX11_of 87 = .ok (.iconst (-1), 1) := by decide +kernel
theorem dX11_of_88 : decode cX11_of 88 = .ok (.ireturn, 1) := by decide +kernel
theorem dX11_knows_0 : decode cX11_knows 0 = .ok (.aload_n 0, 1) := by decide +kernel
theorem dX11_knows_1 : decode cX11_knows 1 = .ok (.iload_n 1, 1) := by decide +kernel
theorem dX11_knows_2 : decode cX11_knows 2 = .ok (.invokevirtual 150, 3) := by decide +kernel
theorem dX11_knows_5 : decode cX11_knows 5 = .ok (.ifCond .eq 22, 3) := by decide +kernel
theorem dX11_knows_8 : decode cX11_knows 8 = .ok (.iload_n 2, 1) := by decide +kernel
theorem dX11_knows_9 : decode cX11_knows 9 = .ok (.invokestatic 127, 3) := by decide +kernel
theorem dX11_knows_12 : decode cX11_knows 12 = .ok (.ifCond .eq 15, 3) := by decide +kernel
theorem dX11_knows_15 : decode cX11_knows 15 = .ok (.aload_n 0, 1) := by decide +kernel
theorem dX11_knows_16 : decode cX11_knows 16 = .ok (.getfield 10, 3) := by decide +kernel
theorem dX11_knows_19 : decode cX11_knows 19 = .ok (.iload_n 1, 1) := by decide +kernel
theorem dX11_knows_20 : decode cX11_knows 20 = .ok (.iload_n 2, 1) := by decide +kernel
theorem dX11_knows_21 : decode cX11_knows 21 = .ok (.invokevirtual 165, 3) := by decide +kernel
theorem dX11_knows_24 : decode cX11_knows 24 = .ok (.goto 4, 3) := by decide +kernel
theorem dX11_knows_27 : decode cX11_knows 27 = .ok (.iconst (-1), 1) := by decide +kernel
theorem dX11_knows_28 : decode cX11_knows 28 = .ok (.ireturn, 1) := by decide +kernel
theorem dX11_does_0 : decode cX11_does 0 = .ok (.aload_n 0, 1) := by decide +kernel
theorem dX11_does_1 : decode cX11_does 1 = .ok (.iload_n 1, 1) := by decide +kernel
theorem dX11_does_2 : decode cX11_does 2 = .ok (.invokevirtual 150, 3) := by decide +kernel
theorem dX11_does_5 : decode cX11_does 5 = .ok (.ifCond .eq 10, 3) := by decide +kernel
theorem dX11_does_8 : decode cX11_does 8 = .ok (.iload_n 2, 1) := by decide +kernel
theorem dX11_does_9 : decode cX11_does 9 = .ok (.invokestatic 127, 3) := by decide +kernel
theorem dX11_does_12 : decode cX11_does 12 = .ok (.ifCond .ne 5, 3) := by decide +kernel
theorem dX11_does_15 : decode cX11_does 15 = .ok (.iconst (-1), 1) := by decide +kernel
theorem dX11_does_16 : decode cX11_does 16 = .ok (.ireturn, 1) := by decide +kernel
theorem dX11_does_17 : decode cX11_does 17 = .ok (.iload_n 3, 1) := by decide +kernel
theorem dX11_does_18 : decode cX11_does 18 = .ok (.tableswitch 66 0 2 #[26, 40, 53], 26) := by decide +kernel
theorem dX11_does_44 : decode cX11_does 44 = .ok (.sipush 1000, 3) := by decide +kernel
theorem dX11_does_47 : decode cX11_does 47 = .ok (.aload_n 0, 1) := by decide +kernel
theorem dX11_does_48 : decode cX11_does 48 = .ok (.getfield 10, 3) := by decide +kernel
theorem dX11_does_51 : decode cX11_does 51 = .ok (.iload_n 1, 1) := by decide +kernel
theorem dX11_does_52 : decode cX11_does 52 = .ok (.iload_n 2, 1) := by decide +kernel
theorem dX11_does_53 : decode cX11_does 53 = .ok (.invokevirtual 168, 3) := by decide +kernel
theorem dX11_does_56 : decode cX11_does 56 = .ok (.iadd, 1) := by decide +kernel
theorem dX11_does_57 : decode cX11_does 57 = .ok (.ireturn, 1) := by decide +kernel
theorem dX11_does_58 : decode cX11_does 58 = .ok (.sipush 1000, 3) := by decide +kernel
theorem dX11_does_61 : decode cX11_does 61 = .ok (.aload_n 0, 1) := by decide +kernel
theorem dX11_does_62 : decode cX11_does 62 = .ok (.getfield 10, 3) := by decide +kernel
theorem dX11_does_65 : decode cX11_does 65 = .ok (.iload_n 1, 1) := by decide +kernel
theorem dX11_does_66 : decode cX11_does 66 = .ok (.invokevirtual 171, 3) := by decide +kernel
theorem dX11_does_69 : decode cX11_does 69 = .ok (.iadd, 1) := by decide +kernel
theorem dX11_does_70 : decode cX11_does 70 = .ok (.ireturn, 1) := by decide +kernel
theorem dX11_does_71 : decode cX11_does 71 = .ok (.sipush 1000, 3) := by decide +kernel
theorem dX11_does_74 : decode cX11_does 74 = .ok (.aload_n 0, 1) := by decide +kernel
theorem dX11_does_75 : decode cX11_does 75 = .ok (.getfield 10, 3) := by decide +kernel
theorem dX11_does_78 : decode cX11_does 78 = .ok (.iload_n 1, 1) := by decide +kernel
theorem dX11_does_79 : decode cX11_does 79 = .ok (.invokevirtual 174, 3) := by decide +kernel
theorem dX11_does_82 : decode cX11_does 82 = .ok (.iadd, 1) := by decide +kernel
theorem dX11_does_83 : decode cX11_does 83 = .ok (.ireturn, 1) := by decide +kernel
theorem dX11_does_84 : decode cX11_does 84 = .ok (.iconst (-1), 1) := by decide +kernel
theorem dX11_does_85 : decode cX11_does 85 = .ok (.ireturn, 1) := by decide +kernel
theorem dX11_mind_0 : decode cX11_mind 0 = .ok (.aload_n 0, 1) := by decide +kernel
theorem dX11_mind_1 : decode cX11_mind 1 = .ok (.iload_n 1, 1) := by decide +kernel
theorem dX11_mind_2 : decode cX11_mind 2 = .ok (.invokevirtual 150, 3) := by decide +kernel
theorem dX11_mind_5 : decode cX11_mind 5 = .ok (.ifCond .eq 10, 3) := by decide +kernel
theorem dX11_mind_8 : decode cX11_mind 8 = .ok (.iload_n 2, 1) := by decide +kernel
theorem dX11_mind_9 : decode cX11_mind 9 = .ok (.invokestatic 143, 3) := by decide +kernel
theorem dX11_mind_12 : decode cX11_mind 12 = .ok (.ifCond .ne 5, 3) := by decide +kernel
theorem dX11_mind_15 : decode cX11_mind 15 = .ok (.iconst (-1), 1) := by decide +kernel
theorem dX11_mind_16 : decode cX11_mind 16 = .ok (.ireturn, 1) := by decide +kernel
theorem dX11_mind_17 : decode cX11_mind 17 = .ok (.aload_n 0, 1) := by decide +kernel
theorem dX11_mind_18 : decode cX11_mind 18 = .ok (.getfield 10, 3) := by decide +kernel
theorem dX11_mind_21 : decode cX11_mind 21 = .ok (.getfield 153, 3) := by decide +kernel
theorem dX11_mind_24 : decode cX11_mind 24 = .ok (.iload_n 1, 1) := by decide +kernel
theorem dX11_mind_25 : decode cX11_mind 25 = .ok (.iaload, 1) := by decide +kernel
theorem dX11_mind_26 : decode cX11_mind 26 = .ok (.istore_n 3, 1) := by decide +kernel
theorem dX11_mind_27 : decode cX11_mind 27 = .ok (.aload_n 0, 1) := by decide +kernel
theorem dX11_mind_28 : decode cX11_mind 28 = .ok (.getfield 10, 3) := by decide +kernel
theorem dX11_mind_31 : decode cX11_mind 31 = .ok (.getfield 153, 3) := by decide +kernel
theorem dX11_mind_34 : decode cX11_mind 34 = .ok (.iload_n 1, 1) := by decide +kernel
theorem dX11_mind_35 : decode cX11_mind 35 = .ok (.iload_n 2, 1) := by decide +kernel
theorem dX11_mind_36 : decode cX11_mind 36 = .ok (.iastore, 1) := by decide +kernel
theorem dX11_mind_37 : decode cX11_mind 37 = .ok (.iload_n 3, 1) := by decide +kernel
theorem dX11_mind_38 : decode cX11_mind 38 = .ok (.ireturn, 1) := by decide +kernel
theorem dX11_teach_0 : decode cX11_teach 0 = .ok (.aload_n 0, 1) := by decide +kernel
theorem dX11_teach_1 : decode cX11_teach 1 = .ok (.iload_n 1, 1) := by decide +kernel
theorem dX11_teach_2 : decode cX11_teach 2 = .ok (.invokevirtual 150, 3) := by decide +kernel
theorem dX11_teach_5 : decode cX11_teach 5 = .ok (.ifCond .eq 20, 3) := by decide +kernel
theorem dX11_teach_8 : decode cX11_teach 8 = .ok (.iload_n 2, 1) := by decide +kernel
theorem dX11_teach_9 : decode cX11_teach 9 = .ok (.invokestatic 127, 3) := by decide +kernel
theorem dX11_teach_12 : decode cX11_teach 12 = .ok (.ifCond .eq 13, 3) := by decide +kernel
theorem dX11_teach_15 : decode cX11_teach 15 = .ok (.iload_n 3, 1) := by decide +kernel
theorem dX11_teach_16 : decode cX11_teach 16 = .ok (.ifCond .lt 9, 3) := by decide +kernel
theorem dX11_teach_19 : decode cX11_teach 19 = .ok (.iload_n 3, 1) := by decide +kernel
theorem dX11_teach_20 : decode cX11_teach 20 = .ok (.bipush 99, 2) := by decide +kernel
theorem dX11_teach_22 : decode cX11_teach 22 = .ok (.if_icmp .le 5, 3) := by decide +kernel
theorem dX11_teach_25 : decode cX11_teach 25 = .ok (.iconst (-1), 1) := by decide +kernel
theorem dX11_teach_26 : decode cX11_teach 26 = .ok (.ireturn, 1) := by decide +kernel
theorem dX11_teach_27 : decode cX11_teach 27 = .ok (.aload_n 0, 1) := by decide +kernel
theorem dX11_teach_28 : decode cX11_teach 28 = .ok (.getfield 10, 3) := by decide +kernel
theorem dX11_teach_31 : decode cX11_teach 31 = .ok (.iload_n 1, 1) := by decide +kernel
theorem dX11_teach_32 : decode cX11_teach 32 = .ok (.iload_n 2, 1) := by decide +kernel
theorem dX11_teach_33 : decode cX11_teach 33 = .ok (.invokevirtual 165, 3) := by decide +kernel
theorem dX11_teach_36 : decode cX11_teach 36 = .ok (.istore 4, 2) := by decide +kernel
theorem dX11_teach_38 : decode cX11_teach 38 = .ok (.aload_n 0, 1) := by decide +kernel
theorem dX11_teach_39 : decode cX11_teach 39 = .ok (.getfield 10, 3) := by decide +kernel
theorem dX11_teach_42 : decode cX11_teach 42 = .ok (.iload_n 1, 1) := by decide +kernel
theorem dX11_teach_43 : decode cX11_teach 43 = .ok (.iload_n 2, 1) := by decide +kernel
theorem dX11_teach_44 : decode cX11_teach 44 = .ok (.iload_n 3, 1) := by decide +kernel
theorem dX11_teach_45 : decode cX11_teach 45 = .ok (.invokevirtual 177, 3) := by decide +kernel
theorem dX11_teach_48 : decode cX11_teach 48 = .ok (.iload 4, 2) := by decide +kernel
theorem dX11_teach_50 : decode cX11_teach 50 = .ok (.ireturn, 1) := by decide +kernel
theorem dX11_sick_0 : decode cX11_sick 0 = .ok (.aload_n 0, 1) := by decide +kernel
theorem dX11_sick_1 : decode cX11_sick 1 = .ok (.iload_n 1, 1) := by decide +kernel
theorem dX11_sick_2 : decode cX11_sick 2 = .ok (.invokevirtual 150, 3) := by decide +kernel
theorem dX11_sick_5 : decode cX11_sick 5 = .ok (.ifCond .eq 13, 3) := by decide +kernel
theorem dX11_sick_8 : decode cX11_sick 8 = .ok (.iload_n 2, 1) := by decide +kernel
theorem dX11_sick_9 : decode cX11_sick 9 = .ok (.ifCond .lt 9, 3) := by decide +kernel
theorem dX11_sick_12 : decode cX11_sick 12 = .ok (.iload_n 2, 1) := by decide +kernel
theorem dX11_sick_13 : decode cX11_sick 13 = .ok (.bipush 9, 2) := by decide +kernel
theorem dX11_sick_15 : decode cX11_sick 15 = .ok (.if_icmp .le 5, 3) := by decide +kernel
theorem dX11_sick_18 : decode cX11_sick 18 = .ok (.iconst (-1), 1) := by decide +kernel
theorem dX11_sick_19 : decode cX11_sick 19 = .ok (.ireturn, 1) := by decide +kernel
theorem dX11_sick_20 : decode cX11_sick 20 = .ok (.aload_n 0, 1) := by decide +kernel
theorem dX11_sick_21 : decode cX11_sick 21 = .ok (.getfield 10, 3) := by decide +kernel
theorem dX11_sick_24 : decode cX11_sick 24 = .ok (.getfield 159, 3) := by decide +kernel
theorem dX11_sick_27 : decode cX11_sick 27 = .ok (.iload_n 1, 1) := by decide +kernel
theorem dX11_sick_28 : decode cX11_sick 28 = .ok (.iaload, 1) := by decide +kernel
theorem dX11_sick_29 : decode cX11_sick 29 = .ok (.istore_n 3, 1) := by decide +kernel
theorem dX11_sick_30 : decode cX11_sick 30 = .ok (.aload_n 0, 1) := by decide +kernel
theorem dX11_sick_31 : decode cX11_sick 31 = .ok (.getfield 10, 3) := by decide +kernel
theorem dX11_sick_34 : decode cX11_sick 34 = .ok (.getfield 159, 3) := by decide +kernel
theorem dX11_sick_37 : decode cX11_sick 37 = .ok (.iload_n 1, 1) := by decide +kernel
theorem dX11_sick_38 : decode cX11_sick 38 = .ok (.iload_n 2, 1) := by decide +kernel
theorem dX11_sick_39 : decode cX11_sick 39 = .ok (.iastore, 1) := by decide +kernel
theorem dX11_sick_40 : decode cX11_sick 40 = .ok (.iload_n 3, 1) := by decide +kernel
theorem dX11_sick_41 : decode cX11_sick 41 = .ok (.ireturn, 1) := by decide +kernel
theorem dX11_nights_0 : decode cX11_nights 0 = .ok (.iload_n 1, 1) := by decide +kernel
theorem dX11_nights_1 : decode cX11_nights 1 = .ok (.iconst 1, 1) := by decide +kernel
theorem dX11_nights_2 : decode cX11_nights 2 = .ok (.if_icmp .lt 9, 3) := by decide +kernel
theorem dX11_nights_5 : decode cX11_nights 5 = .ok (.iload_n 1, 1) := by decide +kernel
theorem dX11_nights_6 : decode cX11_nights 6 = .ok (.bipush 60, 2) := by decide +kernel
theorem dX11_nights_8 : decode cX11_nights 8 = .ok (.if_icmp .le 5, 3) := by decide +kernel
theorem dX11_nights_11 : decode cX11_nights 11 = .ok (.iconst (-1), 1) := by decide +kernel
theorem dX11_nights_12 : decode cX11_nights 12 = .ok (.ireturn, 1) := by decide +kernel
theorem dX11_nights_13 : decode cX11_nights 13 = .ok (.iconst 0, 1) := by decide +kernel
theorem dX11_nights_14 : decode cX11_nights 14 = .ok (.istore_n 2, 1) := by decide +kernel
theorem dX11_nights_15 : decode cX11_nights 15 = .ok (.iload_n 2, 1) := by decide +kernel
theorem dX11_nights_16 : decode cX11_nights 16 = .ok (.iload_n 1, 1) := by decide +kernel
theorem dX11_nights_17 : decode cX11_nights 17 = .ok (.if_icmp .ge 17, 3) := by decide +kernel
theorem dX11_nights_20 : decode cX11_nights 20 = .ok (.aload_n 0, 1) := by decide +kernel
theorem dX11_nights_21 : decode cX11_nights 21 = .ok (.getfield 10, 3) := by decide +kernel
theorem dX11_nights_24 : decode cX11_nights 24 = .ok (.invokevirtual 181, 3) := by decide +kernel
theorem dX11_nights_27 : decode cX11_nights 27 = .ok (.pop, 1) := by decide +kernel
theorem dX11_nights_28 : decode cX11_nights 28 = .ok (.iinc 2 1, 3) := by decide +kernel
theorem dX11_nights_31 : decode cX11_nights 31 = .ok (.goto (-16), 3) := by decide +kernel
theorem dX11_nights_34 : decode cX11_nights 34 = .ok (.aload_n 0, 1) := by decide +kernel
theorem dX11_nights_35 : decode cX11_nights 35 = .ok (.getfield 10, 3) := by decide +kernel
theorem dX11_nights_38 : decode cX11_nights 38 = .ok (.getfield 185, 3) := by decide +kernel
theorem dX11_nights_41 : decode cX11_nights 41 = .ok (.ireturn, 1) := by decide +kernel
theorem dX11_seed_0 : decode cX11_seed 0 = .ok (.aload_n 0, 1) := by decide +kernel
theorem dX11_seed_1 : decode cX11_seed 1 = .ok (.getfield 10, 3) := by decide +kernel
theorem dX11_seed_4 : decode cX11_seed 4 = .ok (.getfield 104, 3) := by decide +kernel
theorem dX11_seed_7 : decode cX11_seed 7 = .ok (.istore_n 2, 1) := by decide +kernel
theorem dX11_seed_8 : decode cX11_seed 8 = .ok (.aload_n 0, 1) := by decide +kernel
theorem dX11_seed_9 : decode cX11_seed 9 = .ok (.getfield 10, 3) := by decide +kernel
theorem dX11_seed_12 : decode cX11_seed 12 = .ok (.iload_n 1, 1) := by decide +kernel
theorem dX11_seed_13 : decode cX11_seed 13 = .ok (.putfield 104, 3) := by decide +kernel
theorem dX11_seed_16 : decode cX11_seed 16 = .ok (.iload_n 2, 1) := by decide +kernel
theorem dX11_seed_17 : decode cX11_seed 17 = .ok (.ireturn, 1) := by decide +kernel
theorem dX11_night_0 : decode cX11_night 0 = .ok (.aload_n 0, 1) := by decide +kernel
theorem dX11_night_1 : decode cX11_night 1 = .ok (.getfield 10, 3) := by decide +kernel
theorem dX11_night_4 : decode cX11_night 4 = .ok (.invokevirtual 188, 3) := by decide +kernel
theorem dX11_night_7 : decode cX11_night 7 = .ok (.aload_n 0, 1) := by decide +kernel
theorem dX11_night_8 : decode cX11_night 8 = .ok (.getfield 10, 3) := by decide +kernel
theorem dX11_night_11 : decode cX11_night 11 = .ok (.invokevirtual 181, 3) := by decide +kernel
theorem dX11_night_14 : decode cX11_night 14 = .ok (.ireturn, 1) := by decide +kernel
theorem dX11_spoilt_0 : decode cX11_spoilt 0 = .ok (.iload_n 1, 1) := by decide +kernel
theorem dX11_spoilt_1 : decode cX11_spoilt 1 = .ok (.iconst 1, 1) := by decide +kernel
theorem dX11_spoilt_2 : decode cX11_spoilt 2 = .ok (.if_icmp .lt 20, 3) := by decide +kernel
theorem dX11_spoilt_5 : decode cX11_spoilt 5 = .ok (.iload_n 1, 1) := by decide +kernel
theorem dX11_spoilt_6 : decode cX11_spoilt 6 = .ok (.bipush 30, 2) := by decide +kernel
theorem dX11_spoilt_8 : decode cX11_spoilt 8 = .ok (.if_icmp .gt 14, 3) := by decide +kernel
theorem dX11_spoilt_11 : decode cX11_spoilt 11 = .ok (.aload_n 0, 1) := by decide +kernel
theorem dX11_spoilt_12 : decode cX11_spoilt 12 = .ok (.getfield 27, 3) := by decide +kernel
theorem dX11_spoilt_15 : decode cX11_spoilt 15 = .ok (.iload_n 1, 1) := by decide +kernel
theorem dX11_spoilt_16 : decode cX11_spoilt 16 = .ok (.invokevirtual 191, 3) := by decide +kernel
theorem dX11_spoilt_19 : decode cX11_spoilt 19 = .ok (.goto 4, 3) := by decide +kernel
theorem dX11_spoilt_22 : decode cX11_spoilt 22 = .ok (.iconst (-1), 1) := by decide +kernel
theorem dX11_spoilt_23 : decode cX11_spoilt 23 = .ok (.ireturn, 1) := by decide +kernel
theorem dX11_state_0 : decode cX11_state 0 = .ok (.aload_n 0, 1) := by decide +kernel
theorem dX11_state_1 : decode cX11_state 1 = .ok (.getfield 10, 3) := by decide +kernel
theorem dX11_state_4 : decode cX11_state 4 = .ok (.invokevirtual 133, 3) := by decide +kernel
theorem dX11_state_7 : decode cX11_state 7 = .ok (.iload_n 1, 1) := by decide +kernel
theorem dX11_state_8 : decode cX11_state 8 = .ok (.tableswitch 88 0 5 #[40, 48, 56, 64, 72, 80], 40) := by decide +kernel
theorem dX11_state_48 : decode cX11_state 48 = .ok (.aload_n 0, 1) := by decide +kernel
theorem dX11_state_49 : decode cX11_state 49 = .ok (.getfield 10, 3) := by decide +kernel
theorem dX11_state_52 : decode cX11_state 52 = .ok (.getfield 194, 3) := by decide +kernel
theorem dX11_state_55 : decode cX11_state 55 = .ok (.ireturn, 1) := by decide +kernel
theorem dX11_state_56 : decode cX11_state 56 = .ok (.aload_n 0, 1) := by decide +kernel
theorem dX11_state_57 : decode cX11_state 57 = .ok (.getfield 10, 3) := by decide +kernel
theorem dX11_state_60 : decode cX11_state 60 = .ok (.getfield 185, 3) := by decide +kernel
theorem dX11_state_63 : decode cX11_state 63 = .ok (.ireturn, 1) := by decide +kernel
theorem dX11_state_64 : decode cX11_state 64 = .ok (.aload_n 0, 1) := by decide +kernel
theorem dX11_state_65 : decode cX11_state 65 = .ok (.getfield 10, 3) := by decide +kernel
theorem dX11_state_68 : decode cX11_state 68 = .ok (.invokevirtual 197, 3) := by decide +kernel
theorem dX11_state_71 : decode cX11_state 71 = .ok (.ireturn, 1) := by decide +kernel
theorem dX11_state_72 : decode cX11_state 72 = .ok (.aload_n 0, 1) := by decide +kernel
theorem dX11_state_73 : decode cX11_state 73 = .ok (.getfield 10, 3) := by decide +kernel
theorem dX11_state_76 : decode cX11_state 76 = .ok (.invokevirtual 200, 3) := by decide +kernel
theorem dX11_state_79 : decode cX11_state 79 = .ok (.ireturn, 1) := by decide +kernel
theorem dX11_state_80 : decode cX11_state 80 = .ok (.aload_n 0, 1) := by decide +kernel
theorem dX11_state_81 : decode cX11_state 81 = .ok (.getfield 10, 3) := by decide +kernel
theorem dX11_state_84 : decode cX11_state 84 = .ok (.invokevirtual 203, 3) := by decide +kernel
theorem dX11_state_87 : decode cX11_state 87 = .ok (.ireturn, 1) := by decide +kernel
theorem dX11_state_88 : decode cX11_state 88 = .ok (.aload_n 0, 1) := by decide +kernel
theorem dX11_state_89 : decode cX11_state 89 = .ok (.getfield 10, 3) := by decide +kernel
theorem dX11_state_92 : decode cX11_state 92 = .ok (.invokevirtual 206, 3) := by decide +kernel
theorem dX11_state_95 : decode cX11_state 95 = .ok (.ireturn, 1) := by decide +kernel
theorem dX11_state_96 : decode cX11_state 96 = .ok (.iconst (-1), 1) := by decide +kernel
theorem dX11_state_97 : decode cX11_state 97 = .ok (.ireturn, 1) := by decide +kernel
theorem dX11_knew_0 : decode cX11_knew 0 = .ok (.aload_n 0, 1) := by decide +kernel
theorem dX11_knew_1 : decode cX11_knew 1 = .ok (.iload_n 1, 1) := by decide +kernel
theorem dX11_knew_2 : decode cX11_knew 2 = .ok (.invokevirtual 150, 3) := by decide +kernel
theorem dX11_knew_5 : decode cX11_knew 5 = .ok (.ifCond .eq 20, 3) := by decide +kernel
theorem dX11_knew_8 : decode cX11_knew 8 = .ok (.iload_n 2, 1) := by decide +kernel
theorem dX11_knew_9 : decode cX11_knew 9 = .ok (.invokestatic 127, 3) := by decide +kernel
theorem dX11_knew_12 : decode cX11_knew 12 = .ok (.ifCond .eq 13, 3) := by decide +kernel
theorem dX11_knew_15 : decode cX11_knew 15 = .ok (.iload_n 3, 1) := by decide +kernel
theorem dX11_knew_16 : decode cX11_knew 16 = .ok (.ifCond .lt 9, 3) := by decide +kernel
theorem dX11_knew_19 : decode cX11_knew 19 = .ok (.iload_n 3, 1) := by decide +kernel
theorem dX11_knew_20 : decode cX11_knew 20 = .ok (.bipush 60, 2) := by decide +kernel
theorem dX11_knew_22 : decode cX11_knew 22 = .ok (.if_icmp .le 5, 3) := by decide +kernel
theorem dX11_knew_25 : decode cX11_knew 25 = .ok (.iconst (-1), 1) := by decide +kernel
theorem dX11_knew_26 : decode cX11_knew 26 = .ok (.ireturn, 1) := by decide +kernel
theorem dX11_knew_27 : decode cX11_knew 27 = .ok (.aload_n 0, 1) := by decide +kernel
theorem dX11_knew_28 : decode cX11_knew 28 = .ok (.getfield 27, 3) := by decide +kernel
theorem dX11_knew_31 : decode cX11_knew 31 = .ok (.iload_n 1, 1) := by decide +kernel
theorem dX11_knew_32 : decode cX11_knew 32 = .ok (.iload_n 2, 1) := by decide +kernel
theorem dX11_knew_33 : decode cX11_knew 33 = .ok (.iload_n 3, 1) := by decide +kernel
theorem dX11_knew_34 : decode cX11_knew 34 = .ok (.invokevirtual 209, 3) := by decide +kernel
theorem dX11_knew_37 : decode cX11_knew 37 = .ok (.ireturn, 1) := by decide +kernel
theorem dX11_earned_0 : decode cX11_earned 0 = .ok (.iload_n 1, 1) := by decide +kernel
theorem dX11_earned_1 : decode cX11_earned 1 = .ok (.ifCond .lt 20, 3) := by decide +kernel
theorem dX11_earned_4 : decode cX11_earned 4 = .ok (.iload_n 1, 1) := by decide +kernel
theorem dX11_earned_5 : decode cX11_earned 5 = .ok (.bipush 60, 2) := by decide +kernel
theorem dX11_earned_7 : decode cX11_earned 7 = .ok (.if_icmp .gt 14, 3) := by decide +kernel
theorem dX11_earned_10 : decode cX11_earned 10 = .ok (.aload_n 0, 1) := by decide +kernel
theorem dX11_earned_11 : decode cX11_earned 11 = .ok (.getfield 27, 3) := by decide +kernel
theorem dX11_earned_14 : decode cX11_earned 14 = .ok (.iload_n 1, 1) := by decide +kernel
theorem dX11_earned_15 : decode cX11_earned 15 = .ok (.invokevirtual 213, 3) := by decide +kernel
theorem dX11_earned_18 : decode cX11_earned 18 = .ok (.goto 4, 3) := by decide +kernel
theorem dX11_earned_21 : decode cX11_earned 21 = .ok (.iconst (-1), 1) := by decide +kernel
theorem dX11_earned_22 : decode cX11_earned 22 = .ok (.ireturn, 1) := by decide +kernel
theorem dX11_plays_0 : decode cX11_plays 0 = .ok (.aload_n 0, 1) := by decide +kernel
theorem dX11_plays_1 : decode cX11_plays 1 = .ok (.iload_n 1, 1) := by decide +kernel
theorem dX11_plays_2 : decode cX11_plays 2 = .ok (.invokevirtual 150, 3) := by decide +kernel
theorem dX11_plays_5 : decode cX11_plays 5 = .ok (.ifCond .eq 22, 3) := by decide +kernel
theorem dX11_plays_8 : decode cX11_plays 8 = .ok (.iload_n 2, 1) := by decide +kernel
theorem dX11_plays_9 : decode cX11_plays 9 = .ok (.invokestatic 127, 3) := by decide +kernel
theorem dX11_plays_12 : decode cX11_plays 12 = .ok (.ifCond .eq 15, 3) := by decide +kernel
theorem dX11_plays_15 : decode cX11_plays 15 = .ok (.aload_n 0, 1) := by decide +kernel
theorem dX11_plays_16 : decode cX11_plays 16 = .ok (.getfield 27, 3) := by decide +kernel
theorem dX11_plays_19 : decode cX11_plays 19 = .ok (.iload_n 1, 1) := by decide +kernel
theorem dX11_plays_20 : decode cX11_plays 20 = .ok (.iload_n 2, 1) := by decide +kernel
theorem dX11_plays_21 : decode cX11_plays 21 = .ok (.invokevirtual 216, 3) := by decide +kernel
theorem dX11_plays_24 : decode cX11_plays 24 = .ok (.goto 4, 3) := by decide +kernel
theorem dX11_plays_27 : decode cX11_plays 27 = .ok (.iconst (-1), 1) := by decide +kernel
theorem dX11_plays_28 : decode cX11_plays 28 = .ok (.ireturn, 1) := by decide +kernel
theorem dX11_house_0 : decode cX11_house 0 = .ok (.aload_n 0, 1) := by decide +kernel
theorem dX11_house_1 : decode cX11_house 1 = .ok (.getfield 27, 3) := by decide +kernel
theorem dX11_house_4 : decode cX11_house 4 = .ok (.invokevirtual 219, 3) := by decide +kernel
theorem dX11_house_7 : decode cX11_house 7 = .ok (.ireturn, 1) := by decide +kernel
theorem dX11_worst_0 : decode cX11_worst 0 = .ok (.aload_n 0, 1) := by decide +kernel
theorem dX11_worst_1 : decode cX11_worst 1 = .ok (.getfield 27, 3) := by decide +kernel
theorem dX11_worst_4 : decode cX11_worst 4 = .ok (.invokevirtual 222, 3) := by decide +kernel
theorem dX11_worst_7 : decode cX11_worst 7 = .ok (.ireturn, 1) := by decide +kernel
theorem dX11_kindFor_0 : decode cX11_kindFor 0 = .ok (.aload_n 0, 1) := by decide +kernel
theorem dX11_kindFor_1 : decode cX11_kindFor 1 = .ok (.iload_n 1, 1) := by decide +kernel
theorem dX11_kindFor_2 : decode cX11_kindFor 2 = .ok (.invokevirtual 150, 3) := by decide +kernel
theorem dX11_kindFor_5 : decode cX11_kindFor 5 = .ok (.ifCond .eq 26, 3) := by decide +kernel
theorem dX11_kindFor_8 : decode cX11_kindFor 8 = .ok (.iload_n 2, 1) := by decide +kernel
theorem dX11_kindFor_9 : decode cX11_kindFor 9 = .ok (.iconst 1, 1) := by decide +kernel
theorem dX11_kindFor_10 : decode cX11_kindFor 10 = .ok (.if_icmp .lt 21, 3) := by decide +kernel
theorem dX11_kindFor_13 : decode cX11_kindFor 13 = .ok (.iload_n 2, 1) := by decide +kernel
theorem dX11_kindFor_14 : decode cX11_kindFor 14 = .ok (.bipush 30, 2) := by decide +kernel
theorem dX11_kindFor_16 : decode cX11_kindFor 16 = .ok (.if_icmp .gt 15, 3) := by decide +kernel
theorem dX11_kindFor_19 : decode cX11_kindFor 19 = .ok (.aload_n 0, 1) := by decide +kernel
theorem dX11_kindFor_20 : decode cX11_kindFor 20 = .ok (.getfield 27, 3) := by decide +kernel
theorem dX11_kindFor_23 : decode cX11_kindFor 23 = .ok (.iload_n 1, 1) := by decide +kernel
theorem dX11_kindFor_24 : decode cX11_kindFor 24 = .ok (.iload_n 2, 1) := by decide +kernel
theorem dX11_kindFor_25 : decode cX11_kindFor 25 = .ok (.invokevirtual 225, 3) := by decide +kernel
theorem dX11_kindFor_28 : decode cX11_kindFor 28 = .ok (.goto 4, 3) := by decide +kernel
theorem dX11_kindFor_31 : decode cX11_kindFor 31 = .ok (.iconst (-1), 1) := by decide +kernel
theorem dX11_kindFor_32 : decode cX11_kindFor 32 = .ok (.ireturn, 1) := by decide +kernel
theorem dX11_enoughFor_0 : decode cX11_enoughFor 0 = .ok (.aload_n 0, 1) := by decide +kernel
theorem dX11_enoughFor_1 : decode cX11_enoughFor 1 = .ok (.iload_n 1, 1) := by decide +kernel
theorem dX11_enoughFor_2 : decode cX11_enoughFor 2 = .ok (.invokevirtual 150, 3) := by decide +kernel
theorem dX11_enoughFor_5 : decode cX11_enoughFor 5 = .ok (.ifCond .eq 22, 3) := by decide +kernel
theorem dX11_enoughFor_8 : decode cX11_enoughFor 8 = .ok (.iload_n 2, 1) := by decide +kernel
theorem dX11_enoughFor_9 : decode cX11_enoughFor 9 = .ok (.invokestatic 127, 3) := by decide +kernel
theorem dX11_enoughFor_12 : decode cX11_enoughFor 12 = .ok (.ifCond .eq 15, 3) := by decide +kernel
theorem dX11_enoughFor_15 : decode cX11_enoughFor 15 = .ok (.aload_n 0, 1) := by decide +kernel
theorem dX11_enoughFor_16 : decode cX11_enoughFor 16 = .ok (.getfield 27, 3) := by decide +kernel
theorem dX11_enoughFor_19 : decode cX11_enoughFor 19 = .ok (.iload_n 1, 1) := by decide +kernel
theorem dX11_enoughFor_20 : decode cX11_enoughFor 20 = .ok (.iload_n 2, 1) := by decide +kernel
theorem dX11_enoughFor_21 : decode cX11_enoughFor 21 = .ok (.invokevirtual 228, 3) := by decide +kernel
theorem dX11_enoughFor_24 : decode cX11_enoughFor 24 = .ok (.goto 4, 3) := by decide +kernel
theorem dX11_enoughFor_27 : decode cX11_enoughFor 27 = .ok (.iconst (-1), 1) := by decide +kernel
theorem dX11_enoughFor_28 : decode cX11_enoughFor 28 = .ok (.ireturn, 1) := by decide +kernel
theorem dX11_learnerFor_0 : decode cX11_learnerFor 0 = .ok (.iload_n 1, 1) := by decide +kernel
theorem dX11_learnerFor_1 : decode cX11_learnerFor 1 = .ok (.invokestatic 127, 3) := by decide +kernel
theorem dX11_learnerFor_4 : decode cX11_learnerFor 4 = .ok (.ifCond .eq 26, 3) := by decide +kernel
theorem dX11_learnerFor_7 : decode cX11_learnerFor 7 = .ok (.iload_n 2, 1) := by decide +kernel
theorem dX11_learnerFor_8 : decode cX11_learnerFor 8 = .ok (.iconst 1, 1) := by decide +kernel
theorem dX11_learnerFor_9 : decode cX11_learnerFor 9 = .ok (.if_icmp .lt 21, 3) := by decide +kernel
theorem dX11_learnerFor_12 : decode cX11_learnerFor 12 = .ok (.iload_n 2, 1) := by decide +kernel
theorem dX11_learnerFor_13 : decode cX11_learnerFor 13 = .ok (.bipush 30, 2) := by decide +kernel
theorem dX11_learnerFor_15 : decode cX11_learnerFor 15 = .ok (.if_icmp .gt 15, 3) := by decide +kernel
theorem dX11_learnerFor_18 : decode cX11_learnerFor 18 = .ok (.aload_n 0, 1) := by decide +kernel
theorem dX11_learnerFor_19 : decode cX11_learnerFor 19 = .ok (.getfield 27, 3) := by decide +kernel
theorem dX11_learnerFor_22 : decode cX11_learnerFor 22 = .ok (.iload_n 1, 1) := by decide +kernel
theorem dX11_learnerFor_23 : decode cX11_learnerFor 23 = .ok (.iload_n 2, 1) := by decide +kernel
theorem dX11_learnerFor_24 : decode cX11_learnerFor 24 = .ok (.invokevirtual 231, 3) := by decide +kernel
theorem dX11_learnerFor_27 : decode cX11_learnerFor 27 = .ok (.goto 4, 3) := by decide +kernel
theorem dX11_learnerFor_30 : decode cX11_learnerFor 30 = .ok (.iconst (-1), 1) := by decide +kernel
theorem dX11_learnerFor_31 : decode cX11_learnerFor 31 = .ok (.ireturn, 1) := by decide +kernel
theorem dX11_fewestFor_0 : decode cX11_fewestFor 0 = .ok (.iload_n 1, 1) := by decide +kernel
theorem dX11_fewestFor_1 : decode cX11_fewestFor 1 = .ok (.ifCond .lt 21, 3) := by decide +kernel
theorem dX11_fewestFor_4 : decode cX11_fewestFor 4 = .ok (.iload_n 1, 1) := by decide +kernel
theorem dX11_fewestFor_5 : decode cX11_fewestFor 5 = .ok (.sipush 9999, 3) := by decide +kernel
theorem dX11_fewestFor_8 : decode cX11_fewestFor 8 = .ok (.if_icmp .gt 14, 3) := by decide +kernel
theorem dX11_fewestFor_11 : decode cX11_fewestFor 11 = .ok (.aload_n 0, 1) := by decide +kernel
theorem dX11_fewestFor_12 : decode cX11_fewestFor 12 = .ok (.getfield 27, 3) := by decide +kernel
theorem dX11_fewestFor_15 : decode cX11_fewestFor 15 = .ok (.iload_n 1, 1) := by decide +kernel
theorem dX11_fewestFor_16 : decode cX11_fewestFor 16 = .ok (.invokevirtual 234, 3) := by decide +kernel
theorem dX11_fewestFor_19 : decode cX11_fewestFor 19 = .ok (.goto 4, 3) := by decide +kernel
theorem dX11_fewestFor_22 : decode cX11_fewestFor 22 = .ok (.iconst (-1), 1) := by decide +kernel
theorem dX11_fewestFor_23 : decode cX11_fewestFor 23 = .ok (.ireturn, 1) := by decide +kernel
theorem dX11_fits_0 : decode cX11_fits 0 = .ok (.iload_n 1, 1) := by decide +kernel
theorem dX11_fits_1 : decode cX11_fits 1 = .ok (.invokestatic 237, 3) := by decide +kernel
theorem dX11_fits_4 : decode cX11_fits 4 = .ok (.ifCond .eq 20, 3) := by decide +kernel
theorem dX11_fits_7 : decode cX11_fits 7 = .ok (.aload_n 0, 1) := by decide +kernel
theorem dX11_fits_8 : decode cX11_fits 8 = .ok (.iload_n 2, 1) := by decide +kernel
theorem dX11_fits_9 : decode cX11_fits 9 = .ok (.invokevirtual 150, 3) := by decide +kernel
theorem dX11_fits_12 : decode cX11_fits 12 = .ok (.ifCond .eq 12, 3) := by decide +kernel
theorem dX11_fits_15 : decode cX11_fits 15 = .ok (.iload_n 3, 1) := by decide +kernel
theorem dX11_fits_16 : decode cX11_fits 16 = .ok (.ifCond .lt 8, 3) := by decide +kernel
theorem dX11_fits_19 : decode cX11_fits 19 = .ok (.iload_n 3, 1) := by decide +kernel
theorem dX11_fits_20 : decode cX11_fits 20 = .ok (.iconst 1, 1) := by decide +kernel
theorem dX11_fits_21 : decode cX11_fits 21 = .ok (.if_icmp .le 5, 3) := by decide +kernel
theorem dX11_fits_24 : decode cX11_fits 24 = .ok (.iconst (-1), 1) := by decide +kernel
theorem dX11_fits_25 : decode cX11_fits 25 = .ok (.ireturn, 1) := by decide +kernel
theorem dX11_fits_26 : decode cX11_fits 26 = .ok (.aload_n 0, 1) := by decide +kernel
theorem dX11_fits_27 : decode cX11_fits 27 = .ok (.getfield 48, 3) := by decide +kernel
theorem dX11_fits_30 : decode cX11_fits 30 = .ok (.iload_n 1, 1) := by decide +kernel
theorem dX11_fits_31 : decode cX11_fits 31 = .ok (.aaload, 1) := by decide +kernel
theorem dX11_fits_32 : decode cX11_fits 32 = .ok (.getfield 240, 3) := by decide +kernel
theorem dX11_fits_35 : decode cX11_fits 35 = .ok (.iconst (-1), 1) := by decide +kernel
theorem dX11_fits_36 : decode cX11_fits 36 = .ok (.if_icmp .ne 6, 3) := by decide +kernel
theorem dX11_fits_39 : decode cX11_fits 39 = .ok (.bipush (-11), 2) := by decide +kernel
theorem dX11_fits_41 : decode cX11_fits 41 = .ok (.ireturn, 1) := by decide +kernel
theorem dX11_fits_42 : decode cX11_fits 42 = .ok (.iload_n 3, 1) := by decide +kernel
theorem dX11_fits_43 : decode cX11_fits 43 = .ok (.ifCond .ne 20, 3) := by decide +kernel
theorem dX11_fits_46 : decode cX11_fits 46 = .ok (.aload_n 0, 1) := by decide +kernel
theorem dX11_fits_47 : decode cX11_fits 47 = .ok (.getfield 27, 3) := by decide +kernel
theorem dX11_fits_50 : decode cX11_fits 50 = .ok (.aload_n 0, 1) := by decide +kernel
theorem dX11_fits_51 : decode cX11_fits 51 = .ok (.getfield 48, 3) := by decide +kernel
theorem dX11_fits_54 : decode cX11_fits 54 = .ok (.iload_n 1, 1) := by decide +kernel
theorem dX11_fits_55 : decode cX11_fits 55 = .ok (.aaload, 1) := by decide +kernel
theorem dX11_fits_56 : decode cX11_fits 56 = .ok (.iload_n 2, 1) := by decide +kernel
theorem dX11_fits_57 : decode cX11_fits 57 = .ok (.invokevirtual 243, 3) := by decide +kernel
theorem dX11_fits_60 : decode cX11_fits 60 = .ok (.goto 17, 3) := by decide +kernel
theorem dX11_fits_63 : decode cX11_fits 63 = .ok (.aload_n 0, 1) := by decide +kernel
theorem dX11_fits_64 : decode cX11_fits 64 = .ok (.getfield 27, 3) := by decide +kernel
theorem dX11_fits_67 : decode cX11_fits 67 = .ok (.aload_n 0, 1) := by decide +kernel
theorem dX11_fits_68 : decode cX11_fits 68 = .ok (.getfield 48, 3) := by decide +kernel
theorem dX11_fits_71 : decode cX11_fits 71 = .ok (.iload_n 1, 1) := by decide +kernel
theorem dX11_fits_72 : decode cX11_fits 72 = .ok (.aaload, 1) := by decide +kernel
theorem dX11_fits_73 : decode cX11_fits 73 = .ok (.iload_n 2, 1) := by decide +kernel
theorem dX11_fits_74 : decode cX11_fits 74 = .ok (.invokevirtual 247, 3) := by decide +kernel
theorem dX11_fits_77 : decode cX11_fits 77 = .ok (.ireturn, 1) := by decide +kernel
theorem dX11_odds_0 : decode cX11_odds 0 = .ok (.iload_n 1, 1) := by decide +kernel
theorem dX11_odds_1 : decode cX11_odds 1 = .ok (.ifCond .lt 27, 3) := by decide +kernel
theorem dX11_odds_4 : decode cX11_odds 4 = .ok (.iload_n 1, 1) := by decide +kernel
theorem dX11_odds_5 : decode cX11_odds 5 = .ok (.bipush 8, 2) := by decide +kernel
theorem dX11_odds_7 : decode cX11_odds 7 = .ok (.if_icmp .gt 21, 3) := by decide +kernel
theorem dX11_odds_10 : decode cX11_odds 10 = .ok (.iload_n 2, 1) := by decide +kernel
theorem dX11_odds_11 : decode cX11_odds 11 = .ok (.ifCond .lt 17, 3) := by decide +kernel
theorem dX11_odds_14 : decode cX11_odds 14 = .ok (.iload_n 2, 1) := by decide +kernel
theorem dX11_odds_15 : decode cX11_odds 15 = .ok (.iload_n 1, 1) := by decide +kernel
theorem dX11_odds_16 : decode cX11_odds 16 = .ok (.if_icmp .gt 12, 3) := by decide +kernel
theorem dX11_odds_19 : decode cX11_odds 19 = .ok (.iload_n 3, 1) := by decide +kernel
theorem dX11_odds_20 : decode cX11_odds 20 = .ok (.ifCond .lt 8, 3) := by decide +kernel
theorem dX11_odds_23 : decode cX11_odds 23 = .ok (.iload_n 3, 1) := by decide +kernel
theorem dX11_odds_24 : decode cX11_odds 24 = .ok (.iconst 1, 1) := by decide +kernel
theorem dX11_odds_25 : decode cX11_odds 25 = .ok (.if_icmp .le 7, 3) := by decide +kernel
theorem dX11_odds_28 : decode cX11_odds 28 = .ok (.ldc2_w 250, 3) := by decide +kernel
theorem dX11_odds_31 : decode cX11_odds 31 = .ok (.lreturn, 1) := by decide +kernel
theorem dX11_odds_32 : decode cX11_odds 32 = .ok (.aload_n 0, 1) := by decide +kernel
theorem dX11_odds_33 : decode cX11_odds 33 = .ok (.getfield 10, 3) := by decide +kernel
theorem dX11_odds_36 : decode cX11_odds 36 = .ok (.getfield 124, 3) := by decide +kernel
theorem dX11_odds_39 : decode cX11_odds 39 = .ok (.iconst 3, 1) := by decide +kernel
theorem dX11_odds_40 : decode cX11_odds 40 = .ok (.iaload, 1) := by decide +kernel
theorem dX11_odds_41 : decode cX11_odds 41 = .ok (.i2l, 1) := by decide +kernel
theorem dX11_odds_42 : decode cX11_odds 42 = .ok (.lstore 4, 2) := by decide +kernel
theorem dX11_odds_44 : decode cX11_odds 44 = .ok (.iload_n 1, 1) := by decide +kernel
theorem dX11_odds_45 : decode cX11_odds 45 = .ok (.iload_n 2, 1) := by decide +kernel
theorem dX11_odds_46 : decode cX11_odds 46 = .ok (.invokestatic 252, 3) := by decide +kernel
theorem dX11_odds_49 : decode cX11_odds 49 = .ok (.lload 4, 2) := by decide +kernel
theorem dX11_odds_51 : decode cX11_odds 51 = .ok (.iload_n 2, 1) := by decide +kernel
theorem dX11_odds_52 : decode cX11_odds 52 = .ok (.invokestatic 256, 3) := by decide +kernel
theorem dX11_odds_55 : decode cX11_odds 55 = .ok (.lmul, 1) := by decide +kernel
theorem dX11_odds_56 : decode cX11_odds 56 = .ok (.ldc2_w 260, 3) := by decide +kernel
theorem dX11_odds_59 : decode cX11_odds 59 = .ok (.lload 4, 2) := by decide +kernel
theorem dX11_odds_61 : decode cX11_odds 61 = .ok (.lsub, 1) := by decide +kernel
theorem dX11_odds_62 : decode cX11_odds 62 = .ok (.iload_n 1, 1) := by decide +kernel
theorem dX11_odds_63 : decode cX11_odds 63 = .ok (.iload_n 2, 1) := by decide +kernel
theorem dX11_odds_64 : decode cX11_odds 64 = .ok (.isub, 1) := by decide +kernel
theorem dX11_odds_65 : decode cX11_odds 65 = .ok (.invokestatic 256, 3) := by decide +kernel
theorem dX11_odds_68 : decode cX11_odds 68 = .ok (.lmul, 1) := by decide +kernel
theorem dX11_odds_69 : decode cX11_odds 69 = .ok (.lstore 6, 2) := by decide +kernel
theorem dX11_odds_71 : decode cX11_odds 71 = .ok (.lload 6, 2) := by decide +kernel
theorem dX11_odds_73 : decode cX11_odds 73 = .ok (.ldc2_w 260, 3) := by decide +kernel
theorem dX11_odds_76 : decode cX11_odds 76 = .ok (.iload_n 1, 1) := by decide +kernel
theorem dX11_odds_77 : decode cX11_odds 77 = .ok (.invokestatic 256, 3) := by decide +kernel
theorem dX11_odds_80 : decode cX11_odds 80 = .ok (.iload_n 3, 1) := by decide +kernel
theorem dX11_odds_81 : decode cX11_odds 81 = .ok (.invokestatic 262, 3) := by decide +kernel
theorem dX11_odds_84 : decode cX11_odds 84 = .ok (.lreturn, 1) := by decide +kernel
theorem dX11_hope_0 : decode cX11_hope 0 = .ok (.iload_n 1, 1) := by decide +kernel
theorem dX11_hope_1 : decode cX11_hope 1 = .ok (.ifCond .lt 18, 3) := by decide +kernel
theorem dX11_hope_4 : decode cX11_hope 4 = .ok (.iload_n 1, 1) := by decide +kernel
theorem dX11_hope_5 : decode cX11_hope 5 = .ok (.bipush 99, 2) := by decide +kernel
theorem dX11_hope_7 : decode cX11_hope 7 = .ok (.if_icmp .gt 12, 3) := by decide +kernel
theorem dX11_hope_10 : decode cX11_hope 10 = .ok (.iload_n 2, 1) := by decide +kernel
theorem dX11_hope_11 : decode cX11_hope 11 = .ok (.ifCond .lt 8, 3) := by decide +kernel
theorem dX11_hope_14 : decode cX11_hope 14 = .ok (.iload_n 2, 1) := by decide +kernel
theorem dX11_hope_15 : decode cX11_hope 15 = .ok (.iconst 1, 1) := by decide +kernel
theorem dX11_hope_16 : decode cX11_hope 16 = .ok (.if_icmp .le 7, 3) := by decide +kernel
theorem dX11_hope_19 : decode cX11_hope 19 = .ok (.ldc2_w 250, 3) := by decide +kernel
theorem dX11_hope_22 : decode cX11_hope 22 = .ok (.lreturn, 1) := by decide +kernel
theorem dX11_hope_23 : decode cX11_hope 23 = .ok (.iload_n 1, 1) := by decide +kernel
theorem dX11_hope_24 : decode cX11_hope 24 = .ok (.i2l, 1) := by decide +kernel
theorem dX11_hope_25 : decode cX11_hope 25 = .ok (.aload_n 0, 1) := by decide +kernel
theorem dX11_hope_26 : decode cX11_hope 26 = .ok (.getfield 10, 3) := by decide +kernel
theorem dX11_hope_29 : decode cX11_hope 29 = .ok (.getfield 124, 3) := by decide +kernel
theorem dX11_hope_32 : decode cX11_hope 32 = .ok (.iconst 3, 1) := by decide +kernel
theorem dX11_hope_33 : decode cX11_hope 33 = .ok (.iaload, 1) := by decide +kernel
theorem dX11_hope_34 : decode cX11_hope 34 = .ok (.i2l, 1) := by decide +kernel
theorem dX11_hope_35 : decode cX11_hope 35 = .ok (.lmul, 1) := by decide +kernel
theorem dX11_hope_36 : decode cX11_hope 36 = .ok (.ldc2_w 260, 3) := by decide +kernel
theorem dX11_hope_39 : decode cX11_hope 39 = .ok (.iload_n 2, 1) := by decide +kernel
theorem dX11_hope_40 : decode cX11_hope 40 = .ok (.invokestatic 262, 3) := by decide +kernel
theorem dX11_hope_43 : decode cX11_hope 43 = .ok (.lreturn, 1) := by decide +kernel
theorem dX11_prove_0 : decode cX11_prove 0 = .ok (.aload_n 0, 1) := by decide +kernel
theorem dX11_prove_1 : decode cX11_prove 1 = .ok (.iload_n 1, 1) := by decide +kernel
theorem dX11_prove_2 : decode cX11_prove 2 = .ok (.invokevirtual 150, 3) := by decide +kernel
theorem dX11_prove_5 : decode cX11_prove 5 = .ok (.ifCond .eq 14, 3) := by decide +kernel
theorem dX11_prove_8 : decode cX11_prove 8 = .ok (.iload_n 2, 1) := by decide +kernel
theorem dX11_prove_9 : decode cX11_prove 9 = .ok (.iconst 1, 1) := by decide +kernel
theorem dX11_prove_10 : decode cX11_prove 10 = .ok (.if_icmp .lt 9, 3) := by decide +kernel
theorem dX11_prove_13 : decode cX11_prove 13 = .ok (.iload_n 2, 1) := by decide +kernel
theorem dX11_prove_14 : decode cX11_prove 14 = .ok (.bipush 10, 2) := by decide +kernel
theorem dX11_prove_16 : decode cX11_prove 16 = .ok (.if_icmp .le 5, 3) := by decide +kernel
theorem dX11_prove_19 : decode cX11_prove 19 = .ok (.iconst (-1), 1) := by decide +kernel
theorem dX11_prove_20 : decode cX11_prove 20 = .ok (.ireturn, 1) := by decide +kernel
theorem dX11_prove_21 : decode cX11_prove 21 = .ok (.aload_n 0, 1) := by decide +kernel
theorem dX11_prove_22 : decode cX11_prove 22 = .ok (.getfield 27, 3) := by decide +kernel
theorem dX11_prove_25 : decode cX11_prove 25 = .ok (.iload_n 1, 1) := by decide +kernel
theorem dX11_prove_26 : decode cX11_prove 26 = .ok (.iload_n 2, 1) := by decide +kernel
theorem dX11_prove_27 : decode cX11_prove 27 = .ok (.aload_n 0, 1) := by decide +kernel
theorem dX11_prove_28 : decode cX11_prove 28 = .ok (.getfield 38, 3) := by decide +kernel
theorem dX11_prove_31 : decode cX11_prove 31 = .ok (.invokevirtual 266, 3) := by decide +kernel
theorem dX11_prove_34 : decode cX11_prove 34 = .ok (.aload_n 0, 1) := by decide +kernel
theorem dX11_prove_35 : decode cX11_prove 35 = .ok (.iload_n 2, 1) := by decide +kernel
theorem dX11_prove_36 : decode cX11_prove 36 = .ok (.putfield 111, 3) := by decide +kernel
theorem dX11_prove_39 : decode cX11_prove 39 = .ok (.iload_n 2, 1) := by decide +kernel
theorem dX11_prove_40 : decode cX11_prove 40 = .ok (.ireturn, 1) := by decide +kernel
theorem dX11_row_0 : decode cX11_row 0 = .ok (.aload_n 0, 1) := by decide +kernel
theorem dX11_row_1 : decode cX11_row 1 = .ok (.iload_n 1, 1) := by decide +kernel
theorem dX11_row_2 : decode cX11_row 2 = .ok (.iload_n 2, 1) := by decide +kernel
theorem dX11_row_3 : decode cX11_row 3 = .ok (.invokevirtual 270, 3) := by decide +kernel
theorem dX11_row_6 : decode cX11_row 6 = .ok (.ifCond .eq 16, 3) := by decide +kernel
theorem dX11_row_9 : decode cX11_row 9 = .ok (.aload_n 0, 1) := by decide +kernel
theorem dX11_row_10 : decode cX11_row 10 = .ok (.getfield 38, 3) := by decide +kernel
theorem dX11_row_13 : decode cX11_row 13 = .ok (.iload_n 1, 1) := by decide +kernel
theorem dX11_row_14 : decode cX11_row 14 = .ok (.iconst 3, 1) := by decide +kernel
theorem dX11_row_15 : decode cX11_row 15 = .ok (.imul, 1) := by decide +kernel
theorem dX11_row_16 : decode cX11_row 16 = .ok (.iload_n 2, 1) := by decide +kernel
theorem dX11_row_17 : decode cX11_row 17 = .ok (.iadd, 1) := by decide +kernel
theorem dX11_row_18 : decode cX11_row 18 = .ok (.iaload, 1) := by decide +kernel
theorem dX11_row_19 : decode cX11_row 19 = .ok (.goto 5, 3) := by decide +kernel
theorem dX11_row_22 : decode cX11_row 22 = .ok (.bipush (-9), 2) := by decide +kernel
theorem dX11_row_24 : decode cX11_row 24 = .ok (.ireturn, 1) := by decide +kernel
theorem dX11_alterRow_0 : decode cX11_alterRow 0 = .ok (.aload_n 0, 1) := by decide +kernel
theorem dX11_alterRow_1 : decode cX11_alterRow 1 = .ok (.iload_n 1, 1) := by decide +kernel
theorem dX11_alterRow_2 : decode cX11_alterRow 2 = .ok (.iload_n 2, 1) := by decide +kernel
theorem dX11_alterRow_3 : decode cX11_alterRow 3 = .ok (.invokevirtual 270, 3) := by decide +kernel
theorem dX11_alterRow_6 : decode cX11_alterRow 6 = .ok (.ifCond .ne 6, 3) := by decide +kernel
theorem dX11_alterRow_9 : decode cX11_alterRow 9 = .ok (.bipush (-9), 2) := by decide +kernel
theorem dX11_alterRow_11 : decode cX11_alterRow 11 = .ok (.ireturn, 1) := by decide +kernel
theorem dX11_alterRow_12 : decode cX11_alterRow 12 = .ok (.aload_n 0, 1) := by decide +kernel
theorem dX11_alterRow_13 : decode cX11_alterRow 13 = .ok (.getfield 38, 3) := by decide +kernel
theorem dX11_alterRow_16 : decode cX11_alterRow 16 = .ok (.iload_n 1, 1) := by decide +kernel
theorem dX11_alterRow_17 : decode cX11_alterRow 17 = .ok (.iconst 3, 1) := by decide +kernel
theorem dX11_alterRow_18 : decode cX11_alterRow 18 = .ok (.imul, 1) := by decide +kernel
theorem dX11_alterRow_19 : decode cX11_alterRow 19 = .ok (.iload_n 2, 1) := by decide +kernel
theorem dX11_alterRow_20 : decode cX11_alterRow 20 = .ok (.iadd, 1) := by decide +kernel
theorem dX11_alterRow_21 : decode cX11_alterRow 21 = .ok (.iaload, 1) := by decide +kernel
theorem dX11_alterRow_22 : decode cX11_alterRow 22 = .ok (.istore 4, 2) := by decide +kernel
theorem dX11_alterRow_24 : decode cX11_alterRow 24 = .ok (.aload_n 0, 1) := by decide +kernel
theorem dX11_alterRow_25 : decode cX11_alterRow 25 = .ok (.getfield 38, 3) := by decide +kernel
theorem dX11_alterRow_28 : decode cX11_alterRow 28 = .ok (.iload_n 1, 1) := by decide +kernel
theorem dX11_alterRow_29 : decode cX11_alterRow 29 = .ok (.iconst 3, 1) := by decide +kernel
theorem dX11_alterRow_30 : decode cX11_alterRow 30 = .ok (.imul, 1) := by decide +kernel
theorem dX11_alterRow_31 : decode cX11_alterRow 31 = .ok (.iload_n 2, 1) := by decide +kernel
theorem dX11_alterRow_32 : decode cX11_alterRow 32 = .ok (.iadd, 1) := by decide +kernel
theorem dX11_alterRow_33 : decode cX11_alterRow 33 = .ok (.iload_n 3, 1) := by decide +kernel
theorem dX11_alterRow_34 : decode cX11_alterRow 34 = .ok (.iastore, 1) := by decide +kernel
theorem dX11_alterRow_35 : decode cX11_alterRow 35 = .ok (.iload 4, 2) := by decide +kernel
theorem dX11_alterRow_37 : decode cX11_alterRow 37 = .ok (.ireturn, 1) := by decide +kernel
theorem dX11_judge_0 : decode cX11_judge 0 = .ok (.aload_n 0, 1) := by decide +kernel
theorem dX11_judge_1 : decode cX11_judge 1 = .ok (.iload_n 1, 1) := by decide +kernel
theorem dX11_judge_2 : decode cX11_judge 2 = .ok (.invokevirtual 150, 3) := by decide +kernel
theorem dX11_judge_5 : decode cX11_judge 5 = .ok (.ifCond .ne 5, 3) := by decide +kernel
theorem dX11_judge_8 : decode cX11_judge 8 = .ok (.iconst (-1), 1) := by decide +kernel
theorem dX11_judge_9 : decode cX11_judge 9 = .ok (.ireturn, 1) := by decide +kernel
theorem dX11_judge_10 : decode cX11_judge 10 = .ok (.aload_n 0, 1) := by decide +kernel
theorem dX11_judge_11 : decode cX11_judge 11 = .ok (.getfield 27, 3) := by decide +kernel
theorem dX11_judge_14 : decode cX11_judge 14 = .ok (.iload_n 1, 1) := by decide +kernel
theorem dX11_judge_15 : decode cX11_judge 15 = .ok (.aload_n 0, 1) := by decide +kernel
theorem dX11_judge_16 : decode cX11_judge 16 = .ok (.getfield 111, 3) := by decide +kernel
theorem dX11_judge_19 : decode cX11_judge 19 = .ok (.aload_n 0, 1) := by decide +kernel
theorem dX11_judge_20 : decode cX11_judge 20 = .ok (.getfield 42, 3) := by decide +kernel
theorem dX11_judge_23 : decode cX11_judge 23 = .ok (.invokevirtual 266, 3) := by decide +kernel
theorem dX11_judge_26 : decode cX11_judge 26 = .ok (.iconst 0, 1) := by decide +kernel
theorem dX11_judge_27 : decode cX11_judge 27 = .ok (.istore_n 2, 1) := by decide +kernel
theorem dX11_judge_28 : decode cX11_judge 28 = .ok (.iload_n 2, 1) := by decide +kernel
theorem dX11_judge_29 : decode cX11_judge 29 = .ok (.aload_n 0, 1) := by decide +kernel
theorem dX11_judge_30 : decode cX11_judge 30 = .ok (.getfield 111, 3) := by decide +kernel
theorem dX11_judge_33 : decode cX11_judge 33 = .ok (.iconst 3, 1) := by decide +kernel
theorem dX11_judge_34 : decode cX11_judge 34 = .ok (.imul, 1) := by decide +kernel
theorem dX11_judge_35 : decode cX11_judge 35 = .ok (.if_icmp .ge 30, 3) := by decide +kernel
theorem dX11_judge_38 : decode cX11_judge 38 = .ok (.aload_n 0, 1) := by decide +kernel
theorem dX11_judge_39 : decode cX11_judge 39 = .ok (.getfield 38, 3) := by decide +kernel
theorem dX11_judge_42 : decode cX11_judge 42 = .ok (.iload_n 2, 1) := by decide +kernel
theorem dX11_judge_43 : decode cX11_judge 43 = .ok (.iaload, 1) := by decide +kernel
theorem dX11_judge_44 : decode cX11_judge 44 = .ok (.aload_n 0, 1) := by decide +kernel
theorem dX11_judge_45 : decode cX11_judge 45 = .ok (.getfield 42, 3) := by decide +kernel
theorem dX11_judge_48 : decode cX11_judge 48 = .ok (.iload_n 2, 1) := by decide +kernel
theorem dX11_judge_49 : decode cX11_judge 49 = .ok (.iaload, 1) := by decide +kernel
theorem dX11_judge_50 : decode cX11_judge 50 = .ok (.if_icmp .eq 9, 3) := by decide +kernel
theorem dX11_judge_53 : decode cX11_judge 53 = .ok (.iload_n 2, 1) := by decide +kernel
theorem dX11_judge_54 : decode cX11_judge 54 = .ok (.iconst 3, 1) := by decide +kernel
theorem dX11_judge_55 : decode cX11_judge 55 = .ok (.idiv, 1) := by decide +kernel
theorem dX11_judge_56 : decode cX11_judge 56 = .ok (.iconst 1, 1) := by decide +kernel
theorem dX11_judge_57 : decode cX11_judge 57 = .ok (.iadd, 1) := by decide +kernel
theorem dX11_judge_58 : decode cX11_judge 58 = .ok (.ireturn, 1) := by decide +kernel
theorem dX11_judge_59 : decode cX11_judge 59 = .ok (.iinc 2 1, 3) := by decide +kernel
theorem dX11_judge_62 : decode cX11_judge 62 = .ok (.goto (-34), 3) := by decide +kernel
theorem dX11_judge_65 : decode cX11_judge 65 = .ok (.iconst 0, 1) := by decide +kernel
theorem dX11_judge_66 : decode cX11_judge 66 = .ok (.ireturn, 1) := by decide +kernel
theorem dX11_minds_0 : decode cX11_minds 0 = .ok (.iload_n 1, 1) := by decide +kernel
theorem dX11_minds_1 : decode cX11_minds 1 = .ok (.invokestatic 237, 3) := by decide +kernel
theorem dX11_minds_4 : decode cX11_minds 4 = .ok (.ifCond .eq 37, 3) := by decide +kernel
theorem dX11_minds_7 : decode cX11_minds 7 = .ok (.aload_n 0, 1) := by decide +kernel
theorem dX11_minds_8 : decode cX11_minds 8 = .ok (.iload_n 3, 1) := by decide +kernel
theorem dX11_minds_9 : decode cX11_minds 9 = .ok (.invokevirtual 150, 3) := by decide +kernel
theorem dX11_minds_12 : decode cX11_minds 12 = .ok (.ifCond .eq 29, 3) := by decide +kernel
theorem dX11_minds_15 : decode cX11_minds 15 = .ok (.iload 4, 2) := by decide +kernel
theorem dX11_minds_17 : decode cX11_minds 17 = .ok (.ifCond .lt 24, 3) := by decide +kernel
theorem dX11_minds_20 : decode cX11_minds 20 = .ok (.iload 4, 2) := by decide +kernel
theorem dX11_minds_22 : decode cX11_minds 22 = .ok (.bipush 8, 2) := by decide +kernel
theorem dX11_minds_24 : decode cX11_minds 24 = .ok (.if_icmp .gt 17, 3) := by decide +kernel
theorem dX11_minds_27 : decode cX11_minds 27 = .ok (.iload 4, 2) := by decide +kernel
theorem dX11_minds_29 : decode cX11_minds 29 = .ok (.aload_n 0, 1) := by decide +kernel
theorem dX11_minds_30 : decode cX11_minds 30 = .ok (.getfield 10, 3) := by decide +kernel
theorem dX11_minds_33 : decode cX11_minds 33 = .ok (.getfield 114, 3) := by decide +kernel
theorem dX11_minds_36 : decode cX11_minds 36 = .ok (.iload_n 3, 1) := by decide +kernel
theorem dX11_minds_37 : decode cX11_minds 37 = .ok (.isub, 1) := by decide +kernel
theorem dX11_minds_38 : decode cX11_minds 38 = .ok (.if_icmp .le 5, 3) := by decide +kernel
theorem dX11_minds_41 : decode cX11_minds 41 = .ok (.iconst (-1), 1) := by decide +kernel
theorem dX11_minds_42 : decode cX11_minds 42 = .ok (.ireturn, 1) := by decide +kernel
theorem dX11_minds_43 : decode cX11_minds 43 = .ok (.aload_n 0, 1) := by decide +kernel
theorem dX11_minds_44 : decode cX11_minds 44 = .ok (.getfield 48, 3) := by decide +kernel
theorem dX11_minds_47 : decode cX11_minds 47 = .ok (.iload_n 1, 1) := by decide +kernel
theorem dX11_minds_48 : decode cX11_minds 48 = .ok (.aaload, 1) := by decide +kernel
theorem dX11_minds_49 : decode cX11_minds 49 = .ok (.astore 5, 2) := by decide +kernel
theorem dX11_minds_51 : decode cX11_minds 51 = .ok (.aload 5, 2) := by decide +kernel
theorem dX11_minds_53 : decode cX11_minds 53 = .ok (.getfield 240, 3) := by decide +kernel
theorem dX11_minds_56 : decode cX11_minds 56 = .ok (.iconst (-1), 1) := by decide +kernel
theorem dX11_minds_57 : decode cX11_minds 57 = .ok (.if_icmp .ne 6, 3) := by decide +kernel
theorem dX11_minds_60 : decode cX11_minds 60 = .ok (.bipush (-11), 2) := by decide +kernel
theorem dX11_minds_62 : decode cX11_minds 62 = .ok (.ireturn, 1) := by decide +kernel
theorem dX11_minds_63 : decode cX11_minds 63 = .ok (.aload 5, 2) := by decide +kernel
theorem dX11_minds_65 : decode cX11_minds 65 = .ok (.getfield 240, 3) := by decide +kernel
theorem dX11_minds_68 : decode cX11_minds 68 = .ok (.ifCond .eq 6, 3) := by decide +kernel
theorem dX11_minds_71 : decode cX11_minds 71 = .ok (.bipush (-13), 2) := by decide +kernel
theorem dX11_minds_73 : decode cX11_minds 73 = .ok (.ireturn, 1) := by decide +kernel
theorem dX11_minds_74 : decode cX11_minds 74 = .ok (.iload_n 2, 1) := by decide +kernel
theorem dX11_minds_75 : decode cX11_minds 75 = .ok (.ifCond .lt 24, 3) := by decide +kernel
theorem dX11_minds_78 : decode cX11_minds 78 = .ok (.iload_n 2, 1) := by decide +kernel
theorem dX11_minds_79 : decode cX11_minds 79 = .ok (.aload 5, 2) := by decide +kernel
theorem dX11_minds_81 : decode cX11_minds 81 = .ok (.getfield 274, 3) := by decide +kernel
theorem dX11_minds_84 : decode cX11_minds 84 = .ok (.if_icmp .gt 15, 3) := by decide +kernel
theorem dX11_minds_87 : decode cX11_minds 87 = .ok (.iload 4, 2) := by decide +kernel
theorem dX11_minds_89 : decode cX11_minds 89 = .ok (.aload 5, 2) := by decide +kernel
theorem dX11_minds_91 : decode cX11_minds 91 = .ok (.getfield 274, 3) := by decide +kernel
theorem dX11_minds_94 : decode cX11_minds 94 = .ok (.iload_n 2, 1) := by decide +kernel
theorem dX11_minds_95 : decode cX11_minds 95 = .ok (.isub, 1) := by decide +kernel
theorem dX11_minds_96 : decode cX11_minds 96 = .ok (.if_icmp .le 6, 3) := by decide +kernel
theorem dX11_minds_99 : decode cX11_minds 99 = .ok (.bipush (-12), 2) := by decide +kernel
theorem dX11_minds_101 : decode cX11_minds 101 = .ok (.ireturn, 1) := by decide +kernel
theorem dX11_minds_102 : decode cX11_minds 102 = .ok (.iconst 0, 1) := by decide +kernel
theorem dX11_minds_103 : decode cX11_minds 103 = .ok (.istore 6, 2) := by decide +kernel
theorem dX11_minds_105 : decode cX11_minds 105 = .ok (.iload 6, 2) := by decide +kernel
theorem dX11_minds_107 : decode cX11_minds 107 = .ok (.iload 4, 2) := by decide +kernel
theorem dX11_minds_109 : decode cX11_minds 109 = .ok (.if_icmp .ge 42, 3) := by decide +kernel
theorem dX11_minds_112 : decode cX11_minds 112 = .ok (.aload_n 0, 1) := by decide +kernel
theorem dX11_minds_113 : decode cX11_minds 113 = .ok (.getfield 10, 3) := by decide +kernel
theorem dX11_minds_116 : decode cX11_minds 116 = .ok (.iload_n 3, 1) := by decide +kernel
theorem dX11_minds_117 : decode cX11_minds 117 = .ok (.iload 6, 2) := by decide +kernel
theorem dX11_minds_119 : decode cX11_minds 119 = .ok (.iadd, 1) := by decide +kernel
theorem dX11_minds_120 : decode cX11_minds 120 = .ok (.aload_n 0, 1) := by decide +kernel
theorem dX11_minds_121 : decode cX11_minds 121 = .ok (.getfield 10, 3) := by decide +kernel
theorem dX11_minds_124 : decode cX11_minds 124 = .ok (.getfield 156, 3) := by decide +kernel
theorem dX11_minds_127 : decode cX11_minds 127 = .ok (.iload_n 3, 1) := by decide +kernel
theorem dX11_minds_128 : decode cX11_minds 128 = .ok (.iload 6, 2) := by decide +kernel
theorem dX11_minds_130 : decode cX11_minds 130 = .ok (.iadd, 1) := by decide +kernel
theorem dX11_minds_131 : decode cX11_minds 131 = .ok (.iaload, 1) := by decide +kernel
theorem dX11_minds_132 : decode cX11_minds 132 = .ok (.aload 5, 2) := by decide +kernel
theorem dX11_minds_134 : decode cX11_minds 134 = .ok (.getfield 277, 3) := by decide +kernel
theorem dX11_minds_137 : decode cX11_minds 137 = .ok (.iload_n 2, 1) := by decide +kernel
theorem dX11_minds_138 : decode cX11_minds 138 = .ok (.iload 6, 2) := by decide +kernel
theorem dX11_minds_140 : decode cX11_minds 140 = .ok (.iadd, 1) := by decide +kernel
theorem dX11_minds_141 : decode cX11_minds 141 = .ok (.iaload, 1) := by decide +kernel
theorem dX11_minds_142 : decode cX11_minds 142 = .ok (.invokevirtual 177, 3) := by decide +kernel
theorem dX11_minds_145 : decode cX11_minds 145 = .ok (.iinc 6 1, 3) := by decide +kernel
theorem dX11_minds_148 : decode cX11_minds 148 = .ok (.goto (-43), 3) := by decide +kernel
theorem dX11_minds_151 : decode cX11_minds 151 = .ok (.iload 4, 2) := by decide +kernel
theorem dX11_minds_153 : decode cX11_minds 153 = .ok (.ireturn, 1) := by decide +kernel
theorem dX11_sheet_0 : decode cX11_sheet 0 = .ok (.iload_n 1, 1) := by decide +kernel
theorem dX11_sheet_1 : decode cX11_sheet 1 = .ok (.invokestatic 237, 3) := by decide +kernel
theorem dX11_sheet_4 : decode cX11_sheet 4 = .ok (.ifCond .eq 13, 3) := by decide +kernel
theorem dX11_sheet_7 : decode cX11_sheet 7 = .ok (.iload_n 2, 1) := by decide +kernel
theorem dX11_sheet_8 : decode cX11_sheet 8 = .ok (.iconst (-1), 1) := by decide +kernel
theorem dX11_sheet_9 : decode cX11_sheet 9 = .ok (.if_icmp .lt 8, 3) := by decide +kernel
theorem dX11_sheet_12 : decode cX11_sheet 12 = .ok (.iload_n 2, 1) := by decide +kernel
theorem dX11_sheet_13 : decode cX11_sheet 13 = .ok (.iconst 4, 1) := by decide +kernel
theorem dX11_sheet_14 : decode cX11_sheet 14 = .ok (.if_icmp .lt 5, 3) := by decide +kernel
theorem dX11_sheet_17 : decode cX11_sheet 17 = .ok (.iconst (-1), 1) := by decide +kernel
theorem dX11_sheet_18 : decode cX11_sheet 18 = .ok (.ireturn, 1) := by decide +kernel
theorem dX11_sheet_19 : decode cX11_sheet 19 = .ok (.iload_n 2, 1) := by decide +kernel
theorem dX11_sheet_20 : decode cX11_sheet 20 = .ok (.iconst (-1), 1) := by decide +kernel
theorem dX11_sheet_21 : decode cX11_sheet 21 = .ok (.if_icmp .eq 11, 3) := by decide +kernel
theorem dX11_sheet_24 : decode cX11_sheet 24 = .ok (.iload_n 3, 1) := by decide +kernel
theorem dX11_sheet_25 : decode cX11_sheet 25 = .ok (.bipush 40, 2) := by decide +kernel
theorem dX11_sheet_27 : decode cX11_sheet 27 = .ok (.if_icmp .le 5, 3) := by decide +kernel
theorem dX11_sheet_30 : decode cX11_sheet 30 = .ok (.iconst (-1), 1) := by decide +kernel
theorem dX11_sheet_31 : decode cX11_sheet 31 = .ok (.ireturn, 1) := by decide +kernel
theorem dX11_sheet_32 : decode cX11_sheet 32 = .ok (.iload_n 2, 1) := by decide +kernel
theorem dX11_sheet_33 : decode cX11_sheet 33 = .ok (.iconst (-1), 1) := by decide +kernel
theorem dX11_sheet_34 : decode cX11_sheet 34 = .ok (.if_icmp .eq 10, 3) := by decide +kernel
theorem dX11_sheet_37 : decode cX11_sheet 37 = .ok (.iload_n 3, 1) := by decide +kernel
theorem dX11_sheet_38 : decode cX11_sheet 38 = .ok (.ifCond .ge 6, 3) := by decide +kernel
theorem dX11_sheet_41 : decode cX11_sheet 41 = .ok (.bipush (-14), 2) := by decide +kernel
theorem dX11_sheet_43 : decode cX11_sheet 43 = .ok (.ireturn, 1) := by decide +kernel
theorem dX11_sheet_44 : decode cX11_sheet 44 = .ok (.aload_n 0, 1) := by decide +kernel
theorem dX11_sheet_45 : decode cX11_sheet 45 = .ok (.getfield 48, 3) := by decide +kernel
theorem dX11_sheet_48 : decode cX11_sheet 48 = .ok (.iload_n 1, 1) := by decide +kernel
theorem dX11_sheet_49 : decode cX11_sheet 49 = .ok (.aaload, 1) := by decide +kernel
theorem dX11_sheet_50 : decode cX11_sheet 50 = .ok (.iload_n 2, 1) := by decide +kernel
theorem dX11_sheet_51 : decode cX11_sheet 51 = .ok (.iload_n 2, 1) := by decide +kernel
theorem dX11_sheet_52 : decode cX11_sheet 52 = .ok (.iconst (-1), 1) := by decide +kernel
theorem dX11_sheet_53 : decode cX11_sheet 53 = .ok (.if_icmp .ne 7, 3) := by decide +kernel
theorem dX11_sheet_56 : decode cX11_sheet 56 = .ok (.iconst 0, 1) := by decide +kernel
theorem dX11_sheet_57 : decode cX11_sheet 57 = .ok (.goto 4, 3) := by decide +kernel
theorem dX11_sheet_60 : decode cX11_sheet 60 = .ok (.iload_n 3, 1) := by decide +kernel
theorem dX11_sheet_61 : decode cX11_sheet 61 = .ok (.invokevirtual 280, 3) := by decide +kernel
theorem dX11_sheet_64 : decode cX11_sheet 64 = .ok (.iconst 1, 1) := by decide +kernel
theorem dX11_sheet_65 : decode cX11_sheet 65 = .ok (.ireturn, 1) := by decide +kernel
theorem dX11_put_0 : decode cX11_put 0 = .ok (.iload_n 1, 1) := by decide +kernel
theorem dX11_put_1 : decode cX11_put 1 = .ok (.invokestatic 237, 3) := by decide +kernel
theorem dX11_put_4 : decode cX11_put 4 = .ok (.ifCond .ne 5, 3) := by decide +kernel
theorem dX11_put_7 : decode cX11_put 7 = .ok (.iconst (-1), 1) := by decide +kernel
theorem dX11_put_8 : decode cX11_put 8 = .ok (.ireturn, 1) := by decide +kernel
theorem dX11_put_9 : decode cX11_put 9 = .ok (.aload_n 0, 1) := by decide +kernel
theorem dX11_put_10 : decode cX11_put 10 = .ok (.getfield 48, 3) := by decide +kernel
theorem dX11_put_13 : decode cX11_put 13 = .ok (.iload_n 1, 1) := by decide +kernel
theorem dX11_put_14 : decode cX11_put 14 = .ok (.aaload, 1) := by decide +kernel
theorem dX11_put_15 : decode cX11_put 15 = .ok (.astore 4, 2) := by decide +kernel
theorem dX11_put_17 : decode cX11_put 17 = .ok (.aload 4, 2) := by decide +kernel
theorem dX11_put_19 : decode cX11_put 19 = .ok (.getfield 240, 3) := by decide +kernel
theorem dX11_put_22 : decode cX11_put 22 = .ok (.iconst (-1), 1) := by decide +kernel
theorem dX11_put_23 : decode cX11_put 23 = .ok (.if_icmp .ne 6, 3) := by decide +kernel
theorem dX11_put_26 : decode cX11_put 26 = .ok (.bipush (-11), 2) := by decide +kernel
theorem dX11_put_28 : decode cX11_put 28 = .ok (.ireturn, 1) := by decide +kernel
theorem dX11_put_29 : decode cX11_put 29 = .ok (.iload_n 2, 1) := by decide +kernel
theorem dX11_put_30 : decode cX11_put 30 = .ok (.ifCond .lt 12, 3) := by decide +kernel
theorem dX11_put_33 : decode cX11_put 33 = .ok (.iload_n 2, 1) := by decide +kernel
theorem dX11_put_34 : decode cX11_put 34 = .ok (.aload 4, 2) := by decide +kernel
theorem dX11_put_36 : decode cX11_put 36 = .ok (.getfield 274, 3) := by decide +kernel
theorem dX11_put_39 : decode cX11_put 39 = .ok (.if_icmp .lt 6, 3) := by decide +kernel
theorem dX11_put_42 : decode cX11_put 42 = .ok (.bipush (-12), 2) := by decide +kernel
theorem dX11_put_44 : decode cX11_put 44 = .ok (.ireturn, 1) := by decide +kernel
theorem dX11_put_45 : decode cX11_put 45 = .ok (.aload 4, 2) := by decide +kernel
theorem dX11_put_47 : decode cX11_put 47 = .ok (.getfield 277, 3) := by decide +kernel
theorem dX11_put_50 : decode cX11_put 50 = .ok (.iload_n 2, 1) := by decide +kernel
theorem dX11_put_51 : decode cX11_put 51 = .ok (.aload 4, 2) := by decide +kernel
theorem dX11_put_53 : decode cX11_put 53 = .ok (.iload_n 3, 1) := by decide +kernel
theorem dX11_put_54 : decode cX11_put 54 = .ok (.invokevirtual 284, 3) := by decide +kernel
theorem dX11_put_57 : decode cX11_put 57 = .ok (.iastore, 1) := by decide +kernel
theorem dX11_put_58 : decode cX11_put 58 = .ok (.iconst 1, 1) := by decide +kernel
theorem dX11_put_59 : decode cX11_put 59 = .ok (.ireturn, 1) := by decide +kernel
theorem dX11_item_0 : decode cX11_item 0 = .ok (.iload_n 1, 1) := by decide +kernel
theorem dX11_item_1 : decode cX11_item 1 = .ok (.invokestatic 237, 3) := by decide +kernel
theorem dX11_item_4 : decode cX11_item 4 = .ok (.ifCond .eq 12, 3) := by decide +kernel
theorem dX11_item_7 : decode cX11_item 7 = .ok (.iload_n 2, 1) := by decide +kernel
theorem dX11_item_8 : decode cX11_item 8 = .ok (.ifCond .lt 8, 3) := by decide +kernel
theorem dX11_item_11 : decode cX11_item 11 = .ok (.iload_n 2, 1) := by decide +kernel
theorem dX11_item_12 : decode cX11_item 12 = .ok (.iconst 4, 1) := by decide +kernel
theorem dX11_item_13 : decode cX11_item 13 = .ok (.if_icmp .lt 5, 3) := by decide +kernel
theorem dX11_item_16 : decode cX11_item 16 = .ok (.iconst (-1), 1) := by decide +kernel
theorem dX11_item_17 : decode cX11_item 17 = .ok (.ireturn, 1) := by decide +kernel
theorem dX11_item_18 : decode cX11_item 18 = .ok (.aload_n 0, 1) := by decide +kernel
theorem dX11_item_19 : decode cX11_item 19 = .ok (.getfield 48, 3) := by decide +kernel
theorem dX11_item_22 : decode cX11_item 22 = .ok (.iload_n 1, 1) := by decide +kernel
theorem dX11_item_23 : decode cX11_item 23 = .ok (.aaload, 1) := by decide +kernel
theorem dX11_item_24 : decode cX11_item 24 = .ok (.astore 4, 2) := by decide +kernel
theorem dX11_item_26 : decode cX11_item 26 = .ok (.aload 4, 2) := by decide +kernel
theorem dX11_item_28 : decode cX11_item 28 = .ok (.getfield 240, 3) := by decide +kernel
theorem dX11_item_31 : decode cX11_item 31 = .ok (.iconst (-1), 1) := by decide +kernel
theorem dX11_item_32 : decode cX11_item 32 = .ok (.if_icmp .ne 6, 3) := by decide +kernel
theorem dX11_item_35 : decode cX11_item 35 = .ok (.bipush (-11), 2) := by decide +kernel
theorem dX11_item_37 : decode cX11_item 37 = .ok (.ireturn, 1) := by decide +kernel
theorem dX11_item_38 : decode cX11_item 38 = .ok (.aload 4, 2) := by decide +kernel
theorem dX11_item_40 : decode cX11_item 40 = .ok (.getfield 240, 3) := by decide +kernel
theorem dX11_item_43 : decode cX11_item 43 = .ok (.iload_n 2, 1) := by decide +kernel
theorem dX11_item_44 : decode cX11_item 44 = .ok (.if_icmp .eq 6, 3) := by decide +kernel
theorem dX11_item_47 : decode cX11_item 47 = .ok (.bipush (-13), 2) := by decide +kernel
theorem dX11_item_49 : decode cX11_item 49 = .ok (.ireturn, 1) := by decide +kernel
theorem dX11_item_50 : decode cX11_item 50 = .ok (.iload_n 3, 1) := by decide +kernel
theorem dX11_item_51 : decode cX11_item 51 = .ok (.ifCond .lt 22, 3) := by decide +kernel
theorem dX11_item_54 : decode cX11_item 54 = .ok (.iload_n 3, 1) := by decide +kernel
theorem dX11_item_55 : decode cX11_item 55 = .ok (.aload 4, 2) := by decide +kernel
theorem dX11_item_57 : decode cX11_item 57 = .ok (.getfield 274, 3) := by decide +kernel
theorem dX11_item_60 : decode cX11_item 60 = .ok (.if_icmp .ge 13, 3) := by decide +kernel
theorem dX11_item_63 : decode cX11_item 63 = .ok (.aload 4, 2) := by decide +kernel
theorem dX11_item_65 : decode cX11_item 65 = .ok (.getfield 277, 3) := by decide +kernel
theorem dX11_item_68 : decode cX11_item 68 = .ok (.iload_n 3, 1) := by decide +kernel
theorem dX11_item_69 : decode cX11_item 69 = .ok (.iaload, 1) := by decide +kernel
theorem dX11_item_70 : decode cX11_item 70 = .ok (.goto 5, 3) := by decide +kernel
theorem dX11_item_73 : decode cX11_item 73 = .ok (.bipush (-12), 2) := by decide +kernel
theorem dX11_item_75 : decode cX11_item 75 = .ok (.ireturn, 1) := by decide +kernel
theorem dX11_shelf_0 : decode cX11_shelf 0 = .ok (.iload_n 1, 1) := by decide +kernel
theorem dX11_shelf_1 : decode cX11_shelf 1 = .ok (.invokestatic 287, 3) := by decide +kernel
theorem dX11_shelf_4 : decode cX11_shelf 4 = .ok (.ifCond .ne 5, 3) := by decide +kernel
theorem dX11_shelf_7 : decode cX11_shelf 7 = .ok (.iconst (-1), 1) := by decide +kernel
theorem dX11_shelf_8 : decode cX11_shelf 8 = .ok (.ireturn, 1) := by decide +kernel
theorem dX11_shelf_9 : decode cX11_shelf 9 = .ok (.iload_n 2, 1) := by decide +kernel
theorem dX11_shelf_10 : decode cX11_shelf 10 = .ok (.tableswitch 103 0 2 #[26, 47, 94], 26) := by decide +kernel
theorem dX11_shelf_36 : decode cX11_shelf 36 = .ok (.aload_n 0, 1) := by decide +kernel
theorem dX11_shelf_37 : decode cX11_shelf 37 = .ok (.iload_n 3, 1) := by decide +kernel
theorem dX11_shelf_38 : decode cX11_shelf 38 = .ok (.invokevirtual 150, 3) := by decide +kernel
theorem dX11_shelf_41 : decode cX11_shelf 41 = .ok (.ifCond .eq 14, 3) := by decide +kernel
theorem dX11_shelf_44 : decode cX11_shelf 44 = .ok (.aload_n 0, 1) := by decide +kernel
theorem dX11_shelf_45 : decode cX11_shelf 45 = .ok (.iload_n 1, 1) := by decide +kernel
theorem dX11_shelf_46 : decode cX11_shelf 46 = .ok (.iconst 1, 1) := by decide +kernel
theorem dX11_shelf_47 : decode cX11_shelf 47 = .ok (.iload_n 3, 1) := by decide +kernel
theorem dX11_shelf_48 : decode cX11_shelf 48 = .ok (.iconst 0, 1) := by decide +kernel
theorem dX11_shelf_49 : decode cX11_shelf 49 = .ok (.invokevirtual 290, 3) := by decide +kernel
theorem dX11_shelf_52 : decode cX11_shelf 52 = .ok (.goto 4, 3) := by decide +kernel
theorem dX11_shelf_55 : decode cX11_shelf 55 = .ok (.iconst (-1), 1) := by decide +kernel
theorem dX11_shelf_56 : decode cX11_shelf 56 = .ok (.ireturn, 1) := by decide +kernel
theorem dX11_shelf_57 : decode cX11_shelf 57 = .ok (.iload_n 3, 1) := by decide +kernel
theorem dX11_shelf_58 : decode cX11_shelf 58 = .ok (.invokestatic 237, 3) := by decide +kernel
theorem dX11_shelf_61 : decode cX11_shelf 61 = .ok (.ifCond .ne 5, 3) := by decide +kernel
theorem dX11_shelf_64 : decode cX11_shelf 64 = .ok (.iconst (-1), 1) := by decide +kernel
theorem dX11_shelf_65 : decode cX11_shelf 65 = .ok (.ireturn, 1) := by decide +kernel
theorem dX11_shelf_66 : decode cX11_shelf 66 = .ok (.aload_n 0, 1) := by decide +kernel
theorem dX11_shelf_67 : decode cX11_shelf 67 = .ok (.getfield 48, 3) := by decide +kernel
theorem dX11_shelf_70 : decode cX11_shelf 70 = .ok (.iload_n 3, 1) := by decide +kernel
theorem dX11_shelf_71 : decode cX11_shelf 71 = .ok (.aaload, 1) := by decide +kernel
theorem dX11_shelf_72 : decode cX11_shelf 72 = .ok (.astore 4, 2) := by decide +kernel
theorem dX11_shelf_74 : decode cX11_shelf 74 = .ok (.aload_n 0, 1) := by decide +kernel
theorem dX11_shelf_75 : decode cX11_shelf 75 = .ok (.iload_n 1, 1) := by decide +kernel
theorem dX11_shelf_76 : decode cX11_shelf 76 = .ok (.aload 4, 2) := by decide +kernel
theorem dX11_shelf_78 : decode cX11_shelf 78 = .ok (.getfield 240, 3) := by decide +kernel
theorem dX11_shelf_81 : decode cX11_shelf 81 = .ok (.iconst (-1), 1) := by decide +kernel
theorem dX11_shelf_82 : decode cX11_shelf 82 = .ok (.if_icmp .ne 7, 3) := by decide +kernel
theorem dX11_shelf_85 : decode cX11_shelf 85 = .ok (.iconst 0, 1) := by decide +kernel
theorem dX11_shelf_86 : decode cX11_shelf 86 = .ok (.goto 4, 3) := by decide +kernel
theorem dX11_shelf_89 : decode cX11_shelf 89 = .ok (.iconst 2, 1) := by decide +kernel
theorem dX11_shelf_90 : decode cX11_shelf 90 = .ok (.aload 4, 2) := by decide +kernel
theorem dX11_shelf_92 : decode cX11_shelf 92 = .ok (.getfield 274, 3) := by decide +kernel
theorem dX11_shelf_95 : decode cX11_shelf 95 = .ok (.aload 4, 2) := by decide +kernel
theorem dX11_shelf_97 : decode cX11_shelf 97 = .ok (.getfield 240, 3) := by decide +kernel
theorem dX11_shelf_100 : decode cX11_shelf 100 = .ok (.invokevirtual 290, 3) := by decide +kernel
theorem dX11_shelf_103 : decode cX11_shelf 103 = .ok (.ireturn, 1) := by decide +kernel
theorem dX11_shelf_104 : decode cX11_shelf 104 = .ok (.aload_n 0, 1) := by decide +kernel
theorem dX11_shelf_105 : decode cX11_shelf 105 = .ok (.iload_n 1, 1) := by decide +kernel
theorem dX11_shelf_106 : decode cX11_shelf 106 = .ok (.iconst 0, 1) := by decide +kernel
theorem dX11_shelf_107 : decode cX11_shelf 107 = .ok (.iconst 0, 1) := by decide +kernel
theorem dX11_shelf_108 : decode cX11_shelf 108 = .ok (.iconst 0, 1) := by decide +kernel
theorem dX11_shelf_109 : decode cX11_shelf 109 = .ok (.invokevirtual 290, 3) := by decide +kernel
theorem dX11_shelf_112 : decode cX11_shelf 112 = .ok (.ireturn, 1) := by decide +kernel
theorem dX11_shelf_113 : decode cX11_shelf 113 = .ok (.iconst (-1), 1) := by decide +kernel
theorem dX11_shelf_114 : decode cX11_shelf 114 = .ok (.ireturn, 1) := by decide +kernel
theorem dX11_taken_0 : decode cX11_taken 0 = .ok (.iload_n 2, 1) := by decide +kernel
theorem dX11_taken_1 : decode cX11_taken 1 = .ok (.bipush 10, 2) := by decide +kernel
theorem dX11_taken_3 : decode cX11_taken 3 = .ok (.if_icmp .lt 13, 3) := by decide +kernel
theorem dX11_taken_6 : decode cX11_taken 6 = .ok (.iload_n 2, 1) := by decide +kernel
theorem dX11_taken_7 : decode cX11_taken 7 = .ok (.bipush 14, 2) := by decide +kernel
theorem dX11_taken_9 : decode cX11_taken 9 = .ok (.if_icmp .ge 7, 3) := by decide +kernel
theorem dX11_taken_12 : decode cX11_taken 12 = .ok (.iconst 1, 1) := by decide +kernel
theorem dX11_taken_13 : decode cX11_taken 13 = .ok (.goto 4, 3) := by decide +kernel
theorem dX11_taken_16 : decode cX11_taken 16 = .ok (.iconst 0, 1) := by decide +kernel
theorem dX11_taken_17 : decode cX11_taken 17 = .ok (.istore_n 3, 1) := by decide +kernel
theorem dX11_taken_18 : decode cX11_taken 18 = .ok (.iload_n 1, 1) := by decide +kernel
theorem dX11_taken_19 : decode cX11_taken 19 = .ok (.invokestatic 287, 3) := by decide +kernel
theorem dX11_taken_22 : decode cX11_taken 22 = .ok (.ifCond .eq 14, 3) := by decide +kernel
theorem dX11_taken_25 : decode cX11_taken 25 = .ok (.iload_n 2, 1) := by decide +kernel
theorem dX11_taken_26 : decode cX11_taken 26 = .ok (.invokestatic 143, 3) := by decide +kernel
theorem dX11_taken_29 : decode cX11_taken 29 = .ok (.ifCond .ne 9, 3) := by decide +kernel
theorem dX11_taken_32 : decode cX11_taken 32 = .ok (.iload_n 3, 1) := by decide +kernel
theorem dX11_taken_33 : decode cX11_taken 33 = .ok (.ifCond .ne 5, 3) := by decide +kernel
theorem dX11_taken_36 : decode cX11_taken 36 = .ok (.iconst (-1), 1) := by decide +kernel
theorem dX11_taken_37 : decode cX11_taken 37 = .ok (.ireturn, 1) := by decide +kernel
theorem dX11_taken_38 : decode cX11_taken 38 = .ok (.aload_n 0, 1) := by decide +kernel
theorem dX11_taken_39 : decode cX11_taken 39 = .ok (.iload_n 1, 1) := by decide +kernel
theorem dX11_taken_40 : decode cX11_taken 40 = .ok (.invokevirtual 294, 3) := by decide +kernel
theorem dX11_taken_43 : decode cX11_taken 43 = .ok (.ifCond .eq 6, 3) := by decide +kernel
theorem dX11_taken_46 : decode cX11_taken 46 = .ok (.bipush (-11), 2) := by decide +kernel
theorem dX11_taken_48 : decode cX11_taken 48 = .ok (.ireturn, 1) := by decide +kernel
theorem dX11_taken_49 : decode cX11_taken 49 = .ok (.aload_n 0, 1) := by decide +kernel
theorem dX11_taken_50 : decode cX11_taken 50 = .ok (.getfield 55, 3) := by decide +kernel
theorem dX11_taken_53 : decode cX11_taken 53 = .ok (.iload_n 1, 1) := by decide +kernel
theorem dX11_taken_54 : decode cX11_taken 54 = .ok (.iaload, 1) := by decide +kernel
theorem dX11_taken_55 : decode cX11_taken 55 = .ok (.istore 4, 2) := by decide +kernel
theorem dX11_taken_57 : decode cX11_taken 57 = .ok (.aload_n 0, 1) := by decide +kernel
theorem dX11_taken_58 : decode cX11_taken 58 = .ok (.getfield 52, 3) := by decide +kernel
theorem dX11_taken_61 : decode cX11_taken 61 = .ok (.iload_n 1, 1) := by decide +kernel
theorem dX11_taken_62 : decode cX11_taken 62 = .ok (.iaload, 1) := by decide +kernel
theorem dX11_taken_63 : decode cX11_taken 63 = .ok (.iconst 2, 1) := by decide +kernel
theorem dX11_taken_64 : decode cX11_taken 64 = .ok (.if_icmp .ne 28, 3) := by decide +kernel
theorem dX11_taken_67 : decode cX11_taken 67 = .ok (.iload_n 3, 1) := by decide +kernel
theorem dX11_taken_68 : decode cX11_taken 68 = .ok (.ifCond .eq 21, 3) := by decide +kernel
theorem dX11_taken_71 : decode cX11_taken 71 = .ok (.aload_n 0, 1) := by decide +kernel
theorem dX11_taken_72 : decode cX11_taken 72 = .ok (.getfield 58, 3) := by decide +kernel
theorem dX11_taken_75 : decode cX11_taken 75 = .ok (.iload_n 1, 1) := by decide +kernel
theorem dX11_taken_76 : decode cX11_taken 76 = .ok (.iaload, 1) := by decide +kernel
theorem dX11_taken_77 : decode cX11_taken 77 = .ok (.iload_n 2, 1) := by decide +kernel
theorem dX11_taken_78 : decode cX11_taken 78 = .ok (.bipush 10, 2) := by decide +kernel
theorem dX11_taken_80 : decode cX11_taken 80 = .ok (.isub, 1) := by decide +kernel
theorem dX11_taken_81 : decode cX11_taken 81 = .ok (.if_icmp .ne 8, 3) := by decide +kernel
theorem dX11_taken_84 : decode cX11_taken 84 = .ok (.iload 4, 2) := by decide +kernel
theorem dX11_taken_86 : decode cX11_taken 86 = .ok (.goto 5, 3) := by decide +kernel
theorem dX11_taken_89 : decode cX11_taken 89 = .ok (.bipush (-13), 2) := by decide +kernel
theorem dX11_taken_91 : decode cX11_taken 91 = .ok (.ireturn, 1) := by decide +kernel
theorem dX11_taken_92 : decode cX11_taken 92 = .ok (.iload_n 3, 1) := by decide +kernel
theorem dX11_taken_93 : decode cX11_taken 93 = .ok (.ifCond .ne 25, 3) := by decide +kernel
theorem dX11_taken_96 : decode cX11_taken 96 = .ok (.aload_n 0, 1) := by decide +kernel
theorem dX11_taken_97 : decode cX11_taken 97 = .ok (.getfield 10, 3) := by decide +kernel
theorem dX11_taken_100 : decode cX11_taken 100 = .ok (.getfield 153, 3) := by decide +kernel
theorem dX11_taken_103 : decode cX11_taken 103 = .ok (.iload 4, 2) := by decide +kernel
theorem dX11_taken_105 : decode cX11_taken 105 = .ok (.iaload, 1) := by decide +kernel
theorem dX11_taken_106 : decode cX11_taken 106 = .ok (.iload_n 2, 1) := by decide +kernel
theorem dX11_taken_107 : decode cX11_taken 107 = .ok (.invokestatic 297, 3) := by decide +kernel
theorem dX11_taken_110 : decode cX11_taken 110 = .ok (.ifCond .eq 8, 3) := by decide +kernel
theorem dX11_taken_113 : decode cX11_taken 113 = .ok (.iload 4, 2) := by decide +kernel
theorem dX11_taken_115 : decode cX11_taken 115 = .ok (.goto 5, 3) := by decide +kernel
theorem dX11_taken_118 : decode cX11_taken 118 = .ok (.bipush (-13), 2) := by decide +kernel
theorem dX11_taken_120 : decode cX11_taken 120 = .ok (.ireturn, 1) := by decide +kernel
theorem dX11_act_0 : decode cX11_act 0 = .ok (.aload_n 0, 1) := by decide +kernel
theorem dX11_act_1 : decode cX11_act 1 = .ok (.getfield 64, 3) := by decide +kernel
theorem dX11_act_4 : decode cX11_act 4 = .ok (.invokevirtual 300, 3) := by decide +kernel
theorem dX11_act_7 : decode cX11_act 7 = .ok (.iload_n 1, 1) := by decide +kernel
theorem dX11_act_8 : decode cX11_act 8 = .ok (.invokestatic 287, 3) := by decide +kernel
theorem dX11_act_11 : decode cX11_act 11 = .ok (.ifCond .eq 30, 3) := by decide +kernel
theorem dX11_act_14 : decode cX11_act 14 = .ok (.iload_n 2, 1) := by decide +kernel
theorem dX11_act_15 : decode cX11_act 15 = .ok (.ifCond .lt 26, 3) := by decide +kernel
theorem dX11_act_18 : decode cX11_act 18 = .ok (.iload_n 2, 1) := by decide +kernel
theorem dX11_act_19 : decode cX11_act 19 = .ok (.iconst 3, 1) := by decide +kernel
theorem dX11_act_20 : decode cX11_act 20 = .ok (.if_icmp .gt 21, 3) := by decide +kernel
theorem dX11_act_23 : decode cX11_act 23 = .ok (.aload_n 0, 1) := by decide +kernel
theorem dX11_act_24 : decode cX11_act 24 = .ok (.iload_n 1, 1) := by decide +kernel
theorem dX11_act_25 : decode cX11_act 25 = .ok (.invokevirtual 294, 3) := by decide +kernel
theorem dX11_act_28 : decode cX11_act 28 = .ok (.ifCond .ne 13, 3) := by decide +kernel
theorem dX11_act_31 : decode cX11_act 31 = .ok (.aload_n 0, 1) := by decide +kernel
theorem dX11_act_32 : decode cX11_act 32 = .ok (.getfield 52, 3) := by decide +kernel
theorem dX11_act_35 : decode cX11_act 35 = .ok (.iload_n 1, 1) := by decide +kernel
theorem dX11_act_36 : decode cX11_act 36 = .ok (.iaload, 1) := by decide +kernel
theorem dX11_act_37 : decode cX11_act 37 = .ok (.iconst 2, 1) := by decide +kernel
theorem dX11_act_38 : decode cX11_act 38 = .ok (.if_icmp .ne 5, 3) := by decide +kernel
theorem dX11_act_41 : decode cX11_act 41 = .ok (.iconst 0, 1) := by decide +kernel
theorem dX11_act_42 : decode cX11_act 42 = .ok (.ireturn, 1) := by decide +kernel
theorem dX11_act_43 : decode cX11_act 43 = .ok (.aload_n 0, 1) := by decide +kernel
theorem dX11_act_44 : decode cX11_act 44 = .ok (.getfield 55, 3) := by decide +kernel
theorem dX11_act_47 : decode cX11_act 47 = .ok (.iload_n 1, 1) := by decide +kernel
theorem dX11_act_48 : decode cX11_act 48 = .ok (.iaload, 1) := by decide +kernel
theorem dX11_act_49 : decode cX11_act 49 = .ok (.istore 4, 2) := by decide +kernel
theorem dX11_act_51 : decode cX11_act 51 = .ok (.aload_n 0, 1) := by decide +kernel
theorem dX11_act_52 : decode cX11_act 52 = .ok (.getfield 88, 3) := by decide +kernel
theorem dX11_act_55 : decode cX11_act 55 = .ok (.aload_n 0, 1) := by decide +kernel
theorem dX11_act_56 : decode cX11_act 56 = .ok (.getfield 10, 3) := by decide +kernel
theorem dX11_act_59 : decode cX11_act 59 = .ok (.getfield 153, 3) := by decide +kernel
theorem dX11_act_62 : decode cX11_act 62 = .ok (.iload 4, 2) := by decide +kernel
theorem dX11_act_64 : decode cX11_act 64 = .ok (.iaload, 1) := by decide +kernel
theorem dX11_act_65 : decode cX11_act 65 = .ok (.aaload, 1) := by decide +kernel
theorem dX11_act_66 : decode cX11_act 66 = .ok (.astore 5, 2) := by decide +kernel
theorem dX11_act_68 : decode cX11_act 68 = .ok (.aload 5, 2) := by decide +kernel
theorem dX11_act_70 : decode cX11_act 70 = .ok (.iload 4, 2) := by decide +kernel
theorem dX11_act_72 : decode cX11_act 72 = .ok (.aload_n 0, 1) := by decide +kernel
theorem dX11_act_73 : decode cX11_act 73 = .ok (.getfield 10, 3) := by decide +kernel
theorem dX11_act_76 : decode cX11_act 76 = .ok (.getfield 156, 3) := by decide +kernel
theorem dX11_act_79 : decode cX11_act 79 = .ok (.iload 4, 2) := by decide +kernel
theorem dX11_act_81 : decode cX11_act 81 = .ok (.iaload, 1) := by decide +kernel
theorem dX11_act_82 : decode cX11_act 82 = .ok (.invokevirtual 303, 3) := by decide +kernel
theorem dX11_act_85 : decode cX11_act 85 = .ok (.iconst 0, 1) := by decide +kernel
theorem dX11_act_86 : decode cX11_act 86 = .ok (.istore 6, 2) := by decide +kernel
theorem dX11_act_88 : decode cX11_act 88 = .ok (.iload_n 2, 1) := by decide +kernel
theorem dX11_act_89 : decode cX11_act 89 = .ok (.tableswitch 60 0 2 #[27, 38, 49], 27) := by decide +kernel
theorem dX11_act_116 : decode cX11_act 116 = .ok (.aload 5, 2) := by decide +kernel
theorem dX11_act_118 : decode cX11_act 118 = .ok (.iload_n 3, 1) := by decide +kernel
theorem dX11_act_119 : decode cX11_act 119 = .ok (.invokevirtual 306, 3) := by decide +kernel
theorem dX11_act_122 : decode cX11_act 122 = .ok (.istore 6, 2) := by decide +kernel
theorem dX11_act_124 : decode cX11_act 124 = .ok (.goto 33, 3) := by decide +kernel
theorem dX11_act_127 : decode cX11_act 127 = .ok (.aload 5, 2) := by decide +kernel
theorem dX11_act_129 : decode cX11_act 129 = .ok (.iload_n 3, 1) := by decide +kernel
theorem dX11_act_130 : decode cX11_act 130 = .ok (.invokevirtual 309, 3) := by decide +kernel
theorem dX11_act_133 : decode cX11_act 133 = .ok (.istore 6, 2) := by decide +kernel
theorem dX11_act_135 : decode cX11_act 135 = .ok (.goto 22, 3) := by decide +kernel
theorem dX11_act_138 : decode cX11_act 138 = .ok (.aload 5, 2) := by decide +kernel
theorem dX11_act_140 : decode cX11_act 140 = .ok (.iload_n 3, 1) := by decide +kernel
theorem dX11_act_141 : decode cX11_act 141 = .ok (.invokevirtual 312, 3) := by decide +kernel
theorem dX11_act_144 : decode cX11_act 144 = .ok (.istore 6, 2) := by decide +kernel
theorem dX11_act_146 : decode cX11_act 146 = .ok (.goto 11, 3) := by decide +kernel
theorem dX11_act_149 : decode cX11_act 149 = .ok (.aload 5, 2) := by decide +kernel
theorem dX11_act_151 : decode cX11_act 151 = .ok (.iload_n 3, 1) := by decide +kernel
theorem dX11_act_152 : decode cX11_act 152 = .ok (.invokevirtual 315, 3) := by decide +kernel
theorem dX11_act_155 : decode cX11_act 155 = .ok (.istore 6, 2) := by decide +kernel
theorem dX11_act_157 : decode cX11_act 157 = .ok (.aload_n 0, 1) := by decide +kernel
theorem dX11_act_158 : decode cX11_act 158 = .ok (.getfield 64, 3) := by decide +kernel
theorem dX11_act_161 : decode cX11_act 161 = .ok (.getfield 318, 3) := by decide +kernel
theorem dX11_act_164 : decode cX11_act 164 = .ok (.ifCond .eq 8, 3) := by decide +kernel
theorem dX11_act_167 : decode cX11_act 167 = .ok (.bipush (-15), 2) := by decide +kernel
theorem dX11_act_169 : decode cX11_act 169 = .ok (.goto 5, 3) := by decide +kernel
theorem dX11_act_172 : decode cX11_act 172 = .ok (.iload 6, 2) := by decide +kernel
theorem dX11_act_174 : decode cX11_act 174 = .ok (.ireturn, 1) := by decide +kernel
theorem dX11_trace_0 : decode cX11_trace 0 = .ok (.iload_n 1, 1) := by decide +kernel
theorem dX11_trace_1 : decode cX11_trace 1 = .ok (.ifCond .lt 26, 3) := by decide +kernel
theorem dX11_trace_4 : decode cX11_trace 4 = .ok (.iload_n 1, 1) := by decide +kernel
theorem dX11_trace_5 : decode cX11_trace 5 = .ok (.aload_n 0, 1) := by decide +kernel
theorem dX11_trace_6 : decode cX11_trace 6 = .ok (.getfield 64, 3) := by decide +kernel
theorem dX11_trace_9 : decode cX11_trace 9 = .ok (.getfield 322, 3) := by decide +kernel
theorem dX11_trace_12 : decode cX11_trace 12 = .ok (.if_icmp .ge 15, 3) := by decide +kernel
theorem dX11_trace_15 : decode cX11_trace 15 = .ok (.aload_n 0, 1) := by decide +kernel
theorem dX11_trace_16 : decode cX11_trace 16 = .ok (.getfield 64, 3) := by decide +kernel
theorem dX11_trace_19 : decode cX11_trace 19 = .ok (.getfield 325, 3) := by decide +kernel
theorem dX11_trace_22 : decode cX11_trace 22 = .ok (.iload_n 1, 1) := by decide +kernel
theorem dX11_trace_23 : decode cX11_trace 23 = .ok (.iaload, 1) := by decide +kernel
theorem dX11_trace_24 : decode cX11_trace 24 = .ok (.goto 5, 3) := by decide +kernel
theorem dX11_trace_27 : decode cX11_trace 27 = .ok (.bipush (-3), 2) := by decide +kernel
theorem dX11_trace_29 : decode cX11_trace 29 = .ok (.ireturn, 1) := by decide +kernel
theorem dX11_many_0 : decode cX11_many 0 = .ok (.iload_n 1, 1) := by decide +kernel
theorem dX11_many_1 : decode cX11_many 1 = .ok (.tableswitch 109 0 6 #[43, 51, 62, 80, 88, 93, 101], 43) := by decide +kernel
theorem dX11_many_44 : decode cX11_many 44 = .ok (.aload_n 0, 1) := by decide +kernel
theorem dX11_many_45 : decode cX11_many 45 = .ok (.getfield 10, 3) := by decide +kernel
theorem dX11_many_48 : decode cX11_many 48 = .ok (.getfield 114, 3) := by decide +kernel
theorem dX11_many_51 : decode cX11_many 51 = .ok (.ireturn, 1) := by decide +kernel
theorem dX11_many_52 : decode cX11_many 52 = .ok (.aload_n 0, 1) := by decide +kernel
theorem dX11_many_53 : decode cX11_many 53 = .ok (.getfield 10, 3) := by decide +kernel
theorem dX11_many_56 : decode cX11_many 56 = .ok (.invokevirtual 203, 3) := by decide +kernel
theorem dX11_many_59 : decode cX11_many 59 = .ok (.invokestatic 328, 3) := by decide +kernel
theorem dX11_many_62 : decode cX11_many 62 = .ok (.ireturn, 1) := by decide +kernel
theorem dX11_many_63 : decode cX11_many 63 = .ok (.aload_n 0, 1) := by decide +kernel
theorem dX11_many_64 : decode cX11_many 64 = .ok (.getfield 10, 3) := by decide +kernel
theorem dX11_many_67 : decode cX11_many 67 = .ok (.invokevirtual 133, 3) := by decide +kernel
theorem dX11_many_70 : decode cX11_many 70 = .ok (.aload_n 0, 1) := by decide +kernel
theorem dX11_many_71 : decode cX11_many 71 = .ok (.getfield 10, 3) := by decide +kernel
theorem dX11_many_74 : decode cX11_many 74 = .ok (.invokevirtual 200, 3) := by decide +kernel
theorem dX11_many_77 : decode cX11_many 77 = .ok (.invokestatic 328, 3) := by decide +kernel
theorem dX11_many_80 : decode cX11_many 80 = .ok (.ireturn, 1) := by decide +kernel
theorem dX11_many_81 : decode cX11_many 81 = .ok (.aload_n 0, 1) := by decide +kernel
theorem dX11_many_82 : decode cX11_many 82 = .ok (.getfield 10, 3) := by decide +kernel
theorem dX11_many_85 : decode cX11_many 85 = .ok (.invokevirtual 333, 3) := by decide +kernel
theorem dX11_many_88 : decode cX11_many 88 = .ok (.ireturn, 1) := by decide +kernel
theorem dX11_many_89 : decode cX11_many 89 = .ok (.aload_n 0, 1) := by decide +kernel
theorem dX11_many_90 : decode cX11_many 90 = .ok (.getfield 111, 3) := by decide +kernel
theorem dX11_many_93 : decode cX11_many 93 = .ok (.ireturn, 1) := by decide +kernel
theorem dX11_many_94 : decode cX11_many 94 = .ok (.aload_n 0, 1) := by decide +kernel
theorem dX11_many_95 : decode cX11_many 95 = .ok (.getfield 34, 3) := by decide +kernel
theorem dX11_many_98 : decode cX11_many 98 = .ok (.getfield 96, 3) := by decide +kernel
theorem dX11_many_101 : decode cX11_many 101 = .ok (.ireturn, 1) := by decide +kernel
theorem dX11_many_102 : decode cX11_many 102 = .ok (.aload_n 0, 1) := by decide +kernel
theorem dX11_many_103 : decode cX11_many 103 = .ok (.getfield 64, 3) := by decide +kernel
theorem dX11_many_106 : decode cX11_many 106 = .ok (.getfield 322, 3) := by decide +kernel
theorem dX11_many_109 : decode cX11_many 109 = .ok (.ireturn, 1) := by decide +kernel
theorem dX11_many_110 : decode cX11_many 110 = .ok (.iconst (-1), 1) := by decide +kernel
theorem dX11_many_111 : decode cX11_many 111 = .ok (.ireturn, 1) := by decide +kernel
theorem dX11_keep_0 : decode cX11_keep 0 = .ok (.aload_n 0, 1) := by decide +kernel
theorem dX11_keep_1 : decode cX11_keep 1 = .ok (.getfield 19, 3) := by decide +kernel
theorem dX11_keep_4 : decode cX11_keep 4 = .ok (.aload_n 0, 1) := by decide +kernel
theorem dX11_keep_5 : decode cX11_keep 5 = .ok (.getfield 10, 3) := by decide +kernel
theorem dX11_keep_8 : decode cX11_keep 8 = .ok (.invokevirtual 107, 3) := by decide +kernel
theorem dX11_keep_11 : decode cX11_keep 11 = .ok (.aload_n 0, 1) := by decide +kernel
theorem dX11_keep_12 : decode cX11_keep 12 = .ok (.iconst 1, 1) := by decide +kernel
theorem dX11_keep_13 : decode cX11_keep 13 = .ok (.putfield 336, 3) := by decide +kernel
theorem dX11_keep_16 : decode cX11_keep 16 = .ok (.iconst 1, 1) := by decide +kernel
theorem dX11_keep_17 : decode cX11_keep 17 = .ok (.ireturn, 1) := by decide +kernel
theorem dX11_again_0 : decode cX11_again 0 = .ok (.aload_n 0, 1) := by decide +kernel
theorem dX11_again_1 : decode cX11_again 1 = .ok (.getfield 336, 3) := by decide +kernel
theorem dX11_again_4 : decode cX11_again 4 = .ok (.ifCond .ne 6, 3) := by decide +kernel
theorem dX11_again_7 : decode cX11_again 7 = .ok (.bipush (-3), 2) := by decide +kernel
theorem dX11_again_9 : decode cX11_again 9 = .ok (.ireturn, 1) := by decide +kernel
theorem dX11_again_10 : decode cX11_again 10 = .ok (.aload_n 0, 1) := by decide +kernel
theorem dX11_again_11 : decode cX11_again 11 = .ok (.getfield 10, 3) := by decide +kernel
theorem dX11_again_14 : decode cX11_again 14 = .ok (.aload_n 0, 1) := by decide +kernel
theorem dX11_again_15 : decode cX11_again 15 = .ok (.getfield 19, 3) := by decide +kernel
theorem dX11_again_18 : decode cX11_again 18 = .ok (.invokevirtual 107, 3) := by decide +kernel
theorem dX11_again_21 : decode cX11_again 21 = .ok (.aload_n 0, 1) := by decide +kernel
theorem dX11_again_22 : decode cX11_again 22 = .ok (.getfield 10, 3) := by decide +kernel
theorem dX11_again_25 : decode cX11_again 25 = .ok (.getfield 114, 3) := by decide +kernel
theorem dX11_again_28 : decode cX11_again 28 = .ok (.ireturn, 1) := by decide +kernel
theorem dX11_isLaw_0 : decode cX11_isLaw 0 = .ok (.iload_n 0, 1) := by decide +kernel
theorem dX11_isLaw_1 : decode cX11_isLaw 1 = .ok (.ifCond .lt 12, 3) := by decide +kernel
theorem dX11_isLaw_4 : decode cX11_isLaw 4 = .ok (.iload_n 0, 1) := by decide +kernel
theorem dX11_isLaw_5 : decode cX11_isLaw 5 = .ok (.iconst 4, 1) := by decide +kernel
theorem dX11_isLaw_6 : decode cX11_isLaw 6 = .ok (.if_icmp .ge 7, 3) := by decide +kernel
theorem dX11_isLaw_9 : decode cX11_isLaw 9 = .ok (.iconst 1, 1) := by decide +kernel
theorem dX11_isLaw_10 : decode cX11_isLaw 10 = .ok (.goto 4, 3) := by decide +kernel
theorem dX11_isLaw_13 : decode cX11_isLaw 13 = .ok (.iconst 0, 1) := by decide +kernel
theorem dX11_isLaw_14 : decode cX11_isLaw 14 = .ok (.ireturn, 1) := by decide +kernel
theorem dX11_isPart_0 : decode cX11_isPart 0 = .ok (.iload_n 0, 1) := by decide +kernel
theorem dX11_isPart_1 : decode cX11_isPart 1 = .ok (.ifCond .lt 13, 3) := by decide +kernel
theorem dX11_isPart_4 : decode cX11_isPart 4 = .ok (.iload_n 0, 1) := by decide +kernel
theorem dX11_isPart_5 : decode cX11_isPart 5 = .ok (.bipush 8, 2) := by decide +kernel
theorem dX11_isPart_7 : decode cX11_isPart 7 = .ok (.if_icmp .ge 7, 3) := by decide +kernel
theorem dX11_isPart_10 : decode cX11_isPart 10 = .ok (.iconst 1, 1) := by decide +kernel
theorem dX11_isPart_11 : decode cX11_isPart 11 = .ok (.goto 4, 3) := by decide +kernel
theorem dX11_isPart_14 : decode cX11_isPart 14 = .ok (.iconst 0, 1) := by decide +kernel
theorem dX11_isPart_15 : decode cX11_isPart 15 = .ok (.ireturn, 1) := by decide +kernel
theorem dX11_isKind_0 : decode cX11_isKind 0 = .ok (.iload_n 0, 1) := by decide +kernel
theorem dX11_isKind_1 : decode cX11_isKind 1 = .ok (.ifCond .lt 13, 3) := by decide +kernel
theorem dX11_isKind_4 : decode cX11_isKind 4 = .ok (.iload_n 0, 1) := by decide +kernel
theorem dX11_isKind_5 : decode cX11_isKind 5 = .ok (.bipush 6, 2) := by decide +kernel
theorem dX11_isKind_7 : decode cX11_isKind 7 = .ok (.if_icmp .ge 7, 3) := by decide +kernel
theorem dX11_isKind_10 : decode cX11_isKind 10 = .ok (.iconst 1, 1) := by decide +kernel
theorem dX11_isKind_11 : decode cX11_isKind 11 = .ok (.goto 4, 3) := by decide +kernel
theorem dX11_isKind_14 : decode cX11_isKind 14 = .ok (.iconst 0, 1) := by decide +kernel
theorem dX11_isKind_15 : decode cX11_isKind 15 = .ok (.ireturn, 1) := by decide +kernel
theorem dX11_isSheet_0 : decode cX11_isSheet 0 = .ok (.iload_n 0, 1) := by decide +kernel
theorem dX11_isSheet_1 : decode cX11_isSheet 1 = .ok (.ifCond .lt 12, 3) := by decide +kernel
theorem dX11_isSheet_4 : decode cX11_isSheet 4 = .ok (.iload_n 0, 1) := by decide +kernel
theorem dX11_isSheet_5 : decode cX11_isSheet 5 = .ok (.iconst 4, 1) := by decide +kernel
theorem dX11_isSheet_6 : decode cX11_isSheet 6 = .ok (.if_icmp .ge 7, 3) := by decide +kernel
theorem dX11_isSheet_9 : decode cX11_isSheet 9 = .ok (.iconst 1, 1) := by decide +kernel
theorem dX11_isSheet_10 : decode cX11_isSheet 10 = .ok (.goto 4, 3) := by decide +kernel
theorem dX11_isSheet_13 : decode cX11_isSheet 13 = .ok (.iconst 0, 1) := by decide +kernel
theorem dX11_isSheet_14 : decode cX11_isSheet 14 = .ok (.ireturn, 1) := by decide +kernel
theorem dX11_isShelf_0 : decode cX11_isShelf 0 = .ok (.iload_n 0, 1) := by decide +kernel
theorem dX11_isShelf_1 : decode cX11_isShelf 1 = .ok (.ifCond .lt 12, 3) := by decide +kernel
theorem dX11_isShelf_4 : decode cX11_isShelf 4 = .ok (.iload_n 0, 1) := by decide +kernel
theorem dX11_isShelf_5 : decode cX11_isShelf 5 = .ok (.iconst 4, 1) := by decide +kernel
theorem dX11_isShelf_6 : decode cX11_isShelf 6 = .ok (.if_icmp .ge 7, 3) := by decide +kernel
theorem dX11_isShelf_9 : decode cX11_isShelf 9 = .ok (.iconst 1, 1) := by decide +kernel
theorem dX11_isShelf_10 : decode cX11_isShelf 10 = .ok (.goto 4, 3) := by decide +kernel
theorem dX11_isShelf_13 : decode cX11_isShelf 13 = .ok (.iconst 0, 1) := by decide +kernel
theorem dX11_isShelf_14 : decode cX11_isShelf 14 = .ok (.ireturn, 1) := by decide +kernel
theorem dX11_isPlayer_0 : decode cX11_isPlayer 0 = .ok (.iload_n 1, 1) := by decide +kernel
theorem dX11_isPlayer_1 : decode cX11_isPlayer 1 = .ok (.ifCond .lt 18, 3) := by decide +kernel
theorem dX11_isPlayer_4 : decode cX11_isPlayer 4 = .ok (.iload_n 1, 1) := by decide +kernel
theorem dX11_isPlayer_5 : decode cX11_isPlayer 5 = .ok (.aload_n 0, 1) := by decide +kernel
theorem dX11_isPlayer_6 : decode cX11_isPlayer 6 = .ok (.getfield 10, 3) := by decide +kernel
theorem dX11_isPlayer_9 : decode cX11_isPlayer 9 = .ok (.getfield 114, 3) := by decide +kernel
theorem dX11_isPlayer_12 : decode cX11_isPlayer 12 = .ok (.if_icmp .ge 7, 3) := by decide +kernel
theorem dX11_isPlayer_15 : decode cX11_isPlayer 15 = .ok (.iconst 1, 1) := by decide +kernel
theorem dX11_isPlayer_16 : decode cX11_isPlayer 16 = .ok (.goto 4, 3) := by decide +kernel
theorem dX11_isPlayer_19 : decode cX11_isPlayer 19 = .ok (.iconst 0, 1) := by decide +kernel
theorem dX11_isPlayer_20 : decode cX11_isPlayer 20 = .ok (.ireturn, 1) := by decide +kernel
theorem dX11_isRowCell_0 : decode cX11_isRowCell 0 = .ok (.iload_n 1, 1) := by decide +kernel
theorem dX11_isRowCell_1 : decode cX11_isRowCell 1 = .ok (.ifCond .lt 24, 3) := by decide +kernel
theorem dX11_isRowCell_4 : decode cX11_isRowCell 4 = .ok (.iload_n 1, 1) := by decide +kernel
theorem dX11_isRowCell_5 : decode cX11_isRowCell 5 = .ok (.aload_n 0, 1) := by decide +kernel
theorem dX11_isRowCell_6 : decode cX11_isRowCell 6 = .ok (.getfield 111, 3) := by decide +kernel
theorem dX11_isRowCell_9 : decode cX11_isRowCell 9 = .ok (.if_icmp .ge 16, 3) := by decide +kernel
theorem dX11_isRowCell_12 : decode cX11_isRowCell 12 = .ok (.iload_n 2, 1) := by decide +kernel
theorem dX11_isRowCell_13 : decode cX11_isRowCell 13 = .ok (.ifCond .lt 12, 3) := by decide +kernel
theorem dX11_isRowCell_16 : decode cX11_isRowCell 16 = .ok (.iload_n 2, 1) := by decide +kernel
theorem dX11_isRowCell_17 : decode cX11_isRowCell 17 = .ok (.iconst 3, 1) := by decide +kernel
theorem dX11_isRowCell_18 : decode cX11_isRowCell 18 = .ok (.if_icmp .ge 7, 3) := by decide +kernel
theorem dX11_isRowCell_21 : decode cX11_isRowCell 21 = .ok (.iconst 1, 1) := by decide +kernel
theorem dX11_isRowCell_22 : decode cX11_isRowCell 22 = .ok (.goto 4, 3) := by decide +kernel
theorem dX11_isRowCell_25 : decode cX11_isRowCell 25 = .ok (.iconst 0, 1) := by decide +kernel
theorem dX11_isRowCell_26 : decode cX11_isRowCell 26 = .ok (.ireturn, 1) := by decide +kernel
theorem dX11_shelve_0 : decode cX11_shelve 0 = .ok (.aload_n 0, 1) := by decide +kernel
theorem dX11_shelve_1 : decode cX11_shelve 1 = .ok (.getfield 52, 3) := by decide +kernel
theorem dX11_shelve_4 : decode cX11_shelve 4 = .ok (.iload_n 1, 1) := by decide +kernel
theorem dX11_shelve_5 : decode cX11_shelve 5 = .ok (.iload_n 2, 1) := by decide +kernel
theorem dX11_shelve_6 : decode cX11_shelve 6 = .ok (.iastore, 1) := by decide +kernel
theorem dX11_shelve_7 : decode cX11_shelve 7 = .ok (.aload_n 0, 1) := by decide +kernel
theorem dX11_shelve_8 : decode cX11_shelve 8 = .ok (.getfield 55, 3) := by decide +kernel
theorem dX11_shelve_11 : decode cX11_shelve 11 = .ok (.iload_n 1, 1) := by decide +kernel
theorem dX11_shelve_12 : decode cX11_shelve 12 = .ok (.iload_n 3, 1) := by decide +kernel
theorem dX11_shelve_13 : decode cX11_shelve 13 = .ok (.iastore, 1) := by decide +kernel
theorem dX11_shelve_14 : decode cX11_shelve 14 = .ok (.aload_n 0, 1) := by decide +kernel
theorem dX11_shelve_15 : decode cX11_shelve 15 = .ok (.getfield 58, 3) := by decide +kernel
theorem dX11_shelve_18 : decode cX11_shelve 18 = .ok (.iload_n 1, 1) := by decide +kernel
theorem dX11_shelve_19 : decode cX11_shelve 19 = .ok (.iload 4, 2) := by decide +kernel
theorem dX11_shelve_21 : decode cX11_shelve 21 = .ok (.iastore, 1) := by decide +kernel
theorem dX11_shelve_22 : decode cX11_shelve 22 = .ok (.iconst 1, 1) := by decide +kernel
theorem dX11_shelve_23 : decode cX11_shelve 23 = .ok (.ireturn, 1) := by decide +kernel
theorem dX11_holdsNothing_0 : decode cX11_holdsNothing 0 = .ok (.aload_n 0, 1) := by decide +kernel
theorem dX11_holdsNothing_1 : decode cX11_holdsNothing 1 = .ok (.getfield 52, 3) := by decide +kernel
theorem dX11_holdsNothing_4 : decode cX11_holdsNothing 4 = .ok (.iload_n 1, 1) := by decide +kernel
theorem dX11_holdsNothing_5 : decode cX11_holdsNothing 5 = .ok (.iaload, 1) := by decide +kernel
theorem dX11_holdsNothing_6 : decode cX11_holdsNothing 6 = .ok (.ifCond .eq 26, 3) := by decide +kernel
theorem dX11_holdsNothing_9 : decode cX11_holdsNothing 9 = .ok (.aload_n 0, 1) := by decide +kernel
theorem dX11_holdsNothing_10 : decode cX11_holdsNothing 10 = .ok (.getfield 52, 3) := by decide +kernel
theorem dX11_holdsNothing_13 : decode cX11_holdsNothing 13 = .ok (.iload_n 1, 1) := by decide +kernel
theorem dX11_holdsNothing_14 : decode cX11_holdsNothing 14 = .ok (.iaload, 1) := by decide +kernel
theorem dX11_holdsNothing_15 : decode cX11_holdsNothing 15 = .ok (.iconst 1, 1) := by decide +kernel
theorem dX11_holdsNothing_16 : decode cX11_holdsNothing 16 = .ok (.if_icmp .ne 20, 3) := by decide +kernel
theorem dX11_holdsNothing_19 : decode cX11_holdsNothing 19 = .ok (.aload_n 0, 1) := by decide +kernel
theorem dX11_holdsNothing_20 : decode cX11_holdsNothing 20 = .ok (.aload_n 0, 1) := by decide +kernel
theorem dX11_holdsNothing_21 : decode cX11_holdsNothing 21 = .ok (.getfield 55, 3) := by decide +kernel
theorem dX11_holdsNothing_24 : decode cX11_holdsNothing 24 = .ok (.iload_n 1, 1) := by decide +kernel
theorem dX11_holdsNothing_25 : decode cX11_holdsNothing 25 = .ok (.iaload, 1) := by decide +kernel
theorem dX11_holdsNothing_26 : decode cX11_holdsNothing 26 = .ok (.invokevirtual 150, 3) := by decide +kernel
theorem dX11_holdsNothing_29 : decode cX11_holdsNothing 29 = .ok (.ifCond .ne 7, 3) := by decide +kernel
theorem dX11_holdsNothing_32 : decode cX11_holdsNothing 32 = .ok (.iconst 1, 1) := by decide +kernel
theorem dX11_holdsNothing_33 : decode cX11_holdsNothing 33 = .ok (.goto 4, 3) := by decide +kernel
theorem dX11_holdsNothing_36 : decode cX11_holdsNothing 36 = .ok (.iconst 0, 1) := by decide +kernel
theorem dX11_holdsNothing_37 : decode cX11_holdsNothing 37 = .ok (.ireturn, 1) := by decide +kernel
theorem dX11_isOfKind_0 : decode cX11_isOfKind 0 = .ok (.iload_n 0, 1) := by decide +kernel
theorem dX11_isOfKind_1 : decode cX11_isOfKind 1 = .ok (.istore_n 2, 1) := by decide +kernel
theorem dX11_isOfKind_2 : decode cX11_isOfKind 2 = .ok (.iconst 0, 1) := by decide +kernel
theorem dX11_isOfKind_3 : decode cX11_isOfKind 3 = .ok (.istore_n 3, 1) := by decide +kernel
theorem dX11_isOfKind_4 : decode cX11_isOfKind 4 = .ok (.iload_n 3, 1) := by decide +kernel
theorem dX11_isOfKind_5 : decode cX11_isOfKind 5 = .ok (.bipush 6, 2) := by decide +kernel
theorem dX11_isOfKind_7 : decode cX11_isOfKind 7 = .ok (.if_icmp .ge 29, 3) := by decide +kernel
theorem dX11_isOfKind_10 : decode cX11_isOfKind 10 = .ok (.iload_n 2, 1) := by decide +kernel
theorem dX11_isOfKind_11 : decode cX11_isOfKind 11 = .ok (.invokestatic 143, 3) := by decide +kernel
theorem dX11_isOfKind_14 : decode cX11_isOfKind 14 = .ok (.ifCond .eq 22, 3) := by decide +kernel
theorem dX11_isOfKind_17 : decode cX11_isOfKind 17 = .ok (.iload_n 2, 1) := by decide +kernel
theorem dX11_isOfKind_18 : decode cX11_isOfKind 18 = .ok (.iload_n 1, 1) := by decide +kernel
theorem dX11_isOfKind_19 : decode cX11_isOfKind 19 = .ok (.if_icmp .ne 5, 3) := by decide +kernel
theorem dX11_isOfKind_22 : decode cX11_isOfKind 22 = .ok (.iconst 1, 1) := by decide +kernel
theorem dX11_isOfKind_23 : decode cX11_isOfKind 23 = .ok (.ireturn, 1) := by decide +kernel
theorem dX11_isOfKind_24 : decode cX11_isOfKind 24 = .ok (.getstatic 339, 3) := by decide +kernel
theorem dX11_isOfKind_27 : decode cX11_isOfKind 27 = .ok (.iload_n 2, 1) := by decide +kernel
theorem dX11_isOfKind_28 : decode cX11_isOfKind 28 = .ok (.iaload, 1) := by decide +kernel
theorem dX11_isOfKind_29 : decode cX11_isOfKind 29 = .ok (.istore_n 2, 1) := by decide +kernel
theorem dX11_isOfKind_30 : decode cX11_isOfKind 30 = .ok (.iinc 3 1, 3) := by decide +kernel
theorem dX11_isOfKind_33 : decode cX11_isOfKind 33 = .ok (.goto (-29), 3) := by decide +kernel
theorem dX11_isOfKind_36 : decode cX11_isOfKind 36 = .ok (.iconst 0, 1) := by decide +kernel
theorem dX11_isOfKind_37 : decode cX11_isOfKind 37 = .ok (.ireturn, 1) := by decide +kernel
theorem dX11_power_0 : decode cX11_power 0 = .ok (.lconst 1, 1) := by decide +kernel
theorem dX11_power_1 : decode cX11_power 1 = .ok (.lstore_n 3, 1) := by decide +kernel
theorem dX11_power_2 : decode cX11_power 2 = .ok (.iconst 0, 1) := by decide +kernel
theorem dX11_power_3 : decode cX11_power 3 = .ok (.istore 5, 2) := by decide +kernel
theorem dX11_power_5 : decode cX11_power 5 = .ok (.iload 5, 2) := by decide +kernel
theorem dX11_power_7 : decode cX11_power 7 = .ok (.iload_n 2, 1) := by decide +kernel
theorem dX11_power_8 : decode cX11_power 8 = .ok (.if_icmp .ge 13, 3) := by decide +kernel
theorem dX11_power_11 : decode cX11_power 11 = .ok (.lload_n 3, 1) := by decide +kernel
theorem dX11_power_12 : decode cX11_power 12 = .ok (.lload_n 0, 1) := by decide +kernel
theorem dX11_power_13 : decode cX11_power 13 = .ok (.lmul, 1) := by decide +kernel
theorem dX11_power_14 : decode cX11_power 14 = .ok (.lstore_n 3, 1) := by decide +kernel
theorem dX11_power_15 : decode cX11_power 15 = .ok (.iinc 5 1, 3) := by decide +kernel
theorem dX11_power_18 : decode cX11_power 18 = .ok (.goto (-13), 3) := by decide +kernel
theorem dX11_power_21 : decode cX11_power 21 = .ok (.lload_n 3, 1) := by decide +kernel
theorem dX11_power_22 : decode cX11_power 22 = .ok (.lreturn, 1) := by decide +kernel
theorem dX11_waysToChoose_0 : decode cX11_waysToChoose 0 = .ok (.lconst 1, 1) := by decide +kernel
theorem dX11_waysToChoose_1 : decode cX11_waysToChoose 1 = .ok (.lstore_n 2, 1) := by decide +kernel
theorem dX11_waysToChoose_2 : decode cX11_waysToChoose 2 = .ok (.iconst 0, 1) := by decide +kernel
theorem dX11_waysToChoose_3 : decode cX11_waysToChoose 3 = .ok (.istore 4, 2) := by decide +kernel
theorem dX11_waysToChoose_5 : decode cX11_waysToChoose 5 = .ok (.iload 4, 2) := by decide +kernel
theorem dX11_waysToChoose_7 : decode cX11_waysToChoose 7 = .ok (.iload_n 1, 1) := by decide +kernel
theorem dX11_waysToChoose_8 : decode cX11_waysToChoose 8 = .ok (.if_icmp .ge 23, 3) := by decide +kernel
theorem dX11_waysToChoose_11 : decode cX11_waysToChoose 11 = .ok (.lload_n 2, 1) := by decide +kernel
theorem dX11_waysToChoose_12 : decode cX11_waysToChoose 12 = .ok (.iload_n 0, 1) := by decide +kernel
theorem dX11_waysToChoose_13 : decode cX11_waysToChoose 13 = .ok (.iload 4, 2) := by decide +kernel
theorem dX11_waysToChoose_15 : decode cX11_waysToChoose 15 = .ok (.isub, 1) := by decide +kernel
theorem dX11_waysToChoose_16 : decode cX11_waysToChoose 16 = .ok (.i2l, 1) := by decide +kernel
theorem dX11_waysToChoose_17 : decode cX11_waysToChoose 17 = .ok (.lmul, 1) := by decide +kernel
theorem dX11_waysToChoose_18 : decode cX11_waysToChoose 18 = .ok (.iload 4, 2) := by decide +kernel
theorem dX11_waysToChoose_20 : decode cX11_waysToChoose 20 = .ok (.iconst 1, 1) := by decide +kernel
theorem dX11_waysToChoose_21 : decode cX11_waysToChoose 21 = .ok (.iadd, 1) := by decide +kernel
theorem dX11_waysToChoose_22 : decode cX11_waysToChoose 22 = .ok (.i2l, 1) := by decide +kernel
theorem dX11_waysToChoose_23 : decode cX11_waysToChoose 23 = .ok (.ldiv, 1) := by decide +kernel
theorem dX11_waysToChoose_24 : decode cX11_waysToChoose 24 = .ok (.lstore_n 2, 1) := by decide +kernel
theorem dX11_waysToChoose_25 : decode cX11_waysToChoose 25 = .ok (.iinc 4 1, 3) := by decide +kernel
theorem dX11_waysToChoose_28 : decode cX11_waysToChoose 28 = .ok (.goto (-23), 3) := by decide +kernel
theorem dX11_waysToChoose_31 : decode cX11_waysToChoose 31 = .ok (.lload_n 2, 1) := by decide +kernel
theorem dX11_waysToChoose_32 : decode cX11_waysToChoose 32 = .ok (.lreturn, 1) := by decide +kernel
theorem dX11_partOfFraction_0 : decode cX11_partOfFraction 0 = .ok (.lload_n 2, 1) := by decide +kernel
theorem dX11_partOfFraction_1 : decode cX11_partOfFraction 1 = .ok (.lstore 5, 2) := by decide +kernel
theorem dX11_partOfFraction_3 : decode cX11_partOfFraction 3 = .ok (.lload_n 0, 1) := by decide +kernel
theorem dX11_partOfFraction_4 : decode cX11_partOfFraction 4 = .ok (.lstore 7, 2) := by decide +kernel
theorem dX11_partOfFraction_6 : decode cX11_partOfFraction 6 = .ok (.iconst 0, 1) := by decide +kernel
theorem dX11_partOfFraction_7 : decode cX11_partOfFraction 7 = .ok (.istore 9, 2) := by decide +kernel
theorem dX11_partOfFraction_9 : decode cX11_partOfFraction 9 = .ok (.iload 9, 2) := by decide +kernel
theorem dX11_partOfFraction_11 : decode cX11_partOfFraction 11 = .ok (.bipush 126, 2) := by decide +kernel
theorem dX11_partOfFraction_13 : decode cX11_partOfFraction 13 = .ok (.if_icmp .ge 31, 3) := by decide +kernel
theorem dX11_partOfFraction_16 : decode cX11_partOfFraction 16 = .ok (.lload 7, 2) := by decide +kernel
theorem dX11_partOfFraction_18 : decode cX11_partOfFraction 18 = .ok (.lconst 0, 1) := by decide +kernel
theorem dX11_partOfFraction_19 : decode cX11_partOfFraction 19 = .ok (.lcmp, 1) := by decide +kernel
theorem dX11_partOfFraction_20 : decode cX11_partOfFraction 20 = .ok (.ifCond .eq 24, 3) := by decide +kernel
theorem dX11_partOfFraction_23 : decode cX11_partOfFraction 23 = .ok (.lload 5, 2) := by decide +kernel
theorem dX11_partOfFraction_25 : decode cX11_partOfFraction 25 = .ok (.lload 7, 2) := by decide +kernel
theorem dX11_partOfFraction_27 : decode cX11_partOfFraction 27 = .ok (.lrem, 1) := by decide +kernel
theorem dX11_partOfFraction_28 : decode cX11_partOfFraction 28 = .ok (.lstore 10, 2) := by decide +kernel
theorem dX11_partOfFraction_30 : decode cX11_partOfFraction 30 = .ok (.lload 7, 2) := by decide +kernel
theorem dX11_partOfFraction_32 : decode cX11_partOfFraction 32 = .ok (.lstore 5, 2) := by decide +kernel
theorem dX11_partOfFraction_34 : decode cX11_partOfFraction 34 = .ok (.lload 10, 2) := by decide +kernel
theorem dX11_partOfFraction_36 : decode cX11_partOfFraction 36 = .ok (.lstore 7, 2) := by decide +kernel
theorem dX11_partOfFraction_38 : decode cX11_partOfFraction 38 = .ok (.iinc 9 1, 3) := by decide +kernel
theorem dX11_partOfFraction_41 : decode cX11_partOfFraction 41 = .ok (.goto (-32), 3) := by decide +kernel
theorem dX11_partOfFraction_44 : decode cX11_partOfFraction 44 = .ok (.lload 5, 2) := by decide +kernel
theorem dX11_partOfFraction_46 : decode cX11_partOfFraction 46 = .ok (.lconst 0, 1) := by decide +kernel
theorem dX11_partOfFraction_47 : decode cX11_partOfFraction 47 = .ok (.lcmp, 1) := by decide +kernel
theorem dX11_partOfFraction_48 : decode cX11_partOfFraction 48 = .ok (.ifCond .ne 7, 3) := by decide +kernel
theorem dX11_partOfFraction_51 : decode cX11_partOfFraction 51 = .ok (.ldc2_w 250, 3) := by decide +kernel
theorem dX11_partOfFraction_54 : decode cX11_partOfFraction 54 = .ok (.lreturn, 1) := by decide +kernel
theorem dX11_partOfFraction_55 : decode cX11_partOfFraction 55 = .ok (.iload 4, 2) := by decide +kernel
theorem dX11_partOfFraction_57 : decode cX11_partOfFraction 57 = .ok (.ifCond .ne 10, 3) := by decide +kernel
theorem dX11_partOfFraction_60 : decode cX11_partOfFraction 60 = .ok (.lload_n 0, 1) := by decide +kernel
theorem dX11_partOfFraction_61 : decode cX11_partOfFraction 61 = .ok (.lload 5, 2) := by decide +kernel
theorem dX11_partOfFraction_63 : decode cX11_partOfFraction 63 = .ok (.ldiv, 1) := by decide +kernel
theorem dX11_partOfFraction_64 : decode cX11_partOfFraction 64 = .ok (.goto 7, 3) := by decide +kernel
theorem dX11_partOfFraction_67 : decode cX11_partOfFraction 67 = .ok (.lload_n 2, 1) := by decide +kernel
theorem dX11_partOfFraction_68 : decode cX11_partOfFraction 68 = .ok (.lload 5, 2) := by decide +kernel
theorem dX11_partOfFraction_70 : decode cX11_partOfFraction 70 = .ok (.ldiv, 1) := by decide +kernel
theorem dX11_partOfFraction_71 : decode cX11_partOfFraction 71 = .ok (.lreturn, 1) := by decide +kernel
theorem dX11_heldTo_0 : decode cX11_heldTo 0 = .ok (.iload_n 0, 1) := by decide +kernel
theorem dX11_heldTo_1 : decode cX11_heldTo 1 = .ok (.ifCond .ge 5, 3) := by decide +kernel
theorem dX11_heldTo_4 : decode cX11_heldTo 4 = .ok (.iconst 0, 1) := by decide +kernel
theorem dX11_heldTo_5 : decode cX11_heldTo 5 = .ok (.ireturn, 1) := by decide +kernel
theorem dX11_heldTo_6 : decode cX11_heldTo 6 = .ok (.iload_n 0, 1) := by decide +kernel
theorem dX11_heldTo_7 : decode cX11_heldTo 7 = .ok (.iload_n 1, 1) := by decide +kernel
theorem dX11_heldTo_8 : decode cX11_heldTo 8 = .ok (.if_icmp .le 7, 3) := by decide +kernel
theorem dX11_heldTo_11 : decode cX11_heldTo 11 = .ok (.iload_n 1, 1) := by decide +kernel
theorem dX11_heldTo_12 : decode cX11_heldTo 12 = .ok (.goto 4, 3) := by decide +kernel
theorem dX11_heldTo_15 : decode cX11_heldTo 15 = .ok (.iload_n 0, 1) := by decide +kernel
theorem dX11_heldTo_16 : decode cX11_heldTo 16 = .ok (.ireturn, 1) := by decide +kernel
